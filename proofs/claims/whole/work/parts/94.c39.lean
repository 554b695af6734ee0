theorem mdK_head {t : Nat → Nat} {q nd : Nat} : ∀ n k, (fsL (fun j => rwF t (t (79 + q)) (sparedF t q) j (nd0 t q)) (mdB nd) n k = none → mdK t q nd n k = []) ∧ ∀ j p, fsL (fun j => rwF t (t (79 + q)) (sparedF t q) j (nd0 t q)) (mdB nd) n k = some (j, p) → ∃ r, (mdK t q nd n k).head? = some r ∧ r.1 = p := by
  intro n
  induction n with
  | zero => intro k; exact ⟨fun _ => rfl, fun j p h => by cases h⟩
  | succ n ih =>
    intro k
    rw [fsL, mdK]
    have hf : ((rwF t (t (79 + q)) (sparedF t q) k (nd0 t q)).filter (mdB nd)).head? = (rwF t (t (79 + q)) (sparedF t q) k (nd0 t q)).find? (mdB nd) := List.head?_filter
    cases e : (rwF t (t (79 + q)) (sparedF t q) k (nd0 t q)).find? (mdB nd) with
    | some r =>
      rw [e] at hf
      refine ⟨fun h => (by cases h), fun j p h => ⟨r, ?_, ?_⟩⟩
      · rw [List.head?_append, hf]; rfl
      · cases h; rfl
    | none =>
      rw [e] at hf
      have hn : (rwF t (t (79 + q)) (sparedF t q) k (nd0 t q)).filter (mdB nd) = [] := List.head?_eq_none_iff.mp hf
      rw [hn, List.nil_append]
      exact ih (k + 1)
theorem made_best {t : Nat → Nat} {q nd tg : Nat} {b0 : List Nat} {en : Nat → Nat} {lo : Nat} {r : List Nat × nD} (h : (mdM t q nd).head? = some r) : (gW t (t (79 + q)) (sparedF t q) 2 tg nd 4 (nd0 t q) [] (5, b0, 0, en, lo)).2.1 = r.1 := by
  have eL : lookA 2 tg nd (nd0 t q) [] (5, b0, 0, en, lo) = (5, b0, 0, en, lo) := by
    unfold lookA
    rw [if_neg (by decide), if_neg (by decide), if_neg (fun z => absurd z.1 (by decide))]
  have hb : bnW (5, b0, 0, en, lo) = 5 := rfl
  rw [gW, eL]
  obtain ⟨-, -, -, h3⟩ := bst_loop (v := nd0 t q) (pa := []) (tg := tg) (nd := nd) (f := gW t (t (79 + q)) (sparedF t q) 2 tg nd 3) (t := t) (hm := t (79 + q)) (sp := sparedF t q) (fun u pa' A' c1 c2 c3 => bst_node 3 u pa' A' (by rw [c1]; rfl) (by rw [c1]; decide) c2 c3) (by decide) (t 0) 0 (5, b0, 0, en, lo) rfl (by rw [hb]; decide)
  rw [hb] at h3
  have hs : fsL (fun j => rwF t (t (79 + q)) (sparedF t q) j (nd0 t q)) (mdB nd) 4 1 = (fsL (fun j => rwF t (t (79 + q)) (sparedF t q) (j + 1) (nd0 t q)) (mdB nd) 4 0).map (fun x => (x.1 + 1, x.2)) := fsL_shift 4 0
  obtain ⟨m1, m2⟩ := mdK_head (t := t) (q := q) (nd := nd) 4 1
  cases e : fsL (fun j => rwF t (t (79 + q)) (sparedF t q) (j + 1) (nd0 t q)) (mdB nd) 4 0 with
  | none =>
    have := m1 (by rw [hs, e]; rfl)
    rw [mdM, this] at h
    cases h
  | some x =>
    obtain ⟨j, p⟩ := x
    obtain ⟨r9, a1, a2⟩ := m2 (j + 1) p (by rw [hs, e]; rfl)
    rw [mdM, a1] at h
    cases h
    have z := (h3 j p e).1
    rw [z, a2]; rfl
