/-- how many of the rows of k, k + 1 .. crossings are so -/
def cP (P : nD → Bool) (F : Nat → List (List Nat × nD)) : Nat → Nat → Nat
  | 0, _ => 0
  | n + 1, k => ((F k).filter (fun r => P r.2)).length + cP P F n (k + 1)
theorem cP_cong {P : nD → Bool} {F G : Nat → List (List Nat × nD)} (h : ∀ j, ((F j).filter (fun r => P r.2)).length = ((G j).filter (fun r => P r.2)).length) : ∀ n k, cP P F n k = cP P G n k := by
  intro n
  induction n with
  | zero => intro k; rfl
  | succ n ih => intro k; rw [cP, cP, h k, ih]
theorem cP_app {P : nD → Bool} {F G : Nat → List (List Nat × nD)} : ∀ n k, cP P (fun j => F j ++ G j) n k = cP P F n k + cP P G n k := by
  intro n
  induction n with
  | zero => intro k; rfl
  | succ n ih => intro k; rw [cP, cP, cP, ih, List.filter_append, List.length_append]; omega
theorem cP_nil {P : nD → Bool} : ∀ n k, cP P (fun _ => []) n k = 0 := by
  intro n
  induction n with
  | zero => intro k; rfl
  | succ n ih => intro k; rw [cP, ih]; rfl
theorem cP_shift {P : nD → Bool} {F : Nat → List (List Nat × nD)} : ∀ n k, cP P F n (k + 1) = cP P (fun j => F (j + 1)) n k := by
  intro n
  induction n with
  | zero => intro k; rfl
  | succ n ih => intro k; rw [cP, cP, ih]
theorem len_map {P : nD → Bool} {l : Nat} (L : List (List Nat × nD)) : ((L.map (fun r => (l :: r.1, r.2))).filter (fun r => P r.2)).length = (L.filter (fun r => P r.2)).length := by
  rw [List.filter_map, List.length_map]; rfl
theorem cnt_loop {f : nD → List Nat → wA → wA} {t : Nat → Nat} {hm sp tg e : Nat} {v : nD} {pa : List Nat} {μ : wA → Nat} {P : nD → Bool} (IH : ∀ u pa' A', pa'.length = pa.length + 1 → A'.1 = 5 → (f u pa' A').1 = 5 ∧ μ (f u pa' A') = μ A' + cP P (fun j => rwF t hm sp j u) (e + 1) 0) (hp : pa.length + 1 < 5) : ∀ n l A, A.1 = 5 → (gLp f t hm sp 2 tg v pa n l A).1 = 5 ∧ μ (gLp f t hm sp 2 tg v pa n l A) = μ A + cP P (fun j => rwG (rwF t hm sp j) t hm sp v n l) (e + 1) 0 := by
  intro n
  induction n with
  | zero =>
    intro l A h5
    exact ⟨h5, by show μ A = μ A + cP P (fun _ => []) (e + 1) 0; rw [cP_nil]; rfl⟩
  | succ n ih =>
    intro l A h5
    rw [gLp, if_pos (by omega), if_neg (by omega)]
    have hF : cP P (fun j => rwG (rwF t hm sp j) t hm sp v (n + 1) l) (e + 1) 0 = cP P (fun j => brF (rwF t hm sp j) t hm sp v l) (e + 1) 0 + cP P (fun j => rwG (rwF t hm sp j) t hm sp v n (l + 1)) (e + 1) 0 := cP_app (F := fun j => brF (rwF t hm sp j) t hm sp v l) (G := fun j => rwG (rwF t hm sp j) t hm sp v n (l + 1)) _ _
    rw [hF]
    cases e1 : stN t hm sp v l with
    | none =>
      obtain ⟨a1, a2⟩ := ih (l + 1) A h5
      have : cP P (fun j => brF (rwF t hm sp j) t hm sp v l) (e + 1) 0 = 0 := by
        rw [cP_cong (G := fun _ => []) (fun j => by unfold brF; rw [e1]), cP_nil]
      exact ⟨a1, by dsimp only; rw [a2, this, Nat.zero_add]⟩
    | some u =>
      dsimp only
      obtain ⟨b1, b2⟩ := IH u (pa ++ [l]) A (by simp) h5
      obtain ⟨a1, a2⟩ := ih (l + 1) _ b1
      have : cP P (fun j => brF (rwF t hm sp j) t hm sp v l) (e + 1) 0 = cP P (fun j => rwF t hm sp j u) (e + 1) 0 := cP_cong (fun j => by unfold brF; rw [e1]; exact len_map _) _ _
      exact ⟨a1, by rw [a2, b2, this]; omega⟩
theorem cnt_node {t : Nat → Nat} {hm sp tg nd : Nat} {μ : wA → Nat} {S P : nD → Bool} (hμ : ∀ v pa A, μ (noteF v pa A) = μ A + if S v = true then 1 else 0) (hP : ∀ v, P v = (decide (v.2.1 = nd) && S v)) : ∀ e v pa A, pa.length + e = 4 → A.1 = 5 → (gW t hm sp 2 tg nd e v pa A).1 = 5 ∧ μ (gW t hm sp 2 tg nd e v pa A) = μ A + cP P (fun j => rwF t hm sp j v) (if pa.length = 0 then e else e + 1) (if pa.length = 0 then 1 else 0) := by
  have hl : ∀ v pa A, A.1 = 5 → (lookA 2 tg nd v pa A).1 = 5 ∧ μ (lookA 2 tg nd v pa A) = μ A + if 0 < pa.length ∧ P v = true then 1 else 0 := by
    intro v pa A h5
    unfold lookA
    rw [if_neg (by decide), if_neg (by decide)]
    by_cases h : 0 < pa.length ∧ v.2.1 = nd
    · rw [if_pos h]
      refine ⟨h5, ?_⟩
      rw [hμ, hP, decide_eq_true h.2, Bool.true_and]
      by_cases s : S v = true
      · rw [if_pos s, if_pos ⟨h.1, s⟩]
      · rw [if_neg s, if_neg (fun q => s q.2)]
    · rw [if_neg h]
      refine ⟨h5, ?_⟩
      rw [if_neg]
      · rfl
      · intro ⟨q1, q2⟩
        rw [hP, Bool.and_eq_true, decide_eq_true_eq] at q2
        exact h ⟨q1, q2.1⟩
  have h0 : ∀ v : nD, ((rwF t hm sp 0 v).filter (fun r => P r.2)).length = if P v = true then 1 else 0 := by
    intro v
    show (([([], v)] : List (List Nat × nD)).filter (fun r => P r.2)).length = _
    by_cases q : P v = true
    · rw [List.filter_cons_of_pos (by exact q), if_pos q]; rfl
    · rw [List.filter_cons_of_neg (by exact q), if_neg q]; rfl
  intro e
  induction e with
  | zero =>
    intro v pa A h4 h5
    rw [gW]
    obtain ⟨a1, a2⟩ := hl v pa A h5
    refine ⟨a1, ?_⟩
    rw [a2, if_neg (show ¬ pa.length = 0 by omega), if_neg (show ¬ pa.length = 0 by omega), cP, cP, h0]
    have hp : 0 < pa.length := by omega
    simp only [hp, true_and, Nat.add_zero]
  | succ e ih =>
    intro v pa A h4 h5
    rw [gW]
    obtain ⟨a1, a2⟩ := hl v pa A h5
    obtain ⟨b1, b2⟩ := cnt_loop (v := v) (pa := pa) (e := e) (tg := tg) (μ := μ) (P := P) (f := gW t hm sp 2 tg nd e) (t := t) (hm := hm) (sp := sp) (fun u pa' A' c1 c2 => by have q := ih u pa' A' (by omega) c2; rw [if_neg (show ¬ pa'.length = 0 by omega), if_neg (show ¬ pa'.length = 0 by omega)] at q; exact q) (by omega) (t 0) 0 _ a1
    refine ⟨b1, ?_⟩
    rw [b2, a2]
    have hs : cP P (fun j => rwF t hm sp j v) (e + 1) 1 = cP P (fun j => rwG (rwF t hm sp j) t hm sp v (t 0) 0) (e + 1) 0 := cP_shift (F := fun j => rwF t hm sp j v) (e + 1) 0
    by_cases hp : pa.length = 0
    · rw [if_neg (show ¬ (0 < pa.length ∧ P v = true) by omega), if_pos hp, if_pos hp, hs, Nat.add_zero]
    · have hq : cP P (fun j => rwF t hm sp j v) (e + 1 + 1) 0 = ((rwF t hm sp 0 v).filter (fun r => P r.2)).length + cP P (fun j => rwF t hm sp j v) (e + 1) 1 := rfl
      rw [if_neg hp, if_neg hp, hq, h0, hs]
      have hp2 : 0 < pa.length := by omega
      simp only [hp2, true_and]
      omega
theorem mdK_len {t : Nat → Nat} {q nd : Nat} : ∀ n k, (mdK t q nd n k).length = cP (fun v => decide (v.2.1 = nd) && true) (fun j => rwF t (t (79 + q)) (sparedF t q) j (nd0 t q)) n k := by
  intro n
  induction n with
  | zero => intro k; rfl
  | succ n ih =>
    intro k
    rw [mdK, cP, List.length_append, ih]
    congr 2
    apply List.filter_congr
    intro r _
    unfold mdB; rw [Bool.and_true]
theorem mdK_cnt {t : Nat → Nat} {q nd l : Nat} : ∀ n k, cntE (mdK t q nd n k) l = cP (fun v => decide (v.2.1 = nd) && decide (v.1 = l)) (fun j => rwF t (t (79 + q)) (sparedF t q) j (nd0 t q)) n k := by
  intro n
  induction n with
  | zero => intro k; rfl
  | succ n ih =>
    intro k
    have e : cntE (mdK t q nd (n + 1) k) l = cntE ((rwF t (t (79 + q)) (sparedF t q) k (nd0 t q)).filter (mdB nd)) l + cntE (mdK t q nd n (k + 1)) l := by
      unfold cntE; rw [mdK, List.filter_append, List.length_append]
    rw [e, ih, cP]
    congr 1
    unfold cntE
    rw [List.filter_filter]
    congr 1
    apply List.filter_congr
    intro r _
    unfold mdB; rw [Bool.and_comm]
theorem made_rows {t : Nat → Nat} {q nd tg : Nat} {b0 : List Nat} {en : Nat → Nat} {lo : Nat} : (gW t (t (79 + q)) (sparedF t q) 2 tg nd 4 (nd0 t q) [] (5, b0, 0, en, lo)).2.2.1 = (mdM t q nd).length := by
  have h := (cnt_node (t := t) (hm := t (79 + q)) (sp := sparedF t q) (tg := tg) (nd := nd) (μ := fun A => A.2.2.1) (S := fun _ => true) (P := fun v => decide (v.2.1 = nd) && true) (fun v pa A => rfl) (fun v => rfl) 4 (nd0 t q) [] (5, b0, 0, en, lo) rfl rfl).2
  rw [if_pos (show ([] : List Nat).length = 0 from rfl), if_pos (show ([] : List Nat).length = 0 from rfl)] at h
  rw [mdM, mdK_len]
  exact h.trans (Nat.zero_add _)
theorem made_ends {t : Nat → Nat} {q nd tg l : Nat} {b0 : List Nat} {en : Nat → Nat} {lo : Nat} (h0 : en l = 0) : (gW t (t (79 + q)) (sparedF t q) 2 tg nd 4 (nd0 t q) [] (5, b0, 0, en, lo)).2.2.2.1 l = cntE (mdM t q nd) l := by
  have h := (cnt_node (t := t) (hm := t (79 + q)) (sp := sparedF t q) (tg := tg) (nd := nd) (μ := fun A => A.2.2.2.1 l) (S := fun v => decide (v.1 = l)) (P := fun v => decide (v.2.1 = nd) && decide (v.1 = l)) (fun v pa A => by
    show upN A.2.2.2.1 v.1 (A.2.2.2.1 v.1 + 1) l = _
    by_cases e : v.1 = l
    · rw [if_pos (decide_eq_true e), ← e, upN_s]
    · rw [if_neg (by simpa using e), upN_n _ _ _ _ (fun q => e q.symm)]; rfl) (fun v => rfl) 4 (nd0 t q) [] (5, b0, 0, en, lo) rfl rfl).2
  rw [if_pos (show ([] : List Nat).length = 0 from rfl), if_pos (show ([] : List Nat).length = 0 from rfl)] at h
  rw [mdM, mdK_cnt]
  have e : (5, b0, 0, en, lo).2.2.2.1 l = 0 := h0
  dsimp only at h
  rw [h0, Nat.zero_add] at h
  exact h
