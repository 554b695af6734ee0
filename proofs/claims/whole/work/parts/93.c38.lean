def bnW (A : wA) : Nat := if A.2.2.1 = 0 then 5 else A.2.1.length
def FN2 (F : Nat → List (List Nat × nD)) (b : List Nat × nD → Bool) (d : Nat) (pa : List Nat) (A A' : wA) : Prop := A'.1 = A.1 ∧ A.2.2.1 ≤ A'.2.2.1 ∧ (fsL F b (bnW A - d) 0 = none → A'.2.1 = A.2.1 ∧ bnW A' = bnW A) ∧ ∀ j q, fsL F b (bnW A - d) 0 = some (j, q) → A'.2.1 = pa ++ q ∧ bnW A' = d + j
theorem fsL_cong {F F' : Nat → List (List Nat × nD)} {b : List Nat × nD → Bool} {J : Nat} (e : ∀ j, j < J → (F' j).find? b = (F j).find? b) : fsL F' b J 0 = fsL F b J 0 := by
  have g : ∀ m j, j + m ≤ J → fsL F' b m j = fsL F b m j := by
    intro m
    induction m with
    | zero => intro j _; rfl
    | succ m ih => intro j hj; rw [fsL, fsL, e j (by omega), ih (j + 1) (by omega)]
  exact g J 0 (by omega)
theorem find_cons2 {l nd : Nat} : ∀ L : List (List Nat × nD), (L.map (fun r => (l :: r.1, r.2))).find? (mdB nd) = (L.find? (mdB nd)).map (fun r => (l :: r.1, r.2)) := by
  intro L
  rw [List.find?_map]
  rfl
theorem bst_loop {f : nD → List Nat → wA → wA} {t : Nat → Nat} {hm sp tg nd : Nat} {v : nD} {pa : List Nat} (IH : ∀ u pa' A', pa'.length = pa.length + 1 → A'.1 = 5 → bnW A' ≤ 5 → FN2 (fun j => rwF t hm sp j u) (mdB nd) pa'.length pa' A' (f u pa' A')) (hp : pa.length + 1 < 5) : ∀ n l A, A.1 = 5 → bnW A ≤ 5 → FN2 (fun j => rwG (rwF t hm sp j) t hm sp v n l) (mdB nd) (pa.length + 1) pa A (gLp f t hm sp 2 tg v pa n l A) := by
  intro n
  induction n with
  | zero =>
    intro l A _ _
    have e : fsL (fun j => rwG (rwF t hm sp j) t hm sp v 0 l) (mdB nd) (bnW A - (pa.length + 1)) 0 = none := (fsL_none _ _).mpr (fun i _ => rfl)
    exact ⟨rfl, Nat.le_refl _, fun _ => ⟨rfl, rfl⟩, fun j q h => by rw [e] at h; cases h⟩
  | succ n ih =>
    intro l A h5 hB
    rw [gLp, if_pos (by omega), if_neg (by omega)]
    cases e : stN t hm sp v l with
    | none =>
      obtain ⟨a0, a1, a2, a3⟩ := ih (l + 1) A h5 hB
      have q : fsL (fun j => rwG (rwF t hm sp j) t hm sp v (n + 1) l) (mdB nd) (bnW A - (pa.length + 1)) 0 = fsL (fun j => rwG (rwF t hm sp j) t hm sp v n (l + 1)) (mdB nd) (bnW A - (pa.length + 1)) 0 := fsL_cong (fun j _ => by
        show (brF (rwF t hm sp j) t hm sp v l ++ rwG (rwF t hm sp j) t hm sp v n (l + 1)).find? _ = _
        unfold brF; rw [e]; rfl)
      unfold FN2
      rw [q]
      exact ⟨a0, a1, a2, a3⟩
    | some u =>
      dsimp only
      have hf := IH u (pa ++ [l]) A (by simp) h5 hB
      rw [show (pa ++ [l]).length = pa.length + 1 by simp] at hf
      generalize f u (pa ++ [l]) A = A1 at *
      obtain ⟨f0, f1, f2, f3⟩ := hf
      have hB1 : bnW A1 ≤ 5 := by
        cases e9 : fsL (fun j => rwF t hm sp j u) (mdB nd) (bnW A - (pa.length + 1)) 0 with
        | none => rw [(f2 e9).2]; exact hB
        | some x =>
          obtain ⟨j, q⟩ := x
          have := (fsL_some _ _).mp e9
          rw [(f3 j q e9).2]; omega
      obtain ⟨a0, a1, a2, a3⟩ := ih (l + 1) A1 (f0.trans h5) hB1
      generalize gLp f t hm sp 2 tg v pa n (l + 1) A1 = A2 at *
      have hF : ∀ j, (rwG (rwF t hm sp j) t hm sp v (n + 1) l).find? (mdB nd) = match (rwF t hm sp j u).find? (mdB nd) with | some r => some (l :: r.1, r.2) | none => (rwG (rwF t hm sp j) t hm sp v n (l + 1)).find? (mdB nd) := fun j => by
        show (brF (rwF t hm sp j) t hm sp v l ++ rwG (rwF t hm sp j) t hm sp v n (l + 1)).find? _ = _
        unfold brF
        rw [e, find_app, find_cons2]
        cases (rwF t hm sp j u).find? (mdB nd) <;> rfl
      refine ⟨a0.trans f0, by omega, ?_⟩
      cases e1 : fsL (fun j => rwF t hm sp j u) (mdB nd) (bnW A - (pa.length + 1)) 0 with
      | none =>
        obtain ⟨g1, g2⟩ := f2 e1
        rw [g2] at a2 a3
        have q : fsL (fun j => rwG (rwF t hm sp j) t hm sp v (n + 1) l) (mdB nd) (bnW A - (pa.length + 1)) 0 = fsL (fun j => rwG (rwF t hm sp j) t hm sp v n (l + 1)) (mdB nd) (bnW A - (pa.length + 1)) 0 := fsL_cong (fun j hj => by
          have := (fsL_none _ _).mp e1 j hj
          rw [Nat.zero_add] at this
          rw [hF, this])
        rw [q]
        exact ⟨fun h => ⟨(a2 h).1.trans g1, (a2 h).2⟩, a3⟩
      | some x =>
        obtain ⟨j0, r0⟩ := x
        obtain ⟨g1, g2⟩ := f3 j0 r0 e1
        obtain ⟨-, b2, b3, r, b4, b5⟩ := (fsL_some _ _).mp e1
        rw [show bnW A1 - (pa.length + 1) = j0 by omega] at a2 a3
        cases e2 : fsL (fun j => rwG (rwF t hm sp j) t hm sp v n (l + 1)) (mdB nd) j0 0 with
        | none =>
          have q : fsL (fun j => rwG (rwF t hm sp j) t hm sp v (n + 1) l) (mdB nd) (bnW A - (pa.length + 1)) 0 = some (j0, l :: r0) := (fsL_some _ _).mpr ⟨Nat.zero_le _, by omega, fun i _ hi9 => by
            have c1 := b3 i (Nat.zero_le _) hi9
            have c2 := (fsL_none _ _).mp e2 i hi9
            rw [Nat.zero_add] at c2
            rw [hF, c1]
            exact c2, (l :: r.1, r.2), by rw [hF, b4], by rw [b5]⟩
          rw [q]
          refine ⟨fun h => (by cases h), fun j q9 h => ?_⟩
          cases h
          exact ⟨by rw [(a2 e2).1, g1, List.append_assoc]; rfl, (a2 e2).2.trans g2⟩
        | some y =>
          obtain ⟨j1, q1⟩ := y
          obtain ⟨-, c2, c3, r9, c4, c5⟩ := (fsL_some _ _).mp e2
          have q : fsL (fun j => rwG (rwF t hm sp j) t hm sp v (n + 1) l) (mdB nd) (bnW A - (pa.length + 1)) 0 = some (j1, q1) := (fsL_some _ _).mpr ⟨Nat.zero_le _, by omega, fun i _ hi9 => by
            have d1 := b3 i (Nat.zero_le _) (by omega)
            have d2 := c3 i (Nat.zero_le _) hi9
            rw [hF, d1]
            exact d2, r9, by
              have d1 := b3 j1 (Nat.zero_le _) (by omega)
              rw [hF, d1]
              exact c4, c5⟩
          rw [q]
          refine ⟨fun h => (by cases h), fun j q9 h => ?_⟩
          cases h
          exact a3 j1 q1 e2
theorem bst_node {t : Nat → Nat} {hm sp tg nd : Nat} : ∀ e v pa A, pa.length + e = 4 → 0 < pa.length → A.1 = 5 → bnW A ≤ 5 → FN2 (fun j => rwF t hm sp j v) (mdB nd) pa.length pa A (gW t hm sp 2 tg nd e v pa A) := by
  have hz : ∀ v : nD, (rwF t hm sp 0 v).find? (mdB nd) = if v.2.1 = nd then some ([], v) else none := by
    intro v
    show (([([], v)] : List (List Nat × nD)).find? (mdB nd)) = _
    by_cases q : v.2.1 = nd
    · rw [if_pos q, List.find?_cons_of_pos (by unfold mdB; exact decide_eq_true q)]
    · rw [if_neg q, List.find?_cons_of_neg (by unfold mdB; simpa using q)]; rfl
  have hl : ∀ v pa A, 0 < pa.length → lookA 2 tg nd v pa A = if v.2.1 = nd then noteF v pa A else A := by
    intro v pa A hp
    unfold lookA
    rw [if_neg (by decide), if_neg (by decide)]
    by_cases q : v.2.1 = nd
    · rw [if_pos ⟨hp, q⟩, if_pos q]
    · rw [if_neg (fun z => q z.2), if_neg q]
  have hn : ∀ v pa A, pa.length < bnW A → (noteF v pa A).2.1 = pa ∧ bnW (noteF v pa A) = pa.length := by
    intro v pa A h
    have hb : A.2.2.1 = 0 ∨ pa.length < A.2.1.length := by
      unfold bnW at h
      by_cases q : A.2.2.1 = 0
      · exact Or.inl q
      · rw [if_neg q] at h; exact Or.inr h
    have e1 : (noteF v pa A).2.1 = pa := by unfold noteF; rw [if_pos hb]
    refine ⟨e1, ?_⟩
    unfold bnW
    rw [if_neg (show ¬ (noteF v pa A).2.2.1 = 0 from Nat.succ_ne_zero _), e1]
  have hk : ∀ v pa A, pa.length < 5 → ¬ pa.length < bnW A → (noteF v pa A).2.1 = A.2.1 ∧ bnW (noteF v pa A) = bnW A := by
    intro v pa A h5 h
    have hr : ¬ A.2.2.1 = 0 := fun q => h (by unfold bnW; rw [if_pos q]; exact h5)
    have eb : bnW A = A.2.1.length := by unfold bnW; rw [if_neg hr]
    have e1 : (noteF v pa A).2.1 = A.2.1 := by unfold noteF; rw [if_neg (by intro q; rcases q with q | q; exact hr q; omega)]
    refine ⟨e1, ?_⟩
    rw [eb]; unfold bnW
    rw [if_neg (show ¬ (noteF v pa A).2.2.1 = 0 from Nat.succ_ne_zero _), e1]
  -- what stands behind the look
  have main : ∀ v pa A A', pa.length < 5 → 0 < pa.length → FN2 (fun j => rwF t hm sp (j + 1) v) (mdB nd) (pa.length + 1) pa (lookA 2 tg nd v pa A) A' → FN2 (fun j => rwF t hm sp j v) (mdB nd) pa.length pa A A' := by
    intro v pa A A' h5 hp h
    rw [hl v pa A hp] at h
    obtain ⟨h0, h1, h2, h3⟩ := h
    by_cases q : v.2.1 = nd
    · rw [if_pos q] at h0 h1 h2 h3
      have hr : A.2.2.1 ≤ A'.2.2.1 := Nat.le_trans (Nat.le_succ _) h1
      by_cases c : pa.length < bnW A
      · obtain ⟨n1, n2⟩ := hn v pa A c
        have z := h2 (by rw [n2, show pa.length - (pa.length + 1) = 0 by omega]; rfl)
        obtain ⟨m, hm9⟩ : ∃ m, bnW A - pa.length = m + 1 := ⟨bnW A - pa.length - 1, by omega⟩
        have ef : fsL (fun j => rwF t hm sp j v) (mdB nd) (bnW A - pa.length) 0 = some (0, []) := by
          rw [hm9, fsL, hz, if_pos q]
        refine ⟨h0, hr, fun e => (by rw [ef] at e; cases e), fun j q9 e => ?_⟩
        rw [ef] at e
        cases e
        exact ⟨by rw [z.1, n1, List.append_nil], by rw [z.2, n2]; rfl⟩
      · obtain ⟨n1, n2⟩ := hk v pa A h5 c
        have z := h2 (by rw [n2, show bnW A - (pa.length + 1) = 0 by omega]; rfl)
        refine ⟨h0, hr, fun _ => ⟨z.1.trans n1, z.2.trans n2⟩, fun j q9 e => ?_⟩
        rw [show bnW A - pa.length = 0 by omega] at e
        cases e
    · rw [if_neg q] at h0 h1 h2 h3
      have hs : fsL (fun j => rwF t hm sp j v) (mdB nd) (bnW A - pa.length) 0 = (fsL (fun j => rwF t hm sp (j + 1) v) (mdB nd) (bnW A - (pa.length + 1)) 0).map (fun x => (x.1 + 1, x.2)) := by
        by_cases c : pa.length < bnW A
        · rw [show bnW A - pa.length = bnW A - (pa.length + 1) + 1 by omega, fsL, hz, if_neg q]
          exact fsL_shift _ 0
        · rw [show bnW A - pa.length = 0 by omega, show bnW A - (pa.length + 1) = 0 by omega]; rfl
      refine ⟨h0, h1, fun e => h2 ?_, fun j q9 e => ?_⟩
      · rw [hs] at e
        cases e9 : fsL (fun j => rwF t hm sp (j + 1) v) (mdB nd) (bnW A - (pa.length + 1)) 0 with
        | none => rfl
        | some x => rw [e9] at e; cases e
      · rw [hs] at e
        cases e9 : fsL (fun j => rwF t hm sp (j + 1) v) (mdB nd) (bnW A - (pa.length + 1)) 0 with
        | none => rw [e9] at e; cases e
        | some x =>
          obtain ⟨j1, q1⟩ := x
          rw [e9] at e
          cases e
          have z := h3 j1 q1 e9
          exact ⟨z.1, by rw [z.2]; omega⟩
  have hB9 : ∀ v pa A, pa.length < 5 → 0 < pa.length → bnW A ≤ 5 → bnW (lookA 2 tg nd v pa A) ≤ 5 := by
    intro v pa A h5 hp hB
    rw [hl v pa A hp]
    by_cases q : v.2.1 = nd
    · rw [if_pos q]
      by_cases c : pa.length < bnW A
      · rw [(hn v pa A c).2]; omega
      · rw [(hk v pa A h5 c).2]; exact hB
    · rw [if_neg q]; exact hB
  have h19 : ∀ v pa A, 0 < pa.length → A.1 = 5 → (lookA 2 tg nd v pa A).1 = 5 := by
    intro v pa A hp h5
    rw [hl v pa A hp]
    by_cases q : v.2.1 = nd
    · rw [if_pos q]; exact h5
    · rw [if_neg q]; exact h5
  intro e
  induction e with
  | zero =>
    intro v pa A h4 hp h5 hB
    rw [gW]
    have hb := hB9 v pa A (by omega) hp hB
    refine main v pa A _ (by omega) hp ⟨rfl, Nat.le_refl _, fun _ => ⟨rfl, rfl⟩, fun j q e => ?_⟩
    rw [show bnW (lookA 2 tg nd v pa A) - (pa.length + 1) = 0 by omega] at e
    cases e
  | succ e ih =>
    intro v pa A h4 hp h5 hB
    rw [gW]
    exact main v pa A _ (by omega) hp (bst_loop (v := v) (pa := pa) (tg := tg) (nd := nd) (f := gW t hm sp 2 tg nd e) (t := t) (hm := hm) (sp := sp) (fun u pa' A' c1 c2 c3 => ih u pa' A' (by omega) (by omega) c2 c3) (by omega) (t 0) 0 _ (h19 v pa A hp h5) (hB9 v pa A (by omega) hp hB))
