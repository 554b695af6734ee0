def INVw (A : wA) : Prop := A.2.2.1 = 0 ∨ A.2.1.length = A.1
theorem FND_cong {F F' : Nat → List (List Nat × nD)} {tg nd J d : Nat} {pa : List Nat} {A A' : wA} (h : FND F tg nd J d pa A A') (e : ∀ j, j < J → (F' j).find? (fwB tg nd) = (F j).find? (fwB tg nd)) : FND F' tg nd J d pa A A' := by
  have g : ∀ m j, j + m ≤ J → fsL F' (fwB tg nd) m j = fsL F (fwB tg nd) m j := by
    intro m
    induction m with
    | zero => intro j _; rfl
    | succ m ih => intro j hj; rw [fsL, fsL, e j (by omega), ih (j + 1) (by omega)]
  unfold FND at *
  rw [g J 0 (by omega)]
  exact h
theorem FND_of {F : Nat → List (List Nat × nD)} {tg nd J d j : Nat} {pa q : List Nat} {A A' : wA} (e : fsL F (fwB tg nd) J 0 = some (j, q)) (h : A'.1 = d + j ∧ A'.2.1 = pa ++ q ∧ 0 < A'.2.2.1 ∧ A'.2.1.length = A'.1) : FND F tg nd J d pa A A' := by unfold FND; rw [e]; exact h
theorem FND_id {F : Nat → List (List Nat × nD)} {tg nd J d : Nat} {pa : List Nat} {A : wA} (e : fsL F (fwB tg nd) J 0 = none) : FND F tg nd J d pa A A := by unfold FND; rw [e]
theorem find_app {α : Type} {p : α → Bool} (a c : List α) : (a ++ c).find? p = match a.find? p with | some x => some x | none => c.find? p := by
  rw [List.find?_append]
  cases a.find? p <;> rfl
theorem br_none {f : nD → List (List Nat × nD)} {t : Nat → Nat} {hm sp l tg nd : Nat} {v : nD} (h : stN t hm sp v l = none) : (brF f t hm sp v l).find? (fwB tg nd) = none := by unfold brF; rw [h]; rfl
theorem br_some {f : nD → List (List Nat × nD)} {t : Nat → Nat} {hm sp l tg nd : Nat} {v u : nD} (h : stN t hm sp v l = some u) : (brF f t hm sp v l).find? (fwB tg nd) = ((f u).find? (fwB tg nd)).map (fun r => (l :: r.1, r.2)) := by unfold brF; rw [h]; exact find_cons _
theorem stN_1 {t : Nat → Nat} {hm sp l : Nat} {v u : nD} (h : stN t hm sp v l = some u) : u.1 = l := by
  unfold stN at h
  split at h
  · cases h; rfl
  · cases h
theorem gLp_stop {f : nD → List Nat → wA → wA} {t : Nat → Nat} {hm sp g tg : Nat} {v : nD} {pa : List Nat} {A : wA} (h : ¬ pa.length + 1 < A.1) : ∀ n l, gLp f t hm sp g tg v pa n l A = A := by
  intro n l
  cases n with
  | zero => rfl
  | succ n => rw [gLp, if_neg h]
theorem way_loop {f : nD → List Nat → wA → wA} {t : Nat → Nat} {hm sp tg nd : Nat} {v : nD} {pa : List Nat} (IH : ∀ u pa' A', pa'.length = pa.length + 1 → pa'.length < A'.1 → A'.1 ≤ 6 → INVw A' → FND (fun j => rwF t hm sp j u) tg nd (A'.1 - pa'.length) pa'.length pa' A' (f u pa' A')) : ∀ n l A, A.1 ≤ 6 → INVw A → FND (fun j => rwG (rwF t hm sp j) t hm sp v n l) tg nd (A.1 - (pa.length + 1)) (pa.length + 1) pa A (gLp f t hm sp 0 tg v pa n l A) := by
  intro n
  induction n with
  | zero =>
    intro l A _ _
    exact FND_id ((fsL_none _ _).mpr (fun i _ => rfl))
  | succ n ih =>
    intro l A h6 hI
    by_cases h1 : pa.length + 1 < A.1
    · rw [gLp, if_pos h1]
      by_cases h2 : 0 = 0 ∧ pa.length + 2 = A.1 ∧ ¬ l = tg
      · rw [if_pos h2]
        refine FND_cong (ih (l + 1) A h6 hI) (fun j hj => ?_)
        have hj0 : j = 0 := by omega
        subst hj0
        show (brF (rwF t hm sp 0) t hm sp v l ++ rwG (rwF t hm sp 0) t hm sp v n (l + 1)).find? _ = _
        rw [find_app]
        cases e : stN t hm sp v l with
        | none => rw [br_none e]
        | some u =>
          rw [br_some e, rwF, List.find?_cons_of_neg (fwB_f1 (r := ([], u)) (by rw [show ([], u).2.1 = u.1 from rfl, stN_1 e]; exact h2.2.2))]
          rfl
      · rw [if_neg h2]
        cases e : stN t hm sp v l with
        | none =>
          refine FND_cong (ih (l + 1) A h6 hI) (fun j hj => ?_)
          show (brF (rwF t hm sp j) t hm sp v l ++ rwG (rwF t hm sp j) t hm sp v n (l + 1)).find? _ = _
          rw [find_app, br_none e]
        | some u =>
          dsimp only
          have hf := IH u (pa ++ [l]) A (by simp) (by simp; omega) h6 hI
          rw [show (pa ++ [l]).length = pa.length + 1 by simp] at hf
          have hF : ∀ j, (rwG (rwF t hm sp j) t hm sp v (n + 1) l).find? (fwB tg nd) = match ((rwF t hm sp j u).find? (fwB tg nd)).map (fun r => (l :: r.1, r.2)) with | some x => some x | none => (rwG (rwF t hm sp j) t hm sp v n (l + 1)).find? (fwB tg nd) := fun j => by
            show (brF (rwF t hm sp j) t hm sp v l ++ rwG (rwF t hm sp j) t hm sp v n (l + 1)).find? _ = _
            rw [find_app, br_some e]
            cases (rwF t hm sp j u).find? (fwB tg nd) <;> rfl
          cases e1 : fsL (fun j => rwF t hm sp j u) (fwB tg nd) (A.1 - (pa.length + 1)) 0 with
          | none =>
            rw [FND_none hf e1]
            refine FND_cong (ih (l + 1) A h6 hI) (fun j hj => ?_)
            have := (fsL_none _ _).mp e1 j hj
            rw [Nat.zero_add] at this
            show (rwG (rwF t hm sp j) t hm sp v (n + 1) l).find? (fwB tg nd) = _
            rw [hF, this]
            rfl
          | some x =>
            obtain ⟨j0, r0⟩ := x
            obtain ⟨a1, a2, a3, a4⟩ := FND_some hf e1
            obtain ⟨-, b2, b3, r, b4, b5⟩ := (fsL_some _ _).mp e1
            generalize f u (pa ++ [l]) A = A1 at *
            have hi := ih (l + 1) A1 (by omega) (Or.inr a4)
            rw [show A1.1 - (pa.length + 1) = j0 by omega] at hi
            cases e2 : fsL (fun j => rwG (rwF t hm sp j) t hm sp v n (l + 1)) (fwB tg nd) j0 0 with
            | none =>
              rw [FND_none hi e2]
              refine FND_of (j := j0) (q := l :: r0) ((fsL_some _ _).mpr ⟨Nat.zero_le _, by omega, fun i _ hi9 => ?_, (l :: r.1, r.2), ?_, by rw [b5]⟩) ⟨a1, by rw [a2, List.append_assoc]; rfl, a3, a4⟩
              · have c1 := b3 i (Nat.zero_le _) hi9
                have c2 := (fsL_none _ _).mp e2 i hi9
                rw [Nat.zero_add] at c2
                show (rwG (rwF t hm sp i) t hm sp v (n + 1) l).find? (fwB tg nd) = none
                rw [hF, c1]
                exact c2
              · show (rwG (rwF t hm sp j0) t hm sp v (n + 1) l).find? (fwB tg nd) = _
                rw [hF, b4]; rfl
            | some y =>
              obtain ⟨j1, q1⟩ := y
              obtain ⟨-, c2, c3, r9, c4, c5⟩ := (fsL_some _ _).mp e2
              refine FND_of (j := j1) (q := q1) ((fsL_some _ _).mpr ⟨Nat.zero_le _, by omega, fun i _ hi9 => ?_, r9, ?_, c5⟩) (FND_some hi e2)
              · have d1 := b3 i (Nat.zero_le _) (by omega)
                have d2 := c3 i (Nat.zero_le _) hi9
                show (rwG (rwF t hm sp i) t hm sp v (n + 1) l).find? (fwB tg nd) = none
                rw [hF, d1]
                exact d2
              · have d1 := b3 j1 (Nat.zero_le _) (by omega)
                show (rwG (rwF t hm sp j1) t hm sp v (n + 1) l).find? (fwB tg nd) = _
                rw [hF, d1]
                exact c4
    · rw [gLp_stop h1]
      rw [show A.1 - (pa.length + 1) = 0 by omega]
      exact FND_id rfl
theorem fsL_shift {F : Nat → List (List Nat × nD)} {b : List Nat × nD → Bool} : ∀ m j, fsL F b m (j + 1) = (fsL (fun i => F (i + 1)) b m j).map (fun x => (x.1 + 1, x.2)) := by
  intro m
  induction m with
  | zero => intro j; rfl
  | succ m ih =>
    intro j
    rw [fsL, fsL]
    cases e : (F (j + 1)).find? b with
    | some r => rfl
    | none => exact ih (j + 1)
theorem FND_up {F : Nat → List (List Nat × nD)} {tg nd J d : Nat} {pa : List Nat} {A A' : wA} (h : FND (fun i => F (i + 1)) tg nd J (d + 1) pa A A') (h0 : (F 0).find? (fwB tg nd) = none) : FND F tg nd (J + 1) d pa A A' := by
  have e : fsL F (fwB tg nd) (J + 1) 0 = (fsL (fun i => F (i + 1)) (fwB tg nd) J 0).map (fun x => (x.1 + 1, x.2)) := by rw [fsL, h0]; exact fsL_shift J 0
  cases e1 : fsL (fun i => F (i + 1)) (fwB tg nd) J 0 with
  | none =>
    rw [FND_none h e1]
    exact FND_id (by rw [e, e1]; rfl)
  | some x =>
    obtain ⟨j, q⟩ := x
    have g := FND_some h e1
    exact FND_of (j := j + 1) (q := q) (by rw [e, e1]; rfl) ⟨by omega, g.2⟩
theorem way_hit {t : Nat → Nat} {hm sp tg nd : Nat} {v : nD} {pa : List Nat} {A : wA} (h1 : v.1 = tg ∧ nd ≤ v.2.1) (hl : pa.length < A.1) (hI : INVw A) : FND (fun j => rwF t hm sp j v) tg nd (A.1 - pa.length) pa.length pa A (lookA 0 tg nd v pa A) := by
  obtain ⟨m, hm9⟩ : ∃ m, A.1 - pa.length = m + 1 := ⟨A.1 - pa.length - 1, by omega⟩
  have eL : lookA 0 tg nd v pa A = (pa.length, (noteF v pa A).2) := by unfold lookA; rw [if_pos rfl, if_pos h1]
  have hb : A.2.2.1 = 0 ∨ pa.length < A.2.1.length := by
    rcases hI with q | q
    · exact Or.inl q
    · exact Or.inr (by omega)
  have eb : (noteF v pa A).2.1 = pa := by unfold noteF; rw [if_pos hb]
  refine FND_of (j := 0) (q := []) ?_ ?_
  · rw [hm9, fsL]
    show (match ([([], v)] : List (List Nat × nD)).find? (fwB tg nd) with | some r => some (0, r.1) | none => _) = _
    rw [List.find?_cons_of_pos (fwB_t (r := ([], v)) h1.1 h1.2)]
  · rw [eL]
    refine ⟨rfl, ?_, Nat.succ_pos _, ?_⟩
    · show (noteF v pa A).2.1 = _; rw [eb, List.append_nil]
    · show (noteF v pa A).2.1.length = pa.length; rw [eb]
theorem look_no {tg nd : Nat} {v : nD} {pa : List Nat} {A : wA} (h1 : ¬ (v.1 = tg ∧ nd ≤ v.2.1)) : lookA 0 tg nd v pa A = A := by unfold lookA; rw [if_pos rfl, if_neg h1]
theorem rw0_no {t : Nat → Nat} {hm sp tg nd : Nat} {v : nD} (h1 : ¬ (v.1 = tg ∧ nd ≤ v.2.1)) : (rwF t hm sp 0 v).find? (fwB tg nd) = none := by
  rw [rwF, List.find?_cons_of_neg]
  · rfl
  · by_cases e : v.1 = tg
    · exact fwB_f2 (r := ([], v)) (by have : ¬ nd ≤ v.2.1 := fun h => h1 ⟨e, h⟩; exact Nat.lt_of_not_le this)
    · exact fwB_f1 (r := ([], v)) e
theorem way_node {t : Nat → Nat} {hm sp tg nd : Nat} : ∀ e v pa A, pa.length + e = 5 → pa.length < A.1 → A.1 ≤ 6 → INVw A → FND (fun j => rwF t hm sp j v) tg nd (A.1 - pa.length) pa.length pa A (gW t hm sp 0 tg nd e v pa A) := by
  intro e
  induction e with
  | zero =>
    intro v pa A h5 hl h6 hI
    rw [gW]
    by_cases h1 : v.1 = tg ∧ nd ≤ v.2.1
    · exact way_hit h1 hl hI
    · rw [look_no h1]
      refine FND_id ((fsL_none _ _).mpr (fun i hi => ?_))
      rw [show 0 + i = 0 by omega]
      exact rw0_no h1
  | succ e ih =>
    intro v pa A h5 hl h6 hI
    rw [gW]
    by_cases h1 : v.1 = tg ∧ nd ≤ v.2.1
    · have eL : (lookA 0 tg nd v pa A).1 = pa.length := by unfold lookA; rw [if_pos rfl, if_pos h1]
      rw [gLp_stop (by rw [eL]; omega)]
      exact way_hit h1 hl hI
    · rw [look_no h1]
      have q := way_loop (v := v) (pa := pa) (f := gW t hm sp 0 tg nd e) (fun u pa' A' a1 a2 a3 a4 => ih u pa' A' (by omega) a2 a3 a4) (t 0) 0 A h6 hI
      have r := FND_up (F := fun j => rwF t hm sp j v) q (rw0_no h1)
      rw [show A.1 - (pa.length + 1) + 1 = A.1 - pa.length by omega] at r
      exact r
