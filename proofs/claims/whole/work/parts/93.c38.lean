def bnW (A : wA) : Nat := if A.2.2.1 = 0 then 5 else A.2.1.length
def FN2 (F : Nat → List (List Nat × nD)) (b : List Nat × nD → Bool) (d : Nat) (pa : List Nat) (A A' : wA) : Prop := A'.1 = A.1 ∧ A.2.2.1 ≤ A'.2.2.1 ∧ (fsL F b (bnW A - d) 0 = none → A'.2.1 = A.2.1 ∧ bnW A' = bnW A) ∧ ∀ j q, fsL F b (bnW A - d) 0 = some (j, q) → A'.2.1 = pa ++ q ∧ bnW A' = d + j
theorem fsL_cong {F F' : Nat → List (List Nat × nD)} {b : List Nat × nD → Bool} {J : Nat} (e : ∀ j, j < J → (F' j).find? b = (F j).find? b) : fsL F' b J 0 = fsL F b J 0 := by
  have g : ∀ m j, j + m ≤ J → fsL F' b m j = fsL F b m j := by
    intro m
    induction m with
    | zero => intro j _; rfl
    | succ m ih => intro j hj; rw [fsL, fsL, e j (by omega), ih (j + 1) (by omega)]
  exact g J 0 (by omega)
theorem find_cons2 {l nd : Nat} : ∀ L : List (List Nat × nD), (L.map (fun r => (l :: r.1, r.2))).find? (mdB nd) = (L.find? (mdB nd)).map (fun r => (l :: r.1, r.2)) := by
  intro L
  rw [List.find?_map]
  rfl
theorem bst_loop {f : nD → List Nat → wA → wA} {t : Nat → Nat} {hm sp tg nd : Nat} {v : nD} {pa : List Nat} (IH : ∀ u pa' A', pa'.length = pa.length + 1 → A'.1 = 5 → FN2 (fun j => rwF t hm sp j u) (mdB nd) pa'.length pa' A' (f u pa' A')) (hp : pa.length + 1 < 5) : ∀ n l A, A.1 = 5 → FN2 (fun j => rwG (rwF t hm sp j) t hm sp v n l) (mdB nd) (pa.length + 1) pa A (gLp f t hm sp 2 tg v pa n l A) := by
  intro n
  induction n with
  | zero =>
    intro l A _
    have e : fsL (fun j => rwG (rwF t hm sp j) t hm sp v 0 l) (mdB nd) (bnW A - (pa.length + 1)) 0 = none := (fsL_none _ _).mpr (fun i _ => rfl)
    exact ⟨rfl, Nat.le_refl _, fun _ => ⟨rfl, rfl⟩, fun j q h => by rw [e] at h; cases h⟩
  | succ n ih =>
    intro l A h5
    rw [gLp, if_pos (by omega), if_neg (by omega)]
    cases e : stN t hm sp v l with
    | none =>
      obtain ⟨a0, a1, a2, a3⟩ := ih (l + 1) A h5
      have q : fsL (fun j => rwG (rwF t hm sp j) t hm sp v (n + 1) l) (mdB nd) (bnW A - (pa.length + 1)) 0 = fsL (fun j => rwG (rwF t hm sp j) t hm sp v n (l + 1)) (mdB nd) (bnW A - (pa.length + 1)) 0 := fsL_cong (fun j _ => by
        show (brF (rwF t hm sp j) t hm sp v l ++ rwG (rwF t hm sp j) t hm sp v n (l + 1)).find? _ = _
        unfold brF; rw [e]; rfl)
      unfold FN2
      rw [q]
      exact ⟨a0, a1, a2, a3⟩
    | some u =>
      dsimp only
      have hf := IH u (pa ++ [l]) A (by simp) h5
      rw [show (pa ++ [l]).length = pa.length + 1 by simp] at hf
      generalize f u (pa ++ [l]) A = A1 at *
      obtain ⟨f0, f1, f2, f3⟩ := hf
      obtain ⟨a0, a1, a2, a3⟩ := ih (l + 1) A1 (f0.trans h5)
      generalize gLp f t hm sp 2 tg v pa n (l + 1) A1 = A2 at *
      have hF : ∀ j, (rwG (rwF t hm sp j) t hm sp v (n + 1) l).find? (mdB nd) = match (rwF t hm sp j u).find? (mdB nd) with | some r => some (l :: r.1, r.2) | none => (rwG (rwF t hm sp j) t hm sp v n (l + 1)).find? (mdB nd) := fun j => by
        show (brF (rwF t hm sp j) t hm sp v l ++ rwG (rwF t hm sp j) t hm sp v n (l + 1)).find? _ = _
        unfold brF
        rw [e, find_app, find_cons2]
        cases (rwF t hm sp j u).find? (mdB nd) <;> rfl
      refine ⟨a0.trans f0, by omega, ?_⟩
      cases e1 : fsL (fun j => rwF t hm sp j u) (mdB nd) (bnW A - (pa.length + 1)) 0 with
      | none =>
        obtain ⟨g1, g2⟩ := f2 e1
        rw [g2] at a2 a3
        have q : fsL (fun j => rwG (rwF t hm sp j) t hm sp v (n + 1) l) (mdB nd) (bnW A - (pa.length + 1)) 0 = fsL (fun j => rwG (rwF t hm sp j) t hm sp v n (l + 1)) (mdB nd) (bnW A - (pa.length + 1)) 0 := fsL_cong (fun j hj => by
          have := (fsL_none _ _).mp e1 j hj
          rw [Nat.zero_add] at this
          rw [hF, this])
        rw [q]
        exact ⟨fun h => ⟨(a2 h).1.trans g1, (a2 h).2⟩, a3⟩
      | some x =>
        obtain ⟨j0, r0⟩ := x
        obtain ⟨g1, g2⟩ := f3 j0 r0 e1
        obtain ⟨-, b2, b3, r, b4, b5⟩ := (fsL_some _ _).mp e1
        rw [show bnW A1 - (pa.length + 1) = j0 by omega] at a2 a3
        cases e2 : fsL (fun j => rwG (rwF t hm sp j) t hm sp v n (l + 1)) (mdB nd) j0 0 with
        | none =>
          have q : fsL (fun j => rwG (rwF t hm sp j) t hm sp v (n + 1) l) (mdB nd) (bnW A - (pa.length + 1)) 0 = some (j0, l :: r0) := (fsL_some _ _).mpr ⟨Nat.zero_le _, by omega, fun i _ hi9 => by
            have c1 := b3 i (Nat.zero_le _) hi9
            have c2 := (fsL_none _ _).mp e2 i hi9
            rw [Nat.zero_add] at c2
            rw [hF, c1]
            exact c2, (l :: r.1, r.2), by rw [hF, b4], by rw [b5]⟩
          rw [q]
          refine ⟨fun h => (by cases h), fun j q9 h => ?_⟩
          cases h
          exact ⟨by rw [(a2 e2).1, g1, List.append_assoc]; rfl, (a2 e2).2.trans g2⟩
        | some y =>
          obtain ⟨j1, q1⟩ := y
          obtain ⟨-, c2, c3, r9, c4, c5⟩ := (fsL_some _ _).mp e2
          have q : fsL (fun j => rwG (rwF t hm sp j) t hm sp v (n + 1) l) (mdB nd) (bnW A - (pa.length + 1)) 0 = some (j1, q1) := (fsL_some _ _).mpr ⟨Nat.zero_le _, by omega, fun i _ hi9 => by
            have d1 := b3 i (Nat.zero_le _) (by omega)
            have d2 := c3 i (Nat.zero_le _) hi9
            rw [hF, d1]
            exact d2, r9, by
              have d1 := b3 j1 (Nat.zero_le _) (by omega)
              rw [hF, d1]
              exact c4, c5⟩
          rw [q]
          refine ⟨fun h => (by cases h), fun j q9 h => ?_⟩
          cases h
          exact a3 j1 q1 e2
