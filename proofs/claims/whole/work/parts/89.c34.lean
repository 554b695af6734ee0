/-- what a walk has found: one more than the most crossings, the best row, how many rows, their ends, one more than the longest -/
abbrev wA : Type := Nat × List Nat × Nat × (Nat → Nat) × Nat
def noteF (v : nD) (pa : List Nat) (A : wA) : wA := (A.1, (if A.2.2.1 = 0 ∨ pa.length < A.2.1.length then pa else A.2.1), A.2.2.1 + 1, upN A.2.2.2.1 v.1 (A.2.2.2.1 v.1 + 1), A.2.2.2.2)
def lookA (g tg nd : Nat) (v : nD) (pa : List Nat) (A : wA) : wA :=
  if g = 0 then (if v.1 = tg ∧ nd ≤ v.2.1 then (pa.length, (noteF v pa A).2) else A)
  else if g = 1 then (if 0 < pa.length ∧ v.1 = tg then (A.1, A.2.1, A.2.2.1, A.2.2.2.1, max A.2.2.2.2 (v.2.1 + 1)) else A)
  else (if 0 < pa.length ∧ v.2.1 = nd then noteF v pa A else A)
def gLp (f : nD → List Nat → wA → wA) (t : Nat → Nat) (hm sp g tg : Nat) (v : nD) (pa : List Nat) : Nat → Nat → wA → wA
  | 0, _, A => A
  | n + 1, l, A => if pa.length + 1 < A.1 then (if g = 0 ∧ pa.length + 2 = A.1 ∧ ¬ l = tg then gLp f t hm sp g tg v pa n (l + 1) A else match stN t hm sp v l with
    | none => gLp f t hm sp g tg v pa n (l + 1) A
    | some u => gLp f t hm sp g tg v pa n (l + 1) (f u (pa ++ [l]) A)) else A
def gW (t : Nat → Nat) (hm sp g tg nd : Nat) : Nat → nD → List Nat → wA → wA
  | 0, v, pa, A => lookA g tg nd v pa A
  | e + 1, v, pa, A => gLp (gW t hm sp g tg nd e) t hm sp g tg v pa (t 0) 0 (lookA g tg nd v pa A)
/-- the first hit of the fewest crossings in a family of lists -/
def fsL (F : Nat → List (List Nat × nD)) (b : List Nat × nD → Bool) : Nat → Nat → Option (Nat × List Nat)
  | 0, _ => none
  | m + 1, j => match (F j).find? b with
    | some r => some (j, r.1)
    | none => fsL F b m (j + 1)
theorem fsL_none {F : Nat → List (List Nat × nD)} {b : List Nat × nD → Bool} : ∀ m j, fsL F b m j = none ↔ ∀ i, i < m → (F (j + i)).find? b = none := by
  intro m
  induction m with
  | zero => intro j; exact ⟨fun _ i hi => absurd hi (Nat.not_lt_zero _), fun _ => rfl⟩
  | succ m ih =>
    intro j
    rw [fsL]
    cases e : (F j).find? b with
    | some r => exact ⟨fun h => (by cases h), fun h => by have := h 0 (by omega); rw [Nat.add_zero, e] at this; cases this⟩
    | none =>
      dsimp only
      rw [ih]
      constructor
      · intro h i hi
        cases i with
        | zero => exact e
        | succ i => rw [show j + (i + 1) = j + 1 + i by omega]; exact h i (by omega)
      · intro h i hi
        rw [show j + 1 + i = j + (i + 1) by omega]; exact h (i + 1) (by omega)
theorem fsL_some {F : Nat → List (List Nat × nD)} {b : List Nat × nD → Bool} {k : Nat} {q : List Nat} : ∀ m j, fsL F b m j = some (k, q) ↔ j ≤ k ∧ k < j + m ∧ (∀ i, j ≤ i → i < k → (F i).find? b = none) ∧ ∃ r, (F k).find? b = some r ∧ r.1 = q := by
  intro m
  induction m with
  | zero => intro j; exact ⟨fun h => (by cases h), fun h => by omega⟩
  | succ m ih =>
    intro j
    rw [fsL]
    cases e : (F j).find? b with
    | some r =>
      constructor
      · intro h
        cases h
        exact ⟨Nat.le_refl _, by omega, fun i h1 h2 => by omega, r, e, rfl⟩
      · intro ⟨h1, h2, h3, r9, h4, h5⟩
        have : k = j := by
          apply Classical.byContradiction
          intro hne
          have := h3 j (Nat.le_refl _) (by omega)
          rw [e] at this; cases this
        subst this
        rw [e] at h4
        cases h4
        show some (k, r.1) = some (k, q)
        rw [h5]
    | none =>
      dsimp only
      rw [ih]
      constructor
      · intro ⟨h1, h2, h3, h4⟩
        refine ⟨by omega, by omega, fun i a1 a2 => ?_, h4⟩
        by_cases q9 : i = j
        · rw [q9]; exact e
        · exact h3 i (by omega) a2
      · intro ⟨h1, h2, h3, r9, h4, h5⟩
        have : ¬ k = j := fun q9 => by rw [q9, e] at h4; cases h4
        exact ⟨by omega, by omega, fun i a1 a2 => h3 i (by omega) a2, r9, h4, h5⟩
theorem find_cons {l tg nd : Nat} : ∀ L : List (List Nat × nD), (L.map (fun r => (l :: r.1, r.2))).find? (fwB tg nd) = (L.find? (fwB tg nd)).map (fun r => (l :: r.1, r.2)) := by
  intro L
  rw [List.find?_map]
  rfl
/-- of a way: what is found in some lists, from what was found before -/
def FND (F : Nat → List (List Nat × nD)) (tg nd J d : Nat) (pa : List Nat) (A A' : wA) : Prop := match fsL F (fwB tg nd) J 0 with
  | none => A' = A
  | some (j, q) => A'.1 = d + j ∧ A'.2.1 = pa ++ q ∧ 0 < A'.2.2.1 ∧ A'.2.1.length = A'.1
theorem FND_none {F : Nat → List (List Nat × nD)} {tg nd J d : Nat} {pa : List Nat} {A A' : wA} (h : FND F tg nd J d pa A A') (e : fsL F (fwB tg nd) J 0 = none) : A' = A := by unfold FND at h; rw [e] at h; exact h
theorem FND_some {F : Nat → List (List Nat × nD)} {tg nd J d j : Nat} {pa q : List Nat} {A A' : wA} (h : FND F tg nd J d pa A A') (e : fsL F (fwB tg nd) J 0 = some (j, q)) : A'.1 = d + j ∧ A'.2.1 = pa ++ q ∧ 0 < A'.2.2.1 ∧ A'.2.1.length = A'.1 := by unfold FND at h; rw [e] at h; exact h
