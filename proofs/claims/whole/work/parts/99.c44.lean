/-- the least set of those that are D, by its size and then by its number -/
def MNs (D : Nat → Bool) (N b : Nat) : Prop := b < N ∧ D b = true ∧ ∀ i, i < N → D i = true → bitsN b < bitsN i ∨ (bitsN b = bitsN i ∧ b ≤ i)
theorem MNs.uniq {D : Nat → Bool} {N b c : Nat} (h : MNs D N b) (g : MNs D N c) : b = c := by
  rcases h.2.2 c g.1 g.2.1 with q | q <;> rcases g.2.2 b h.1 h.2.1 with r | r <;> omega
theorem MNs.keep {D : Nat → Bool} {N b : Nat} (h : MNs D N b) (hn : D N = true → bitsN b ≤ bitsN N) : MNs D (N + 1) b := ⟨by have := h.1; omega, h.2.1, fun i hi hd => by
  by_cases e : i = N
  · subst e; have := hn hd; have := h.1; omega
  · exact h.2.2 i (by omega) hd⟩
theorem MNs.new {D : Nat → Bool} {N : Nat} (hd : D N = true) (h : ∀ i, i < N → D i = true → bitsN N < bitsN i) : MNs D (N + 1) N := ⟨Nat.lt_succ_self _, hd, fun i hi hi2 => by
  by_cases e : i = N
  · subst e; exact Or.inr ⟨rfl, Nat.le_refl _⟩
  · exact Or.inl (h i (by omega) hi2)⟩
theorem MNs.lt {D : Nat → Bool} {N b : Nat} (h : MNs D N b) : ∀ i, i < N → D i = true → bitsN b ≤ bitsN i := fun i hi hd => by
  rcases h.2.2 i hi hd with q | q <;> omega
def spD (t : Nat → Nat) (q l n i : Nat) : Bool := decide (i &&& sparedF t q = 0) && fewB t q l n (sparedF t q ||| i)
theorem spG_min {t : Nat → Nat} {q l n : Nat} : ∀ N, (spG t q l n N = none → ∀ i, i < N → spD t q l n i = false) ∧ ∀ b, spG t q l n N = some b → MNs (spD t q l n) N b := by
  intro N
  induction N with
  | zero => exact ⟨fun _ i hi => absurd hi (Nat.not_lt_zero _), fun b h => by cases h⟩
  | succ N ih =>
    by_cases h : N &&& sparedF t q = 0
    · have hD : spD t q l n N = fewB t q l n (sparedF t q ||| N) := by unfold spD; rw [decide_eq_true h, Bool.true_and]
      cases hb : spG t q l n N with
      | none =>
        have i0 := ih.1 hb
        cases hf : fewB t q l n (sparedF t q ||| N) with
        | true =>
          rw [spG_n1 h hb hf]
          refine ⟨fun e => (by cases e), fun b e => ?_⟩
          cases e
          exact MNs.new (hD.trans hf) (fun i hi hd => by rw [i0 i hi] at hd; cases hd)
        | false =>
          rw [spG_n0 h hb hf, hb]
          refine ⟨fun _ i hi => ?_, fun b e => (by cases e)⟩
          by_cases e : i = N
          · subst e; exact hD.trans hf
          · exact i0 i (by omega)
      | some b =>
        have i1 := ih.2 b hb
        by_cases hc : bitsN b ≤ bitsN N
        · rw [spG_sk hb hc, hb]
          refine ⟨fun e => (by cases e), fun b' e => ?_⟩
          cases e
          exact i1.keep (fun _ => hc)
        · cases hf : fewB t q l n (sparedF t q ||| N) with
          | true =>
            rw [spG_s1 h hb (by omega) hf]
            refine ⟨fun e => (by cases e), fun b' e => ?_⟩
            cases e
            exact MNs.new (hD.trans hf) (fun i hi hd => by have := i1.lt i hi hd; omega)
          | false =>
            rw [spG_s0 h hb (by omega) hf, hb]
            refine ⟨fun e => (by cases e), fun b' e => ?_⟩
            cases e
            exact i1.keep (fun hd => by rw [hD, hf] at hd; cases hd)
    · rw [spG_a h]
      have hD : spD t q l n N = false := by unfold spD; rw [decide_eq_false h, Bool.false_and]
      refine ⟨fun e i hi => ?_, fun b e => (ih.2 b e).keep (fun hd => by rw [hD] at hd; cases hd)⟩
      by_cases e9 : i = N
      · subst e9; exact hD
      · exact ih.1 e i (by omega)
theorem pop_sub : ∀ n x y, (∀ i, x.testBit i = true → y.testBit i = true) → pop n x ≤ pop n y ∧ (pop n x = pop n y → ∀ i, i < n → x.testBit i = y.testBit i) := by
  intro n
  induction n with
  | zero => intro x y _; exact ⟨Nat.le_refl _, fun _ i hi => absurd hi (Nat.not_lt_zero _)⟩
  | succ n ih =>
    intro x y h
    have h2 := ih (x / 2) (y / 2) (fun i hi => by rw [← Nat.testBit_succ] at hi ⊢; exact h _ hi)
    have e0 : ∀ z : Nat, z.testBit 0 = decide (z % 2 = 1) := fun z => Nat.testBit_zero z
    have h3 := h 0
    rw [e0, e0] at h3
    have hx := Nat.mod_lt x (by decide : 0 < 2)
    have hy := Nat.mod_lt y (by decide : 0 < 2)
    have hle : x % 2 ≤ y % 2 := by
      apply Classical.byContradiction
      intro q
      have a : x % 2 = 1 := by omega
      have := of_decide_eq_true (h3 (decide_eq_true a))
      omega
    refine ⟨by rw [pop, pop]; omega, fun e i hi => ?_⟩
    rw [pop, pop] at e
    cases i with
    | zero => rw [e0, e0, show x % 2 = y % 2 by omega]
    | succ i => rw [Nat.testBit_succ, Nat.testBit_succ]; exact h2.2 (by omega) i (by omega)
def andN (x y : Nat) : Nat := x ^^^ (x &&& y)
theorem andN_bit (x y i : Nat) : (andN x y).testBit i = (x.testBit i && !y.testBit i) := by
  unfold andN
  rw [Nat.testBit_xor, Nat.testBit_and]
  cases x.testBit i <;> cases y.testBit i <;> rfl
theorem andN_le (x y : Nat) (k : Nat) (h : x < 2 ^ k) : andN x y < 2 ^ k := Nat.xor_lt_two_pow h (Nat.lt_of_le_of_lt Nat.and_le_left h)
theorem andN_0 {x y : Nat} : andN x y = 0 ↔ ∀ i, x.testBit i = true → y.testBit i = true := by
  constructor
  · intro h i hi
    have := andN_bit x y i
    rw [h, Nat.zero_testBit, hi] at this
    cases e : y.testBit i with
    | true => rfl
    | false => rw [e] at this; cases this
  · intro h
    apply Nat.eq_of_testBit_eq
    intro i
    rw [andN_bit, Nat.zero_testBit]
    cases e : x.testBit i with
    | true => rw [h i e]; rfl
    | false => rfl
theorem andN_0le {x y : Nat} (h : andN x y = 0) : x ≤ y := by
  have : x &&& y = x := by
    apply Nat.eq_of_testBit_eq
    intro i
    rw [Nat.testBit_and]
    cases e : x.testBit i with
    | true => rw [andN_0.mp h i e]; rfl
    | false => rfl
  rw [← this]; exact Nat.and_le_right
theorem andN_i (x y : Nat) (hx : x < 2 ^ 31) (hy : y < 2 ^ 31) : nI x &&& (nI y ^^^ (-1)) = nI (andN x y) := by
  unfold andN
  rw [← nIxor, ← nI_and _ _ (by omega) (by omega)]
  apply Int32.toBitVec_inj.mp
  rw [Int32.toBitVec_and, Int32.toBitVec_xor, Int32.toBitVec_xor, Int32.toBitVec_and]
  generalize (nI x).toBitVec = u
  generalize (nI y).toBitVec = v
  rw [show (-1 : Int32).toBitVec = BitVec.allOnes 32 by decide]
  apply BitVec.eq_of_getLsbD_eq
  intro i hi
  simp only [BitVec.getLsbD_xor, BitVec.getLsbD_and, BitVec.getLsbD_allOnes, hi, decide_true]
  cases u.getLsbD i <;> cases v.getLsbD i <;> rfl
/-- what may be in a set -/
theorem fit_iff {i k h c : Nat} (hi : i < 2 ^ k) (hc : ∀ j, c.testBit j = (decide (j < k) && !h.testBit j)) : andN i c = 0 ↔ i &&& h = 0 := by
  rw [andN_0]
  constructor
  · intro q
    apply Nat.eq_of_testBit_eq
    intro j
    rw [Nat.testBit_and, Nat.zero_testBit]
    cases e : i.testBit j with
    | false => rfl
    | true =>
      have := q j e
      rw [hc] at this
      cases e2 : h.testBit j with
      | false => rfl
      | true => rw [e2] at this; simp at this
  · intro q j hj
    rw [hc]
    have h1 : j < k := by
      apply Classical.byContradiction
      intro q9
      rw [Nat.testBit_lt_two_pow (Nat.lt_of_lt_of_le hi (Nat.pow_le_pow_right (by decide) (by omega)))] at hj
      cases hj
    have h2 : h.testBit j = false := by
      have := congrArg (fun z => z.testBit j) q
      simp only [Nat.testBit_and, Nat.zero_testBit, hj, Bool.true_and] at this
      exact this
    rw [h2, decide_eq_true h1]; rfl
def ptD (t : Nat → Nat) (x y i : Nat) : Bool := decide (i &&& t 93 = 0) && partedF t x y (i ||| t 93)
theorem partG_min {t : Nat → Nat} {x y : Nat} : ∀ N, (partG t x y N = openSet t ∧ ∀ i, i < N → ptD t x y i = true → bitsN (openSet t) ≤ bitsN i) ∨ (MNs (ptD t x y) N (partG t x y N) ∧ bitsN (partG t x y N) < bitsN (openSet t)) := by
  intro N
  induction N with
  | zero => exact Or.inl ⟨rfl, fun i hi => absurd hi (Nat.not_lt_zero _)⟩
  | succ N ih =>
    have hsk : (ptD t x y N = true → bitsN (partG t x y N) ≤ bitsN N) → partG t x y (N + 1) = partG t x y N → (partG t x y (N + 1) = openSet t ∧ ∀ i, i < N + 1 → ptD t x y i = true → bitsN (openSet t) ≤ bitsN i) ∨ (MNs (ptD t x y) (N + 1) (partG t x y (N + 1)) ∧ bitsN (partG t x y (N + 1)) < bitsN (openSet t)) := fun h e => by
      rw [e]
      rcases ih with ⟨a1, a2⟩ | ⟨a1, a2⟩
      · refine Or.inl ⟨a1, fun i hi hd => ?_⟩
        by_cases e9 : i = N
        · subst e9; have := h hd; rw [a1] at this; exact this
        · exact a2 i (by omega) hd
      · exact Or.inr ⟨a1.keep h, a2⟩
    by_cases h : N &&& t 93 = 0
    · have hD : ptD t x y N = partedF t x y (N ||| t 93) := by unfold ptD; rw [decide_eq_true h, Bool.true_and]
      by_cases hc : bitsN N < bitsN (partG t x y N)
      · cases hf : partedF t x y (N ||| t 93) with
        | true =>
          have e : partG t x y (N + 1) = N := by rw [partG, if_pos h, if_pos hc, if_pos hf]
          rw [e]
          rcases ih with ⟨a1, a2⟩ | ⟨a1, a2⟩
          · rw [a1] at hc
            exact Or.inr ⟨MNs.new (hD.trans hf) (fun i hi hd => by have := a2 i hi hd; omega), hc⟩
          · exact Or.inr ⟨MNs.new (hD.trans hf) (fun i hi hd => by have := a1.lt i hi hd; omega), by omega⟩
        | false => exact hsk (fun hd => by rw [hD, hf] at hd; cases hd) (by rw [partG, if_pos h, if_pos hc, if_neg (by rw [hf]; decide)])
      · exact hsk (fun _ => by omega) (by rw [partG, if_pos h, if_neg hc])
    · exact hsk (fun hd => by unfold ptD at hd; rw [decide_eq_false h] at hd; cases hd) (by rw [partG, if_neg h])
theorem open_bit {t : Nat → Nat} (h : t 93 < 2 ^ t 1) (j : Nat) : (openSet t).testBit j = (decide (j < t 1) && !(t 93).testBit j) := by
  unfold openSet
  rw [Nat.testBit_xor, Nat.testBit_two_pow_sub_one]
  by_cases e : j < t 1
  · rw [decide_eq_true e]; cases (t 93).testBit j <;> rfl
  · rw [decide_eq_false e, Nat.testBit_lt_two_pow (Nat.lt_of_lt_of_le h (Nat.pow_le_pow_right (by decide) (by omega)))]; rfl
theorem open_lt {t : Nat → Nat} (h : t 93 < 2 ^ t 1) : openSet t < 2 ^ t 1 := Nat.xor_lt_two_pow (by have := Nat.two_pow_pos (t 1); omega) h
/-- where nothing less parts, all do -/
theorem partN_min {t : Nat → Nat} {x y : Nat} (h : t 93 < 2 ^ t 1) (h12 : t 1 ≤ 12) (hfull : ptD t x y (openSet t) = true) : MNs (ptD t x y) (2 ^ t 1) (partN t x y) := by
  unfold partN
  rcases partG_min (t := t) (x := x) (y := y) (2 ^ t 1) with ⟨a1, a2⟩ | ⟨a1, -⟩
  · rw [a1]
    refine ⟨open_lt h, hfull, fun i hi hd => ?_⟩
    have hb := a2 i hi hd
    by_cases e : bitsN (openSet t) = bitsN i
    · refine Or.inr ⟨e, ?_⟩
      have hf : i &&& t 93 = 0 := by
        unfold ptD at hd
        exact of_decide_eq_true (by revert hd; cases decide (i &&& t 93 = 0) <;> simp)
      have hs := andN_0.mp ((fit_iff hi (open_bit h)).mpr hf)
      have := (pop_sub 12 i (openSet t) hs).2 e.symm
      have e2 : i = openSet t := by
        apply Nat.eq_of_testBit_eq
        intro j
        by_cases hj : j < 12
        · exact this j hj
        · rw [Nat.testBit_lt_two_pow (Nat.lt_of_lt_of_le hi (Nat.pow_le_pow_right (by decide) (by omega))), Nat.testBit_lt_two_pow (Nat.lt_of_lt_of_le (open_lt h) (Nat.pow_le_pow_right (by decide) (by omega)))]
      rw [e2]; exact Nat.le_refl _
    · exact Or.inl (by omega)
  · exact a1
theorem part_full {t : Nat → Nat} {x y : Nat} (h : t 93 < 2 ^ t 1) (hxy : ¬ x = y) : ptD t x y (openSet t) = true := by
  have hcl : ∀ r, r < t 1 → (openSet t ||| t 93).testBit r = true := fun r hr => by
    rw [Nat.testBit_or, open_bit h, decide_eq_true hr]; cases (t 93).testBit r <;> rfl
  have hL : ∀ set n, n ≤ t 1 → partL t (openSet t ||| t 93) set n = set := by
    intro set n
    induction n with
    | zero => intro _; rfl
    | succ n ih => intro hn; rw [partL, ih (by omega), partR, if_pos (hcl n (by omega))]
  have hK : ∀ set k, partK t (openSet t ||| t 93) set k = set := by
    intro set k
    induction k with
    | zero => rfl
    | succ k ih => rw [partK, ih, hL _ _ (Nat.le_refl _)]
  have h0 : openSet t &&& t 93 = 0 := (fit_iff (open_lt h) (open_bit h)).mp (andN_0.mpr (fun i hi => hi))
  unfold ptD partedF
  rw [hK, decide_eq_true h0, Nat.testBit_two_pow_of_ne hxy]
  rfl
