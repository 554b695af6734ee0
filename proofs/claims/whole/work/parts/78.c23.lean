def E6 (k : Nat) : Prop := k = 3 ∨ k = 4 ∨ k = 5 ∨ k = 11 ∨ k = 12 ∨ k = 14
theorem nextG_cong {Y Y' : mS} (h : ∀ k, E6 k → Y'.1 k = Y.1 k) (hτ : Y'.2.2.1 = Y.2.2.1) (hw : Y'.2.2.2.1 = Y.2.2.2.1) (s lim q : Nat) : (∀ k, E6 k → (nextG Y' s lim q).1 k = (nextG Y s lim q).1 k) ∧ (nextG Y' s lim q).2.2.2.1 = (nextG Y s lim q).2.2.2.1 := by
  have h3 := h 3 (by unfold E6; omega)
  have h5 := h 5 (by unfold E6; omega)
  have h11 := h 11 (by unfold E6; omega)
  have h14 := h 14 (by unfold E6; omega)
  unfold nextG
  rw [hτ]
  by_cases c1 : lim < s ∧ lim ≤ q
  · rw [if_pos c1, if_pos c1]
    refine ⟨fun k hk => ?_, hw⟩
    rcases hk with rfl | rfl | rfl | rfl | rfl | rfl
    · exact h3
    · rfl
    · exact h5
    · rfl
    · rfl
    · exact h14
  · rw [if_neg c1, if_neg c1]
    by_cases c2 : s ≤ q
    · rw [if_pos c2, if_pos c2]
      refine ⟨fun k hk => ?_, hw⟩
      rcases hk with rfl | rfl | rfl | rfl | rfl | rfl
      · exact h3
      · rfl
      · exact h5
      · rfl
      · rfl
      · exact h14
    · rw [if_neg c2, if_neg c2]
      by_cases c3 : isA (chr (Y.2.2.1 1) q) = true
      · rw [if_pos c3, if_pos c3]
        refine ⟨fun k hk => ?_, rfl⟩
        rcases hk with rfl | rfl | rfl | rfl | rfl | rfl
        · exact h3
        · rfl
        · exact h5
        · rfl
        · rfl
        · rfl
      · rw [if_neg c3, if_neg c3]
        refine ⟨fun k hk => ?_, hw⟩
        rcases hk with rfl | rfl | rfl | rfl | rfl | rfl
        · exact h3
        · rfl
        · exact h5
        · rfl
        · rfl
        · rfl
theorem nx_cong {Y Y' : mS} (h : ∀ k, E6 k → Y'.1 k = Y.1 k) (hτ : Y'.2.2.1 = Y.2.2.1) (hw : Y'.2.2.2.1 = Y.2.2.2.1) : (∀ k, E6 k → (nx Y').1 k = (nx Y).1 k) ∧ (nx Y').2.2.2.1 = (nx Y).2.2.2.1 := by
  have g : ∀ s lim q, (∀ k, E6 k → (nextG Y' s lim q).1 k = (nextG Y s lim q).1 k) ∧ (nextG Y' s lim q).2.2.2.1 = (nextG Y s lim q).2.2.2.1 := nextG_cong h hτ hw
  have e : ∀ Z : mS, nx Z = nextG Z (Z.1 3).toNatClampNeg (Z.1 5).toNatClampNeg (skipF (Z.2.2.1 1) ((Z.1 3).toNatClampNeg - (Z.1 4).toNatClampNeg) (Z.1 4).toNatClampNeg) := fun Z => by rw [← nx_eq]; rfl
  rw [e, e, h 3 (by unfold E6; omega), h 4 (by unfold E6; omega), h 5 (by unfold E6; omega), hτ]
  exact g _ _ _
theorem TPR.nxc {ad : Nat → Nat} {κ : kS} {Y Y' : mS} (H : TPR ad κ (nx Y)) (h : ∀ k, E6 k → Y'.1 k = Y.1 k) (hτ : Y'.2.2.1 = Y.2.2.1) (hw : Y'.2.2.2.1 = Y.2.2.2.1) : TPR ad κ (nx Y') := by
  have g := nx_cong h hτ hw
  exact H.of (g.1 3 (by unfold E6; omega)) (g.1 5 (by unfold E6; omega)) (g.1 12 (by unfold E6; omega)) (g.1 4 (by unfold E6; omega)) (g.1 11 (by unfold E6; omega)) (g.1 14 (by unfold E6; omega)) (by show Y'.2.2.1 1 = Y.2.2.1 1; rw [hτ]) g.2
theorem code_E (σ : mS) (x y z k : Nat) (h : E6 k) : (codeF σ x y z).1 k = σ.1 k := code_sc σ x y z k (by unfold E6 at h; omega)
/-- a sentence as far as it is read -/
def SNl (ad : Nat → Nat) (κT κX : kS) (σ : mS) (NM : Nat → Int64) (b : Bool) : Prop := TPR ad κT σ ∧ κT.1 11 = .int (nI 0) ∧ κX.1 5 = .int (nI (sC σ)) ∧ κX.1 7 = .int (nI (sO σ)) ∧ SV σ b ∧ RES σ ∧ N13 σ 0 (σ.2.1 6 0) NM ∧ σ.1 15 = nI 0 ∧ ∀ i, i < sC σ → STq ad κX (σ.2.1 8) 0 i
def HBs (σ : mS) (l : Nat) : Prop := ∀ m, sT σ = m + 1 → (1 ≤ l → ¬ σ.2.1 50 m = 20 ∧ ¬ σ.2.1 50 m = 21) ∧ (2 ≤ l → ¬ σ.2.1 50 m = 22)
def SUC (σ : mS) (n : Nat) (σ' : mS) (n' l : Nat) : Prop := senL n σ = senL n' σ' ∧ mz σ' < n' ∧ sT σ' = sT σ ∧ (∀ j, j < sT σ → σ'.2.1 50 j = σ.2.1 50 j) ∧ σ'.2.1 6 = σ.2.1 6 ∧ sE σ' = sE σ ∧ sO σ < sO σ' ∧ (1 ≤ l → ¬ isWordB σ' (wC8 13) = true) ∧ (2 ≤ l → ¬ isWordB σ' (wC8 12) = true)
/-- what one of the three readers does -/
def PSn (G : xG) (a ad x c : Nat → Nat) (μ : xM) (dd dp l : Nat) : Prop := ∀ (Q : xQ) (R : va_W) (κT κX : kS) (σ : mS) (NM : Nat → Int64) (n : Nat), κX.1 0 = .ref (a 13) → κX.1 1 = .ref (c 13) → CHR G R c (σ.2.1 6) NM → σ.2.1 6 0 ≤ 7 → SNl ad κT κX σ NM false → sE σ = dp → mz σ < n → HBs σ l →
  (∀ σ' n' κT9 κX9, SUC σ n σ' n' l → SNl ad κT9 κX9 σ' NM true → κX9.1 0 = κX.1 0 → κX9.1 1 = κX.1 1 → TBs κT κT9 → Q (some (.int (bI true))) (wSe G.2.2.1 x κX9 ++ (wTp G.2.2.1 a κT9 ++ R))) →
  (∀ σ9 κT9 κX9, senL n σ = (false, σ9) → FRl κT9 σ9 → κX9.1 0 = κX.1 0 → κX9.1 1 = κX.1 1 → TBs κT κT9 → Q (some (.int (bI false))) (wSe G.2.2.1 x κX9 ++ (wTp G.2.2.1 a κT9 ++ R))) →
  MT G μ dd 0 0 [.ref (x 8), .int (nI dp)] (wSe G.2.2.1 x κX ++ (wTp G.2.2.1 a κT ++ R)) Q
/-- what an operand is -/
theorem leaf_of {kd i : Nat} {v : Int64} {σ : mS} (tc : TC kd v (some i) σ) (h1 : 15 ≤ i) (h2 : i < 24) : leafO σ = i - 15 := by
  have e : ∀ k, k < 24 → (isWordB σ (wC8 k) = true ↔ some i = some k) := fun k hk => tc.word hk
  have q : leafO σ = if isWordB σ (wC8 15) = true then 0 else if isWordB σ (wC8 16) = true then 1 else if isWordB σ (wC8 17) = true then 2 else if isWordB σ (wC8 18) = true then 3 else if isWordB σ (wC8 19) = true then 4 else if isWordB σ (wC8 20) = true then 5 else if isWordB σ (wC8 21) = true then 6 else if isWordB σ (wC8 22) = true then 7 else if isWordB σ (wC8 23) = true then 8 else 9 := rfl
  rw [q]
  rcases (show i = 15 ∨ i = 16 ∨ i = 17 ∨ i = 18 ∨ i = 19 ∨ i = 20 ∨ i = 21 ∨ i = 22 ∨ i = 23 by omega) with rfl | rfl | rfl | rfl | rfl | rfl | rfl | rfl | rfl
  · rw [if_pos ((e 15 (by decide)).mpr rfl)]
  · rw [if_neg (fun h => absurd ((e 15 (by decide)).mp h) (by decide)), if_pos ((e 16 (by decide)).mpr rfl)]
  · rw [if_neg (fun h => absurd ((e 15 (by decide)).mp h) (by decide)), if_neg (fun h => absurd ((e 16 (by decide)).mp h) (by decide)), if_pos ((e 17 (by decide)).mpr rfl)]
  · rw [if_neg (fun h => absurd ((e 15 (by decide)).mp h) (by decide)), if_neg (fun h => absurd ((e 16 (by decide)).mp h) (by decide)), if_neg (fun h => absurd ((e 17 (by decide)).mp h) (by decide)), if_pos ((e 18 (by decide)).mpr rfl)]
  · rw [if_neg (fun h => absurd ((e 15 (by decide)).mp h) (by decide)), if_neg (fun h => absurd ((e 16 (by decide)).mp h) (by decide)), if_neg (fun h => absurd ((e 17 (by decide)).mp h) (by decide)), if_neg (fun h => absurd ((e 18 (by decide)).mp h) (by decide)), if_pos ((e 19 (by decide)).mpr rfl)]
  · rw [if_neg (fun h => absurd ((e 15 (by decide)).mp h) (by decide)), if_neg (fun h => absurd ((e 16 (by decide)).mp h) (by decide)), if_neg (fun h => absurd ((e 17 (by decide)).mp h) (by decide)), if_neg (fun h => absurd ((e 18 (by decide)).mp h) (by decide)), if_neg (fun h => absurd ((e 19 (by decide)).mp h) (by decide)), if_pos ((e 20 (by decide)).mpr rfl)]
  · rw [if_neg (fun h => absurd ((e 15 (by decide)).mp h) (by decide)), if_neg (fun h => absurd ((e 16 (by decide)).mp h) (by decide)), if_neg (fun h => absurd ((e 17 (by decide)).mp h) (by decide)), if_neg (fun h => absurd ((e 18 (by decide)).mp h) (by decide)), if_neg (fun h => absurd ((e 19 (by decide)).mp h) (by decide)), if_neg (fun h => absurd ((e 20 (by decide)).mp h) (by decide)), if_pos ((e 21 (by decide)).mpr rfl)]
  · rw [if_neg (fun h => absurd ((e 15 (by decide)).mp h) (by decide)), if_neg (fun h => absurd ((e 16 (by decide)).mp h) (by decide)), if_neg (fun h => absurd ((e 17 (by decide)).mp h) (by decide)), if_neg (fun h => absurd ((e 18 (by decide)).mp h) (by decide)), if_neg (fun h => absurd ((e 19 (by decide)).mp h) (by decide)), if_neg (fun h => absurd ((e 20 (by decide)).mp h) (by decide)), if_neg (fun h => absurd ((e 21 (by decide)).mp h) (by decide)), if_pos ((e 22 (by decide)).mpr rfl)]
  · rw [if_neg (fun h => absurd ((e 15 (by decide)).mp h) (by decide)), if_neg (fun h => absurd ((e 16 (by decide)).mp h) (by decide)), if_neg (fun h => absurd ((e 17 (by decide)).mp h) (by decide)), if_neg (fun h => absurd ((e 18 (by decide)).mp h) (by decide)), if_neg (fun h => absurd ((e 19 (by decide)).mp h) (by decide)), if_neg (fun h => absurd ((e 20 (by decide)).mp h) (by decide)), if_neg (fun h => absurd ((e 21 (by decide)).mp h) (by decide)), if_neg (fun h => absurd ((e 22 (by decide)).mp h) (by decide)), if_pos ((e 23 (by decide)).mpr rfl)]
theorem leaf_no {kd : Nat} {v : Int64} {r : Option Nat} {σ : mS} (tc : TC kd v r σ) (hr : ∀ i, 15 ≤ i → i < 24 → ¬ r = some i) : leafO σ = 9 := by
  have e : ∀ k, 15 ≤ k → k < 24 → ¬ isWordB σ (wC8 k) = true := fun k h1 hk h => hr k h1 hk ((tc.word hk).mp h)
  have q : leafO σ = if isWordB σ (wC8 15) = true then 0 else if isWordB σ (wC8 16) = true then 1 else if isWordB σ (wC8 17) = true then 2 else if isWordB σ (wC8 18) = true then 3 else if isWordB σ (wC8 19) = true then 4 else if isWordB σ (wC8 20) = true then 5 else if isWordB σ (wC8 21) = true then 6 else if isWordB σ (wC8 22) = true then 7 else if isWordB σ (wC8 23) = true then 8 else 9 := rfl
  rw [q, if_neg (e 15 (by decide) (by decide)), if_neg (e 16 (by decide) (by decide)), if_neg (e 17 (by decide) (by decide)), if_neg (e 18 (by decide) (by decide)), if_neg (e 19 (by decide) (by decide)), if_neg (e 20 (by decide) (by decide)), if_neg (e 21 (by decide) (by decide)), if_neg (e 22 (by decide) (by decide)), if_neg (e 23 (by decide) (by decide))]
theorem tc_sg {kd : Nat} {v : Int64} {r : Option Nat} {σ : mS} (tc : TC kd v r σ) (h : kd = 40) : r = none := by
  rcases tc with g | g | g | g | g
  · omega
  · omega
  · omega
  · omega
  · exact g.2.1
theorem op_not {kd : Nat} {v : Int64} {σ : mS} (tc : TC kd v (some 14) σ) : operandF σ = opG σ 20 := by
  unfold operandF
  rw [if_pos (show isWordB σ (7237492 : Int64) = true from (tc.word (k := 14) (by decide)).mpr rfl)]
theorem op_br {kd : Nat} {v : Int64} {r : Option Nat} {σ : mS} (tc : TC kd v r σ) (hk : kd < 256) (h : kd = 40) : operandF σ = opG σ 23 := by
  have hr := tc_sg tc h
  unfold operandF
  rw [if_neg (show ¬ isWordB σ (7237492 : Int64) = true from fun e => by have := (tc.word (k := 14) (by decide)).mp e; rw [hr] at this; cases this), if_pos ((tc.sign hk rfl).mpr h)]
theorem op_leaf {kd i : Nat} {v : Int64} {σ : mS} (tc : TC kd v (some i) σ) (hk : kd < 256) (h1 : 15 ≤ i) (h2 : i < 24) : operandF σ = opL σ := by
  unfold operandF
  rw [if_neg (show ¬ isWordB σ (7237492 : Int64) = true from fun e => by have := (tc.word (k := 14) (by decide)).mp e; have := Option.some.inj this; omega), if_neg (fun e => by have := tc_sg tc ((tc.sign hk rfl).mp e); cases this), if_neg (by rw [leaf_of tc h1 h2]; omega)]
theorem op_no {kd : Nat} {v : Int64} {r : Option Nat} {σ : mS} (tc : TC kd v r σ) (hk : kd < 256) (hr : wOK r) (h : ¬ kd = 40) (hb : bgB r = false) : operandF σ = (false, badF σ 1) := by
  have hn : ∀ i, 14 ≤ i → ¬ r = some i := fun i hi e => by rw [e] at hb; exact absurd (of_decide_eq_false hb) (by omega)
  unfold operandF
  rw [if_neg (show ¬ isWordB σ (7237492 : Int64) = true from fun e => hn 14 (by decide) ((tc.word (k := 14) (by decide)).mp e)), if_neg (fun e => h ((tc.sign hk rfl).mp e)), if_pos (leaf_no tc (fun i h1 _ => hn i (by omega)))]
