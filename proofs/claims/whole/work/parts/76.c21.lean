theorem senL_0 {n : Nat} {σ : mS} (h : σ.1 55 = nI 0) : senL (n + 1) σ = if (operandF σ).1 = true then senL n (operandF σ).2 else (false, (operandF σ).2) := by
  rw [senL, if_neg (by rw [h]; decide)]
theorem sen_eqG {n : Nat} {σ σ' : mS} (h : σ.1 55 = nI 1) (h' : σ'.1 55 = nI 1) (h11 : σ'.1 11 = σ.1 11) (hW : ∀ x, isWordB (bhN σ') x = isWordB (bhN σ) x) (hF : isWordB (bhN σ) (wC8 13) = true → bhJ σ' false = bhJ σ false) (hT : bhJ σ' true = bhJ σ true) : senL (n + 1) σ' = senL (n + 1) σ := by
  have hB : behindF σ' = behindF σ := by
    unfold behindF
    rw [hW, hW, hT]
    by_cases e : isWordB (bhN σ) (6385252 : Int64) = true
    · rw [if_pos e, if_pos e, hF e]
    · rw [if_neg e, if_neg e]
  rw [senL, if_pos h', senL, if_pos h, h11, hT, hB]
theorem bhN_id {σ : mS} (h : ∀ m, sT σ = m + 1 → ¬ σ.2.1 50 m = 20) : bhN σ = σ := by
  unfold bhN
  cases e : sT σ with
  | zero => rfl
  | succ m => rw [notsF, if_neg (h m e)]
theorem bhJ_id {σ : mS} {o : Bool} (h : ∀ m, sT σ = m + 1 → ¬ σ.2.1 50 m = 20 ∧ ¬ σ.2.1 50 m = 21 ∧ (o = true → ¬ σ.2.1 50 m = 22)) : bhJ σ o = σ := by
  unfold bhJ
  rw [bhN_id (fun m e => (h m e).1)]
  cases e : sT σ with
  | zero => rfl
  | succ m =>
    rw [joinsF, if_neg (h m e).2.1]
    cases o with
    | true => rw [if_neg ((h m e).2.2 rfl)]
    | false =>
      split
      · rw [if_neg (by decide)]
      · rfl
theorem sT_of {σ : mS} {t : Nat} (h : σ.1 53 = nI t) (ht : t < 2 ^ 31) : sT σ = t := sX_of h ht
theorem SV.lim {σ : mS} {b : Bool} (H : SV σ b) : sT σ ≤ 40 ∧ sC σ ≤ 40 ∧ sE σ ≤ 41 := by
  obtain ⟨-, -, -, -, -, -, h1, h2, h3, -⟩ := H
  have := cnO_le (σ.2.1 50) (sT σ)
  omega
/-- a 'not' is taken off -/
def pop20 (σ : mS) : mS := codeF (mI (mI σ 53 (nI (sT σ - 1))) 54 (nI (sE σ - 1))) 20 0 0
def popJ (σ : mS) (x : Nat) : mS := codeF (mI σ 53 (nI (sT σ - 1))) x 0 0
theorem pop20_T {σ : mS} (h : sT σ ≤ 40) : sT (pop20 σ) = sT σ - 1 := sT_of (show (pop20 σ).1 53 = _ from rfl) (by omega)
theorem popJ_T {σ : mS} {x : Nat} (h : sT σ ≤ 40) : sT (popJ σ x) = sT σ - 1 := sT_of (show (popJ σ x).1 53 = _ from rfl) (by omega)
theorem SF_pop20 (σ : mS) : SF σ (pop20 σ) := SF_tr (SF_tr (SF_mI (Or.inr (Or.inl rfl))) (SF_mI (Or.inr (Or.inr rfl)))) (SF_code _ _ _ _)
theorem SF_popJ (σ : mS) (x : Nat) : SF σ (popJ σ x) := SF_tr (SF_mI (Or.inr (Or.inl rfl))) (SF_code _ _ _ _)
theorem sen_pop20 {n t : Nat} {σ : mS} (H : SV σ true) (ht : sT σ = t + 1) (h20 : σ.2.1 50 t = 20) : senL (n + 1) (pop20 σ) = senL (n + 1) σ ∧ SV (pop20 σ) true := by
  have hl := H.lim
  have e : pop20 σ = codeF (mI (mI σ 53 (nI t)) 54 (nI (sE σ - 1))) 20 0 0 := by unfold pop20; rw [ht]; rfl
  have eN : bhN (pop20 σ) = bhN σ := by
    unfold bhN
    rw [pop20_T hl.1, ht, notsF, if_pos h20, e]; rfl
  refine ⟨sen_eqG H.2.2.2.2.2.1 ?_ ?_ (fun x => by rw [eN]) (fun _ => by unfold bhJ; rw [eN]) (by unfold bhJ; rw [eN]), by rw [e]; exact SV_pop20 H ht h20⟩
  · exact ((SF_pop20 σ).1 55 (by decide) (by decide) (by decide)).trans H.2.2.2.2.2.1
  · exact (SF_pop20 σ).1 11 (by decide) (by decide) (by decide)
theorem sen_popA {n t : Nat} {σ : mS} (H : SV σ true) (ht : sT σ = t + 1) (h21 : σ.2.1 50 t = 21) (hb : ∀ m, t = m + 1 → ¬ σ.2.1 50 m = 20) : senL (n + 1) (popJ σ 21) = senL (n + 1) σ ∧ SV (popJ σ 21) true := by
  have hl := H.lim
  have e : popJ σ 21 = codeF (mI σ 53 (nI t)) 21 0 0 := by unfold popJ; rw [ht]; rfl
  have eT : sT (popJ σ 21) = t := by rw [popJ_T hl.1, ht]; rfl
  have f := SF_popJ σ 21
  have n1 : bhN σ = σ := bhN_id (fun m e => by rw [ht] at e; rw [show m = t by omega, h21]; decide)
  have n2 : bhN (popJ σ 21) = popJ σ 21 := bhN_id (fun m e => by rw [eT] at e; rw [f.2.1 50 (by decide)]; exact hb m e)
  have eJ : ∀ o, bhJ (popJ σ 21) o = bhJ σ o := fun o => by
    unfold bhJ
    rw [n1, n2, eT, ht, joinsF, if_pos h21, h21, e]
  refine ⟨sen_eqG H.2.2.2.2.2.1 ?_ ?_ (fun x => by rw [n1, n2]; exact SF_word f x) (fun _ => eJ false) (eJ true), by rw [e]; exact SV_popJ H ht h21 (Or.inl rfl)⟩
  · exact (f.1 55 (by decide) (by decide) (by decide)).trans H.2.2.2.2.2.1
  · exact f.1 11 (by decide) (by decide) (by decide)
theorem sen_popO {n t : Nat} {σ : mS} (H : SV σ true) (ht : sT σ = t + 1) (h22 : σ.2.1 50 t = 22) (hb : ∀ m, t = m + 1 → ¬ σ.2.1 50 m = 20) (hA : ¬ isWordB σ (wC8 13) = true) : senL (n + 1) (popJ σ 22) = senL (n + 1) σ ∧ SV (popJ σ 22) true := by
  have hl := H.lim
  have e : popJ σ 22 = codeF (mI σ 53 (nI t)) 22 0 0 := by unfold popJ; rw [ht]; rfl
  have eT : sT (popJ σ 22) = t := by rw [popJ_T hl.1, ht]; rfl
  have f := SF_popJ σ 22
  have n1 : bhN σ = σ := bhN_id (fun m e => by rw [ht] at e; rw [show m = t by omega, h22]; decide)
  have n2 : bhN (popJ σ 22) = popJ σ 22 := bhN_id (fun m e => by rw [eT] at e; rw [f.2.1 50 (by decide)]; exact hb m e)
  have eJ : bhJ (popJ σ 22) true = bhJ σ true := by
    unfold bhJ
    rw [n1, n2, eT, ht, joinsF, if_neg (by rw [h22]; decide), if_pos h22, if_pos rfl, h22, e]
  refine ⟨sen_eqG H.2.2.2.2.2.1 ?_ ?_ (fun x => by rw [n1, n2]; exact SF_word f x) (fun h => by rw [n1] at h; exact absurd h hA) eJ, by rw [e]; exact SV_popJ H ht h22 (Or.inr rfl)⟩
  · exact (f.1 55 (by decide) (by decide) (by decide)).trans H.2.2.2.2.2.1
  · exact f.1 11 (by decide) (by decide) (by decide)
theorem sen_and {n : Nat} {σ : mS} (H : SV σ true) (hb : ∀ m, sT σ = m + 1 → ¬ σ.2.1 50 m = 20 ∧ ¬ σ.2.1 50 m = 21) (hA : isWordB σ (wC8 13) = true) : senL (n + 1) σ = senL n (bhP σ 21) := by
  have n1 : bhN σ = σ := bhN_id (fun m e => (hb m e).1)
  have j1 : bhJ σ false = σ := bhJ_id (fun m e => ⟨(hb m e).1, (hb m e).2, fun h => by cases h⟩)
  have hp : ¬ σ.1 11 = nI 0 := by
    have := isWord_p hA
    unfold propT at this
    intro e; rw [e] at this; revert this; decide
  have eB : behindF σ = (true, bhP σ 21) := by unfold behindF; rw [n1, if_pos (show isWordB σ (6385252 : Int64) = true from hA), j1]
  rw [senL, if_pos (show σ.1 55 = nI 1 from H.2.2.2.2.2.1), if_neg hp, eB, if_pos rfl]
theorem isWord_ne {σ : mS} {x y : Int64} (h : isWordB σ x = true) (hne : ¬ x = y) : ¬ isWordB σ y = true := by
  unfold isWordB at *
  rw [Bool.and_eq_true, decide_eq_true_eq, decide_eq_true_eq] at *
  exact fun e => hne (h.2.symm.trans e.2)
theorem sen_or {n : Nat} {σ : mS} (H : SV σ true) (hb : ∀ m, sT σ = m + 1 → ¬ σ.2.1 50 m = 20 ∧ ¬ σ.2.1 50 m = 21 ∧ ¬ σ.2.1 50 m = 22) (hO : isWordB σ (wC8 12) = true) : senL (n + 1) σ = senL n (bhP σ 22) := by
  have n1 : bhN σ = σ := bhN_id (fun m e => (hb m e).1)
  have j1 : bhJ σ true = σ := bhJ_id (fun m e => ⟨(hb m e).1, (hb m e).2.1, fun _ => (hb m e).2.2⟩)
  have hp : ¬ σ.1 11 = nI 0 := by
    have := isWord_p hO
    unfold propT at this
    intro e; rw [e] at this; revert this; decide
  have eB : behindF σ = (true, bhP σ 22) := by unfold behindF; rw [n1, if_neg (isWord_ne hO (by decide)), if_pos (show isWordB σ (28530 : Int64) = true from hO), j1]
  rw [senL, if_pos (show σ.1 55 = nI 1 from H.2.2.2.2.2.1), if_neg hp, eB, if_pos rfl]
theorem sen_beh {σ : mS} (hb : ∀ m, sT σ = m + 1 → ¬ σ.2.1 50 m = 20 ∧ ¬ σ.2.1 50 m = 21 ∧ ¬ σ.2.1 50 m = 22) (hA : ¬ isWordB σ (wC8 13) = true) (hO : ¬ isWordB σ (wC8 12) = true) : behindF σ = if isSignB σ 41 = true then (if sT σ = 0 then (false, badF σ 1) else (true, nx (mI (mI σ 53 (nI (sT σ - 1))) 54 (nI (sE σ - 1))))) else (false, badF σ 1) := by
  have n1 : bhN σ = σ := bhN_id (fun m e => (hb m e).1)
  have j1 : bhJ σ true = σ := bhJ_id (fun m e => ⟨(hb m e).1, (hb m e).2.1, fun _ => (hb m e).2.2⟩)
  unfold behindF
  rw [n1, if_neg (show ¬ isWordB σ (6385252 : Int64) = true from hA), if_neg (show ¬ isWordB σ (28530 : Int64) = true from hO), j1]
theorem sen_close {n t : Nat} {σ : mS} (H : SV σ true) (ht : sT σ = t + 1) (h23 : σ.2.1 50 t = 23) (hs : isSignB σ 41 = true) (hA : ¬ isWordB σ (wC8 13) = true) (hO : ¬ isWordB σ (wC8 12) = true) : senL (n + 1) σ = senL n (nx (mI (mI σ 53 (nI t)) 54 (nI (sE σ - 1)))) := by
  have hp : ¬ σ.1 11 = nI 0 := by
    have := isSign_p hs
    unfold propT at this
    intro e; rw [e] at this; revert this; decide
  have eB := sen_beh (fun m e => by rw [ht] at e; rw [show m = t by omega, h23]; decide) hA hO
  rw [if_pos hs, if_neg (by omega), ht] at eB
  rw [senL, if_pos (show σ.1 55 = nI 1 from H.2.2.2.2.2.1), if_neg hp, eB, if_pos rfl]; rfl
theorem sen_nclose {n t : Nat} {σ : mS} (H : SV σ true) (ht : sT σ = t + 1) (h23 : σ.2.1 50 t = 23) (hs : ¬ isSignB σ 41 = true) (hA : ¬ isWordB σ (wC8 13) = true) (hO : ¬ isWordB σ (wC8 12) = true) : senL (n + 1) σ = (false, badF σ 1) := by
  have hb : ∀ m, sT σ = m + 1 → ¬ σ.2.1 50 m = 20 ∧ ¬ σ.2.1 50 m = 21 ∧ ¬ σ.2.1 50 m = 22 := fun m e => by rw [ht] at e; rw [show m = t by omega, h23]; decide
  have eB := sen_beh hb hA hO
  have j1 : bhJ σ true = σ := bhJ_id (fun m e => ⟨(hb m e).1, (hb m e).2.1, fun _ => (hb m e).2.2⟩)
  rw [if_neg hs] at eB
  rw [senL, if_pos (show σ.1 55 = nI 1 from H.2.2.2.2.2.1), j1, if_neg (show ¬ sT σ = 0 by omega), eB, if_neg (show ¬ (false, badF σ 1).1 = true by intro h; cases h)]
  split <;> rfl
theorem sen_fin {n : Nat} {σ : mS} (H : SV σ true) (ht : sT σ = 0) (hA : ¬ isWordB σ (wC8 13) = true) (hO : ¬ isWordB σ (wC8 12) = true) : senL (n + 1) σ = if σ.1 11 = nI 0 then (true, σ) else (false, badF σ 1) := by
  have hb : ∀ m, sT σ = m + 1 → ¬ σ.2.1 50 m = 20 ∧ ¬ σ.2.1 50 m = 21 ∧ ¬ σ.2.1 50 m = 22 := fun m e => by omega
  have eB := sen_beh hb hA hO
  have j1 : bhJ σ true = σ := bhJ_id (fun m e => ⟨(hb m e).1, (hb m e).2.1, fun _ => (hb m e).2.2⟩)
  have eB : behindF σ = (false, badF σ 1) := by rw [eB, if_pos ht]; split <;> rfl
  rw [senL, if_pos (show σ.1 55 = nI 1 from H.2.2.2.2.2.1), j1, if_pos ht, eB, if_neg (show ¬ (false, badF σ 1).1 = true by intro h; cases h)]
