/-- the map as far as it is read -/
def MH (h : Nat → Nat) : Prop := (∀ j, h j < 2 ^ 30) ∧ h 0 ≤ 7 ∧ h 1 ≤ 12 ∧ h 2 ≤ 6 ∧ (∀ r, r < h 1 → h (24 + r) < h 0 ∧ h (36 + r) < h 0 ∧ ¬ h (24 + r) = h (36 + r)) ∧ (∀ q, q < h 2 → h (79 + q) < h 0 ∧ 1 ≤ h (85 + q) ∧ h (85 + q) ≤ 240) ∧ ∀ l, l < 7 → h (72 + l) < 128
def LV (σ : mS) : Prop := PV σ ∧ MH (σ.2.1 7) ∧ σ.1 20 = nI (storedN σ) ∧ storedN σ < 128
theorem takes_sc {σ : mS} {lo hi k : Nat} (h : (takesF σ lo hi).1 = true) (hk : ¬ k = 4 ∧ ¬ k = 11 ∧ ¬ k = 12 ∧ ¬ k = 13 ∧ ¬ k = 14) (hk2 : ¬ k = 18) : (takesF σ lo hi).2.1 k = σ.1 k := by
  rw [(takes_got h).2.1, nx_sc _ k hk]
  exact upN_n _ _ _ _ hk2
theorem puts_t {σ : mS} {to lo hi : Nat} (h : (putsF σ to lo hi).1 = true) : (takesF σ lo hi).1 = true ∧ (putsF σ to lo hi).2 = mN (takesF σ lo hi).2 7 to (numN σ) := by
  unfold putsF at *
  split at h
  · rename_i h1
    rw [if_pos h1]
    exact ⟨h1, rfl⟩
  · exact absurd h (by simp)
theorem puts_sc {σ : mS} {to lo hi k : Nat} (h : (putsF σ to lo hi).1 = true) (hk : ¬ k = 4 ∧ ¬ k = 11 ∧ ¬ k = 12 ∧ ¬ k = 13 ∧ ¬ k = 14) (hk2 : ¬ k = 18) : (putsF σ to lo hi).2.1 k = σ.1 k := by
  rw [(puts_t h).2]
  exact takes_sc (puts_t h).1 hk hk2
theorem puts_le {σ : mS} {to lo hi : Nat} (hl : lo < 2 ^ 30) (hh : hi < 2 ^ 30) (h : (putsF σ to lo hi).1 = true) : lo ≤ numN σ ∧ numN σ ≤ hi := by
  obtain ⟨j, hj, e⟩ := inC_t hh hl (takes_got (puts_t h).1).2.2.1
  unfold numN
  rw [e, nI_clamp (by omega)]
  exact hj
theorem fresh_t {σ : mS} {to : Nat} (h : (freshF σ to).1 = true) : (freshF σ to).2 = nx (mL σ 9 to σ.2.2.2.1) ∧ isNameB σ = true ∧ (findW σ 13 (σ.2.1 7 0)).isSome = false ∧ (findW σ 20 (σ.2.1 7 2)).isSome = false := by
  unfold freshF at *
  split at h
  · split at h
    · exact absurd h (by simp)
    · split at h
      · exact absurd h (by simp)
      · rename_i h1 h2 h3
        rw [if_pos h1, if_neg h2, if_neg h3]
        exact ⟨rfl, h1, by simpa using h2, by simpa using h3⟩
  · exact absurd h (by simp)
theorem readLand_t {σ : mS} (h : (readLandF σ).1 = true) : ¬ σ.2.1 7 0 = 7 ∧ (freshF (nx σ) (13 + σ.2.1 7 0)).1 = true ∧ (putsF (freshF (nx σ) (13 + σ.2.1 7 0)).2 (3 + σ.2.1 7 0) 0 20).1 = true ∧ (putsF (putsF (freshF (nx σ) (13 + σ.2.1 7 0)).2 (3 + σ.2.1 7 0) 0 20).2 (10 + σ.2.1 7 0) 0 20).1 = true ∧ (readLandF σ).2 = mN (putsF (putsF (freshF (nx σ) (13 + σ.2.1 7 0)).2 (3 + σ.2.1 7 0) 0 20).2 (10 + σ.2.1 7 0) 0 20).2 7 0 (σ.2.1 7 0 + 1) := by
  unfold readLandF at *
  split at h
  · exact absurd h (by simp)
  · split at h
    · split at h
      · split at h
        · rename_i h1 h2 h3 h4
          rw [if_neg h1, if_pos h2, if_pos h3, if_pos h4]
          exact ⟨h1, h2, h3, h4, rfl⟩
        · exact absurd h (by simp)
      · exact absurd h (by simp)
    · exact absurd h (by simp)
theorem MH_land {h : Nat → Nat} (H : MH h) (hk : ¬ h 0 = 7) {x y : Nat} (hx : x ≤ 20) (hy : y ≤ 20) : MH (upN (upN (upN h (3 + h 0) x) (10 + h 0) y) 0 (h 0 + 1)) := by
  obtain ⟨hb, h0, h1, h2, hR, hP, hT⟩ := H
  have e : ∀ j, ¬ j = 0 → ¬ j = 3 + h 0 → ¬ j = 10 + h 0 → upN (upN (upN h (3 + h 0) x) (10 + h 0) y) 0 (h 0 + 1) j = h j := fun j a b c => by rw [upN_n _ _ _ _ a, upN_n _ _ _ _ c, upN_n _ _ _ _ b]
  have e0 : upN (upN (upN h (3 + h 0) x) (10 + h 0) y) 0 (h 0 + 1) 0 = h 0 + 1 := upN_s _ _ _
  refine ⟨upN_lt (upN_lt (upN_lt hb (by omega)) (by omega)) (by omega), by rw [e0]; omega, by rw [e 1 (by omega) (by omega) (by omega)]; exact h1, by rw [e 2 (by omega) (by omega) (by omega)]; exact h2, fun r hr => ?_, fun q hq => ?_, fun l hl => by rw [e _ (by omega) (by omega) (by omega)]; exact hT l hl⟩
  · rw [e 1 (by omega) (by omega) (by omega)] at hr
    rw [e0, e _ (by omega) (by omega) (by omega), e _ (by omega) (by omega) (by omega)]
    have := hR r hr
    omega
  · rw [e 2 (by omega) (by omega) (by omega)] at hq
    rw [e0, e _ (by omega) (by omega) (by omega), e _ (by omega) (by omega) (by omega)]
    have := hP q hq
    omega
theorem storedN_eq {σ σ' : mS} (h : σ'.1 20 = σ.1 20) : storedN σ' = storedN σ := by unfold storedN; rw [h]
theorem LV_readLand {σ : mS} (H : LV σ) (h : (readLandF σ).1 = true) : LV (readLandF σ).2 := by
  obtain ⟨hv, hh, hs, hs7⟩ := H
  obtain ⟨h1, h2, h3, h4, e⟩ := readLand_t h
  have e20 : (readLandF σ).2.1 20 = σ.1 20 := by
    rw [e, mN_1, puts_sc h4 (by decide) (by decide), puts_sc h3 (by decide) (by decide), (fresh_t h2).1, nx_sc _ 20 (by decide), mL_1, nx_sc σ 20 (by decide)]
  refine ⟨?_, ?_, by rw [storedN_eq e20, e20]; exact hs, by rw [storedN_eq e20]; exact hs7⟩
  · rw [e]
    exact PV_mN (PV_puts (PV_puts (PV_fresh (PV_nx hv))))
  · rw [e, mN_7, puts_n h4, puts_n h3, fresh_n, nx_n]
    exact MH_land hh h1 (puts_le (by decide) (by decide) h3).2 (puts_le (by decide) (by decide) h4).2
theorem MH_upd {h : Nat → Nat} (H : MH h) {j v : Nat} (hj : 17 ≤ j ∧ j < 24 ∨ 72 ≤ j ∧ j < 79) (hv : v < 128) : MH (upN h j v) := by
  obtain ⟨hb, h0, h1, h2, hR, hP, hT⟩ := H
  have e : ∀ i, ¬ i = j → upN h j v i = h i := fun i hi => upN_n _ _ _ _ hi
  refine ⟨upN_lt hb (by omega), by rw [e 0 (by omega)]; exact h0, by rw [e 1 (by omega)]; exact h1, by rw [e 2 (by omega)]; exact h2, fun r hr => ?_, fun q hq => ?_, fun l hl => ?_⟩
  · rw [e 1 (by omega)] at hr
    rw [e 0 (by omega), e (24 + r) (by omega), e (36 + r) (by omega)]
    exact hR r hr
  · rw [e 2 (by omega)] at hq
    rw [e 0 (by omega), e (79 + q) (by omega), e (85 + q) (by omega)]
    exact hP q hq
  · by_cases hl2 : 72 + l = j
    · rw [hl2, upN_s]; exact hv
    · rw [e _ hl2]; exact hT l hl

theorem readStore_t {σ : mS} (h : (readStoreF σ).1 = true) : (looksF (nx σ) 13 (σ.2.1 7 0)).1 = true ∧ (storedN σ).testBit ((findW (nx σ) 13 (σ.2.1 7 0)).getD 0) = false ∧ (putsF (nx (mI (looksF (nx σ) 13 (σ.2.1 7 0)).2 20 (nI (storedN σ ||| 2 ^ ((findW (nx σ) 13 (σ.2.1 7 0)).getD 0))))) (17 + ((findW (nx σ) 13 (σ.2.1 7 0)).getD 0)) 0 99).1 = true ∧ (readStoreF σ).2 = (putsF (nx (mI (looksF (nx σ) 13 (σ.2.1 7 0)).2 20 (nI (storedN σ ||| 2 ^ ((findW (nx σ) 13 (σ.2.1 7 0)).getD 0))))) (17 + ((findW (nx σ) 13 (σ.2.1 7 0)).getD 0)) 0 99).2 := by
  unfold readStoreF at *
  split at h
  · split at h
    · exact absurd h (by simp)
    · rename_i h1 h2
      rw [if_pos h1, if_neg h2]
      exact ⟨h1, by simpa using h2, h, rfl⟩
  · exact absurd h (by simp)
theorem LV_readStore {σ : mS} (H : LV σ) (h : (readStoreF σ).1 = true) : LV (readStoreF σ).2 := by
  obtain ⟨hv, hh, hs, hs7⟩ := H
  obtain ⟨h1, h2, h3, e⟩ := readStore_t h
  have hk := looks_lt h1
  have h07 := hh.2.1
  have e20 : (readStoreF σ).2.1 20 = nI (storedN σ ||| 2 ^ ((findW (nx σ) 13 (σ.2.1 7 0)).getD 0)) := by
    rw [e, puts_sc h3 (by decide) (by decide), nx_sc _ 20 (by decide), mI_k]
  have hlt : storedN σ ||| 2 ^ ((findW (nx σ) 13 (σ.2.1 7 0)).getD 0) < 128 := Nat.or_lt_two_pow (n := 7) hs7 (Nat.pow_lt_pow_right (by decide) (by omega))
  have es : storedN (readStoreF σ).2 = storedN σ ||| 2 ^ ((findW (nx σ) 13 (σ.2.1 7 0)).getD 0) := by
    unfold storedN at *
    rw [e20, nI_clamp (by omega)]
  refine ⟨?_, ?_, by rw [es, e20], by rw [es]; exact hlt⟩
  · rw [e]
    exact PV_puts (PV_nx (PV_mI (PV_looks (PV_nx hv)) (by decide)))
  · rw [e, puts_n h3, nx_n, mI_n, looks_n, nx_n]
    exact MH_upd hh (Or.inl (by omega)) (Nat.lt_of_le_of_lt (puts_le (by decide) (by decide) h3).2 (by decide))
theorem looks_sc {σ : mS} {fr mn k : Nat} (h : (looksF σ fr mn).1 = true) (hk : ¬ k = 18) : (looksF σ fr mn).2.1 k = σ.1 k := by
  rw [(looks_t h).2.2]
  exact upN_n _ _ _ _ hk
theorem takesName_sc {σ : mS} {fr mn k : Nat} (h : (takesNameF σ fr mn).1 = true) (hk : ¬ k = 4 ∧ ¬ k = 11 ∧ ¬ k = 12 ∧ ¬ k = 13 ∧ ¬ k = 14) (hk2 : ¬ k = 18) : (takesNameF σ fr mn).2.1 k = σ.1 k := by
  rw [(takesName_t h).2, nx_sc _ k hk]
  exact looks_sc (takesName_t h).1 hk2
theorem readTreaty_t {σ : mS} (h : (readTreatyF σ).1 = true) : (takesNameF (nx σ) 13 (σ.2.1 7 0)).1 = true ∧ (looksF (takesNameF (nx σ) 13 (σ.2.1 7 0)).2 13 (σ.2.1 7 0)).1 = true ∧ ¬ ((findW (takesNameF (nx σ) 13 (σ.2.1 7 0)).2 13 (σ.2.1 7 0)).getD 0) = ((findW (nx σ) 13 (σ.2.1 7 0)).getD 0) ∧ (σ.2.1 7 (72 + ((findW (nx σ) 13 (σ.2.1 7 0)).getD 0))).testBit ((findW (takesNameF (nx σ) 13 (σ.2.1 7 0)).2 13 (σ.2.1 7 0)).getD 0) = false ∧ (readTreatyF σ).2 = nx (mN (looksF (takesNameF (nx σ) 13 (σ.2.1 7 0)).2 13 (σ.2.1 7 0)).2 7 (72 + ((findW (nx σ) 13 (σ.2.1 7 0)).getD 0)) (σ.2.1 7 (72 + ((findW (nx σ) 13 (σ.2.1 7 0)).getD 0)) ||| 2 ^ ((findW (takesNameF (nx σ) 13 (σ.2.1 7 0)).2 13 (σ.2.1 7 0)).getD 0))) := by
  unfold readTreatyF at *
  split at h
  · split at h
    · split at h
      · exact absurd h (by simp)
      · split at h
        · exact absurd h (by simp)
        · rename_i h1 h2 h3 h4
          rw [if_pos h1, if_pos h2, if_neg h3, if_neg h4]
          exact ⟨h1, h2, h3, by simpa using h4, rfl⟩
    · exact absurd h (by simp)
  · exact absurd h (by simp)
theorem LV_readTreaty {σ : mS} (H : LV σ) (h : (readTreatyF σ).1 = true) : LV (readTreatyF σ).2 := by
  obtain ⟨hv, hh, hs, hs7⟩ := H
  obtain ⟨h1, h2, h3, h4, e⟩ := readTreaty_t h
  have hk := takesName_lt h1
  have hk2 := looks_lt h2
  have h07 := hh.2.1
  have e20 : (readTreatyF σ).2.1 20 = σ.1 20 := by
    rw [e, nx_sc _ 20 (by decide), mN_1, looks_sc h2 (by decide), takesName_sc h1 (by decide) (by decide), nx_sc σ 20 (by decide)]
  refine ⟨?_, ?_, by rw [storedN_eq e20, e20]; exact hs, by rw [storedN_eq e20]; exact hs7⟩
  · rw [e]
    exact PV_nx (PV_mN (PV_looks (PV_takesName (PV_nx hv))))
  · rw [e, nx_n, mN_7, looks_n, takesName_n, nx_n]
    exact MH_upd hh (Or.inr (by omega)) (Nat.or_lt_two_pow (n := 7) (hh.2.2.2.2.2.2 _ (by omega)) (Nat.pow_lt_pow_right (by decide) (by omega)))
theorem readPerson_t {σ : mS} (h : (readPersonF σ).1 = true) : ¬ σ.2.1 7 2 = 6 ∧ (freshF (nx σ) (20 + σ.2.1 7 2)).1 = true ∧ (takesNameF (freshF (nx σ) (20 + σ.2.1 7 2)).2 13 (σ.2.1 7 0)).1 = true ∧ (putsF (mN (takesNameF (freshF (nx σ) (20 + σ.2.1 7 2)).2 13 (σ.2.1 7 0)).2 7 (79 + σ.2.1 7 2) ((findW (freshF (nx σ) (20 + σ.2.1 7 2)).2 13 (σ.2.1 7 0)).getD 0)) (85 + σ.2.1 7 2) 1 240).1 = true ∧ (readPersonF σ).2 = mN (putsF (mN (takesNameF (freshF (nx σ) (20 + σ.2.1 7 2)).2 13 (σ.2.1 7 0)).2 7 (79 + σ.2.1 7 2) ((findW (freshF (nx σ) (20 + σ.2.1 7 2)).2 13 (σ.2.1 7 0)).getD 0)) (85 + σ.2.1 7 2) 1 240).2 7 2 (σ.2.1 7 2 + 1) := by
  unfold readPersonF at *
  split at h
  · exact absurd h (by simp)
  · split at h
    · split at h
      · split at h
        · rename_i h1 h2 h3 h4
          rw [if_neg h1, if_pos h2, if_pos h3, if_pos h4]
          exact ⟨h1, h2, h3, h4, rfl⟩
        · exact absurd h (by simp)
      · exact absurd h (by simp)
    · exact absurd h (by simp)
theorem MH_person {h : Nat → Nat} (H : MH h) (hk : ¬ h 2 = 6) {x y : Nat} (hx : x < h 0) (hy : 1 ≤ y ∧ y ≤ 240) : MH (upN (upN (upN h (79 + h 2) x) (85 + h 2) y) 2 (h 2 + 1)) := by
  obtain ⟨hb, h0, h1, h2, hR, hP, hT⟩ := H
  have e : ∀ j, ¬ j = 2 → ¬ j = 79 + h 2 → ¬ j = 85 + h 2 → upN (upN (upN h (79 + h 2) x) (85 + h 2) y) 2 (h 2 + 1) j = h j := fun j a b c => by rw [upN_n _ _ _ _ a, upN_n _ _ _ _ c, upN_n _ _ _ _ b]
  have e0 : upN (upN (upN h (79 + h 2) x) (85 + h 2) y) 2 (h 2 + 1) 2 = h 2 + 1 := upN_s _ _ _
  refine ⟨upN_lt (upN_lt (upN_lt hb (by omega)) (by omega)) (by omega), by rw [e 0 (by omega) (by omega) (by omega)]; exact h0, by rw [e 1 (by omega) (by omega) (by omega)]; exact h1, by rw [e0]; omega, fun r hr => ?_, fun q hq => ?_, fun l hl => by rw [e _ (by omega) (by omega) (by omega)]; exact hT l hl⟩
  · rw [e 1 (by omega) (by omega) (by omega)] at hr
    rw [e 0 (by omega) (by omega) (by omega), e _ (by omega) (by omega) (by omega), e _ (by omega) (by omega) (by omega)]
    exact hR r hr
  · rw [e0] at hq
    rw [e 0 (by omega) (by omega) (by omega)]
    by_cases hq2 : q = h 2
    · subst hq2
      rw [upN_n _ _ _ _ (by omega), upN_n _ _ _ _ (by omega), upN_s, upN_n _ _ _ _ (by omega), upN_s]
      omega
    · rw [e _ (by omega) (by omega) (by omega), e _ (by omega) (by omega) (by omega)]
      exact hP q (by omega)
theorem LV_readPerson {σ : mS} (H : LV σ) (h : (readPersonF σ).1 = true) : LV (readPersonF σ).2 := by
  obtain ⟨hv, hh, hs, hs7⟩ := H
  obtain ⟨h1, h2, h3, h4, e⟩ := readPerson_t h
  have hk := takesName_lt h3
  have e20 : (readPersonF σ).2.1 20 = σ.1 20 := by
    rw [e, mN_1, puts_sc h4 (by decide) (by decide), mN_1, takesName_sc h3 (by decide) (by decide), (fresh_t h2).1, nx_sc _ 20 (by decide), mL_1, nx_sc σ 20 (by decide)]
  refine ⟨?_, ?_, by rw [storedN_eq e20, e20]; exact hs, by rw [storedN_eq e20]; exact hs7⟩
  · rw [e]
    exact PV_mN (PV_puts (PV_mN (PV_takesName (PV_fresh (PV_nx hv)))))
  · rw [e, mN_7, puts_n h4, mN_7, takesName_n, fresh_n, nx_n]
    exact MH_person hh h1 hk (puts_le (by decide) (by decide) h4)
theorem readRoad_t {σ : mS} (h : (readRoadF σ).1 = true) : ¬ σ.2.1 7 1 = 12 ∧ (takesNameF (nx σ) 13 (σ.2.1 7 0)).1 = true ∧ (looksF (takesNameF (nx σ) 13 (σ.2.1 7 0)).2 13 (σ.2.1 7 0)).1 = true ∧ ¬ ((findW (takesNameF (nx σ) 13 (σ.2.1 7 0)).2 13 (σ.2.1 7 0)).getD 0) = ((findW (nx σ) 13 (σ.2.1 7 0)).getD 0) ∧ (findF (roadP (σ.2.1 7) ((findW (nx σ) 13 (σ.2.1 7 0)).getD 0) ((findW (takesNameF (nx σ) 13 (σ.2.1 7 0)).2 13 (σ.2.1 7 0)).getD 0)) (σ.2.1 7 1) 0).isSome = false ∧ (putsF (nx (mN (mN (looksF (takesNameF (nx σ) 13 (σ.2.1 7 0)).2 13 (σ.2.1 7 0)).2 7 (24 + σ.2.1 7 1) ((findW (nx σ) 13 (σ.2.1 7 0)).getD 0)) 7 (36 + σ.2.1 7 1) ((findW (takesNameF (nx σ) 13 (σ.2.1 7 0)).2 13 (σ.2.1 7 0)).getD 0))) (48 + σ.2.1 7 1) 0 240).1 = true ∧ (putsF (putsF (nx (mN (mN (looksF (takesNameF (nx σ) 13 (σ.2.1 7 0)).2 13 (σ.2.1 7 0)).2 7 (24 + σ.2.1 7 1) ((findW (nx σ) 13 (σ.2.1 7 0)).getD 0)) 7 (36 + σ.2.1 7 1) ((findW (takesNameF (nx σ) 13 (σ.2.1 7 0)).2 13 (σ.2.1 7 0)).getD 0))) (48 + σ.2.1 7 1) 0 240).2 (60 + σ.2.1 7 1) ((putsF (nx (mN (mN (looksF (takesNameF (nx σ) 13 (σ.2.1 7 0)).2 13 (σ.2.1 7 0)).2 7 (24 + σ.2.1 7 1) ((findW (nx σ) 13 (σ.2.1 7 0)).getD 0)) 7 (36 + σ.2.1 7 1) ((findW (takesNameF (nx σ) 13 (σ.2.1 7 0)).2 13 (σ.2.1 7 0)).getD 0))) (48 + σ.2.1 7 1) 0 240).2.2.1 7 (48 + σ.2.1 7 1)) 240).1 = true ∧ (readRoadF σ).2 = mN (putsF (putsF (nx (mN (mN (looksF (takesNameF (nx σ) 13 (σ.2.1 7 0)).2 13 (σ.2.1 7 0)).2 7 (24 + σ.2.1 7 1) ((findW (nx σ) 13 (σ.2.1 7 0)).getD 0)) 7 (36 + σ.2.1 7 1) ((findW (takesNameF (nx σ) 13 (σ.2.1 7 0)).2 13 (σ.2.1 7 0)).getD 0))) (48 + σ.2.1 7 1) 0 240).2 (60 + σ.2.1 7 1) ((putsF (nx (mN (mN (looksF (takesNameF (nx σ) 13 (σ.2.1 7 0)).2 13 (σ.2.1 7 0)).2 7 (24 + σ.2.1 7 1) ((findW (nx σ) 13 (σ.2.1 7 0)).getD 0)) 7 (36 + σ.2.1 7 1) ((findW (takesNameF (nx σ) 13 (σ.2.1 7 0)).2 13 (σ.2.1 7 0)).getD 0))) (48 + σ.2.1 7 1) 0 240).2.2.1 7 (48 + σ.2.1 7 1)) 240).2 7 1 (σ.2.1 7 1 + 1) := by
  unfold readRoadF at *
  split at h
  · exact absurd h (by simp)
  · split at h
    · split at h
      · split at h
        · exact absurd h (by simp)
        · split at h
          · exact absurd h (by simp)
          · split at h
            · split at h
              · rename_i h1 h2 h3 h4 h5 h6 h7
                rw [if_neg h1, if_pos h2, if_pos h3, if_neg h4, if_neg h5, if_pos h6, if_pos h7]
                exact ⟨h1, h2, h3, h4, by simpa using h5, h6, h7, rfl⟩
              · exact absurd h (by simp)
            · exact absurd h (by simp)
      · exact absurd h (by simp)
    · exact absurd h (by simp)
theorem MH_road {h : Nat → Nat} (H : MH h) (hk : ¬ h 1 = 12) {x y u v : Nat} (hx : x < h 0) (hy : y < h 0) (hxy : ¬ y = x) (hu : u ≤ 240) (hv : v ≤ 240) : MH (upN (upN (upN (upN (upN h (24 + h 1) x) (36 + h 1) y) (48 + h 1) u) (60 + h 1) v) 1 (h 1 + 1)) := by
  obtain ⟨hb, h0, h1, h2, hR, hP, hT⟩ := H
  have e : ∀ j, ¬ j = 1 → ¬ j = 24 + h 1 → ¬ j = 36 + h 1 → ¬ j = 48 + h 1 → ¬ j = 60 + h 1 → upN (upN (upN (upN (upN h (24 + h 1) x) (36 + h 1) y) (48 + h 1) u) (60 + h 1) v) 1 (h 1 + 1) j = h j := fun j a b c f g => by rw [upN_n _ _ _ _ a, upN_n _ _ _ _ g, upN_n _ _ _ _ f, upN_n _ _ _ _ c, upN_n _ _ _ _ b]
  have e1 : upN (upN (upN (upN (upN h (24 + h 1) x) (36 + h 1) y) (48 + h 1) u) (60 + h 1) v) 1 (h 1 + 1) 1 = h 1 + 1 := upN_s _ _ _
  refine ⟨upN_lt (upN_lt (upN_lt (upN_lt (upN_lt hb (by omega)) (by omega)) (by omega)) (by omega)) (by omega), by rw [e 0 (by omega) (by omega) (by omega) (by omega) (by omega)]; exact h0, by rw [e1]; omega, by rw [e 2 (by omega) (by omega) (by omega) (by omega) (by omega)]; exact h2, fun r hr => ?_, fun q hq => ?_, fun l hl => by rw [e _ (by omega) (by omega) (by omega) (by omega) (by omega)]; exact hT l hl⟩
  · rw [e1] at hr
    rw [e 0 (by omega) (by omega) (by omega) (by omega) (by omega)]
    by_cases hr2 : r = h 1
    · subst hr2
      rw [upN_n _ _ _ _ (by omega), upN_n _ _ _ _ (by omega), upN_n _ _ _ _ (by omega), upN_n _ _ _ _ (by omega), upN_s, upN_n _ _ _ _ (by omega), upN_n _ _ _ _ (by omega), upN_n _ _ _ _ (by omega), upN_s]
      omega
    · rw [e _ (by omega) (by omega) (by omega) (by omega) (by omega), e _ (by omega) (by omega) (by omega) (by omega) (by omega)]
      exact hR r (by omega)
  · rw [e 2 (by omega) (by omega) (by omega) (by omega) (by omega)] at hq
    rw [e 0 (by omega) (by omega) (by omega) (by omega) (by omega), e _ (by omega) (by omega) (by omega) (by omega) (by omega), e _ (by omega) (by omega) (by omega) (by omega) (by omega)]
    exact hP q hq
theorem LV_readRoad {σ : mS} (H : LV σ) (h : (readRoadF σ).1 = true) : LV (readRoadF σ).2 := by
  obtain ⟨hv, hh, hs, hs7⟩ := H
  obtain ⟨h1, h2, h3, h4, h5, h6, h7, e⟩ := readRoad_t h
  have hk := takesName_lt h2
  have hk2 := looks_lt h3
  have e20 : (readRoadF σ).2.1 20 = σ.1 20 := by
    rw [e, mN_1, puts_sc h7 (by decide) (by decide), puts_sc h6 (by decide) (by decide), nx_sc _ 20 (by decide), mN_1, mN_1, looks_sc h3 (by decide), takesName_sc h2 (by decide) (by decide), nx_sc σ 20 (by decide)]
  have e48 : (putsF (nx (mN (mN (looksF (takesNameF (nx σ) 13 (σ.2.1 7 0)).2 13 (σ.2.1 7 0)).2 7 (24 + σ.2.1 7 1) ((findW (nx σ) 13 (σ.2.1 7 0)).getD 0)) 7 (36 + σ.2.1 7 1) ((findW (takesNameF (nx σ) 13 (σ.2.1 7 0)).2 13 (σ.2.1 7 0)).getD 0))) (48 + σ.2.1 7 1) 0 240).2.2.1 7 (48 + σ.2.1 7 1) < 2 ^ 30 := by
    rw [puts_n h6, upN_s]
    exact Nat.lt_of_le_of_lt (puts_le (by decide) (by decide) h6).2 (by decide)
  refine ⟨?_, ?_, by rw [storedN_eq e20, e20]; exact hs, by rw [storedN_eq e20]; exact hs7⟩
  · rw [e]
    exact PV_mN (PV_puts (PV_puts (PV_nx (PV_mN (PV_mN (PV_looks (PV_takesName (PV_nx hv))))))))
  · rw [e]
    have b1 := (puts_le (by decide) (by decide) h6).2
    have b2 := (puts_le e48 (by decide) h7).2
    rw [mN_7, puts_n h7, puts_n h6, nx_n, mN_7, mN_7, looks_n, takesName_n, nx_n]
    exact MH_road hh h1 hk hk2 h4 b1 b2
