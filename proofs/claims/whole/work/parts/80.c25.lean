
theorem senL_op {n : Nat} {σ s : mS} (H : SV σ false) (h : operandF σ = (true, s)) : senL (n + 1) σ = senL n s := by
  rw [senL_0 H.2.2.2.2.2.1, h, if_pos rfl]
theorem senL_no {n : Nat} {σ s : mS} (H : SV σ false) (h : operandF σ = (false, s)) : senL (n + 1) σ = (false, s) := by
  rw [senL_0 H.2.2.2.2.2.1, h]; rfl
/-- a code is put, in both -/
theorem SN_code {ad : Nat → Nat} {κT κX κT9 : kS} {σ s Y : mS} {NM : Nat → Int64} {b : Bool} {w y z on : Nat} (H : SNl ad κT κX σ NM b) (hw1 : 12 ≤ w) (hw2 : w < 24) (hSV : SV s true) (h6 : s.2.1 = (codeF Y (cwd w) y z).2.1) (hsc : ∀ k, k = 15 ∨ k = 51 ∨ k = 52 → s.1 k = (codeF Y (cwd w) y z).1 k) (hY1 : Y.2.1 8 = σ.2.1 8 ∧ Y.2.1 6 = σ.2.1 6) (hY : ∀ k, k = 15 ∨ k = 51 → Y.1 k = σ.1 k) (hY5 : Y.1 52 = nI on) (hon : on < 100) (hL : s.2.2.2.2 = σ.2.2.2.2) (ht : TPR ad κT9 s) (hf : κT9.1 11 = .int (nI 0)) : SNl ad κT9 (stK ad (kF κX 7 (.int (nI on))) (sC σ) w y z) s NM true ∧ sC s = sC σ + 1 ∧ sO s = on := by
  obtain ⟨-, -, hX5, hX7, hV, hRes, hNm, h15, hSt⟩ := H
  have hl := hV.lim
  have eC : sC Y = sC σ := by unfold sC; rw [hY 51 (by omega)]
  have e51 : s.1 51 = nI (sC σ + 1) := by rw [hsc 51 (by omega), code_51, eC]
  have sc : sC s = sC σ + 1 := sX_of e51 (by omega)
  have e52 : s.1 52 = nI on := by rw [hsc 52 (by omega), code_sc _ _ _ _ _ (by decide)]; exact hY5
  have so : sO s = on := sX_of e52 (by omega)
  have e6 : s.2.1 6 = σ.2.1 6 := by rw [h6, code_o _ _ _ _ _ (by decide)]; exact hY1.2
  refine ⟨⟨ht, hf, ?_, ?_, hSV, fun k hk => by rw [hL]; exact hRes k hk, ?_, ?_, ?_⟩, sc, so⟩
  · rw [sc]; rfl
  · rw [so]; rfl
  · unfold N13; rw [e6, hL]; exact hNm
  · rw [hsc 15 (by omega), code_sc _ _ _ _ _ (by decide), hY 15 (by omega)]; exact h15
  · intro i hi
    rw [sc] at hi
    rw [h6]
    have := STq_code (ad := ad) (κ := kF κX 7 (.int (nI on))) (σ := Y) (w := w) (y := y) (z := z) (fun i hi => by rw [eC] at hi; rw [hY1.1]; exact hSt i hi) hw1 hw2 i (by omega)
    rw [eC] at this
    exact this
theorem kF_7 {κX : kS} {on : Nat} (h : κX.1 7 = .int (nI on)) : kF κX 7 (.int (nI on)) = κX := by rw [← h]; exact kF_id κX 7
theorem SV.e53 {σ : mS} {b : Bool} (H : SV σ b) : σ.1 53 = nI (sT σ) ∧ σ.1 54 = nI (sE σ) ∧ σ.1 52 = nI (sO σ) ∧ σ.1 51 = nI (sC σ) ∧ sO σ ≤ 20 ∧ σ.1 55 = bI b := ⟨H.2.2.2.1, H.2.2.2.2.1, H.2.2.1, H.2.1, H.2.2.2.2.2.2.1, H.2.2.2.2.2.1⟩
theorem SN_pop20 {ad : Nat → Nat} {κT κX : kS} {σ : mS} {NM : Nat → Int64} {t : Nat} (H : SNl ad κT κX σ NM true) (ht : sT σ = t + 1) (h20 : σ.2.1 50 t = 20) : SNl ad κT (stK ad κX (sC σ) 14 0 0) (pop20 σ) NM true ∧ sO (pop20 σ) = sO σ ∧ sT (pop20 σ) = t ∧ sE (pop20 σ) = sE σ - 1 := by
  have hV := H.2.2.2.2.1
  have hl := hV.lim
  have q := hV.e53
  have r := SN_code (s := pop20 σ) (Y := mI (mI σ 53 (nI (sT σ - 1))) 54 (nI (sE σ - 1))) (w := 14) (y := 0) (z := 0) (on := sO σ) (κT9 := κT) H (by decide) (by decide) (sen_pop20 (n := 0) hV ht h20).2 rfl (fun _ _ => rfl) ⟨rfl, rfl⟩ (fun k hk => by rw [mI_o _ _ _ _ (by omega), mI_o _ _ _ _ (by omega)]) q.2.2.1 (by omega) rfl (((H.1.tI (by decide)).tI (by decide)).tN.tN.tN.tI (by decide)) H.2.1
  rw [kF_7 H.2.2.2.1] at r
  refine ⟨r.1, r.2.2, by rw [pop20_T hl.1]; omega, ?_⟩
  exact sX_of (show (pop20 σ).1 54 = nI (sE σ - 1) from rfl) (by omega)
theorem SN_popJ {ad : Nat → Nat} {κT κX : kS} {σ : mS} {NM : Nat → Int64} {t w : Nat} (H : SNl ad κT κX σ NM true) (ht : sT σ = t + 1) (hw : w = 12 ∨ w = 13) (hSV : SV (popJ σ (cwd w)) true) : SNl ad κT (stK ad κX (sC σ) w 0 0) (popJ σ (cwd w)) NM true ∧ sO (popJ σ (cwd w)) = sO σ ∧ sT (popJ σ (cwd w)) = t ∧ sE (popJ σ (cwd w)) = sE σ := by
  have hV := H.2.2.2.2.1
  have hl := hV.lim
  have q := hV.e53
  have r := SN_code (s := popJ σ (cwd w)) (Y := mI σ 53 (nI (sT σ - 1))) (w := w) (y := 0) (z := 0) (on := sO σ) (κT9 := κT) H (by omega) (by omega) hSV rfl (fun _ _ => rfl) ⟨rfl, rfl⟩ (fun k hk => by rw [mI_o _ _ _ _ (by omega)]) q.2.2.1 (by omega) rfl ((H.1.tI (by decide)).tN.tN.tN.tI (by decide)) H.2.1
  rw [kF_7 H.2.2.2.1] at r
  exact ⟨r.1, r.2.2, by rw [popJ_T hl.1]; omega, rfl⟩
/-- nothing of the sentence is written -/
theorem SN_same {ad : Nat → Nat} {κT κX κT9 : kS} {σ s : mS} {NM : Nat → Int64} {b b' : Bool} {on : Nat} (H : SNl ad κT κX σ NM b) (hSV : SV s b') (h8 : s.2.1 8 = σ.2.1 8 ∧ s.2.1 6 = σ.2.1 6) (hsc : ∀ k, k = 15 ∨ k = 51 → s.1 k = σ.1 k) (h52 : s.1 52 = nI on) (hon : on < 100) (hL : s.2.2.2.2 = σ.2.2.2.2) (ht : TPR ad κT9 s) (hf : κT9.1 11 = .int (nI 0)) : SNl ad κT9 (kF κX 7 (.int (nI on))) s NM b' ∧ sO s = on := by
  obtain ⟨-, -, hX5, hX7, hV, hRes, hNm, h15, hSt⟩ := H
  have eC : sC s = sC σ := by unfold sC; rw [hsc 51 (by omega)]
  have so : sO s = on := sX_of h52 (by omega)
  refine ⟨⟨ht, hf, ?_, ?_, hSV, fun k hk => by rw [hL]; exact hRes k hk, ?_, ?_, ?_⟩, so⟩
  · rw [eC]; exact hX5
  · rw [so]; rfl
  · unfold N13; rw [h8.2, hL]; exact hNm
  · rw [hsc 15 (by omega)]; exact h15
  · intro i hi
    rw [eC] at hi
    rw [h8.1]
    exact hSt i hi
