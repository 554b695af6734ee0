theorem sen_ind {G : xG} {a ad x c : Nat → Nat} {tw ts : Nat} (hE : EB ad tw ts G) : ∀ (e d dp : Nat), dp + e = 9 → PSn G a ad x c MX6_readOne (d + 3 * e + 4) dp 0 := by
  intro e
  induction e with
  | zero => intro d dp h; exact c6_ps0 hE (fun h9 => by omega)
  | succ e ih =>
    intro d dp h
    have h1 := ih d (dp + 1) (by omega)
    have h2 := ih (d + 2) (dp + 1) (by omega)
    have h3 := c6_ps2 hE (c6_ps1 hE h1)
    have r := c6_ps0 (d := d + 3 * e + 3) (dp := dp) hE (fun _ => ⟨h3, by rw [show d + 3 * e + 3 + 3 = d + 2 + 3 * e + 4 by omega]; exact h2⟩)
    rw [show d + 3 * e + 3 + 4 = d + 3 * (e + 1) + 4 by omega] at r
    exact r
theorem c6_cond {G : xG} {a ad x c : Nat → Nat} {tw ts d : Nat} (hE : EB ad tw ts G) : PSn G a ad x c MX6_readCond (d + 30) 1 2 := c6_ps2 hE (c6_ps1 hE (sen_ind hE 8 d 1 rfl))
theorem senB_s (σ : mS) (n : Nat) : (senB σ n).1 3 = nI n ∧ (senB σ n).1 4 = nI 0 ∧ (senB σ n).1 5 = nI 200 ∧ (senB σ n).2 = σ.2 ∧ (senB σ n).1 15 = nI 0 ∧ (senB σ n).1 51 = nI 0 ∧ (senB σ n).1 52 = nI 0 ∧ (senB σ n).1 53 = nI 0 ∧ (senB σ n).1 54 = nI 1 := ⟨rfl, rfl, rfl, rfl, rfl, rfl, rfl, rfl, rfl⟩
set_option maxHeartbeats 1000000 in
set_option maxRecDepth 20000 in
theorem c6_read {G : xG} {d : Nat} {Q : xQ} {a ad x c : Nat → Nat} {tw ts : Nat} {κT κX : kS} {R : va_W} {σ : mS} {NM : Nat → Int64} {n : Nat} (hE : EB ad tw ts G) (hNB : NB G) (hX0 : κX.1 0 = .ref (a 13)) (hX1 : κX.1 1 = .ref (c 13)) (hX5 : κX.1 5 = .int (nI 0)) (hX7 : κX.1 7 = .int (nI 0)) (hT0 : TB κT (σ.2.2.1 1) n) (hv : PV (senB σ n)) (hC : CHR G R c (σ.2.1 6) NM) (h0 : σ.2.1 6 0 ≤ 7) (hRes : RES σ) (hNm : N13 σ 0 (σ.2.1 6 0) NM) (k1 : ∀ s, senR σ n = (true, s) → ∀ κT9 κX9, SNl ad κT9 κX9 s NM true → sT s = 0 → 1 ≤ sO s → s.2.1 6 = σ.2.1 6 → κX9.1 0 = κX.1 0 → κX9.1 1 = κX.1 1 → TBs κT κT9 → Q none (wSe G.2.2.1 x κX9 ++ (wTp G.2.2.1 a κT9 ++ R))) (k0 : ∀ s, senR σ n = (false, s) → ∀ κT9 κX9, FRl κT9 s → κX9.1 0 = κX.1 0 → κX9.1 1 = κX.1 1 → TBs κT κT9 → Q none (wSe G.2.2.1 x κX9 ++ (wTp G.2.2.1 a κT9 ++ R))) : MT G MX6_read (d + 31) 0 0 [.ref (x 8)] (wSe G.2.2.1 x κX ++ (wTp G.2.2.1 a κT ++ R)) Q := by
  refine mt_start (L := [some (.ref (x 8))]) rfl (Nat.le_of_ble_eq_true rfl) rfl ?_
  refine aw_aload_n (pc := 0) (i := 0) dX6_read_0 rfl rfl ?_
  refine pg_X6_34 (pc := 1) (v := .ref (a 13)) dX6_read_1 rfl hX0 ?_
  refine aw_sipush (pc := 4) dX6_read_4 sipush_200 ?_
  refine aw_swap ?_
  refine cVv (pc := 7) (As := [.int (nI 200)]) (rest := []) dX6_read_7 rfl oc_X6_42 rfl rfl (Nat.le_of_ble_eq_true rfl) rfl rfl ovX8 (Nat.le_refl _) (Nat.le_refl _) (c8_begin hE hNB hT0 (by decide) ?_)
  intro κT8 nT p8 b8 f8 q8
  refine ⟨rfl, ?_⟩
  have z := senB_s σ n
  have ht := TPR_start z.1 hT0.2.1 z.2.1 z.2.2.1 (by decide) (show (senB σ n).2.2.1 1 = σ.2.2.1 1 from rfl) p8
  have hV := SV_senB hv
  have hmz := mz_941 hV.1
  have nn := NXF_nx (senB σ n)
  have eR : senR σ n = senL 2000 (nx (senB σ n)) := rfl
  have e2 : (nx (senB σ n)).2.1 = σ.2.1 := nn.1
  obtain ⟨s1, hs1⟩ : ∃ x, x = nx (senB σ n) := ⟨_, rfl⟩
  rw [← hs1] at ht hV hmz nn eR e2
  have c51 : sC s1 = 0 := sX_of ((nn.2.2.2 51 (by decide) (by decide) (by decide) (by decide) (by decide) (by decide)).trans z.2.2.2.2.2.1) (by decide)
  have c52 : sO s1 = 0 := sX_of ((nn.2.2.2 52 (by decide) (by decide) (by decide) (by decide) (by decide) (by decide)).trans z.2.2.2.2.2.2.1) (by decide)
  have c53 : sT s1 = 0 := sX_of ((nn.2.2.2 53 (by decide) (by decide) (by decide) (by decide) (by decide) (by decide)).trans z.2.2.2.2.2.2.2.1) (by decide)
  have c54 : sE s1 = 1 := sX_of ((nn.2.2.2 54 (by decide) (by decide) (by decide) (by decide) (by decide) (by decide)).trans z.2.2.2.2.2.2.2.2) (by decide)
  have H1 : SNl ad κT8 κX s1 NM false := ⟨ht, f8, by rw [c51]; exact hX5, by rw [c52]; exact hX7, hV, fun k hk => by rw [nn.2.2.1]; exact hRes k hk, by unfold N13; rw [e2, nn.2.2.1]; exact hNm, (nn.2.2.2 15 (by decide) (by decide) (by decide) (by decide) (by decide) (by decide)).trans z.2.2.2.2.1, fun i hi => by omega⟩
  refine aw_aload_n (pc := 10) (i := 0) dX6_read_10 rfl rfl ?_
  refine aw_iconst (pc := 11) dX6_read_11 iconst_1 ?_
  refine aw_swap ?_
  refine cVi (pc := 12) (As := [.int (nI 1)]) (rest := []) dX6_read_12 rfl oc_X6_48 rfl rfl (Nat.le_of_ble_eq_true rfl) rfl rfl ovX6 (Nat.le_refl _) (Nat.le_refl _) (c6_cond hE _ _ _ _ s1 NM 2000 hX0 hX1 (by rw [e2]; exact hC) (by rw [e2]; exact h0) H1 c54 (by omega) (fun m e => by omega) ?_ ?_)
  · -- call
    intro s2 n2 κT2 κX2 U2 H2 qa2 qb2 tb2
    refine ⟨_, rfl, ?_⟩
    obtain ⟨u1, u2, u3, u4, u5, u6, u7, u8, u9⟩ := U2
    obtain ⟨m2, rfl⟩ : ∃ m, n2 = m + 1 := ⟨n2 - 1, by omega⟩
    have fin := sen_fin (n := m2) H2.2.2.2.2.1 (by omega) (u8 (by decide)) (u9 (by decide))
    refine ab_if_eq (pc := 15) (tgt := 37) dX6_read_15 rfl (fun h15 => absurd h15 (by decide)) (fun h15 => ?_)
    refine aw_aload_n (pc := 18) (i := 0) dX6_read_18 rfl rfl ?_
    refine pg_X6_34 (pc := 19) (v := .ref (a 13)) dX6_read_19 rfl (qa2.trans hX0) ?_
    refine aw_swap ?_
    refine cVi (pc := 22) (As := []) (rest := []) dX6_read_22 rfl oc_X6_52 rfl rfl (Nat.le_of_ble_eq_true rfl) rfl rfl ovX8 (Nat.le_refl _) (Nat.le_refl _) (c8_atEnd H2.1 ⟨_, rfl, ?_⟩)
    refine ab_if_ne (pc := 25) (tgt := 37) dX6_read_25 rfl (fun h25 => ?_) (fun h25 => ?_)
    · -- 37
      refine aw_swap ?_
      exact aw_vret (pc := 37) dX6_read_37 rfl (Nat.le_refl _) (Nat.le_refl _) (k1 s2 (eR.trans (u1.trans (fin.trans (if_pos (of_decide_eq_true h25))))) _ _ H2 (by omega) (by omega) (u5.trans (by rw [e2])) qa2 qb2 (b8.tr tb2))
    · -- 28
      refine aw_aload_n (pc := 28) (i := 0) dX6_read_28 rfl rfl ?_
      refine aw_swap ?_
      refine pg_X6_34 (pc := 29) (v := .ref (a 13)) dX6_read_29 rfl (qa2.trans hX0) ?_
      refine aw_iconst (pc := 32) dX6_read_32 iconst_1 ?_
      refine aw_swap ?_
      refine cVi (pc := 33) (As := [.int (nI 1)]) (rest := []) dX6_read_33 rfl oc_X6_56 rfl rfl (Nat.le_of_ble_eq_true rfl) rfl rfl ovX8 (Nat.le_refl _) (Nat.le_refl _) (c8_refuse (σ := s2) H2.1 H2.2.1 ?_)
      intro κ1 g1 p1 b1
      refine ⟨_, rfl, ?_⟩
      refine aw_pop (pc := 36) dX6_read_36 rfl ?_
      refine aw_swap ?_
      exact aw_vret (pc := 37) dX6_read_37 rfl (Nat.le_refl _) (Nat.le_refl _) (k0 _ (eR.trans (u1.trans (fin.trans (if_neg (of_decide_eq_false h25))))) _ _ ⟨g1, p1⟩ qa2 qb2 ((b8.tr tb2).tr b1))
  · -- call
    intro s2 κT2 κX2 e2 g2 qa2 qb2 tb2
    refine ⟨_, rfl, ?_⟩
    refine ab_if_eq (pc := 15) (tgt := 37) dX6_read_15 rfl (fun h15 => ?_) (fun h15 => absurd h15 (by decide))
    exact aw_vret (pc := 37) dX6_read_37 rfl (Nat.le_refl _) (Nat.le_refl _) (k0 _ (eR.trans e2) _ _ g2 qa2 qb2 (b8.tr tb2))
