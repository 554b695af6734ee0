theorem bhP_x {σ : mS} {x : Nat} (H : SV σ true) (hx : x = 21 ∨ x = 22) (hp : propT σ) : SV (bhP σ x) false ∧ mz (bhP σ x) < mz σ ∧ (bhP σ x).2.1 6 = σ.2.1 6 ∧ (bhP σ x).2.1 8 = σ.2.1 8 ∧ sT (bhP σ x) = sT σ + 1 ∧ (bhP σ x).2.1 50 (sT σ) = x ∧ (∀ j, j < sT σ → (bhP σ x).2.1 50 j = σ.2.1 50 j) ∧ sE (bhP σ x) = sE σ ∧ (bhP σ x).1 52 = nI (sO σ) ∧ (bhP σ x).1 15 = σ.1 15 ∧ (bhP σ x).1 51 = σ.1 51 ∧ (bhP σ x).2.2.2.2 = σ.2.2.2.2 := by
  obtain ⟨h1, h2, h3⟩ := bhP_t H hx hp
  have hl := H.lim
  have q := H.e53
  have sc : ∀ k, ¬ k = 4 ∧ ¬ k = 11 ∧ ¬ k = 12 ∧ ¬ k = 13 ∧ ¬ k = 14 → (bhP σ x).1 k = (mI (mI (mN σ 50 (sT σ) x) 53 (nI (sT σ + 1))) 55 (nI 0)).1 k := fun k hk => nx_sc _ k hk
  have s50 : (bhP σ x).2.1 50 = upN (σ.2.1 50) (sT σ) x := rfl
  refine ⟨h1, h2, h3, rfl, sX_of ((sc 53 (by decide)).trans rfl) (by omega), by rw [s50, upN_s], fun j hj => by rw [s50, upN_n _ _ _ _ (by omega)], ?_, (sc 52 (by decide)).trans q.2.2.1, sc 15 (by decide), sc 51 (by decide), rfl⟩
  exact sX_of ((sc 54 (by decide)).trans q.2.1) (by omega)
theorem SV_c {σ : mS} (H : SV σ true) : sC σ < 40 := by
  obtain ⟨-, -, -, -, -, -, h1, h2, -⟩ := H
  have : b1 true = 1 := rfl
  omega
def SUL (σ : mS) (n : Nat) (σ' : mS) (n' l : Nat) : Prop := senL n σ = senL n' σ' ∧ mz σ' < n' ∧ sT σ' = sT σ ∧ (∀ j, j < sT σ → σ'.2.1 50 j = σ.2.1 50 j) ∧ σ'.2.1 6 = σ.2.1 6 ∧ sE σ' = sE σ ∧ sO σ ≤ sO σ' ∧ (1 ≤ l → ¬ isWordB σ' (wC8 13) = true) ∧ (2 ≤ l → ¬ isWordB σ' (wC8 12) = true)
set_option maxHeartbeats 1000000 in
set_option maxRecDepth 20000 in
theorem c6_lp1 {G : xG} {a ad x c : Nat → Nat} {tw ts dd dp : Nat} {Q : xQ} {R : va_W} {NM : Nat → Int64} (hE : EB ad tw ts G) (ih0 : PSn G a ad x c MX6_readOne dd dp 0) : ∀ (z : Nat) (κT κX : kS) (σ : mS) (n k : Nat), 21 - sO σ = z → k < sO σ → κX.1 0 = .ref (a 13) → κX.1 1 = .ref (c 13) → CHR G R c (σ.2.1 6) NM → σ.2.1 6 0 ≤ 7 → SNl ad κT κX σ NM true → sE σ = dp → mz σ < n → HBs σ 1 → (True) → (∀ σ' n' κT9 κX9, SUL σ n σ' n' 1 → SNl ad κT9 κX9 σ' NM true → κX9.1 0 = κX.1 0 → κX9.1 1 = κX.1 1 → TBs κT κT9 → Q (some (.int (bI true))) (wSe G.2.2.1 x κX9 ++ (wTp G.2.2.1 a κT9 ++ R))) → (∀ σ9 κT9 κX9, senL n σ = (false, σ9) → FRl κT9 σ9 → κX9.1 0 = κX.1 0 → κX9.1 1 = κX.1 1 → TBs κT κT9 → Q (some (.int (bI false))) (wSe G.2.2.1 x κX9 ++ (wTp G.2.2.1 a κT9 ++ R))) → AW G MX6_readAll (dd + 1) 0 0 Q 8 [some (.ref (x 8)), some (.int (nI dp)), some (.int (bI true)), some (.int (nI k))] [] (wSe G.2.2.1 x κX ++ (wTp G.2.2.1 a κT ++ R)) 0 0 := by
  intro z
  induction z using Nat.strongRecOn with
  | ind z ih =>
    intro κT κX σ n k hz hk hX0 hX1 hC h0 H hdp hmz hHB hA k1 k0
    obtain ⟨hT, hf, hX5, hX7, hV, hRes, hNm, h15, hSt⟩ := id H
    obtain ⟨kd, v, r, e8, e9, e10, hr, hkd, tc⟩ := hT.view
    have q53 := hV.e53
    have hl := hV.lim
    refine aw_iload_n (pc := 8) (i := 3) dX6_readAll_8 rfl rfl ?_
    refine aw_bipush (pc := 9) dX6_readAll_9 bipush_20 ?_
    refine an_icmp_ge (pc := 11) (tgt := 70) dX6_readAll_11 rfl (by omega) (by decide) (fun h11 => ?_) (fun h11 => ?_)
    · -- 70
      exfalso; omega
    · -- 14
      refine aw_iload_n (pc := 14) (i := 2) dX6_readAll_14 rfl rfl ?_
      refine ab_if_eq (pc := 15) (tgt := 70) dX6_readAll_15 rfl (fun h15 => absurd h15 (by decide)) (fun h15 => ?_)
      refine aw_aload_n (pc := 18) (i := 0) dX6_readAll_18 rfl rfl ?_
      refine pg_X6_34 (pc := 19) (v := .ref (a 13)) dX6_readAll_19 rfl hX0 ?_
      refine aw_swap ?_
      refine pg_X6_62 (pc := 22) (v := va_rf (Option.map ad r)) dX6_readAll_22 rfl e10 ?_
      refine aw_gsw (pc := 25) (i := 13) dX6_readAll_25 rfl hE (by decide) rfl gs_X6_79 ?_
      refine aw_wcmp_ne (pc := 28) (tgt := 70) dX6_readAll_28 rfl hE hr (wOK_some (by decide)) (fun h28 => ?_) (fun h28 => ?_)
      · -- 70
        refine aw_iload_n (pc := 70) (i := 2) dX6_readAll_70 rfl rfl ?_
        refine aw_swap ?_
        exact ab_ret (pc := 71) dX6_readAll_71 rfl (Nat.le_refl _) (Nat.le_refl _) (k1 σ n κT κX ⟨rfl, hmz, rfl, fun _ _ => rfl, rfl, rfl, Nat.le_refl _, fun _ => (fun e => h28 ((tc.word (by decide)).mp e)), fun h => absurd h (by decide)⟩ H rfl rfl (TBs.rf _))
      · -- 31
        subst h28
        refine aw_aload_n (pc := 31) (i := 0) dX6_readAll_31 rfl rfl ?_
        refine aw_swap ?_
        refine pg_X6_34 (pc := 32) (v := .ref (a 13)) dX6_readAll_32 rfl hX0 ?_
        refine aw_swap ?_
        refine cVv (pc := 35) (As := []) (rest := []) dX6_readAll_35 rfl oc_X6_69 rfl rfl (Nat.le_of_ble_eq_true rfl) rfl rfl ovX8 (Nat.le_refl _) (Nat.le_refl _) (c8_stepR (σ := mI (mI (mN σ 50 (sT σ) 21) 53 (nI (sT σ + 1))) 55 (nI 0)) ((hT.tN.tI (by decide)).tI (by decide)) (Or.inl (show σ.1 11 = nI 1 from line_w tc)) ?_)
        intro κ1 g1 b1 f1
        refine ⟨rfl, ?_⟩
        have hW : isWordB σ (wC8 13) = true := (tc.word (by decide)).mpr rfl
        have bx := bhP_x hV (x := 21) (by decide) (isWord_p hW)
        obtain ⟨m9, rfl⟩ : ∃ m, n = m + 1 := ⟨n - 1, by omega⟩
        have es : senL (m9 + 1) σ = senL m9 (bhP σ 21) := sen_and hV (fun m e => (hHB m e).1 (by decide)) hW
        obtain ⟨s1, hs1⟩ : ∃ x, x = bhP σ 21 := ⟨_, rfl⟩
        have g1 : TPR ad κ1 s1 := by rw [hs1]; exact g1
        rw [← hs1] at bx es
        obtain ⟨bV, bm, b6, b8, bT, bt, bs, bE, b52, b15, b51, bL⟩ := bx
        have H1 := (SN_same H bV ⟨b8, b6⟩ (fun k hk => by rcases hk with rfl | rfl; exact b15; exact b51) b52 (by omega) bL g1 (f1.trans hf))
        rw [kF_7 hX7] at H1
        refine aw_aload_n (pc := 38) (i := 0) dX6_readAll_38 rfl rfl ?_
        refine aw_iload_n (pc := 39) (i := 1) dX6_readAll_39 rfl rfl ?_
        refine aw_swap ?_
        refine cVi (pc := 40) (As := [.int (nI dp)]) (rest := []) dX6_readAll_40 rfl oc_X6_76 rfl rfl (Nat.le_of_ble_eq_true rfl) rfl rfl ovX6 (Nat.le_refl _) (Nat.le_refl _) (ih0 _ _ _ _ s1 NM m9 hX0 hX1 (by rw [b6]; exact hC) (by rw [b6]; exact h0) H1.1 (by rw [bE]; exact hdp) (by omega) (fun m e => by rw [bT] at e; rw [show m = sT σ by omega, bt]; exact ⟨fun h => absurd h (by decide), fun h => absurd h (by decide)⟩) ?_ ?_)
        · -- call
          intro s2 n2 κT2 κX2 U2 H2 qa2 qb2 tb2
          refine ⟨_, rfl, ?_⟩
          obtain ⟨u1, u2, u3, u4, u5, u6, u7, u8, u9⟩ := U2
          obtain ⟨m2, rfl⟩ : ∃ m, n2 = m + 1 := ⟨n2 - 1, by omega⟩
          have hV2 := H2.2.2.2.2.1
          have hl2 := hV2.lim
          have q2 := hV2.e53
          have c2 : sC s2 < 40 := SV_c hV2
          have et : s2.2.1 50 (sT σ) = 21 := by rw [u4 _ (by omega)]; exact bt
          refine ab_if_eq (pc := 43) (tgt := 62) dX6_readAll_43 rfl (fun h43 => absurd h43 (by decide)) (fun h43 => ?_)
          refine aw_aload_n (pc := 46) (i := 0) dX6_readAll_46 rfl rfl ?_
          refine aw_gsw (pc := 47) (i := 13) dX6_readAll_47 rfl hE (by decide) rfl gs_X6_79 ?_
          refine aw_iconst (pc := 50) dX6_readAll_50 iconst_0 ?_
          refine aw_iconst (pc := 51) dX6_readAll_51 iconst_0 ?_
          refine cVi (pc := 52) (As := [va_rf (Option.map ad (some 13)), .int (nI 0), .int (nI 0)]) (rest := []) dX6_readAll_52 rfl oc_X6_72 rfl rfl (Nat.le_of_ble_eq_true rfl) rfl rfl ovX6 (Nat.le_refl _) (Nat.le_refl _) (c6_add hE H2.2.2.1 c2 (by decide) ⟨_, rfl, ?_⟩)
          refine ab_if_eq (pc := 55) (tgt := 62) dX6_readAll_55 rfl (fun h55 => absurd h55 (by decide)) (fun h55 => ?_)
          refine aw_iconst (pc := 58) dX6_readAll_58 iconst_1 ?_
          refine aw_goto (pc := 59) (tgt := 63) dX6_readAll_59 rfl ?_
          refine aw_istore_n (pc := 63) (i := 2) dX6_readAll_63 rfl (Nat.le_of_ble_eq_true rfl) rfl ?_
          refine an_inc (pc := 64) (z := 1) dX6_readAll_64 rfl (Nat.le_of_ble_eq_true rfl) rfl ?_
          refine aw_goto (pc := 67) (tgt := 8) dX6_readAll_67 rfl ?_
          have sp := sen_popA (n := m2) hV2 (t := sT σ) (by omega) et (fun m e => by rw [u4 m (by omega), bs m (by omega)]; exact ((hHB m e).1 (by decide)).1)
          have P := SN_popJ (w := 13) H2 (t := sT σ) (by omega) (by decide) sp.2
          have f3 := SF_popJ s2 21
          have P : SNl ad κT2 (stK ad κX2 (sC s2) 13 0 0) (popJ s2 21) NM true ∧ sO (popJ s2 21) = sO s2 ∧ sT (popJ s2 21) = sT σ ∧ sE (popJ s2 21) = sE s2 := P
          obtain ⟨s3, hs3⟩ : ∃ x, x = popJ s2 21 := ⟨_, rfl⟩
          rw [← hs3] at sp P f3
          obtain ⟨P1, P2, P3, P4⟩ := P
          have so1 : sO s1 = sO σ := H1.2
          have e50 : s3.2.1 50 = s2.2.1 50 := f3.2.1 50 (by decide)
          have e36 : s3.2.1 6 = σ.2.1 6 := (f3.2.1 6 (by decide)).trans (u5.trans b6)
          have est : ∀ j, j < sT σ → s3.2.1 50 j = σ.2.1 50 j := fun j hj => by rw [e50, u4 j (by omega), bs j hj]
          have eall : senL (m9 + 1) σ = senL (m2 + 1) s3 := es.trans (u1.trans sp.1.symm)
          refine ih (21 - sO s3) (by omega) κT2 _ s3 (m2 + 1) (k + 1) rfl (by omega) (qa2.trans hX0) (qb2.trans hX1) (by rw [e36]; exact hC) (by rw [e36]; exact h0) P1 (by omega) (by rw [SF_mz f3]; exact u2) (fun m e => by rw [est m (by omega)]; exact hHB m (by omega)) trivial (fun s9 n9 κT9 κX9 U9 H9 qa qb tb => ?_) (fun s9 κT9 κX9 U9 H9 qa qb tb => ?_)
          · obtain ⟨v1, v2, v3, v4, v5, v6, v7, v8, v9⟩ := U9
            exact k1 s9 n9 κT9 κX9 ⟨eall.trans v1, v2, v3.trans P3, fun j hj => by rw [v4 j (by omega), est j hj], v5.trans e36, by omega, by omega, v8, v9⟩ H9 (qa.trans qa2) (qb.trans qb2) ((b1.tr tb2).tr tb)
          · exact k0 s9 κT9 κX9 (eall.trans U9) H9 (qa.trans qa2) (qb.trans qb2) ((b1.tr tb2).tr tb)
        · -- call
          intro s2 κT2 κX2 e2 g2 qa2 qb2 tb2
          refine ⟨_, rfl, ?_⟩
          refine ab_if_eq (pc := 43) (tgt := 62) dX6_readAll_43 rfl (fun h43 => ?_) (fun h43 => absurd h43 (by decide))
          refine aw_iconst (pc := 62) dX6_readAll_62 iconst_0 ?_
          refine aw_istore_n (pc := 63) (i := 2) dX6_readAll_63 rfl (Nat.le_of_ble_eq_true rfl) rfl ?_
          refine an_inc (pc := 64) (z := 1) dX6_readAll_64 rfl (Nat.le_of_ble_eq_true rfl) rfl ?_
          refine aw_goto (pc := 67) (tgt := 8) dX6_readAll_67 rfl ?_
          refine aw_iload_n (pc := 8) (i := 3) dX6_readAll_8 rfl rfl ?_
          refine aw_bipush (pc := 9) dX6_readAll_9 bipush_20 ?_
          refine an_icmp_ge (pc := 11) (tgt := 70) dX6_readAll_11 rfl (by omega) (by decide) (fun h11 => ?_) (fun h11 => ?_)
          · -- 70
            refine aw_iload_n (pc := 70) (i := 2) dX6_readAll_70 rfl rfl ?_
            exact ab_ret0 (pc := 71) dX6_readAll_71 rfl (Nat.le_refl _) (Nat.le_refl _) (k0 _ _ _ (es.trans e2) g2 qa2 qb2 (b1.tr tb2))
          · -- 14
            refine aw_iload_n (pc := 14) (i := 2) dX6_readAll_14 rfl rfl ?_
            refine an_if_eq (pc := 15) (tgt := 70) dX6_readAll_15 rfl (by decide) (fun h15 => ?_) (fun h15 => absurd h15 (by decide))
            refine aw_iload_n (pc := 70) (i := 2) dX6_readAll_70 rfl rfl ?_
            exact ab_ret0 (pc := 71) dX6_readAll_71 rfl (Nat.le_refl _) (Nat.le_refl _) (k0 _ _ _ (es.trans e2) g2 qa2 qb2 (b1.tr tb2))
set_option maxHeartbeats 1000000 in
set_option maxRecDepth 20000 in
theorem c6_ps1 {G : xG} {a ad x c : Nat → Nat} {tw ts dd dp : Nat} (hE : EB ad tw ts G) (ih0 : PSn G a ad x c MX6_readOne dd dp 0) : PSn G a ad x c MX6_readAll (dd + 1) dp 1 := by
  intro Q R κT κX σ NM n hX0 hX1 hC h0 H hdp hmz hHB k1 k0
  refine mt_start (L := [some (.ref (x 8)), some (.int (nI dp)), none, none]) rfl (Nat.le_of_ble_eq_true rfl) rfl ?_
  refine aw_aload_n (pc := 0) (i := 0) dX6_readAll_0 rfl rfl ?_
  refine aw_iload_n (pc := 1) (i := 1) dX6_readAll_1 rfl rfl ?_
  refine cVi (pc := 2) (As := [.int (nI dp)]) (rest := []) dX6_readAll_2 rfl oc_X6_76 rfl rfl (Nat.le_of_ble_eq_true rfl) rfl rfl ovX6 (Nat.le_refl _) (Nat.le_refl _) (ih0 _ _ _ _ σ NM n hX0 hX1 hC h0 H hdp hmz (fun m e => ⟨fun h => (hHB m e).1 (by omega), fun h => (hHB m e).2 (by omega)⟩) ?_ ?_)
  · -- call
    intro s2 n2 κT2 κX2 U2 H2 qa2 qb2 tb2
    refine ⟨_, rfl, ?_⟩
    obtain ⟨u1, u2, u3, u4, u5, u6, u7, u8, u9⟩ := U2
    refine aw_istore_n (pc := 5) (i := 2) dX6_readAll_5 rfl (Nat.le_of_ble_eq_true rfl) rfl ?_
    refine aw_iconst (pc := 6) dX6_readAll_6 iconst_0 ?_
    refine aw_istore_n (pc := 7) (i := 3) dX6_readAll_7 rfl (Nat.le_of_ble_eq_true rfl) rfl ?_
    refine c6_lp1 hE ih0 _ κT2 κX2 s2 n2 0 rfl (by omega) (qa2.trans hX0) (qb2.trans hX1) (by rw [u5]; exact hC) (by rw [u5]; exact h0) H2 (by omega) u2 (fun m e => by rw [u4 m (by omega)]; exact hHB m (by omega)) trivial (fun s9 n9 κT9 κX9 U9 H9 qa qb tb => ?_) (fun s9 κT9 κX9 U9 H9 qa qb tb => ?_)
    · obtain ⟨v1, v2, v3, v4, v5, v6, v7, v8, v9⟩ := U9
      exact k1 s9 n9 κT9 κX9 ⟨u1.trans v1, v2, v3.trans u3, fun j hj => by rw [v4 j (by omega), u4 j hj], v5.trans u5, by omega, by omega, v8, v9⟩ H9 (qa.trans qa2) (qb.trans qb2) (tb2.tr tb)
    · exact k0 s9 κT9 κX9 (u1.trans U9) H9 (qa.trans qa2) (qb.trans qb2) (tb2.tr tb)
  · -- call
    intro s2 κT2 κX2 e2 g2 qa2 qb2 tb2
    refine ⟨_, rfl, ?_⟩
    refine aw_istore_n (pc := 5) (i := 2) dX6_readAll_5 rfl (Nat.le_of_ble_eq_true rfl) rfl ?_
    refine aw_iconst (pc := 6) dX6_readAll_6 iconst_0 ?_
    refine aw_istore_n (pc := 7) (i := 3) dX6_readAll_7 rfl (Nat.le_of_ble_eq_true rfl) rfl ?_
    refine aw_iload_n (pc := 8) (i := 3) dX6_readAll_8 rfl rfl ?_
    refine aw_bipush (pc := 9) dX6_readAll_9 bipush_20 ?_
    refine an_icmp_ge (pc := 11) (tgt := 70) dX6_readAll_11 rfl (by decide) (by decide) (fun h11 => absurd h11 (by decide)) (fun h11 => ?_)
    refine aw_iload_n (pc := 14) (i := 2) dX6_readAll_14 rfl rfl ?_
    refine ab_if_eq (pc := 15) (tgt := 70) dX6_readAll_15 rfl (fun h15 => ?_) (fun h15 => absurd h15 (by decide))
    refine aw_iload_n (pc := 70) (i := 2) dX6_readAll_70 rfl rfl ?_
    exact ab_ret (pc := 71) dX6_readAll_71 rfl (Nat.le_refl _) (Nat.le_refl _) (k0 _ _ _ e2 g2 qa2 qb2 tb2)
set_option maxHeartbeats 1000000 in
set_option maxRecDepth 20000 in
theorem c6_lp2 {G : xG} {a ad x c : Nat → Nat} {tw ts dd dp : Nat} {Q : xQ} {R : va_W} {NM : Nat → Int64} (hE : EB ad tw ts G) (ih0 : PSn G a ad x c MX6_readAll dd dp 1) : ∀ (z : Nat) (κT κX : kS) (σ : mS) (n k : Nat), 21 - sO σ = z → k < sO σ → κX.1 0 = .ref (a 13) → κX.1 1 = .ref (c 13) → CHR G R c (σ.2.1 6) NM → σ.2.1 6 0 ≤ 7 → SNl ad κT κX σ NM true → sE σ = dp → mz σ < n → HBs σ 2 → (¬ isWordB σ (wC8 13) = true) → (∀ σ' n' κT9 κX9, SUL σ n σ' n' 2 → SNl ad κT9 κX9 σ' NM true → κX9.1 0 = κX.1 0 → κX9.1 1 = κX.1 1 → TBs κT κT9 → Q (some (.int (bI true))) (wSe G.2.2.1 x κX9 ++ (wTp G.2.2.1 a κT9 ++ R))) → (∀ σ9 κT9 κX9, senL n σ = (false, σ9) → FRl κT9 σ9 → κX9.1 0 = κX.1 0 → κX9.1 1 = κX.1 1 → TBs κT κT9 → Q (some (.int (bI false))) (wSe G.2.2.1 x κX9 ++ (wTp G.2.2.1 a κT9 ++ R))) → AW G MX6_readCond (dd + 1) 0 0 Q 8 [some (.ref (x 8)), some (.int (nI dp)), some (.int (bI true)), some (.int (nI k))] [] (wSe G.2.2.1 x κX ++ (wTp G.2.2.1 a κT ++ R)) 0 0 := by
  intro z
  induction z using Nat.strongRecOn with
  | ind z ih =>
    intro κT κX σ n k hz hk hX0 hX1 hC h0 H hdp hmz hHB hA k1 k0
    obtain ⟨hT, hf, hX5, hX7, hV, hRes, hNm, h15, hSt⟩ := id H
    obtain ⟨kd, v, r, e8, e9, e10, hr, hkd, tc⟩ := hT.view
    have q53 := hV.e53
    have hl := hV.lim
    refine aw_iload_n (pc := 8) (i := 3) dX6_readCond_8 rfl rfl ?_
    refine aw_bipush (pc := 9) dX6_readCond_9 bipush_20 ?_
    refine an_icmp_ge (pc := 11) (tgt := 70) dX6_readCond_11 rfl (by omega) (by decide) (fun h11 => ?_) (fun h11 => ?_)
    · -- 70
      exfalso; omega
    · -- 14
      refine aw_iload_n (pc := 14) (i := 2) dX6_readCond_14 rfl rfl ?_
      refine ab_if_eq (pc := 15) (tgt := 70) dX6_readCond_15 rfl (fun h15 => absurd h15 (by decide)) (fun h15 => ?_)
      refine aw_aload_n (pc := 18) (i := 0) dX6_readCond_18 rfl rfl ?_
      refine pg_X6_34 (pc := 19) (v := .ref (a 13)) dX6_readCond_19 rfl hX0 ?_
      refine aw_swap ?_
      refine pg_X6_62 (pc := 22) (v := va_rf (Option.map ad r)) dX6_readCond_22 rfl e10 ?_
      refine aw_gsw (pc := 25) (i := 12) dX6_readCond_25 rfl hE (by decide) rfl gs_X6_66 ?_
      refine aw_wcmp_ne (pc := 28) (tgt := 70) dX6_readCond_28 rfl hE hr (wOK_some (by decide)) (fun h28 => ?_) (fun h28 => ?_)
      · -- 70
        refine aw_iload_n (pc := 70) (i := 2) dX6_readCond_70 rfl rfl ?_
        refine aw_swap ?_
        exact ab_ret (pc := 71) dX6_readCond_71 rfl (Nat.le_refl _) (Nat.le_refl _) (k1 σ n κT κX ⟨rfl, hmz, rfl, fun _ _ => rfl, rfl, rfl, Nat.le_refl _, fun _ => hA, fun _ => (fun e => h28 ((tc.word (by decide)).mp e))⟩ H rfl rfl (TBs.rf _))
      · -- 31
        subst h28
        refine aw_aload_n (pc := 31) (i := 0) dX6_readCond_31 rfl rfl ?_
        refine aw_swap ?_
        refine pg_X6_34 (pc := 32) (v := .ref (a 13)) dX6_readCond_32 rfl hX0 ?_
        refine aw_swap ?_
        refine cVv (pc := 35) (As := []) (rest := []) dX6_readCond_35 rfl oc_X6_69 rfl rfl (Nat.le_of_ble_eq_true rfl) rfl rfl ovX8 (Nat.le_refl _) (Nat.le_refl _) (c8_stepR (σ := mI (mI (mN σ 50 (sT σ) 22) 53 (nI (sT σ + 1))) 55 (nI 0)) ((hT.tN.tI (by decide)).tI (by decide)) (Or.inl (show σ.1 11 = nI 1 from line_w tc)) ?_)
        intro κ1 g1 b1 f1
        refine ⟨rfl, ?_⟩
        have hW : isWordB σ (wC8 12) = true := (tc.word (by decide)).mpr rfl
        have bx := bhP_x hV (x := 22) (by decide) (isWord_p hW)
        obtain ⟨m9, rfl⟩ : ∃ m, n = m + 1 := ⟨n - 1, by omega⟩
        have es : senL (m9 + 1) σ = senL m9 (bhP σ 22) := sen_or hV (fun m e => ⟨((hHB m e).1 (by decide)).1, ((hHB m e).1 (by decide)).2, (hHB m e).2 (by decide)⟩) hW
        obtain ⟨s1, hs1⟩ : ∃ x, x = bhP σ 22 := ⟨_, rfl⟩
        have g1 : TPR ad κ1 s1 := by rw [hs1]; exact g1
        rw [← hs1] at bx es
        obtain ⟨bV, bm, b6, b8, bT, bt, bs, bE, b52, b15, b51, bL⟩ := bx
        have H1 := (SN_same H bV ⟨b8, b6⟩ (fun k hk => by rcases hk with rfl | rfl; exact b15; exact b51) b52 (by omega) bL g1 (f1.trans hf))
        rw [kF_7 hX7] at H1
        refine aw_aload_n (pc := 38) (i := 0) dX6_readCond_38 rfl rfl ?_
        refine aw_iload_n (pc := 39) (i := 1) dX6_readCond_39 rfl rfl ?_
        refine aw_swap ?_
        refine cVi (pc := 40) (As := [.int (nI dp)]) (rest := []) dX6_readCond_40 rfl oc_X6_59 rfl rfl (Nat.le_of_ble_eq_true rfl) rfl rfl ovX6 (Nat.le_refl _) (Nat.le_refl _) (ih0 _ _ _ _ s1 NM m9 hX0 hX1 (by rw [b6]; exact hC) (by rw [b6]; exact h0) H1.1 (by rw [bE]; exact hdp) (by omega) (fun m e => by rw [bT] at e; rw [show m = sT σ by omega, bt]; exact ⟨fun _ => by decide, fun h => absurd h (by decide)⟩) ?_ ?_)
        · -- call
          intro s2 n2 κT2 κX2 U2 H2 qa2 qb2 tb2
          refine ⟨_, rfl, ?_⟩
          obtain ⟨u1, u2, u3, u4, u5, u6, u7, u8, u9⟩ := U2
          obtain ⟨m2, rfl⟩ : ∃ m, n2 = m + 1 := ⟨n2 - 1, by omega⟩
          have hV2 := H2.2.2.2.2.1
          have hl2 := hV2.lim
          have q2 := hV2.e53
          have c2 : sC s2 < 40 := SV_c hV2
          have et : s2.2.1 50 (sT σ) = 22 := by rw [u4 _ (by omega)]; exact bt
          refine ab_if_eq (pc := 43) (tgt := 62) dX6_readCond_43 rfl (fun h43 => absurd h43 (by decide)) (fun h43 => ?_)
          refine aw_aload_n (pc := 46) (i := 0) dX6_readCond_46 rfl rfl ?_
          refine aw_gsw (pc := 47) (i := 12) dX6_readCond_47 rfl hE (by decide) rfl gs_X6_66 ?_
          refine aw_iconst (pc := 50) dX6_readCond_50 iconst_0 ?_
          refine aw_iconst (pc := 51) dX6_readCond_51 iconst_0 ?_
          refine cVi (pc := 52) (As := [va_rf (Option.map ad (some 12)), .int (nI 0), .int (nI 0)]) (rest := []) dX6_readCond_52 rfl oc_X6_72 rfl rfl (Nat.le_of_ble_eq_true rfl) rfl rfl ovX6 (Nat.le_refl _) (Nat.le_refl _) (c6_add hE H2.2.2.1 c2 (by decide) ⟨_, rfl, ?_⟩)
          refine ab_if_eq (pc := 55) (tgt := 62) dX6_readCond_55 rfl (fun h55 => absurd h55 (by decide)) (fun h55 => ?_)
          refine aw_iconst (pc := 58) dX6_readCond_58 iconst_1 ?_
          refine aw_goto (pc := 59) (tgt := 63) dX6_readCond_59 rfl ?_
          refine aw_istore_n (pc := 63) (i := 2) dX6_readCond_63 rfl (Nat.le_of_ble_eq_true rfl) rfl ?_
          refine an_inc (pc := 64) (z := 1) dX6_readCond_64 rfl (Nat.le_of_ble_eq_true rfl) rfl ?_
          refine aw_goto (pc := 67) (tgt := 8) dX6_readCond_67 rfl ?_
          have sp := sen_popO (n := m2) hV2 (t := sT σ) (by omega) et (fun m e => by rw [u4 m (by omega), bs m (by omega)]; exact ((hHB m e).1 (by decide)).1) (u8 (by decide))
          have P := SN_popJ (w := 12) H2 (t := sT σ) (by omega) (by decide) sp.2
          have f3 := SF_popJ s2 22
          have P : SNl ad κT2 (stK ad κX2 (sC s2) 12 0 0) (popJ s2 22) NM true ∧ sO (popJ s2 22) = sO s2 ∧ sT (popJ s2 22) = sT σ ∧ sE (popJ s2 22) = sE s2 := P
          obtain ⟨s3, hs3⟩ : ∃ x, x = popJ s2 22 := ⟨_, rfl⟩
          rw [← hs3] at sp P f3
          obtain ⟨P1, P2, P3, P4⟩ := P
          have so1 : sO s1 = sO σ := H1.2
          have e50 : s3.2.1 50 = s2.2.1 50 := f3.2.1 50 (by decide)
          have e36 : s3.2.1 6 = σ.2.1 6 := (f3.2.1 6 (by decide)).trans (u5.trans b6)
          have est : ∀ j, j < sT σ → s3.2.1 50 j = σ.2.1 50 j := fun j hj => by rw [e50, u4 j (by omega), bs j hj]
          have eall : senL (m9 + 1) σ = senL (m2 + 1) s3 := es.trans (u1.trans sp.1.symm)
          refine ih (21 - sO s3) (by omega) κT2 _ s3 (m2 + 1) (k + 1) rfl (by omega) (qa2.trans hX0) (qb2.trans hX1) (by rw [e36]; exact hC) (by rw [e36]; exact h0) P1 (by omega) (by rw [SF_mz f3]; exact u2) (fun m e => by rw [est m (by omega)]; exact hHB m (by omega)) (by rw [SF_word f3]; exact u8 (by decide)) (fun s9 n9 κT9 κX9 U9 H9 qa qb tb => ?_) (fun s9 κT9 κX9 U9 H9 qa qb tb => ?_)
          · obtain ⟨v1, v2, v3, v4, v5, v6, v7, v8, v9⟩ := U9
            exact k1 s9 n9 κT9 κX9 ⟨eall.trans v1, v2, v3.trans P3, fun j hj => by rw [v4 j (by omega), est j hj], v5.trans e36, by omega, by omega, v8, v9⟩ H9 (qa.trans qa2) (qb.trans qb2) ((b1.tr tb2).tr tb)
          · exact k0 s9 κT9 κX9 (eall.trans U9) H9 (qa.trans qa2) (qb.trans qb2) ((b1.tr tb2).tr tb)
        · -- call
          intro s2 κT2 κX2 e2 g2 qa2 qb2 tb2
          refine ⟨_, rfl, ?_⟩
          refine ab_if_eq (pc := 43) (tgt := 62) dX6_readCond_43 rfl (fun h43 => ?_) (fun h43 => absurd h43 (by decide))
          refine aw_iconst (pc := 62) dX6_readCond_62 iconst_0 ?_
          refine aw_istore_n (pc := 63) (i := 2) dX6_readCond_63 rfl (Nat.le_of_ble_eq_true rfl) rfl ?_
          refine an_inc (pc := 64) (z := 1) dX6_readCond_64 rfl (Nat.le_of_ble_eq_true rfl) rfl ?_
          refine aw_goto (pc := 67) (tgt := 8) dX6_readCond_67 rfl ?_
          refine aw_iload_n (pc := 8) (i := 3) dX6_readCond_8 rfl rfl ?_
          refine aw_bipush (pc := 9) dX6_readCond_9 bipush_20 ?_
          refine an_icmp_ge (pc := 11) (tgt := 70) dX6_readCond_11 rfl (by omega) (by decide) (fun h11 => ?_) (fun h11 => ?_)
          · -- 70
            refine aw_iload_n (pc := 70) (i := 2) dX6_readCond_70 rfl rfl ?_
            exact ab_ret0 (pc := 71) dX6_readCond_71 rfl (Nat.le_refl _) (Nat.le_refl _) (k0 _ _ _ (es.trans e2) g2 qa2 qb2 (b1.tr tb2))
          · -- 14
            refine aw_iload_n (pc := 14) (i := 2) dX6_readCond_14 rfl rfl ?_
            refine an_if_eq (pc := 15) (tgt := 70) dX6_readCond_15 rfl (by decide) (fun h15 => ?_) (fun h15 => absurd h15 (by decide))
            refine aw_iload_n (pc := 70) (i := 2) dX6_readCond_70 rfl rfl ?_
            exact ab_ret0 (pc := 71) dX6_readCond_71 rfl (Nat.le_refl _) (Nat.le_refl _) (k0 _ _ _ (es.trans e2) g2 qa2 qb2 (b1.tr tb2))
set_option maxHeartbeats 1000000 in
set_option maxRecDepth 20000 in
theorem c6_ps2 {G : xG} {a ad x c : Nat → Nat} {tw ts dd dp : Nat} (hE : EB ad tw ts G) (ih0 : PSn G a ad x c MX6_readAll dd dp 1) : PSn G a ad x c MX6_readCond (dd + 1) dp 2 := by
  intro Q R κT κX σ NM n hX0 hX1 hC h0 H hdp hmz hHB k1 k0
  refine mt_start (L := [some (.ref (x 8)), some (.int (nI dp)), none, none]) rfl (Nat.le_of_ble_eq_true rfl) rfl ?_
  refine aw_aload_n (pc := 0) (i := 0) dX6_readCond_0 rfl rfl ?_
  refine aw_iload_n (pc := 1) (i := 1) dX6_readCond_1 rfl rfl ?_
  refine cVi (pc := 2) (As := [.int (nI dp)]) (rest := []) dX6_readCond_2 rfl oc_X6_59 rfl rfl (Nat.le_of_ble_eq_true rfl) rfl rfl ovX6 (Nat.le_refl _) (Nat.le_refl _) (ih0 _ _ _ _ σ NM n hX0 hX1 hC h0 H hdp hmz (fun m e => ⟨fun h => (hHB m e).1 (by omega), fun h => (hHB m e).2 (by omega)⟩) ?_ ?_)
  · -- call
    intro s2 n2 κT2 κX2 U2 H2 qa2 qb2 tb2
    refine ⟨_, rfl, ?_⟩
    obtain ⟨u1, u2, u3, u4, u5, u6, u7, u8, u9⟩ := U2
    refine aw_istore_n (pc := 5) (i := 2) dX6_readCond_5 rfl (Nat.le_of_ble_eq_true rfl) rfl ?_
    refine aw_iconst (pc := 6) dX6_readCond_6 iconst_0 ?_
    refine aw_istore_n (pc := 7) (i := 3) dX6_readCond_7 rfl (Nat.le_of_ble_eq_true rfl) rfl ?_
    refine c6_lp2 hE ih0 _ κT2 κX2 s2 n2 0 rfl (by omega) (qa2.trans hX0) (qb2.trans hX1) (by rw [u5]; exact hC) (by rw [u5]; exact h0) H2 (by omega) u2 (fun m e => by rw [u4 m (by omega)]; exact hHB m (by omega)) (u8 (by decide)) (fun s9 n9 κT9 κX9 U9 H9 qa qb tb => ?_) (fun s9 κT9 κX9 U9 H9 qa qb tb => ?_)
    · obtain ⟨v1, v2, v3, v4, v5, v6, v7, v8, v9⟩ := U9
      exact k1 s9 n9 κT9 κX9 ⟨u1.trans v1, v2, v3.trans u3, fun j hj => by rw [v4 j (by omega), u4 j hj], v5.trans u5, by omega, by omega, v8, v9⟩ H9 (qa.trans qa2) (qb.trans qb2) (tb2.tr tb)
    · exact k0 s9 κT9 κX9 (u1.trans U9) H9 (qa.trans qa2) (qb.trans qb2) (tb2.tr tb)
  · -- call
    intro s2 κT2 κX2 e2 g2 qa2 qb2 tb2
    refine ⟨_, rfl, ?_⟩
    refine aw_istore_n (pc := 5) (i := 2) dX6_readCond_5 rfl (Nat.le_of_ble_eq_true rfl) rfl ?_
    refine aw_iconst (pc := 6) dX6_readCond_6 iconst_0 ?_
    refine aw_istore_n (pc := 7) (i := 3) dX6_readCond_7 rfl (Nat.le_of_ble_eq_true rfl) rfl ?_
    refine aw_iload_n (pc := 8) (i := 3) dX6_readCond_8 rfl rfl ?_
    refine aw_bipush (pc := 9) dX6_readCond_9 bipush_20 ?_
    refine an_icmp_ge (pc := 11) (tgt := 70) dX6_readCond_11 rfl (by decide) (by decide) (fun h11 => absurd h11 (by decide)) (fun h11 => ?_)
    refine aw_iload_n (pc := 14) (i := 2) dX6_readCond_14 rfl rfl ?_
    refine ab_if_eq (pc := 15) (tgt := 70) dX6_readCond_15 rfl (fun h15 => ?_) (fun h15 => absurd h15 (by decide))
    refine aw_iload_n (pc := 70) (i := 2) dX6_readCond_70 rfl rfl ?_
    exact ab_ret (pc := 71) dX6_readCond_71 rfl (Nat.le_refl _) (Nat.le_refl _) (k0 _ _ _ e2 g2 qa2 qb2 tb2)
