set_option maxHeartbeats 1000000 in
set_option maxRecDepth 20000 in
theorem pers_loop {G : xG} {d : Nat} {Q : xQ} {a : Nat → Nat} {σ : mS} {y : Int32 × (Nat → Nat)} {b m dn : Nat} {fr : Int32} {v5 : Option Value} (hb : b + 126 ≤ 2 ^ 29) (hb5 : 500 ≤ b) (H : WV y.2 b) (kk : ∀ v6, AW G MX12_draws (d + 4) 0 0 Q 115 [some (.ref (a 60)), some (.int (nI m)), some (.int fr), some (.int (nI dn)), some (.int (nI (y.2 2))), v6] [] (mW G.2.2.1 a (drS σ (perG y (y.2 2)))) 0 0) : ∀ (n i : Nat) (v5 : Option Value), i + n = y.2 2 → AW G MX12_draws (d + 4) 0 0 Q 67 [some (.ref (a 60)), some (.int (nI m)), some (.int fr), some (.int (nI dn)), some (.int (nI i)), v5] [] (mW G.2.2.1 a (drS σ (perG y i))) 0 0 := by
  have h6 := H.1.1.2.2.2.1
  intro n
  induction n with
  | zero =>
    intro i v5 hi
    obtain ⟨p1, p2, p3, p4, p5⟩ := perG_keep hb hb5 H i (by omega)
    generalize hz : perG y i = z at *
    refine aw_iload (pc := 67) dX12_draws_67 rfl ?_
    refine aw_aload_n (pc := 69) (i := 0) dX12_draws_69 rfl rfl ?_
    refine mg_s (pc := 70) dX12_draws_70 rfl ?_
    refine aw_iconst (pc := 73) dX12_draws_73 iconst_2 ?_
    refine ml_s (pc := 74) dX12_draws_74 (by decide) ?_
    refine aw_top (y := (nI (z.2 2))) rfl ?_
    refine an_icmp_ge (pc := 75) (tgt := 115) dX12_draws_75 rfl (by omega) (Nat.lt_trans (p1.1.1.1 _) (by decide)) (fun h75 => ?_) (fun h75 => ?_)
    · -- 115
      have e : i = y.2 2 := by omega
      subst e
      subst hz
      exact kk _
    · -- 78
      exfalso; omega
  | succ n ih =>
    intro i v5 hi
    obtain ⟨p1, p2, p3, p4, p5⟩ := perG_keep hb hb5 H i (by omega)
    have hp := p1.1.1.2.2.2.2.2.1 i (by omega)
    have h07 := p1.1.1.2.1
    have h112 := p1.1.1.2.2.1
    have hdl := drN_lt (perG y i).1 (n := (perG y i).2 0) (by omega)
    have hps : perG y (i + 1) = perS (perG y i) i := rfl
    generalize hz : perG y i = z at *
    generalize hl : drN z.1 (z.2 0) = l at *
    refine aw_iload (pc := 67) dX12_draws_67 rfl ?_
    refine aw_aload_n (pc := 69) (i := 0) dX12_draws_69 rfl rfl ?_
    refine mg_s (pc := 70) dX12_draws_70 rfl ?_
    refine aw_iconst (pc := 73) dX12_draws_73 iconst_2 ?_
    refine ml_s (pc := 74) dX12_draws_74 (by decide) ?_
    refine aw_top (y := (nI (z.2 2))) rfl ?_
    refine an_icmp_ge (pc := 75) (tgt := 115) dX12_draws_75 rfl (by omega) (Nat.lt_trans (p1.1.1.1 _) (by decide)) (fun h75 => ?_) (fun h75 => ?_)
    · -- 115
      exfalso; omega
    · -- 78
      refine aw_aload_n (pc := 78) (i := 0) dX12_draws_78 rfl rfl ?_
      refine aw_aload_n (pc := 79) (i := 0) dX12_draws_79 rfl rfl ?_
      refine mg_s (pc := 80) dX12_draws_80 rfl ?_
      refine aw_iconst (pc := 83) dX12_draws_83 iconst_0 ?_
      refine ml_s (pc := 84) dX12_draws_84 (by decide) ?_
      refine aw_top (y := (nI (z.2 0))) rfl ?_
      refine mc_I (pc := 85) (As := [.int (nI (z.2 0))]) (rest := []) dX12_draws_85 rfl ok_X12_432 rfl rfl rfl (Nat.le_of_ble_eq_true rfl) (s_draw (by omega) (by omega) ⟨_, _, rfl, rfl, ?_⟩)
      refine aw_top (y := nI l) (congrArg nI hl) ?_
      refine aw_ws (w9 := mW G.2.2.1 a (drS σ (sdF z.1, z.2))) rfl ?_
      refine aw_istore (pc := 88) (i := 5) dX12_draws_88 (Nat.le_of_ble_eq_true rfl) rfl ?_
      refine aw_aload_n (pc := 90) (i := 0) dX12_draws_90 rfl rfl ?_
      refine aw_iload (pc := 91) dX12_draws_91 rfl ?_
      refine aw_iload (pc := 93) dX12_draws_93 rfl ?_
      refine mc_I (pc := 95) (As := [.int (nI i), .int (nI l)]) (rest := []) dX12_draws_95 rfl ok_X12_292 rfl rfl rfl (Nat.le_of_ble_eq_true rfl) (s_whyCross p1.1.1.1 h112 (by omega) (show z.2 (79 + i) < 7 by omega) (by omega) ⟨_, _, rfl, rfl, ?_⟩)
      refine aw_top (y := nI (whyX z.2 i l)) rfl ?_
      refine an_if_ne (pc := 98) (tgt := 109) dX12_draws_98 rfl (whyX_lt _ _ _) (fun h98 => ?_) (fun h98 => ?_)
      · -- 109
        refine an_inc (pc := 109) (z := 1) dX12_draws_109 rfl (Nat.le_of_ble_eq_true rfl) rfl ?_
        refine aw_goto (pc := 112) (tgt := 67) dX12_draws_112 rfl ?_
        refine aw_ws (w9 := mW G.2.2.1 a (drS σ (perG y (i + 1)))) (by rw [hps, perS, hl, if_neg (Nat.ne_of_gt h98)]) ?_
        exact ih (i + 1) _ (by omega)
      · -- 101
        refine aw_aload_n (pc := 101) (i := 0) dX12_draws_101 rfl rfl ?_
        refine aw_iload (pc := 102) dX12_draws_102 rfl ?_
        refine aw_iload (pc := 104) dX12_draws_104 rfl ?_
        refine mc_V (pc := 106) (As := [.int (nI i), .int (nI l)]) (rest := []) dX12_draws_106 rfl ok_X12_330 rfl rfl rfl (Nat.le_of_ble_eq_true rfl) (s_crosses (fun j => Nat.lt_of_lt_of_le (p1.1.2 j) (by omega)) (by omega) (by omega) (show z.2 (79 + i) < 7 by omega) (show z.2 (114 + i) ≤ 240 by omega) (Or.inr (whyX_0 h98)) ⟨_, rfl, rfl, ?_⟩)
        refine aw_ws (w9 := mW G.2.2.1 a (drS σ (sdF z.1, crossF z.2 i l))) rfl ?_
        refine an_inc (pc := 109) (z := 1) dX12_draws_109 rfl (Nat.le_of_ble_eq_true rfl) rfl ?_
        refine aw_goto (pc := 112) (tgt := 67) dX12_draws_112 rfl ?_
        refine aw_ws (w9 := mW G.2.2.1 a (drS σ (perG y (i + 1)))) (by rw [hps, perS, hl, if_pos h98]) ?_
        exact ih (i + 1) _ (by omega)
set_option maxHeartbeats 1000000 in
set_option maxRecDepth 20000 in
theorem draws_loop {G : xG} {d : Nat} {Q : xQ} {a : Nat → Nat} {σ : mS} {m : Nat} {fr : Int32} (hm : m < 2 ^ 31) : ∀ (n dn b : Nat) (x : Int32 × (Nat → Nat)) (v4 v5 : Option Value), dn + n = m → b + 126 * n ≤ 2 ^ 29 → 4096 ≤ b → WV x.2 b → Q (some (.int (nI (dn + (drawsG n x).1)))) (mW G.2.2.1 a (drS σ (drawsG n x).2)) → AW G MX12_draws (d + 4) 0 0 Q 7 [some (.ref (a 60)), some (.int (nI m)), some (.int fr), some (.int (nI dn)), v4, v5] [] (mW G.2.2.1 a (drS σ x)) 0 0 := by
  intro n
  induction n with
  | zero =>
    intro dn b x v4 v5 hd hb hb5 H kk
    refine aw_iload_n (pc := 7) (i := 3) dX12_draws_7 rfl rfl ?_
    refine aw_iload_n (pc := 8) (i := 1) dX12_draws_8 rfl rfl ?_
    refine an_icmp_ge (pc := 9) (tgt := 125) dX12_draws_9 rfl (by omega) (by omega) (fun h9 => ?_) (fun h9 => ?_)
    · -- 125
      refine aw_iload_n (pc := 125) (i := 3) dX12_draws_125 rfl rfl ?_
      exact aw_iret (pc := 126) dX12_draws_126 rfl (Nat.le_refl _) (Nat.le_refl _) (kk)
    · -- 12
      exfalso; omega
  | succ n ih =>
    intro dn b x v4 v5 hd hb hb5 H kk
    refine aw_iload_n (pc := 7) (i := 3) dX12_draws_7 rfl rfl ?_
    refine aw_iload_n (pc := 8) (i := 1) dX12_draws_8 rfl rfl ?_
    refine an_icmp_ge (pc := 9) (tgt := 125) dX12_draws_9 rfl (by omega) (by omega) (fun h9 => ?_) (fun h9 => ?_)
    · -- 125
      refine aw_iload_n (pc := 125) (i := 3) dX12_draws_125 rfl rfl ?_
      rw [drawsG, if_neg (by omega)] at kk
      exact aw_iret (pc := 126) dX12_draws_126 rfl (Nat.le_refl _) (Nat.le_refl _) kk
    · -- 12
      refine aw_aload_n (pc := 12) (i := 0) dX12_draws_12 rfl rfl ?_
      refine mg_s (pc := 13) dX12_draws_13 rfl ?_
      refine aw_bipush (pc := 16) dX12_draws_16 bipush_91 ?_
      refine ml_s (pc := 18) dX12_draws_18 (by decide) ?_
      refine aw_top (y := (nI (x.2 91))) rfl ?_
      refine aw_sipush (pc := 19) dX12_draws_19 sipush_400 ?_
      refine an_icmp_ge (pc := 22) (tgt := 125) dX12_draws_22 rfl (Nat.lt_trans (H.1.1.1 _) (by decide)) (by decide) (fun h22 => ?_) (fun h22 => ?_)
      · -- 125
        refine aw_iload_n (pc := 125) (i := 3) dX12_draws_125 rfl rfl ?_
        rw [drawsG, if_neg (by omega)] at kk
        exact aw_iret (pc := 126) dX12_draws_126 rfl (Nat.le_refl _) (Nat.le_refl _) kk
      · -- 25
        refine aw_aload_n (pc := 25) (i := 0) dX12_draws_25 rfl rfl ?_
        refine aw_iconst (pc := 26) dX12_draws_26 iconst_4 ?_
        refine mc_I (pc := 27) (As := [.int (nI 4)]) (rest := []) dX12_draws_27 rfl ok_X12_432 rfl rfl rfl (Nat.le_of_ble_eq_true rfl) (s_draw (by decide) (by decide) ⟨_, _, rfl, rfl, ?_⟩)
        refine aw_top (y := nI (drN x.1 4)) rfl ?_
        refine aw_ws (w9 := mW G.2.2.1 a (drS σ (sdF x.1, x.2))) rfl ?_
        refine an_if_ne (pc := 30) (tgt := 64) dX12_draws_30 rfl (by have := drN_lt x.1 (n := 4) (by decide); omega) (fun h30 => ?_) (fun h30 => ?_)
        · -- 64
          refine aw_iconst (pc := 64) dX12_draws_64 iconst_0 ?_
          refine aw_istore (pc := 65) (i := 4) dX12_draws_65 (Nat.le_of_ble_eq_true rfl) rfl ?_
          have tk := turD_keep (x := x) hb5 H
          have et : turD x = (sdF x.1, x.2) := turD_3 (Nat.ne_of_gt h30)
          rw [← et]
          have hdd : drawsG (n + 1) x = ((drawsG n (dayD x)).1 + 1, (drawsG n (dayD x)).2) := by rw [drawsG, if_pos h22]
          rw [hdd] at kk
          have dk := dayD_keep (by omega) hb5 H h22
          have pk9 := perG_keep (show b + 126 ≤ 2 ^ 29 by omega) (by omega) tk.1 _ (Nat.le_refl _)
          refine pers_loop (σ := σ) (b := b) (v5 := none) (by omega) (by omega) tk.1 (fun v6 => ?_) ((turD x).2 2) 0 _ (by omega)
          refine aw_aload_n (pc := 115) (i := 0) dX12_draws_115 rfl rfl ?_
          refine mc_V (pc := 116) (As := []) (rest := []) dX12_draws_116 rfl ok_X12_324 rfl rfl rfl (Nat.le_of_ble_eq_true rfl) (s_day (WT_DK pk9.1.1.1) ⟨_, rfl, rfl, ?_⟩)
          refine aw_ws (w9 := mW G.2.2.1 a (drS σ (dayD x))) rfl ?_
          refine an_inc (pc := 119) (z := 1) dX12_draws_119 rfl (Nat.le_of_ble_eq_true rfl) rfl ?_
          refine aw_goto (pc := 122) (tgt := 7) dX12_draws_122 rfl ?_
          exact ih (dn + 1) (b + 126) (dayD x) _ _ (by omega) (by omega) (by omega) dk.1 (by rw [show dn + 1 + (drawsG n (dayD x)).1 = dn + ((drawsG n (dayD x)).1 + 1) by omega]; exact kk)
        · -- 33
          refine aw_aload_n (pc := 33) (i := 0) dX12_draws_33 rfl rfl ?_
          refine mg_s (pc := 34) dX12_draws_34 rfl ?_
          refine aw_iconst (pc := 37) dX12_draws_37 iconst_1 ?_
          refine ml_s (pc := 38) dX12_draws_38 (by decide) ?_
          refine aw_top (y := (nI (x.2 1))) rfl ?_
          refine an_if_le (pc := 39) (tgt := 64) dX12_draws_39 rfl (Nat.lt_trans (H.1.1.1 _) (by decide)) (fun h39 => ?_) (fun h39 => ?_)
          · -- 64
            refine aw_iconst (pc := 64) dX12_draws_64 iconst_0 ?_
            refine aw_istore (pc := 65) (i := 4) dX12_draws_65 (Nat.le_of_ble_eq_true rfl) rfl ?_
            have tk := turD_keep (x := x) hb5 H
            have et : turD x = (sdF x.1, x.2) := turD_2 h30 (by omega)
            rw [← et]
            have hdd : drawsG (n + 1) x = ((drawsG n (dayD x)).1 + 1, (drawsG n (dayD x)).2) := by rw [drawsG, if_pos h22]
            rw [hdd] at kk
            have dk := dayD_keep (by omega) hb5 H h22
            have pk9 := perG_keep (show b + 126 ≤ 2 ^ 29 by omega) (by omega) tk.1 _ (Nat.le_refl _)
            refine pers_loop (σ := σ) (b := b) (v5 := none) (by omega) (by omega) tk.1 (fun v6 => ?_) ((turD x).2 2) 0 _ (by omega)
            refine aw_aload_n (pc := 115) (i := 0) dX12_draws_115 rfl rfl ?_
            refine mc_V (pc := 116) (As := []) (rest := []) dX12_draws_116 rfl ok_X12_324 rfl rfl rfl (Nat.le_of_ble_eq_true rfl) (s_day (WT_DK pk9.1.1.1) ⟨_, rfl, rfl, ?_⟩)
            refine aw_ws (w9 := mW G.2.2.1 a (drS σ (dayD x))) rfl ?_
            refine an_inc (pc := 119) (z := 1) dX12_draws_119 rfl (Nat.le_of_ble_eq_true rfl) rfl ?_
            refine aw_goto (pc := 122) (tgt := 7) dX12_draws_122 rfl ?_
            exact ih (dn + 1) (b + 126) (dayD x) _ _ (by omega) (by omega) (by omega) dk.1 (by rw [show dn + 1 + (drawsG n (dayD x)).1 = dn + ((drawsG n (dayD x)).1 + 1) by omega]; exact kk)
          · -- 42
            refine aw_aload_n (pc := 42) (i := 0) dX12_draws_42 rfl rfl ?_
            refine mg_s (pc := 43) dX12_draws_43 rfl ?_
            refine aw_bipush (pc := 46) dX12_draws_46 bipush_93 ?_
            refine aw_dup2 (pc := 48) dX12_draws_48 rfl rfl ?_
            refine ml_s (pc := 49) dX12_draws_49 (by decide) ?_
            refine aw_top (y := (nI (x.2 93))) rfl ?_
            refine aw_iconst (pc := 50) dX12_draws_50 iconst_1 ?_
            refine aw_aload_n (pc := 51) (i := 0) dX12_draws_51 rfl rfl ?_
            refine aw_aload_n (pc := 52) (i := 0) dX12_draws_52 rfl rfl ?_
            refine mg_s (pc := 53) dX12_draws_53 rfl ?_
            refine aw_iconst (pc := 56) dX12_draws_56 iconst_1 ?_
            refine ml_s (pc := 57) dX12_draws_57 (by decide) ?_
            refine aw_top (y := (nI (x.2 1))) rfl ?_
            refine mc_I (pc := 58) (As := [.int (nI (x.2 1))]) (rest := [.int (nI 1), .int (nI (x.2 93)), .int (nI 93), .ref (a 6)]) dX12_draws_58 rfl ok_X12_432 rfl rfl rfl (Nat.le_of_ble_eq_true rfl) (s_draw h39 (Nat.lt_trans (H.1.1.1 _) (by decide)) ⟨_, _, rfl, rfl, ?_⟩)
            refine aw_top (y := nI (drN (sdF x.1) (x.2 1))) rfl ?_
            refine aw_ws (w9 := mW G.2.2.1 a (drS σ (sdF (sdF x.1), x.2))) rfl ?_
            refine aw_ishl (pc := 61) dX12_draws_61 ?_
            refine aw_ixor (pc := 62) dX12_draws_62 ?_
            refine aw_top (y := (nI (x.2 93 ^^^ 2 ^ drN (sdF x.1) (x.2 1)))) (by have := drN_lt (sdF x.1) h39; have := H.1.1.2.2.1; rw [nI_1shl (by omega), nI_xor _ _ (Nat.lt_trans (H.1.1.1 _) (by decide)) (Nat.lt_trans (Nat.pow_lt_pow_right (a := 2) (by omega) (show drN (sdF x.1) (x.2 1) < 12 by have := drN_lt (sdF x.1) h39; have := H.1.1.2.2.1; omega)) (by decide))]) ?_
            refine ms_s (pc := 63) dX12_draws_63 (by decide) ?_
            refine aw_ws (w9 := mW G.2.2.1 a (drS σ (sdF (sdF x.1), upN x.2 93 (x.2 93 ^^^ 2 ^ drN (sdF x.1) (x.2 1))))) rfl ?_
            refine aw_iconst (pc := 64) dX12_draws_64 iconst_0 ?_
            refine aw_istore (pc := 65) (i := 4) dX12_draws_65 (Nat.le_of_ble_eq_true rfl) rfl ?_
            have tk := turD_keep (x := x) hb5 H
            have et : turD x = (sdF (sdF x.1), upN x.2 93 (x.2 93 ^^^ 2 ^ drN (sdF x.1) (x.2 1))) := turD_1 h30 h39
            rw [← et]
            have hdd : drawsG (n + 1) x = ((drawsG n (dayD x)).1 + 1, (drawsG n (dayD x)).2) := by rw [drawsG, if_pos h22]
            rw [hdd] at kk
            have dk := dayD_keep (by omega) hb5 H h22
            have pk9 := perG_keep (show b + 126 ≤ 2 ^ 29 by omega) (by omega) tk.1 _ (Nat.le_refl _)
            refine pers_loop (σ := σ) (b := b) (v5 := none) (by omega) (by omega) tk.1 (fun v6 => ?_) ((turD x).2 2) 0 _ (by omega)
            refine aw_aload_n (pc := 115) (i := 0) dX12_draws_115 rfl rfl ?_
            refine mc_V (pc := 116) (As := []) (rest := []) dX12_draws_116 rfl ok_X12_324 rfl rfl rfl (Nat.le_of_ble_eq_true rfl) (s_day (WT_DK pk9.1.1.1) ⟨_, rfl, rfl, ?_⟩)
            refine aw_ws (w9 := mW G.2.2.1 a (drS σ (dayD x))) rfl ?_
            refine an_inc (pc := 119) (z := 1) dX12_draws_119 rfl (Nat.le_of_ble_eq_true rfl) rfl ?_
            refine aw_goto (pc := 122) (tgt := 7) dX12_draws_122 rfl ?_
            exact ih (dn + 1) (b + 126) (dayD x) _ _ (by omega) (by omega) (by omega) dk.1 (by rw [show dn + 1 + (drawsG n (dayD x)).1 = dn + ((drawsG n (dayD x)).1 + 1) by omega]; exact kk)
