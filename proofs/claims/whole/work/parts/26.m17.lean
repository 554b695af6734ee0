set_option maxHeartbeats 1000000 in
set_option maxRecDepth 20000 in
theorem pers_loop {G : xG} {d : Nat} {Q : xQ} {a : Nat → Nat} {σ : mS} {y : Int32 × (Nat → Nat)} {b m dn : Nat} {fr : Int32} {v5 : Option Value} (hb : b + 126 ≤ 2 ^ 29) (hb5 : 500 ≤ b) (H : WV y.2 b) (kk : ∀ v6, AW G MX12_draws (d + 4) 0 0 Q 115 [some (.ref (a 60)), some (.int (nI m)), some (.int fr), some (.int (nI dn)), some (.int (nI (y.2 2))), v6] [] (mW G.2.2.1 a (drS σ (perG y (y.2 2)))) 0 0) : ∀ (n i : Nat) (v5 : Option Value), i + n = y.2 2 → AW G MX12_draws (d + 4) 0 0 Q 67 [some (.ref (a 60)), some (.int (nI m)), some (.int fr), some (.int (nI dn)), some (.int (nI i)), v5] [] (mW G.2.2.1 a (drS σ (perG y i))) 0 0 := by
  have h6 := H.1.1.2.2.2.1
  intro n
  induction n with
  | zero =>
    intro i v5 hi
    obtain ⟨p1, p2, p3, p4, p5⟩ := perG_keep hb hb5 H i (by omega)
    generalize hz : perG y i = z at *
    refine aw_iload (pc := 67) dX12_draws_67 rfl ?_
    refine aw_aload_n (pc := 69) (i := 0) dX12_draws_69 rfl rfl ?_
    refine mg_s (pc := 70) dX12_draws_70 rfl ?_
    refine aw_iconst (pc := 73) dX12_draws_73 iconst_2 ?_
    refine ml_s (pc := 74) dX12_draws_74 (by decide) ?_
    refine aw_top (y := (nI (z.2 2))) rfl ?_
    refine an_icmp_ge (pc := 75) (tgt := 115) dX12_draws_75 rfl (by omega) (Nat.lt_trans (p1.1.1.1 _) (by decide)) (fun h75 => ?_) (fun h75 => ?_)
    · -- 115
      have e : i = y.2 2 := by omega
      subst e
      subst hz
      exact kk _
    · -- 78
      exfalso; omega
  | succ n ih =>
    intro i v5 hi
    obtain ⟨p1, p2, p3, p4, p5⟩ := perG_keep hb hb5 H i (by omega)
    have hp := p1.1.1.2.2.2.2.2.1 i (by omega)
    have h07 := p1.1.1.2.1
    have h112 := p1.1.1.2.2.1
    have hdl := drN_lt (perG y i).1 (n := (perG y i).2 0) (by omega)
    have hps : perG y (i + 1) = perS (perG y i) i := rfl
    generalize hz : perG y i = z at *
    generalize hl : drN z.1 (z.2 0) = l at *
    refine aw_iload (pc := 67) dX12_draws_67 rfl ?_
    refine aw_aload_n (pc := 69) (i := 0) dX12_draws_69 rfl rfl ?_
    refine mg_s (pc := 70) dX12_draws_70 rfl ?_
    refine aw_iconst (pc := 73) dX12_draws_73 iconst_2 ?_
    refine ml_s (pc := 74) dX12_draws_74 (by decide) ?_
    refine aw_top (y := (nI (z.2 2))) rfl ?_
    refine an_icmp_ge (pc := 75) (tgt := 115) dX12_draws_75 rfl (by omega) (Nat.lt_trans (p1.1.1.1 _) (by decide)) (fun h75 => ?_) (fun h75 => ?_)
    · -- 115
      exfalso; omega
    · -- 78
      refine aw_aload_n (pc := 78) (i := 0) dX12_draws_78 rfl rfl ?_
      refine aw_aload_n (pc := 79) (i := 0) dX12_draws_79 rfl rfl ?_
      refine mg_s (pc := 80) dX12_draws_80 rfl ?_
      refine aw_iconst (pc := 83) dX12_draws_83 iconst_0 ?_
      refine ml_s (pc := 84) dX12_draws_84 (by decide) ?_
      refine aw_top (y := (nI (z.2 0))) rfl ?_
      refine mc_I (pc := 85) (As := [.int (nI (z.2 0))]) (rest := []) dX12_draws_85 rfl ok_X12_432 rfl rfl rfl (Nat.le_of_ble_eq_true rfl) (s_draw (by omega) (by omega) ⟨_, _, rfl, rfl, ?_⟩)
      refine aw_top (y := nI l) (congrArg nI hl) ?_
      refine aw_ws (w9 := mW G.2.2.1 a (drS σ (sdF z.1, z.2))) rfl ?_
      refine aw_istore (pc := 88) (i := 5) dX12_draws_88 (Nat.le_of_ble_eq_true rfl) rfl ?_
      refine aw_aload_n (pc := 90) (i := 0) dX12_draws_90 rfl rfl ?_
      refine aw_iload (pc := 91) dX12_draws_91 rfl ?_
      refine aw_iload (pc := 93) dX12_draws_93 rfl ?_
      refine mc_I (pc := 95) (As := [.int (nI i), .int (nI l)]) (rest := []) dX12_draws_95 rfl ok_X12_292 rfl rfl rfl (Nat.le_of_ble_eq_true rfl) (s_whyCross p1.1.1.1 h112 (by omega) (show z.2 (79 + i) < 7 by omega) (by omega) ⟨_, _, rfl, rfl, ?_⟩)
      refine aw_top (y := nI (whyX z.2 i l)) rfl ?_
      refine an_if_ne (pc := 98) (tgt := 109) dX12_draws_98 rfl (whyX_lt _ _ _) (fun h98 => ?_) (fun h98 => ?_)
      · -- 109
        refine an_inc (pc := 109) (z := 1) dX12_draws_109 rfl (Nat.le_of_ble_eq_true rfl) rfl ?_
        refine aw_goto (pc := 112) (tgt := 67) dX12_draws_112 rfl ?_
        refine aw_ws (w9 := mW G.2.2.1 a (drS σ (perG y (i + 1)))) (by rw [hps, perS, hl, if_neg (Nat.ne_of_gt h98)]) ?_
        exact ih (i + 1) _ (by omega)
      · -- 101
        refine aw_aload_n (pc := 101) (i := 0) dX12_draws_101 rfl rfl ?_
        refine aw_iload (pc := 102) dX12_draws_102 rfl ?_
        refine aw_iload (pc := 104) dX12_draws_104 rfl ?_
        refine mc_V (pc := 106) (As := [.int (nI i), .int (nI l)]) (rest := []) dX12_draws_106 rfl ok_X12_330 rfl rfl rfl (Nat.le_of_ble_eq_true rfl) (s_crosses (fun j => Nat.lt_of_lt_of_le (p1.1.2 j) (by omega)) (by omega) (by omega) (show z.2 (79 + i) < 7 by omega) (show z.2 (114 + i) ≤ 240 by omega) (Or.inr (whyX_0 h98)) ⟨_, rfl, rfl, ?_⟩)
        refine aw_ws (w9 := mW G.2.2.1 a (drS σ (sdF z.1, crossF z.2 i l))) rfl ?_
        refine an_inc (pc := 109) (z := 1) dX12_draws_109 rfl (Nat.le_of_ble_eq_true rfl) rfl ?_
        refine aw_goto (pc := 112) (tgt := 67) dX12_draws_112 rfl ?_
        refine aw_ws (w9 := mW G.2.2.1 a (drS σ (perG y (i + 1)))) (by rw [hps, perS, hl, if_pos h98]) ?_
        exact ih (i + 1) _ (by omega)
set_option maxHeartbeats 1000000 in
set_option maxRecDepth 20000 in
theorem draws_loop {G : xG} {d : Nat} {Q : xQ} {a : Nat → Nat} {σ : mS} {m : Nat} {fr : Int32} (hm : m < 2 ^ 31) : ∀ (n dn b : Nat) (x : Int32 × (Nat → Nat)) (v4 v5 : Option Value), dn + n = m → b + 126 * n ≤ 2 ^ 29 → 4096 ≤ b → WV x.2 b → Q (some (.int (nI (dn + (drawsG n x).1)))) (mW G.2.2.1 a (drS σ (drawsG n x).2)) → AW G MX12_draws (d + 4) 0 0 Q 7 [some (.ref (a 60)), some (.int (nI m)), some (.int fr), some (.int (nI dn)), v4, v5] [] (mW G.2.2.1 a (drS σ x)) 0 0 := by
  intro n
  induction n with
  | zero =>
    intro dn b x v4 v5 hd hb hb5 H kk
    refine aw_iload_n (pc := 7) (i := 3) dX12_draws_7 rfl rfl ?_
    refine aw_iload_n (pc := 8) (i := 1) dX12_draws_8 rfl rfl ?_
    refine an_icmp_ge (pc := 9) (tgt := 125) dX12_draws_9 rfl (by omega) (by omega) (fun h9 => ?_) (fun h9 => ?_)
    · -- 125
      refine aw_iload_n (pc := 125) (i := 3) dX12_draws_125 rfl rfl ?_
      exact aw_iret (pc := 126) dX12_draws_126 rfl (Nat.le_refl _) (Nat.le_refl _) (kk)
    · -- 12
      exfalso; omega
  | succ n ih =>
    intro dn b x v4 v5 hd hb hb5 H kk
    refine aw_iload_n (pc := 7) (i := 3) dX12_draws_7 rfl rfl ?_
    refine aw_iload_n (pc := 8) (i := 1) dX12_draws_8 rfl rfl ?_
    refine an_icmp_ge (pc := 9) (tgt := 125) dX12_draws_9 rfl (by omega) (by omega) (fun h9 => ?_) (fun h9 => ?_)
    · -- 125
      refine aw_iload_n (pc := 125) (i := 3) dX12_draws_125 rfl rfl ?_
      rw [drawsG, if_neg (by omega)] at kk
      exact aw_iret (pc := 126) dX12_draws_126 rfl (Nat.le_refl _) (Nat.le_refl _) kk
    · -- 12
      refine aw_aload_n (pc := 12) (i := 0) dX12_draws_12 rfl rfl ?_
      refine mg_s (pc := 13) dX12_draws_13 rfl ?_
      refine aw_bipush (pc := 16) dX12_draws_16 bipush_91 ?_
      refine ml_s (pc := 18) dX12_draws_18 (by decide) ?_
      refine aw_top (y := (nI (x.2 91))) rfl ?_
      refine aw_sipush (pc := 19) dX12_draws_19 sipush_400 ?_
      refine an_icmp_ge (pc := 22) (tgt := 125) dX12_draws_22 rfl (Nat.lt_trans (H.1.1.1 _) (by decide)) (by decide) (fun h22 => ?_) (fun h22 => ?_)
      · -- 125
        refine aw_iload_n (pc := 125) (i := 3) dX12_draws_125 rfl rfl ?_
        rw [drawsG, if_neg (by omega)] at kk
        exact aw_iret (pc := 126) dX12_draws_126 rfl (Nat.le_refl _) (Nat.le_refl _) kk
      · -- 25
        refine aw_aload_n (pc := 25) (i := 0) dX12_draws_25 rfl rfl ?_
        refine aw_iconst (pc := 26) dX12_draws_26 iconst_4 ?_
        refine mc_I (pc := 27) (As := [.int (nI 4)]) (rest := []) dX12_draws_27 rfl ok_X12_432 rfl rfl rfl (Nat.le_of_ble_eq_true rfl) (s_draw (by decide) (by decide) ⟨_, _, rfl, rfl, ?_⟩)
        refine aw_top (y := nI (drN x.1 4)) rfl ?_
        refine aw_ws (w9 := mW G.2.2.1 a (drS σ (sdF x.1, x.2))) rfl ?_
        refine an_if_ne (pc := 30) (tgt := 64) dX12_draws_30 rfl (by have := drN_lt x.1 (n := 4) (by decide); omega) (fun h30 => ?_) (fun h30 => ?_)
        · -- 64
          refine aw_iconst (pc := 64) dX12_draws_64 iconst_0 ?_
          refine aw_istore (pc := 65) (i := 4) dX12_draws_65 (Nat.le_of_ble_eq_true rfl) rfl ?_
          have tk := turD_keep (x := x) hb5 H
          have et : turD x = (sdF x.1, x.2) := turD_3 (Nat.ne_of_gt h30)
          rw [← et]
          have hdd : drawsG (n + 1) x = ((drawsG n (dayD x)).1 + 1, (drawsG n (dayD x)).2) := by rw [drawsG, if_pos h22]
          rw [hdd] at kk
          have dk := dayD_keep (by omega) hb5 H h22
          have pk9 := perG_keep (show b + 126 ≤ 2 ^ 29 by omega) (by omega) tk.1 _ (Nat.le_refl _)
          refine pers_loop (σ := σ) (b := b) (v5 := none) (by omega) (by omega) tk.1 (fun v6 => ?_) ((turD x).2 2) 0 _ (by omega)
          refine aw_aload_n (pc := 115) (i := 0) dX12_draws_115 rfl rfl ?_
          refine mc_V (pc := 116) (As := []) (rest := []) dX12_draws_116 rfl ok_X12_324 rfl rfl rfl (Nat.le_of_ble_eq_true rfl) (s_day (WT_DK pk9.1.1.1) ⟨_, rfl, rfl, ?_⟩)
          refine aw_ws (w9 := mW G.2.2.1 a (drS σ (dayD x))) rfl ?_
          refine an_inc (pc := 119) (z := 1) dX12_draws_119 rfl (Nat.le_of_ble_eq_true rfl) rfl ?_
          refine aw_goto (pc := 122) (tgt := 7) dX12_draws_122 rfl ?_
          exact ih (dn + 1) (b + 126) (dayD x) _ _ (by omega) (by omega) (by omega) dk.1 (by rw [show dn + 1 + (drawsG n (dayD x)).1 = dn + ((drawsG n (dayD x)).1 + 1) by omega]; exact kk)
        · -- 33
          refine aw_aload_n (pc := 33) (i := 0) dX12_draws_33 rfl rfl ?_
          refine mg_s (pc := 34) dX12_draws_34 rfl ?_
          refine aw_iconst (pc := 37) dX12_draws_37 iconst_1 ?_
          refine ml_s (pc := 38) dX12_draws_38 (by decide) ?_
          refine aw_top (y := (nI (x.2 1))) rfl ?_
          refine an_if_le (pc := 39) (tgt := 64) dX12_draws_39 rfl (Nat.lt_trans (H.1.1.1 _) (by decide)) (fun h39 => ?_) (fun h39 => ?_)
          · -- 64
            refine aw_iconst (pc := 64) dX12_draws_64 iconst_0 ?_
            refine aw_istore (pc := 65) (i := 4) dX12_draws_65 (Nat.le_of_ble_eq_true rfl) rfl ?_
            have tk := turD_keep (x := x) hb5 H
            have et : turD x = (sdF x.1, x.2) := turD_2 h30 (by omega)
            rw [← et]
            have hdd : drawsG (n + 1) x = ((drawsG n (dayD x)).1 + 1, (drawsG n (dayD x)).2) := by rw [drawsG, if_pos h22]
            rw [hdd] at kk
            have dk := dayD_keep (by omega) hb5 H h22
            have pk9 := perG_keep (show b + 126 ≤ 2 ^ 29 by omega) (by omega) tk.1 _ (Nat.le_refl _)
            refine pers_loop (σ := σ) (b := b) (v5 := none) (by omega) (by omega) tk.1 (fun v6 => ?_) ((turD x).2 2) 0 _ (by omega)
            refine aw_aload_n (pc := 115) (i := 0) dX12_draws_115 rfl rfl ?_
            refine mc_V (pc := 116) (As := []) (rest := []) dX12_draws_116 rfl ok_X12_324 rfl rfl rfl (Nat.le_of_ble_eq_true rfl) (s_day (WT_DK pk9.1.1.1) ⟨_, rfl, rfl, ?_⟩)
            refine aw_ws (w9 := mW G.2.2.1 a (drS σ (dayD x))) rfl ?_
            refine an_inc (pc := 119) (z := 1) dX12_draws_119 rfl (Nat.le_of_ble_eq_true rfl) rfl ?_
            refine aw_goto (pc := 122) (tgt := 7) dX12_draws_122 rfl ?_
            exact ih (dn + 1) (b + 126) (dayD x) _ _ (by omega) (by omega) (by omega) dk.1 (by rw [show dn + 1 + (drawsG n (dayD x)).1 = dn + ((drawsG n (dayD x)).1 + 1) by omega]; exact kk)
          · -- 42
            refine aw_aload_n (pc := 42) (i := 0) dX12_draws_42 rfl rfl ?_
            refine mg_s (pc := 43) dX12_draws_43 rfl ?_
            refine aw_bipush (pc := 46) dX12_draws_46 bipush_93 ?_
            refine aw_dup2 (pc := 48) dX12_draws_48 rfl rfl ?_
            refine ml_s (pc := 49) dX12_draws_49 (by decide) ?_
            refine aw_top (y := (nI (x.2 93))) rfl ?_
            refine aw_iconst (pc := 50) dX12_draws_50 iconst_1 ?_
            refine aw_aload_n (pc := 51) (i := 0) dX12_draws_51 rfl rfl ?_
            refine aw_aload_n (pc := 52) (i := 0) dX12_draws_52 rfl rfl ?_
            refine mg_s (pc := 53) dX12_draws_53 rfl ?_
            refine aw_iconst (pc := 56) dX12_draws_56 iconst_1 ?_
            refine ml_s (pc := 57) dX12_draws_57 (by decide) ?_
            refine aw_top (y := (nI (x.2 1))) rfl ?_
            refine mc_I (pc := 58) (As := [.int (nI (x.2 1))]) (rest := [.int (nI 1), .int (nI (x.2 93)), .int (nI 93), .ref (a 6)]) dX12_draws_58 rfl ok_X12_432 rfl rfl rfl (Nat.le_of_ble_eq_true rfl) (s_draw h39 (Nat.lt_trans (H.1.1.1 _) (by decide)) ⟨_, _, rfl, rfl, ?_⟩)
            refine aw_top (y := nI (drN (sdF x.1) (x.2 1))) rfl ?_
            refine aw_ws (w9 := mW G.2.2.1 a (drS σ (sdF (sdF x.1), x.2))) rfl ?_
            refine aw_ishl (pc := 61) dX12_draws_61 ?_
            refine aw_ixor (pc := 62) dX12_draws_62 ?_
            refine aw_top (y := (nI (x.2 93 ^^^ 2 ^ drN (sdF x.1) (x.2 1)))) (by have := drN_lt (sdF x.1) h39; have := H.1.1.2.2.1; rw [nI_1shl (by omega), nI_xor _ _ (Nat.lt_trans (H.1.1.1 _) (by decide)) (Nat.lt_trans (Nat.pow_lt_pow_right (a := 2) (by omega) (show drN (sdF x.1) (x.2 1) < 12 by have := drN_lt (sdF x.1) h39; have := H.1.1.2.2.1; omega)) (by decide))]) ?_
            refine ms_s (pc := 63) dX12_draws_63 (by decide) ?_
            refine aw_ws (w9 := mW G.2.2.1 a (drS σ (sdF (sdF x.1), upN x.2 93 (x.2 93 ^^^ 2 ^ drN (sdF x.1) (x.2 1))))) rfl ?_
            refine aw_iconst (pc := 64) dX12_draws_64 iconst_0 ?_
            refine aw_istore (pc := 65) (i := 4) dX12_draws_65 (Nat.le_of_ble_eq_true rfl) rfl ?_
            have tk := turD_keep (x := x) hb5 H
            have et : turD x = (sdF (sdF x.1), upN x.2 93 (x.2 93 ^^^ 2 ^ drN (sdF x.1) (x.2 1))) := turD_1 h30 h39
            rw [← et]
            have hdd : drawsG (n + 1) x = ((drawsG n (dayD x)).1 + 1, (drawsG n (dayD x)).2) := by rw [drawsG, if_pos h22]
            rw [hdd] at kk
            have dk := dayD_keep (by omega) hb5 H h22
            have pk9 := perG_keep (show b + 126 ≤ 2 ^ 29 by omega) (by omega) tk.1 _ (Nat.le_refl _)
            refine pers_loop (σ := σ) (b := b) (v5 := none) (by omega) (by omega) tk.1 (fun v6 => ?_) ((turD x).2 2) 0 _ (by omega)
            refine aw_aload_n (pc := 115) (i := 0) dX12_draws_115 rfl rfl ?_
            refine mc_V (pc := 116) (As := []) (rest := []) dX12_draws_116 rfl ok_X12_324 rfl rfl rfl (Nat.le_of_ble_eq_true rfl) (s_day (WT_DK pk9.1.1.1) ⟨_, rfl, rfl, ?_⟩)
            refine aw_ws (w9 := mW G.2.2.1 a (drS σ (dayD x))) rfl ?_
            refine an_inc (pc := 119) (z := 1) dX12_draws_119 rfl (Nat.le_of_ble_eq_true rfl) rfl ?_
            refine aw_goto (pc := 122) (tgt := 7) dX12_draws_122 rfl ?_
            exact ih (dn + 1) (b + 126) (dayD x) _ _ (by omega) (by omega) (by omega) dk.1 (by rw [show dn + 1 + (drawsG n (dayD x)).1 = dn + ((drawsG n (dayD x)).1 + 1) by omega]; exact kk)
set_option maxHeartbeats 1000000 in
set_option maxRecDepth 20000 in
theorem s_draws {G : xG} {d : Nat} {Q : xQ} {a : Nat → Nat} {σ : mS} {m b : Nat} {fr : Int32} (hm : m < 2 ^ 31) (hb : b + 126 * m ≤ 2 ^ 29) (hb5 : 4096 ≤ b) (H : WV (σ.2.1 6) b) (kk : Q (some (.int (nI (drawsG m (fr, σ.2.1 6)).1))) (mW G.2.2.1 a (drS σ (drawsG m (fr, σ.2.1 6)).2))) : MT G MX12_draws (d + 4) 0 0 [.ref (a 60), .int (nI m), .int fr] (mW G.2.2.1 a σ) Q := by
  refine mt_start (L := [some (.ref (a 60)), some (.int (nI m)), some (.int fr), none, none, none]) rfl (Nat.le_of_ble_eq_true rfl) rfl ?_
  refine aw_aload_n (pc := 0) (i := 0) dX12_draws_0 rfl rfl ?_
  refine aw_iload_n (pc := 1) (i := 2) dX12_draws_1 rfl rfl ?_
  refine mp_seed (pc := 2) dX12_draws_2 rfl ?_
  refine aw_iconst (pc := 5) dX12_draws_5 iconst_0 ?_
  refine aw_istore_n (pc := 6) (i := 3) dX12_draws_6 rfl (Nat.le_of_ble_eq_true rfl) rfl ?_
  refine aw_ws (w9 := mW G.2.2.1 a (drS σ (fr, σ.2.1 6))) rfl ?_
  exact draws_loop hm m 0 b (fr, σ.2.1 6) _ _ (by omega) hb hb5 H (by rw [Nat.zero_add]; exact kk)
theorem drawsG_keep : ∀ (n : Nat) {x : Int32 × (Nat → Nat)} {b : Nat}, b + 126 * n ≤ 2 ^ 29 → 4096 ≤ b → WV x.2 b → WV (drawsG n x).2.2 (b + 126 * n) ∧ ∀ j, ¬ (91 ≤ j ∧ j < 138) → (drawsG n x).2.2 j = x.2 j := by
  intro n
  induction n with
  | zero => intro x b _ _ H; exact ⟨WV_mono H (by omega), fun _ _ => rfl⟩
  | succ n ih =>
    intro x b hb hb5 H
    rw [drawsG]
    split
    · rename_i h9
      obtain ⟨k1, k2, k3⟩ := dayD_keep (by omega) hb5 H h9
      obtain ⟨i1, i2⟩ := ih (b := b + 126) (by omega) (by omega) k1
      exact ⟨WV_mono i1 (by omega), fun j hj => by rw [i2 j hj, k3 j hj]⟩
    · exact ⟨WV_mono H (by omega), fun _ _ => rfl⟩
noncomputable def drawnA (t : Nat → Nat) (n fr : Int32) : Int32 := if inC (nI 1) (nI 60) n = true then (if t 0 = 0 then -1 else nI (drawsG n.toNatClampNeg (fr, t)).1) else -1
noncomputable def drawnS (σ : mS) (m : Nat) (n fr : Int32) : mS := if inC (nI 1) (nI 60) n = true then (if σ.2.1 6 0 = 0 then mI σ 0 (nI 0) else if σ.2.1 6 91 < 400 then drS (keepS (mI σ 0 (nI 0)) m) (drawsG n.toNatClampNeg (fr, σ.2.1 6)).2 else drS (mI σ 0 (nI 0)) (drawsG n.toNatClampNeg (fr, σ.2.1 6)).2) else mI σ 0 (nI 0)
set_option maxHeartbeats 1000000 in
set_option maxRecDepth 20000 in
theorem s_drawn {G : xG} {d : Nat} {Q : xQ} {a : Nat → Nat} {σ : mS} {m b : Nat} {n fr : Int32} (hm : σ.1 23 = nI m) (hm8 : m ≤ 8) (hb : b + 126 * 60 ≤ 2 ^ 29) (hb5 : 4096 ≤ b) (H : WV (σ.2.1 6) b) (kk : Q (some (.int (drawnA (σ.2.1 6) n fr))) (mW G.2.2.1 a (drawnS σ m n fr))) : MT G MX12_drawn (d + 5) 0 0 [.ref (a 60), .int n, .int fr] (mW G.2.2.1 a σ) Q := by
  refine mt_start (L := [some (.ref (a 60)), some (.int n), some (.int fr)]) rfl (Nat.le_of_ble_eq_true rfl) rfl ?_
  refine aw_aload_n (pc := 0) (i := 0) dX12_drawn_0 rfl rfl ?_
  refine aw_iconst (pc := 1) dX12_drawn_1 iconst_0 ?_
  refine mp_thrown (pc := 2) dX12_drawn_2 rfl ?_
  refine aw_iload_n (pc := 5) (i := 1) dX12_drawn_5 rfl rfl ?_
  refine aw_iconst (pc := 6) dX12_drawn_6 iconst_1 ?_
  refine aw_bipush (pc := 7) dX12_drawn_7 bipush_60 ?_
  refine mt_I (pc := 9) (As := [.int n, .int (nI 1), .int (nI 60)]) (rest := []) dX12_drawn_9 rfl ok_X12_207 rfl rfl rfl (Nat.le_of_ble_eq_true rfl) (s_isIn ⟨_, _, rfl, rfl, ?_⟩)
  refine aw_top (y := bI (inC (nI 1) (nI 60) n)) rfl ?_
  refine ab_if_eq (pc := 12) (tgt := 24) dX12_drawn_12 rfl (fun h12 => ?_) (fun h12 => ?_)
  · -- 24
    refine aw_iconst (pc := 24) dX12_drawn_24 iconst_m1 ?_
    exact aw_iret (pc := 25) dX12_drawn_25 rfl (Nat.le_refl _) (Nat.le_refl _) (by simp only [drawnA, drawnS, h12, Bool.true_and, Bool.and_true, Bool.false_and, Bool.and_false, Bool.not_true, Bool.not_false, Bool.or_true, Bool.or_false, Bool.true_or, Bool.false_or, Bool.false_eq_true, Bool.true_eq_false, if_true, if_false, ite_true, ite_false, reduceIte, reduceCtorEq] at kk; exact kk)
  · -- 15
    obtain ⟨nn, b_nn, rfl⟩ := inC_t (by decide) (by decide) h12
    have e_nn := nI_clamp (n := nn) (by omega)
    refine aw_aload_n (pc := 15) (i := 0) dX12_drawn_15 rfl rfl ?_
    refine mg_s (pc := 16) dX12_drawn_16 rfl ?_
    refine aw_iconst (pc := 19) dX12_drawn_19 iconst_0 ?_
    refine ml_s (pc := 20) dX12_drawn_20 (by decide) ?_
    refine aw_top (y := (nI (σ.2.1 6 0))) rfl ?_
    refine an_if_ne (pc := 21) (tgt := 26) dX12_drawn_21 rfl (Nat.lt_trans (H.1.1.1 _) (by decide)) (fun h21 => ?_) (fun h21 => ?_)
    · -- 26
      refine aw_aload_n (pc := 26) (i := 0) dX12_drawn_26 rfl rfl ?_
      refine mg_s (pc := 27) dX12_drawn_27 rfl ?_
      refine aw_bipush (pc := 30) dX12_drawn_30 bipush_91 ?_
      refine ml_s (pc := 32) dX12_drawn_32 (by decide) ?_
      refine aw_top (y := (nI (σ.2.1 6 91))) rfl ?_
      refine aw_sipush (pc := 33) dX12_drawn_33 sipush_400 ?_
      refine an_icmp_ge (pc := 36) (tgt := 43) dX12_drawn_36 rfl (Nat.lt_trans (H.1.1.1 _) (by decide)) (by decide) (fun h36 => ?_) (fun h36 => ?_)
      · -- 43
        refine aw_aload_n (pc := 43) (i := 0) dX12_drawn_43 rfl rfl ?_
        refine aw_iload_n (pc := 44) (i := 1) dX12_drawn_44 rfl rfl ?_
        refine aw_iload_n (pc := 45) (i := 2) dX12_drawn_45 rfl rfl ?_
        refine mc_I (pc := 46) (As := [.int (nI nn), .int fr]) (rest := []) dX12_drawn_46 rfl ok_X12_435 rfl rfl rfl (Nat.le_of_ble_eq_true rfl) (s_draws (b := b) (by omega) (by omega) hb5 H ⟨_, _, rfl, rfl, ?_⟩)
        refine aw_top (y := nI (drawsG nn (fr, σ.2.1 6)).1) rfl ?_
        exact aw_iret (pc := 49) dX12_drawn_49 rfl (Nat.le_refl _) (Nat.le_refl _) (by simp only [drawnA, drawnS, h12, e_nn, h21, (Nat.ne_of_gt h21), if_neg (Nat.not_lt.mpr h36), Bool.true_and, Bool.and_true, Bool.false_and, Bool.and_false, Bool.not_true, Bool.not_false, Bool.or_true, Bool.or_false, Bool.true_or, Bool.false_or, Bool.false_eq_true, Bool.true_eq_false, if_true, if_false, ite_true, ite_false, reduceIte, reduceCtorEq] at kk; exact kk)
      · -- 39
        refine aw_aload_n (pc := 39) (i := 0) dX12_drawn_39 rfl rfl ?_
        refine mc_V (pc := 40) (As := []) (rest := []) dX12_drawn_40 rfl ok_X12_327 rfl rfl rfl (Nat.le_of_ble_eq_true rfl) (s_keep hm hm8 ⟨_, rfl, rfl, ?_⟩)
        refine aw_aload_n (pc := 43) (i := 0) dX12_drawn_43 rfl rfl ?_
        refine aw_iload_n (pc := 44) (i := 1) dX12_drawn_44 rfl rfl ?_
        refine aw_iload_n (pc := 45) (i := 2) dX12_drawn_45 rfl rfl ?_
        refine mc_I (pc := 46) (As := [.int (nI nn), .int fr]) (rest := []) dX12_drawn_46 rfl ok_X12_435 rfl rfl rfl (Nat.le_of_ble_eq_true rfl) (s_draws (b := b) (by omega) (by omega) hb5 H ⟨_, _, rfl, rfl, ?_⟩)
        refine aw_top (y := nI (drawsG nn (fr, σ.2.1 6)).1) rfl ?_
        exact aw_iret (pc := 49) dX12_drawn_49 rfl (Nat.le_refl _) (Nat.le_refl _) (by simp only [drawnA, drawnS, h12, e_nn, h21, (Nat.ne_of_gt h21), if_pos h36, Bool.true_and, Bool.and_true, Bool.false_and, Bool.and_false, Bool.not_true, Bool.not_false, Bool.or_true, Bool.or_false, Bool.true_or, Bool.false_or, Bool.false_eq_true, Bool.true_eq_false, if_true, if_false, ite_true, ite_false, reduceIte, reduceCtorEq] at kk; exact kk)
    · -- 24
      refine aw_iconst (pc := 24) dX12_drawn_24 iconst_m1 ?_
      exact aw_iret (pc := 25) dX12_drawn_25 rfl (Nat.le_refl _) (Nat.le_refl _) (by simp only [drawnA, drawnS, h12, e_nn, h21, Bool.true_and, Bool.and_true, Bool.false_and, Bool.and_false, Bool.not_true, Bool.not_false, Bool.or_true, Bool.or_false, Bool.true_or, Bool.false_or, Bool.false_eq_true, Bool.true_eq_false, if_true, if_false, ite_true, ite_false, reduceIte, reduceCtorEq] at kk; exact kk)
noncomputable def oddG (t : Nat → Nat) (q : Nat) (fr : Int32) : Nat → Nat
  | 0 => 0
  | n + 1 => oddG t q fr n + (if t (114 + q) < (drawsG 20 (fr + nI n, t)).2.2 (114 + q) then 1 else 0)
noncomputable def oddD (t : Nat → Nat) (fr x : Int32) : Nat → Int32
  | 0 => x
  | n + 1 => (drawsG 20 (fr + nI n, t)).2.1
noncomputable def oddsA (t : Nat → Nat) (q n fr : Int32) : Int32 := if inB (t 2) q = true then (if inC (nI 1) (nI 30) n = true then nI (oddG t q.toNatClampNeg fr n.toNatClampNeg) else -1) else -1
noncomputable def oddsS (σ : mS) (q n fr : Int32) : mS := if inB (σ.2.1 6 2) q = true then (if inC (nI 1) (nI 30) n = true then drS (triesS (mI σ 0 (nI 0))) (oddD (σ.2.1 6) fr (σ.1 46) n.toNatClampNeg, σ.2.1 6) else mI σ 0 (nI 0)) else mI σ 0 (nI 0)
set_option maxHeartbeats 1000000 in
set_option maxRecDepth 20000 in
theorem odds_loop {G : xG} {d : Nat} {Q : xQ} {a : Nat → Nat} {σ : mS} {q m b : Nat} {fr x : Int32} (hbf : σ.2.1 22 = cpF (σ.2.1 22) (σ.2.1 6) 0 91 47) (hq : q < 6) (hm : m ≤ 30) (hb : b + 126 * 20 ≤ 2 ^ 29) (hb5 : 4096 ≤ b) (H : WV (σ.2.1 6) b) (kk : Q (some (.int (nI (oddG (σ.2.1 6) q fr m)))) (mW G.2.2.1 a (drS σ (oddD (σ.2.1 6) fr x m, σ.2.1 6)))) : ∀ (n i : Nat), i + n = m → AW G MX12_odds (d + 5) 0 0 Q 46 [some (.ref (a 60)), some (.int (nI q)), some (.int (nI m)), some (.int fr), some (.int (nI (σ.2.1 6 (114 + q)))), some (.int (nI (oddG (σ.2.1 6) q fr i))), some (.int (nI i))] [] (mW G.2.2.1 a (drS σ (oddD (σ.2.1 6) fr x i, σ.2.1 6))) 0 0 := by
  intro n
  induction n with
  | zero =>
    intro i hi
    refine aw_iload (pc := 46) dX12_odds_46 rfl ?_
    refine aw_iload_n (pc := 48) (i := 2) dX12_odds_48 rfl rfl ?_
    refine an_icmp_ge (pc := 49) (tgt := 97) dX12_odds_49 rfl (by omega) (by omega) (fun h49 => ?_) (fun h49 => ?_)
    · -- 97
      refine aw_iload (pc := 97) dX12_odds_97 rfl ?_
      exact aw_iret (pc := 99) dX12_odds_99 rfl (Nat.le_refl _) (Nat.le_refl _) (by have e : i = m := (by omega); subst e; exact kk)
    · -- 52
      exfalso; omega
  | succ n ih =>
    intro i hi
    have dk := drawsG_keep 20 (x := (fr + nI i, σ.2.1 6)) hb hb5 H
    generalize hz : drawsG 20 (fr + nI i, σ.2.1 6) = z at *
    have hd1 : oddD (σ.2.1 6) fr x (i + 1) = z.2.1 := by rw [← hz]; rfl
    have ho1 : oddG (σ.2.1 6) q fr (i + 1) = oddG (σ.2.1 6) q fr i + (if σ.2.1 6 (114 + q) < z.2.2 (114 + q) then 1 else 0) := by rw [oddG, hz]
    refine aw_iload (pc := 46) dX12_odds_46 rfl ?_
    refine aw_iload_n (pc := 48) (i := 2) dX12_odds_48 rfl rfl ?_
    refine an_icmp_ge (pc := 49) (tgt := 97) dX12_odds_49 rfl (by omega) (by omega) (fun h49 => ?_) (fun h49 => ?_)
    · -- 97
      exfalso; omega
    · -- 52
      refine aw_aload_n (pc := 52) (i := 0) dX12_odds_52 rfl rfl ?_
      refine aw_bipush (pc := 53) dX12_odds_53 bipush_20 ?_
      refine aw_iload_n (pc := 55) (i := 3) dX12_odds_55 rfl rfl ?_
      refine aw_iload (pc := 56) dX12_odds_56 rfl ?_
      refine aw_iadd (pc := 58) dX12_odds_58 ?_
      refine mc_I (pc := 59) (As := [.int (nI 20), .int (fr + (nI i))]) (rest := []) dX12_odds_59 rfl ok_X12_435 rfl rfl rfl (Nat.le_of_ble_eq_true rfl) (s_draws (b := b) (by decide) hb hb5 H ⟨_, _, rfl, rfl, ?_⟩)
      refine aw_top (y := nI z.1) (by rw [← hz]; rfl) ?_
      refine aw_ws (w9 := mW G.2.2.1 a (drS σ z.2)) (by rw [← hz]; rfl) ?_
      refine aw_pop (pc := 62) dX12_odds_62 rfl ?_
      refine aw_iload (pc := 63) dX12_odds_63 rfl ?_
      refine aw_aload_n (pc := 65) (i := 0) dX12_odds_65 rfl rfl ?_
      refine mg_s (pc := 66) dX12_odds_66 rfl ?_
      refine aw_bipush (pc := 69) dX12_odds_69 bipush_114 ?_
      refine aw_iload_n (pc := 71) (i := 1) dX12_odds_71 rfl rfl ?_
      refine an_add (pc := 72) dX12_odds_72 ?_
      refine ml_s (pc := 73) dX12_odds_73 (by omega) ?_
      refine aw_top (y := (nI (z.2.2 (114 + q)))) rfl ?_
      refine aw_iload (pc := 74) dX12_odds_74 rfl ?_
      refine an_icmp_le (pc := 76) (tgt := 83) dX12_odds_76 rfl (Nat.lt_trans (dk.1.1.1.1 _) (by decide)) (Nat.lt_trans (H.1.1.1 _) (by decide)) (fun h76 => ?_) (fun h76 => ?_)
      · -- 83
        refine aw_iconst (pc := 83) dX12_odds_83 iconst_0 ?_
        refine an_add (pc := 84) dX12_odds_84 ?_
        refine aw_istore (pc := 85) (i := 5) dX12_odds_85 (Nat.le_of_ble_eq_true rfl) rfl ?_
        refine aw_aload_n (pc := 87) (i := 0) dX12_odds_87 rfl rfl ?_
        refine mc_V (pc := 88) (As := []) (rest := []) dX12_odds_88 rfl ok_X12_395 rfl rfl rfl (Nat.le_of_ble_eq_true rfl) (s_back ⟨_, rfl, rfl, ?_⟩)
        refine aw_ws (w9 := mW G.2.2.1 a (drS σ (oddD (σ.2.1 6) fr x (i + 1), σ.2.1 6))) (by rw [hd1]; exact congrArg (fun y => mW G.2.2.1 a (drS σ (z.2.1, y))) (show cpF z.2.2 (σ.2.1 22) 91 0 47 = σ.2.1 6 by rw [hbf]; exact back_id dk.2)) ?_
        refine an_inc (pc := 91) (z := 1) dX12_odds_91 rfl (Nat.le_of_ble_eq_true rfl) rfl ?_
        refine aw_goto (pc := 94) (tgt := 46) dX12_odds_94 rfl ?_
        refine aw_L (L9 := [some (.ref (a 60)), some (.int (nI q)), some (.int (nI m)), some (.int fr), some (.int (nI (σ.2.1 6 (114 + q)))), some (.int (nI (oddG (σ.2.1 6) q fr (i + 1)))), some (.int (nI (i + 1)))]) (by rw [ho1, if_neg (Nat.not_lt.mpr h76)]; rfl) ?_
        exact ih (i + 1) (by omega)
      · -- 79
        refine aw_iconst (pc := 79) dX12_odds_79 iconst_1 ?_
        refine aw_goto (pc := 80) (tgt := 84) dX12_odds_80 rfl ?_
        refine an_add (pc := 84) dX12_odds_84 ?_
        refine aw_istore (pc := 85) (i := 5) dX12_odds_85 (Nat.le_of_ble_eq_true rfl) rfl ?_
        refine aw_aload_n (pc := 87) (i := 0) dX12_odds_87 rfl rfl ?_
        refine mc_V (pc := 88) (As := []) (rest := []) dX12_odds_88 rfl ok_X12_395 rfl rfl rfl (Nat.le_of_ble_eq_true rfl) (s_back ⟨_, rfl, rfl, ?_⟩)
        refine aw_ws (w9 := mW G.2.2.1 a (drS σ (oddD (σ.2.1 6) fr x (i + 1), σ.2.1 6))) (by rw [hd1]; exact congrArg (fun y => mW G.2.2.1 a (drS σ (z.2.1, y))) (show cpF z.2.2 (σ.2.1 22) 91 0 47 = σ.2.1 6 by rw [hbf]; exact back_id dk.2)) ?_
        refine an_inc (pc := 91) (z := 1) dX12_odds_91 rfl (Nat.le_of_ble_eq_true rfl) rfl ?_
        refine aw_goto (pc := 94) (tgt := 46) dX12_odds_94 rfl ?_
        refine aw_L (L9 := [some (.ref (a 60)), some (.int (nI q)), some (.int (nI m)), some (.int fr), some (.int (nI (σ.2.1 6 (114 + q)))), some (.int (nI (oddG (σ.2.1 6) q fr (i + 1)))), some (.int (nI (i + 1)))]) (by rw [ho1, if_pos h76]; rfl) ?_
        exact ih (i + 1) (by omega)
set_option maxHeartbeats 1000000 in
set_option maxRecDepth 20000 in
theorem s_odds {G : xG} {d : Nat} {Q : xQ} {a : Nat → Nat} {σ : mS} {b : Nat} {q n fr : Int32} (hb : b + 126 * 20 ≤ 2 ^ 29) (hb5 : 4096 ≤ b) (H : WV (σ.2.1 6) b) (kk : Q (some (.int (oddsA (σ.2.1 6) q n fr))) (mW G.2.2.1 a (oddsS σ q n fr))) : MT G MX12_odds (d + 5) 0 0 [.ref (a 60), .int q, .int n, .int fr] (mW G.2.2.1 a σ) Q := by
  have h2 := H.1.1.2.2.2.1
  refine mt_start (L := [some (.ref (a 60)), some (.int q), some (.int n), some (.int fr), none, none, none]) rfl (Nat.le_of_ble_eq_true rfl) rfl ?_
  refine aw_aload_n (pc := 0) (i := 0) dX12_odds_0 rfl rfl ?_
  refine aw_iconst (pc := 1) dX12_odds_1 iconst_0 ?_
  refine mp_thrown (pc := 2) dX12_odds_2 rfl ?_
  refine aw_aload_n (pc := 5) (i := 0) dX12_odds_5 rfl rfl ?_
  refine aw_iload_n (pc := 6) (i := 1) dX12_odds_6 rfl rfl ?_
  refine mc_I (pc := 7) (As := [.int q]) (rest := []) dX12_odds_7 rfl ok_X12_302 rfl rfl rfl (Nat.le_of_ble_eq_true rfl) (s_isPerson ⟨_, _, rfl, rfl, ?_⟩)
  refine aw_top (y := bI (inB (σ.2.1 6 2) q)) rfl ?_
  refine ab_if_eq (pc := 10) (tgt := 23) dX12_odds_10 rfl (fun h10 => ?_) (fun h10 => ?_)
  · -- 23
    refine aw_iconst (pc := 23) dX12_odds_23 iconst_m1 ?_
    exact aw_iret (pc := 24) dX12_odds_24 rfl (Nat.le_refl _) (Nat.le_refl _) (by simp only [oddsA, oddsS, h10, Bool.true_and, Bool.and_true, Bool.false_and, Bool.and_false, Bool.not_true, Bool.not_false, Bool.or_true, Bool.or_false, Bool.true_or, Bool.false_or, Bool.false_eq_true, Bool.true_eq_false, if_true, if_false, ite_true, ite_false, reduceIte, reduceCtorEq] at kk; exact kk)
  · -- 13
    obtain ⟨qn, b_qn, rfl⟩ := inB_t (by omega) h10
    have e_qn := nI_clamp (n := qn) (by omega)
    refine aw_iload_n (pc := 13) (i := 2) dX12_odds_13 rfl rfl ?_
    refine aw_iconst (pc := 14) dX12_odds_14 iconst_1 ?_
    refine aw_bipush (pc := 15) dX12_odds_15 bipush_30 ?_
    refine mt_I (pc := 17) (As := [.int n, .int (nI 1), .int (nI 30)]) (rest := []) dX12_odds_17 rfl ok_X12_207 rfl rfl rfl (Nat.le_of_ble_eq_true rfl) (s_isIn ⟨_, _, rfl, rfl, ?_⟩)
    refine aw_top (y := bI (inC (nI 1) (nI 30) n)) rfl ?_
    refine ab_if_ne (pc := 20) (tgt := 25) dX12_odds_20 rfl (fun h20 => ?_) (fun h20 => ?_)
    · -- 25
      obtain ⟨nn, b_nn, rfl⟩ := inC_t (by decide) (by decide) h20
      have e_nn := nI_clamp (n := nn) (by omega)
      refine aw_aload_n (pc := 25) (i := 0) dX12_odds_25 rfl rfl ?_
      refine mc_V (pc := 26) (As := []) (rest := []) dX12_odds_26 rfl ok_X12_392 rfl rfl rfl (Nat.le_of_ble_eq_true rfl) (s_tries ⟨_, rfl, rfl, ?_⟩)
      refine aw_aload_n (pc := 29) (i := 0) dX12_odds_29 rfl rfl ?_
      refine mg_s (pc := 30) dX12_odds_30 rfl ?_
      refine aw_bipush (pc := 33) dX12_odds_33 bipush_114 ?_
      refine aw_iload_n (pc := 35) (i := 1) dX12_odds_35 rfl rfl ?_
      refine an_add (pc := 36) dX12_odds_36 ?_
      refine ml_s (pc := 37) dX12_odds_37 (by omega) ?_
      refine aw_top (y := (nI (σ.2.1 6 (114 + qn)))) rfl ?_
      refine aw_istore (pc := 38) (i := 4) dX12_odds_38 (Nat.le_of_ble_eq_true rfl) rfl ?_
      refine aw_iconst (pc := 40) dX12_odds_40 iconst_0 ?_
      refine aw_istore (pc := 41) (i := 5) dX12_odds_41 (Nat.le_of_ble_eq_true rfl) rfl ?_
      refine aw_iconst (pc := 43) dX12_odds_43 iconst_0 ?_
      refine aw_istore (pc := 44) (i := 6) dX12_odds_44 (Nat.le_of_ble_eq_true rfl) rfl ?_
      simp only [oddsA, oddsS, h10, e_qn, h20, e_nn, Bool.true_and, Bool.and_true, Bool.false_and, Bool.and_false, Bool.not_true, Bool.not_false, Bool.or_true, Bool.or_false, Bool.true_or, Bool.false_or, Bool.false_eq_true, Bool.true_eq_false, if_true, if_false, ite_true, ite_false, reduceIte, reduceCtorEq] at kk
      refine aw_ws (w9 := mW G.2.2.1 a (drS (triesS (mI σ 0 (nI 0))) (oddD (σ.2.1 6) fr (σ.1 46) 0, σ.2.1 6))) rfl ?_
      exact odds_loop (σ := triesS (mI σ 0 (nI 0))) (x := σ.1 46) (cp_cp _ _ _ _ _) (by have := H.1.1.2.2.2.1; omega) (by omega) hb hb5 H kk nn 0 (by omega)
    · -- 23
      refine aw_iconst (pc := 23) dX12_odds_23 iconst_m1 ?_
      exact aw_iret (pc := 24) dX12_odds_24 rfl (Nat.le_refl _) (Nat.le_refl _) (by simp only [oddsA, oddsS, h10, e_qn, h20, Bool.true_and, Bool.and_true, Bool.false_and, Bool.and_false, Bool.not_true, Bool.not_false, Bool.or_true, Bool.or_false, Bool.true_or, Bool.false_or, Bool.false_eq_true, Bool.true_eq_false, if_true, if_false, ite_true, ite_false, reduceIte, reduceCtorEq] at kk; exact kk)
