theorem tc_109 : (Cond.constant "InchBorders$State" 109 (1103515245 : Int32)) ∈ gtbl := gtbl_in (List.mem_of_getElem? (i := 1097) (by decide +kernel)) rfl
theorem aw_ldc {G : xG} {μ : xM} {d mc ms : Nat} {Q : xQ} {pc : Nat} {L : List (Option Value)} {st : List Value} {ws : va_W} {n k : Nat} {idx : Nat} {v : Int32} (hd : decode μ.2.1 pc = .ok (.ldc idx, 2)) (hc : Cond.constant μ.1.cls idx v ∈ gtbl) (kk : AW G μ d mc ms Q (pc + 2) L (.int v :: st) ws n k) : AW G μ d mc ms Q pc L st ws n k := by
  intro p e s m args below meth c H locs A ls C hS hP hD hl
  exact lv_ldc C.1 C.2.1 C.2.2.2.2.1 (C.2.2.2.2.2.1 _ hc) hd (kk p e s m args below meth c H locs A ls C hS hP hD hl)
theorem SRl.seed {c : Nat → Nat} {sn : Option Nat} {t : Nat → Nat} {sd v : Int32} {κ : kS} (h : SRl c sn t sd κ) : SRl c sn t v (kF κ 11 (.int v)) := by
  obtain ⟨e0, e1, e4, e5, e11, hL, hQ⟩ := h
  exact ⟨e0, e1, e4, e5, rfl, hL, hQ⟩
set_option maxHeartbeats 1000000 in
set_option maxRecDepth 20000 in
theorem c7_draw {G : xG} {d : Nat} {Q : xQ} {b c : Nat → Nat} {t : Nat → Nat} {sn : Option Nat} {sd : Int32} {κ : kS} {R : va_W} {m : Nat} (h : SRl c sn t sd κ) (hm : 0 < m) (hm9 : m < 2 ^ 31) (kk : ∀ κ9, SRl c sn t (sdF sd) κ9 → Q (some (.int (nI (drN sd m)))) (wSt G.2.2.1 b κ9 ++ R)) : MT G MX7_draw (d) 0 0 [.ref (b 12), .int (nI m)] (wSt G.2.2.1 b κ ++ R) Q := by
  refine mt_start (L := [some (.ref (b 12)), some (.int (nI m))]) rfl (Nat.le_of_ble_eq_true rfl) rfl ?_
  refine aw_iload_n (pc := 0) (i := 1) dX7_draw_0 rfl rfl ?_
  refine aw_iconst (pc := 1) dX7_draw_1 iconst_1 ?_
  refine an_icmp_ge (pc := 2) (tgt := 7) dX7_draw_2 rfl (by omega) (by decide) (fun h2 => ?_) (fun h2 => ?_)
  · -- 7
    refine aw_aload_n (pc := 7) (i := 0) dX7_draw_7 rfl rfl ?_
    refine aw_aload_n (pc := 8) (i := 0) dX7_draw_8 rfl rfl ?_
    refine pg_X7_44 (pc := 9) (v := .int sd) dX7_draw_9 rfl h.2.2.2.2.1 ?_
    refine aw_ldc (pc := 12) dX7_draw_12 tc_109 ?_
    refine aw_imul (pc := 14) dX7_draw_14 ?_
    refine aw_sipush (pc := 15) dX7_draw_15 sipush_12345 ?_
    refine aw_iadd (pc := 18) dX7_draw_18 ?_
    refine pp_X7_44 (pc := 19) dX7_draw_19 rfl ?_
    refine aw_aload_n (pc := 22) (i := 0) dX7_draw_22 rfl rfl ?_
    refine pg_X7_44 (pc := 23) (v := .int (((sd * 1103515245)) + ((nI 12345)))) dX7_draw_23 rfl rfl ?_
    refine aw_bipush (pc := 26) dX7_draw_26 bipush_8 ?_
    refine aw_iushr (pc := 28) dX7_draw_28 ?_
    refine aw_top (y := (nI ((sd * 1103515245 + nI 12345).toBitVec.toNat / 256))) (ush8 _) ?_
    refine aw_iload_n (pc := 29) (i := 1) dX7_draw_29 rfl rfl ?_
    refine an_rem (pc := 30) dX7_draw_30 (by have := (sd * 1103515245 + nI 12345).toBitVec.isLt; omega) (by omega) (by omega) ?_
    exact aw_iret (pc := 31) dX7_draw_31 rfl (Nat.le_refl _) (Nat.le_refl _) (by rw [drN_eq, sdF_eq] at kk; exact kk _ h.seed)
  · -- 5
    exfalso; omega
set_option maxHeartbeats 1000000 in
set_option maxRecDepth 20000 in
theorem per_loop {G : xG} {d : Nat} {Q : xQ} {b c : Nat → Nat} {NM : Nat → Int64} {sn : Option Nat} {R : va_W} {y : Int32 × (Nat → Nat)} {B : Nat} (hN : NB G) (hC0 : CHR G R c y.2 NM) (hB : B + 126 ≤ 2 ^ 29) (hB5 : 500 ≤ B) (H : WV y.2 B) (kk : ∀ κ9 v2, SRl c sn (perG y (y.2 2)).2 (perG y (y.2 2)).1 κ9 → AW G MX7_drawDay (d + 3) 0 0 Q 79 [some (.ref (b 12)), some (.int (nI (y.2 2))), v2] [] (wSt G.2.2.1 b κ9 ++ R) 0 0) : ∀ (z i : Nat) (κ : kS) (v2 : Option Value), i + z = y.2 2 → SRl c sn (perG y i).2 (perG y i).1 κ → AW G MX7_drawDay (d + 3) 0 0 Q 35 [some (.ref (b 12)), some (.int (nI i)), v2] [] (wSt G.2.2.1 b κ ++ R) 0 0 := by
  have hkp := perG_keep hB hB5 H
  have hw0 := H.1.1
  intro z
  induction z with
  | zero =>
    intro i κ v2 hi h
    obtain ⟨HV, hu2, hu0, hu91, hku⟩ := hkp i (by omega)
    have hC := hC0.to (fun j hj => hku j (by omega)) hw0.2.1 hw0.2.2.1 hw0.2.2.2.1
    have hw := HV.1.1
    obtain ⟨hb, h0, h1, h2, hR, hP, hD, hCl, hT⟩ := id hw
    have ei : i = y.2 2 := by omega
    subst ei
    refine aw_iload_n (pc := 35) (i := 1) dX7_drawDay_35 rfl rfl ?_
    refine aw_aload_n (pc := 36) (i := 0) dX7_drawDay_36 rfl rfl ?_
    refine pg_X7_47 (pc := 37) (v := .ref (c 13)) dX7_drawDay_37 rfl h.1 ?_
    refine av_get (pc := 40) (x := .int (nI ((perG y (y.2 2)).2 2))) dX7_drawDay_40 rfl og_X7_96 rfl (hC.sub mem_app).ov rfl ?_
    refine an_icmp_ge (pc := 43) (tgt := 79) dX7_drawDay_43 rfl (by omega) (Nat.lt_trans (hb _) (by decide)) (fun h43 => ?_) (fun h43 => ?_)
    · -- 79
      exact kk _ _ h
    · -- 46
      exfalso; omega
  | succ z ih =>
    intro i κ v2 hi h
    obtain ⟨HV, hu2, hu0, hu91, hku⟩ := hkp i (by omega)
    have hC := hC0.to (fun j hj => hku j (by omega)) hw0.2.1 hw0.2.2.1 hw0.2.2.2.1
    have hps : perG y (i + 1) = perS (perG y i) i := rfl
    have hw := HV.1.1
    generalize perG y i = x at *
    obtain ⟨hb, h0, h1, h2, hR, hP, hD, hCl, hT⟩ := id hw
    have hq := hP i (by omega)
    have hl := drN_lt x.1 (n := x.2 0) (by omega)
    have hps2 : perS x i = (sdF x.1, if whyX x.2 i (drN x.1 (x.2 0)) = 0 then crossF x.2 i (drN x.1 (x.2 0)) else x.2) := rfl
    have hwl := whyBy_le x.2 (x.2 (108 + i)) (drN x.1 (x.2 0)) (x.2 (114 + i)) (sparedF x.2 i)
    have hwx : whyX x.2 i (drN x.1 (x.2 0)) < 2 ^ 31 := by unfold whyX; omega
    refine aw_iload_n (pc := 35) (i := 1) dX7_drawDay_35 rfl rfl ?_
    refine aw_aload_n (pc := 36) (i := 0) dX7_drawDay_36 rfl rfl ?_
    refine pg_X7_47 (pc := 37) (v := .ref (c 13)) dX7_drawDay_37 rfl h.1 ?_
    refine av_get (pc := 40) (x := .int (nI (x.2 2))) dX7_drawDay_40 rfl og_X7_96 rfl (hC.sub mem_app).ov rfl ?_
    refine an_icmp_ge (pc := 43) (tgt := 79) dX7_drawDay_43 rfl (by omega) (Nat.lt_trans (hb _) (by decide)) (fun h43 => ?_) (fun h43 => ?_)
    · -- 79
      exfalso; omega
    · -- 46
      refine aw_aload_n (pc := 46) (i := 0) dX7_drawDay_46 rfl rfl ?_
      refine aw_aload_n (pc := 47) (i := 0) dX7_drawDay_47 rfl rfl ?_
      refine pg_X7_47 (pc := 48) (v := .ref (c 13)) dX7_drawDay_48 rfl h.1 ?_
      refine av_get (pc := 51) (x := .int (nI (x.2 0))) dX7_drawDay_51 rfl og_X7_89 rfl (hC.sub mem_app).ov rfl ?_
      refine cVi (pc := 54) (As := [.int (nI (x.2 0))]) (rest := []) dX7_drawDay_54 rfl oc_X7_105 rfl rfl (Nat.le_of_ble_eq_true rfl) rfl rfl ovX7 (Nat.le_refl _) (Nat.le_refl _) (c7_draw h (by omega) (Nat.lt_trans (hb _) (by decide)) ?_)
      intro κ1 g1
      refine ⟨_, rfl, ?_⟩
      refine aw_istore_n (pc := 57) (i := 2) dX7_drawDay_57 rfl (Nat.le_of_ble_eq_true rfl) rfl ?_
      refine aw_aload_n (pc := 58) (i := 0) dX7_drawDay_58 rfl rfl ?_
      refine aw_iload_n (pc := 59) (i := 1) dX7_drawDay_59 rfl rfl ?_
      refine aw_iload_n (pc := 60) (i := 2) dX7_drawDay_60 rfl rfl ?_
      refine cVi (pc := 61) (As := [.int (nI i), .int (nI (drN x.1 (x.2 0)))]) (rest := []) dX7_drawDay_61 rfl oc_X7_51 rfl rfl (Nat.le_of_ble_eq_true rfl) rfl rfl ovX7 (Nat.le_refl _) (Nat.le_refl _) (c7_over hN (g1.str h0 h2) (hC.sub mem_app) hw (by omega) (by omega) ⟨_, rfl, ?_⟩)
      refine an_if_ne (pc := 64) (tgt := 73) dX7_drawDay_64 rfl hwx (fun h64 => ?_) (fun h64 => ?_)
      · -- 73
        refine an_inc (pc := 73) (z := 1) dX7_drawDay_73 rfl (Nat.le_of_ble_eq_true rfl) rfl ?_
        refine aw_goto (pc := 76) (tgt := 35) dX7_drawDay_76 rfl ?_
        exact ih (i + 1) κ1 _ (by omega) (by rw [hps, hps2, if_neg (Nat.ne_of_gt h64)]; exact g1)
      · -- 67
        refine aw_aload_n (pc := 67) (i := 0) dX7_drawDay_67 rfl rfl ?_
        refine aw_iload_n (pc := 68) (i := 1) dX7_drawDay_68 rfl rfl ?_
        refine aw_iload_n (pc := 69) (i := 2) dX7_drawDay_69 rfl rfl ?_
        refine cVv (pc := 70) (As := [.int (nI i), .int (nI (drN x.1 (x.2 0)))]) (rest := []) dX7_drawDay_70 rfl oc_X7_64 rfl rfl (Nat.le_of_ble_eq_true rfl) rfl rfl ovX7 (Nat.le_refl _) (Nat.le_refl _) (c7_goOver hN g1 hC hw (by omega) (by omega) h64 ?_)
        intro κ2 g2
        refine ⟨rfl, ?_⟩
        refine an_inc (pc := 73) (z := 1) dX7_drawDay_73 rfl (Nat.le_of_ble_eq_true rfl) rfl ?_
        refine aw_goto (pc := 76) (tgt := 35) dX7_drawDay_76 rfl ?_
        exact ih (i + 1) κ2 _ (by omega) (by rw [hps, hps2, if_pos h64]; exact g2)
theorem dayD_1 (x : Int32 × (Nat → Nat)) : (dayD x).1 = (perG (turD x) ((turD x).2 2)).1 := rfl
theorem dayD_2 (x : Int32 × (Nat → Nat)) : (dayD x).2 = dayF (perG (turD x) ((turD x).2 2)).2 := rfl
set_option maxHeartbeats 1000000 in
theorem draw_tail {G : xG} {d : Nat} {Q : xQ} {b c : Nat → Nat} {NM : Nat → Int64} {sn : Option Nat} {R : va_W} {y : Int32 × (Nat → Nat)} {B : Nat} {κ : kS} {v1 v2 : Option Value} (hN : NB G) (hC0 : CHR G R c y.2 NM) (hB : B + 126 ≤ 2 ^ 29) (hB5 : 500 ≤ B) (H : WV y.2 B) (h : SRl c sn y.2 y.1 κ) (kk : ∀ κ9, SRl c sn (dayF (perG y (y.2 2)).2) (perG y (y.2 2)).1 κ9 → Q none (wSt G.2.2.1 b κ9 ++ R)) : AW G MX7_drawDay (d + 3) 0 0 Q 33 [some (.ref (b 12)), v1, v2] [] (wSt G.2.2.1 b κ ++ R) 0 0 := by
  refine aw_iconst (pc := 33) dX7_drawDay_33 iconst_0 ?_
  refine aw_istore_n (pc := 34) (i := 1) dX7_drawDay_34 rfl (Nat.le_of_ble_eq_true rfl) rfl ?_
  refine per_loop hN hC0 hB hB5 H ?_ (y.2 2) 0 κ v2 (by omega) h
  intro κ1 v3 h1
  obtain ⟨HV, hu2, hu0, hu91, hku⟩ := perG_keep hB hB5 H (y.2 2) (Nat.le_refl _)
  have hw0 := H.1.1
  have hC := hC0.to (fun j hj => hku j (by omega)) hw0.2.1 hw0.2.2.1 hw0.2.2.2.1
  refine aw_aload_n (pc := 79) (i := 0) dX7_drawDay_79 rfl rfl ?_
  refine cVv (pc := 80) (As := []) (rest := []) dX7_drawDay_80 rfl oc_X7_72 rfl rfl (Nat.le_of_ble_eq_true rfl) rfl rfl ovX7 (Nat.le_refl _) (Nat.le_refl _) (c7_goDay h1 hC HV.1.1 ?_)
  intro κ2 h2
  refine ⟨rfl, ?_⟩
  exact aw_vret (pc := 83) dX7_drawDay_83 rfl (Nat.le_refl _) (Nat.le_refl _) (kk _ h2)
set_option maxHeartbeats 1000000 in
set_option maxRecDepth 20000 in
theorem c7_drawDay {G : xG} {d : Nat} {Q : xQ} {b c : Nat → Nat} {NM : Nat → Int64} {sn : Option Nat} {R : va_W} {x : Int32 × (Nat → Nat)} {B : Nat} {κ : kS} (hN : NB G) (h : SRl c sn x.2 x.1 κ) (hC : CHR G R c x.2 NM) (hB : B + 126 ≤ 2 ^ 29) (hB5 : 4096 ≤ B) (H : WV x.2 B) (kk : ∀ κ9, SRl c sn (dayD x).2 (dayD x).1 κ9 → Q none (wSt G.2.2.1 b κ9 ++ R)) : MT G MX7_drawDay (d + 3) 0 0 [.ref (b 12)] (wSt G.2.2.1 b κ ++ R) Q := by
  have hw := H.1.1
  obtain ⟨hb, h0, h1, h2, hR, hP, hD, hCl, hT⟩ := id hw
  refine mt_start (L := [some (.ref (b 12)), none, none]) rfl (Nat.le_of_ble_eq_true rfl) rfl ?_
  refine aw_aload_n (pc := 0) (i := 0) dX7_drawDay_0 rfl rfl ?_
  refine aw_iconst (pc := 1) dX7_drawDay_1 iconst_4 ?_
  refine cVi (pc := 2) (As := [.int (nI 4)]) (rest := []) dX7_drawDay_2 rfl oc_X7_105 rfl rfl (Nat.le_of_ble_eq_true rfl) rfl rfl ovX7 (Nat.le_refl _) (Nat.le_refl _) (c7_draw h (by decide) (by decide) ?_)
  intro κ1 g1
  refine ⟨_, rfl, ?_⟩
  refine an_if_ne (pc := 5) (tgt := 33) dX7_drawDay_5 rfl (Nat.lt_trans (drN_lt x.1 (by decide : 0 < 4)) (by decide)) (fun h5 => ?_) (fun h5 => ?_)
  · -- 33
    have e := turD_3 (Nat.ne_of_gt h5)
    have hk := turD_keep hB5 H
    have hC9 : CHR G R c (turD x).2 NM := hC.to (fun j hj => hk.2.2.2.2 j (by omega)) h0 h1 h2
    refine draw_tail (y := turD x) hN hC9 (B := B) hB (by omega) hk.1 (by rw [e]; exact g1) ?_
    intro κ9 h9
    rw [← dayD_1, ← dayD_2] at h9
    exact kk _ h9
  · -- 8
    refine aw_aload_n (pc := 8) (i := 0) dX7_drawDay_8 rfl rfl ?_
    refine pg_X7_47 (pc := 9) (v := .ref (c 13)) dX7_drawDay_9 rfl g1.1 ?_
    refine av_get (pc := 12) (x := .int (nI (x.2 1))) dX7_drawDay_12 rfl og_X7_59 rfl (hC.sub mem_app).ov rfl ?_
    refine an_if_le (pc := 15) (tgt := 33) dX7_drawDay_15 rfl (Nat.lt_trans (hb _) (by decide)) (fun h15 => ?_) (fun h15 => ?_)
    · -- 33
      have e := turD_2 h5 (by omega)
      have hk := turD_keep hB5 H
      have hC9 : CHR G R c (turD x).2 NM := hC.to (fun j hj => hk.2.2.2.2 j (by omega)) h0 h1 h2
      refine draw_tail (y := turD x) hN hC9 (B := B) hB (by omega) hk.1 (by rw [e]; exact g1) ?_
      intro κ9 h9
      rw [← dayD_1, ← dayD_2] at h9
      exact kk _ h9
    · -- 18
      refine aw_aload_n (pc := 18) (i := 0) dX7_drawDay_18 rfl rfl ?_
      refine aw_aload_n (pc := 19) (i := 0) dX7_drawDay_19 rfl rfl ?_
      refine aw_aload_n (pc := 20) (i := 0) dX7_drawDay_20 rfl rfl ?_
      refine pg_X7_47 (pc := 21) (v := .ref (c 13)) dX7_drawDay_21 rfl g1.1 ?_
      refine av_get (pc := 24) (x := .int (nI (x.2 1))) dX7_drawDay_24 rfl og_X7_59 rfl (hC.sub mem_app).ov rfl ?_
      refine cVi (pc := 27) (As := [.int (nI (x.2 1))]) (rest := [.ref (b 12)]) dX7_drawDay_27 rfl oc_X7_105 rfl rfl (Nat.le_of_ble_eq_true rfl) rfl rfl ovX7 (Nat.le_refl _) (Nat.le_refl _) (c7_draw g1 (by omega) (Nat.lt_trans (hb _) (by decide)) ?_)
      intro κ2 g2
      refine ⟨_, rfl, ?_⟩
      refine cVv (pc := 30) (As := [.int (nI (drN (sdF x.1) (x.2 1)))]) (rest := []) dX7_drawDay_30 rfl oc_X7_68 rfl rfl (Nat.le_of_ble_eq_true rfl) rfl rfl ovX7 (Nat.le_refl _) (Nat.le_refl _) (c7_turnRoad g2 h0 h2 (hb _) (by have := drN_lt (sdF x.1) h15; omega) ?_)
      intro κ3 g3
      refine ⟨rfl, ?_⟩
      have e := turD_1 h5 h15
      have hk := turD_keep hB5 H
      have hC9 : CHR G R c (turD x).2 NM := hC.to (fun j hj => hk.2.2.2.2 j (by omega)) h0 h1 h2
      refine draw_tail (y := turD x) hN hC9 (B := B) hB (by omega) hk.1 (by rw [e]; exact g3) ?_
      intro κ9 h9
      rw [← dayD_1, ← dayD_2] at h9
      exact kk _ h9
set_option maxHeartbeats 1000000 in
set_option maxRecDepth 20000 in
theorem drawDays_loop {G : xG} {d : Nat} {Q : xQ} {b c : Nat → Nat} {NM : Nat → Int64} {sn : Option Nat} {R : va_W} {m : Nat} {fr : Int32} (hN : NB G) (hm : m < 2 ^ 31) : ∀ (n dn B : Nat) (x : Int32 × (Nat → Nat)) (κ : kS), dn + n = m → B + 126 * n ≤ 2 ^ 29 → 4096 ≤ B → WV x.2 B → CHR G R c x.2 NM → SRl c sn x.2 x.1 κ → (∀ κ9, SRl c sn (drawsG n x).2.2 (drawsG n x).2.1 κ9 → Q (some (.int (nI (dn + (drawsG n x).1)))) (wSt G.2.2.1 b κ9 ++ R)) → AW G MX7_drawDays (d + 4) 0 0 Q 7 [some (.ref (b 12)), some (.int (nI m)), some (.int fr), some (.int (nI dn))] [] (wSt G.2.2.1 b κ ++ R) 0 0 := by
  intro n
  induction n with
  | zero =>
    intro dn B x κ hd hB hB5 H hC h kk
    have hw := H.1.1
    obtain ⟨hb, h0, h1, h2, hR, hP, hD, hCl, hT⟩ := id hw
    refine aw_iload_n (pc := 7) (i := 3) dX7_drawDays_7 rfl rfl ?_
    refine aw_iload_n (pc := 8) (i := 1) dX7_drawDays_8 rfl rfl ?_
    refine an_icmp_ge (pc := 9) (tgt := 32) dX7_drawDays_9 rfl (by omega) (by omega) (fun h9 => ?_) (fun h9 => ?_)
    · -- 32
      refine aw_iload_n (pc := 32) (i := 3) dX7_drawDays_32 rfl rfl ?_
      exact aw_iret (pc := 33) dX7_drawDays_33 rfl (Nat.le_refl _) (Nat.le_refl _) (kk _ h)
    · -- 12
      exfalso; omega
  | succ n ih =>
    intro dn B x κ hd hB hB5 H hC h kk
    have hw := H.1.1
    obtain ⟨hb, h0, h1, h2, hR, hP, hD, hCl, hT⟩ := id hw
    have es : drawsG (n + 1) x = if x.2 91 < 400 then ((drawsG n (dayD x)).1 + 1, (drawsG n (dayD x)).2) else (0, x) := rfl
    refine aw_iload_n (pc := 7) (i := 3) dX7_drawDays_7 rfl rfl ?_
    refine aw_iload_n (pc := 8) (i := 1) dX7_drawDays_8 rfl rfl ?_
    refine an_icmp_ge (pc := 9) (tgt := 32) dX7_drawDays_9 rfl (by omega) (by omega) (fun h9 => ?_) (fun h9 => ?_)
    · -- 32
      exfalso; omega
    · -- 12
      refine aw_aload_n (pc := 12) (i := 0) dX7_drawDays_12 rfl rfl ?_
      refine pg_X7_26 (pc := 13) (v := .int (nI (x.2 91))) dX7_drawDays_13 rfl h.2.2.2.1 ?_
      refine aw_sipush (pc := 16) dX7_drawDays_16 sipush_400 ?_
      refine an_icmp_ge (pc := 19) (tgt := 32) dX7_drawDays_19 rfl (Nat.lt_trans (hb _) (by decide)) (by decide) (fun h19 => ?_) (fun h19 => ?_)
      · -- 32
        refine aw_iload_n (pc := 32) (i := 3) dX7_drawDays_32 rfl rfl ?_
        exact aw_iret (pc := 33) dX7_drawDays_33 rfl (Nat.le_refl _) (Nat.le_refl _) (by rw [es, if_neg (by omega)] at kk; exact kk _ h)
      · -- 22
        refine aw_aload_n (pc := 22) (i := 0) dX7_drawDays_22 rfl rfl ?_
        refine cVv (pc := 23) (As := []) (rest := []) dX7_drawDays_23 rfl oc_X7_102 rfl rfl (Nat.le_of_ble_eq_true rfl) rfl rfl ovX7 (Nat.le_refl _) (Nat.le_refl _) (c7_drawDay hN h hC (B := B) (by omega) hB5 H ?_)
        intro κ1 g1
        refine ⟨rfl, ?_⟩
        refine an_inc (pc := 26) (z := 1) dX7_drawDays_26 rfl (Nat.le_of_ble_eq_true rfl) rfl ?_
        refine aw_goto (pc := 29) (tgt := 7) dX7_drawDays_29 rfl ?_
        have hk := dayD_keep (b := B) (by omega) hB5 H h19
        refine ih (dn + 1) (B + 126) (dayD x) κ1 (by omega) (by omega) (by omega) hk.1 (hC.to (fun j hj => hk.2.2 j (by omega)) h0 h1 h2) g1 ?_
        rw [es, if_pos h19] at kk
        intro κ9 h9
        have := kk κ9 h9
        rw [show dn + ((drawsG n (dayD x)).1 + 1) = dn + 1 + (drawsG n (dayD x)).1 by omega] at this
        exact this
set_option maxHeartbeats 1000000 in
set_option maxRecDepth 20000 in
theorem c7_drawDays {G : xG} {d : Nat} {Q : xQ} {b c : Nat → Nat} {t : Nat → Nat} {NM : Nat → Int64} {sn : Option Nat} {sd : Int32} {κ : kS} {R : va_W} {m B : Nat} {fr : Int32} (hN : NB G) (h : SRl c sn t sd κ) (hC : CHR G R c t NM) (hm : m ≤ 60) (hB : B + 126 * m ≤ 2 ^ 29) (hB5 : 4096 ≤ B) (H : WV t B) (kk : ∀ κ9, SRl c sn (drawsG m (fr, t)).2.2 (drawsG m (fr, t)).2.1 κ9 → Q (some (.int (nI (drawsG m (fr, t)).1))) (wSt G.2.2.1 b κ9 ++ R)) : MT G MX7_drawDays (d + 4) 0 0 [.ref (b 12), .int (nI m), .int fr] (wSt G.2.2.1 b κ ++ R) Q := by
  refine mt_start (L := [some (.ref (b 12)), some (.int (nI m)), some (.int fr), none]) rfl (Nat.le_of_ble_eq_true rfl) rfl ?_
  refine aw_aload_n (pc := 0) (i := 0) dX7_drawDays_0 rfl rfl ?_
  refine aw_iload_n (pc := 1) (i := 2) dX7_drawDays_1 rfl rfl ?_
  refine pp_X7_44 (pc := 2) dX7_drawDays_2 rfl ?_
  refine aw_iconst (pc := 5) dX7_drawDays_5 iconst_0 ?_
  refine aw_istore_n (pc := 6) (i := 3) dX7_drawDays_6 rfl (Nat.le_of_ble_eq_true rfl) rfl ?_
  refine drawDays_loop hN (by omega) m 0 B (fr, t) _ (by omega) hB hB5 H hC h.seed ?_
  rw [Nat.zero_add]
  exact kk
