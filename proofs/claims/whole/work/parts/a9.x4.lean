theorem skv_2 {G : xG} {kd : Nat → Bool} {ad : Nat → Nat → Nat} {κ : Nat → kS} {n : Nat} {xs : List Nat} {R : va_W} (hn : 2 < n) (hx : 2 ∉ xs) : SKV G (WX G.2.2.1 kd ad κ n xs ++ R) (ad 2) (κ 2) := (SKV.of (G := G) (R := []) (b := ad 2) (κ := κ 2)).sub (fun x h9 => mem_R1 x (wx_mem hn hx x (by rw [List.append_nil] at h9; exact h9)))
theorem endOK_n {n k : Nat} (hn : n < 2 ^ 31) (hk : k < 2 ^ 31) : endOK n (nI k) = decide (k ≤ n) := by
  unfold endOK
  rw [decide_eq_true (show (0 : Int32) ≤ nI k from Int32.not_lt.mp (nI_pos hk)), Bool.true_and]
  by_cases q : k ≤ n
  · rw [decide_eq_true q, decide_eq_true ((nI_leI (by omega) (by omega)).mpr q)]
  · rw [decide_eq_false q, decide_eq_false (fun e => q ((nI_leI (by omega) (by omega)).mp e))]
theorem minK {m : Nat} (h : m ≤ 8) : min (m + 1) 8 = keepM m := by unfold keepM; split <;> omega
set_option maxHeartbeats 1000000 in
set_option maxRecDepth 20000 in
theorem x_feed {G : xG} {d : Nat} {Q : xQ} {ae : Nat → Nat} {tw ts : Nat} {kd : Nat → Bool} {ad : Nat → Nat → Nat} {κ : Nat → kS} {n : Nat} {σ : mS} {B : Nat} {R : va_W} {v1 v2 v3 v4 v5 : Int32} (hE : EB ae tw ts G) (hNB : NB G) (hAO : AO G) (hJ : J ae kd ad κ n σ B) (kk : ∀ κ9 n1, σ.1 2 = nI n1 → n1 ≤ 940 → J ae kd ad κ9 n (feedS σ n1 v1 v2 v3 v4 v5) B → Q (some (.int (feedA n1))) (WX G.2.2.1 kd ad κ9 n [] ++ R)) : MT G MX11_feed (d + 40) 0 0 [.ref ((ad 0) 20), .int v1, .int v2, .int v3, .int v4, .int v5] (WX G.2.2.1 kd ad κ n [] ++ R) Q := by
  obtain ⟨hn, hMain, hSub, hTape, hR10, hR11, hR12, hR13, hMisc, hRef, hB5, jc, NM, sn, sd, m, pn, im, hCht, hSR, hSnt, hTok, hPast, hPm, hSds, hImg⟩ := id hJ
  have hw : WT (σ.2.1 6) := hTok.1.1.1
  obtain ⟨n1, hTB, hlen, hflt⟩ := id hTape
  have hn9 := hTB.2.1
  have hI := ov_0 (G := G) (kd := kd) (ad := ad) (κ := κ) (xs := [1]) (R := R) (by omega : 0 < n) (by simp)
  refine mt_start (L := [some (.ref ((ad 0) 20)), some (.int v1), some (.int v2), some (.int v3), some (.int v4), some (.int v5)]) rfl (Nat.le_of_ble_eq_true rfl) rfl ?_
  refine aw_pull1 (p1 := 1) (by omega)  ?_
  refine aw_ws (w9 := (wTp G.2.2.1 (ad 1) (κ 1) ++ (WX G.2.2.1 kd ad κ n [1] ++ R))) rfl ?_
  refine aw_aload_n (pc := 0) (i := 0) dX11_feed_0 rfl rfl ?_
  refine av_get (pc := 1) (x := .ref ((ad 1) 13)) dX11_feed_1 rfl og_X11_10 rfl (hI.sub mem_app) hMain.1 ?_
  refine pg_X11_113 (pc := 4) (v := .int (nI n1)) dX11_feed_4 rfl hTB.1 ?_
  refine aw_bipush (pc := 7) dX11_feed_7 bipush_20 ?_
  refine an_add (pc := 9) dX11_feed_9 ?_
  refine aw_sipush (pc := 10) dX11_feed_10 sipush_940 ?_
  refine an_icmp_le (pc := 13) (tgt := 18) dX11_feed_13 rfl (by omega) (by decide) (fun h13 => ?_) (fun h13 => ?_)
  · -- 18
    refine aw_aload_n (pc := 18) (i := 0) dX11_feed_18 rfl rfl ?_
    refine av_get (pc := 19) (x := .ref ((ad 1) 13)) dX11_feed_19 rfl og_X11_10 rfl (hI.sub mem_app) hMain.1 ?_
    refine aw_iload_n (pc := 22) (i := 1) dX11_feed_22 rfl rfl ?_
    refine cVv (pc := 23) (As := [.int v1]) (rest := []) dX11_feed_23 rfl oc_X11_116 rfl rfl (Nat.le_of_ble_eq_true rfl) rfl rfl ovX8 (Nat.le_refl _) (Nat.le_refl _) (c8_add hTB (by omega) ?_)
    intro k1 g1 e1 f1
    refine ⟨rfl, ?_⟩
    refine aw_aload_n (pc := 26) (i := 0) dX11_feed_26 rfl rfl ?_
    refine av_get (pc := 27) (x := .ref ((ad 1) 13)) dX11_feed_27 rfl og_X11_10 rfl (hI.sub mem_app) hMain.1 ?_
    refine aw_iload_n (pc := 30) (i := 2) dX11_feed_30 rfl rfl ?_
    refine cVv (pc := 31) (As := [.int v2]) (rest := []) dX11_feed_31 rfl oc_X11_116 rfl rfl (Nat.le_of_ble_eq_true rfl) rfl rfl ovX8 (Nat.le_refl _) (Nat.le_refl _) (c8_add g1 (by omega) ?_)
    intro k2 g2 e2 f2
    refine ⟨rfl, ?_⟩
    refine aw_aload_n (pc := 34) (i := 0) dX11_feed_34 rfl rfl ?_
    refine av_get (pc := 35) (x := .ref ((ad 1) 13)) dX11_feed_35 rfl og_X11_10 rfl (hI.sub mem_app) hMain.1 ?_
    refine aw_iload_n (pc := 38) (i := 3) dX11_feed_38 rfl rfl ?_
    refine cVv (pc := 39) (As := [.int v3]) (rest := []) dX11_feed_39 rfl oc_X11_116 rfl rfl (Nat.le_of_ble_eq_true rfl) rfl rfl ovX8 (Nat.le_refl _) (Nat.le_refl _) (c8_add g2 (by omega) ?_)
    intro k3 g3 e3 f3
    refine ⟨rfl, ?_⟩
    refine aw_aload_n (pc := 42) (i := 0) dX11_feed_42 rfl rfl ?_
    refine av_get (pc := 43) (x := .ref ((ad 1) 13)) dX11_feed_43 rfl og_X11_10 rfl (hI.sub mem_app) hMain.1 ?_
    refine aw_iload (pc := 46) dX11_feed_46 rfl ?_
    refine cVv (pc := 48) (As := [.int v4]) (rest := []) dX11_feed_48 rfl oc_X11_116 rfl rfl (Nat.le_of_ble_eq_true rfl) rfl rfl ovX8 (Nat.le_refl _) (Nat.le_refl _) (c8_add g3 (by omega) ?_)
    intro k4 g4 e4 f4
    refine ⟨rfl, ?_⟩
    refine aw_aload_n (pc := 51) (i := 0) dX11_feed_51 rfl rfl ?_
    refine av_get (pc := 52) (x := .ref ((ad 1) 13)) dX11_feed_52 rfl og_X11_10 rfl (hI.sub mem_app) hMain.1 ?_
    refine aw_iload (pc := 55) dX11_feed_55 rfl ?_
    refine cVv (pc := 57) (As := [.int v5]) (rest := []) dX11_feed_57 rfl oc_X11_116 rfl rfl (Nat.le_of_ble_eq_true rfl) rfl rfl ovX8 (Nat.le_refl _) (Nat.le_refl _) (c8_add g4 (by omega) ?_)
    intro k5 g5 e5 f5
    refine ⟨rfl, ?_⟩
    refine aw_aload_n (pc := 60) (i := 0) dX11_feed_60 rfl rfl ?_
    refine av_get (pc := 61) (x := .ref ((ad 1) 13)) dX11_feed_61 rfl og_X11_10 rfl (hI.sub mem_app) hMain.1 ?_
    refine pg_X11_113 (pc := 64) (v := .int (nI (n1 + 20))) dX11_feed_64 rfl g5.1 ?_
    refine aw_push1 (p1 := 1) (by omega)  ?_
    refine aw_iret (pc := 67) dX11_feed_67 rfl (Nat.le_refl _) (Nat.le_refl _) ?_
    have := kk (upN κ 1 k5) n1 hlen hn9 (by rw [show feedS σ n1 v1 v2 v3 v4 v5 = _ from if_pos (by omega)]; exact ⟨hn, hMain, hSub, ⟨_, g5, rfl, (e5.trans (e4.trans (e3.trans (e2.trans e1)))).trans hflt⟩, hR10, hR11, hR12, hR13, hMisc, hRef, hB5, jc, NM, sn, sd, m, pn, im, jSt.up (by decide) (by decide) (by decide) ⟨hCht, hSR, hSnt, hTok, hPast, hPm, hSds, hImg⟩⟩)
    rw [show feedA n1 = nI (n1 + 20) from if_pos (by omega)] at this
    exact this
  · -- 16
    refine aw_iconst (pc := 16) dX11_feed_16 iconst_m1 ?_
    refine aw_push1 (p1 := 1) (by omega)  ?_
    refine aw_iret (pc := 17) dX11_feed_17 rfl (Nat.le_refl _) (Nat.le_refl _) ?_
    rw [upN_id _ _ rfl]
    have := kk κ n1 hlen hn9 (by rw [show feedS σ n1 v1 v2 v3 v4 v5 = mI σ 0 (nI 0) from if_neg (by omega)]; exact hJ.th)
    rw [show feedA n1 = -1 from if_neg (by omega)] at this
    exact this
set_option maxHeartbeats 1000000 in
set_option maxRecDepth 20000 in
theorem x_end {G : xG} {d : Nat} {Q : xQ} {ae : Nat → Nat} {tw ts : Nat} {kd : Nat → Bool} {ad : Nat → Nat → Nat} {κ : Nat → kS} {n : Nat} {σ : mS} {B : Nat} {R : va_W} {x : Int32} (hE : EB ae tw ts G) (hNB : NB G) (hAO : AO G) (hJ : J ae kd ad κ n σ B) (kk : ∀ κ9 n1, σ.1 2 = nI n1 → J ae kd ad κ9 n (endS σ n1 x) B → Q (some (.int (bI (endOK n1 x)))) (WX G.2.2.1 kd ad κ9 n [] ++ R)) : MT G MX11_end (d + 40) 0 0 [.ref ((ad 0) 20), .int x] (WX G.2.2.1 kd ad κ n [] ++ R) Q := by
  obtain ⟨hn, hMain, hSub, hTape, hR10, hR11, hR12, hR13, hMisc, hRef, hB5, jc, NM, sn, sd, m, pn, im, hCht, hSR, hSnt, hTok, hPast, hPm, hSds, hImg⟩ := id hJ
  have hw : WT (σ.2.1 6) := hTok.1.1.1
  obtain ⟨n1, hTB, hlen, hflt⟩ := id hTape
  have hn9 := hTB.2.1
  have hI := ov_0 (G := G) (kd := kd) (ad := ad) (κ := κ) (xs := [1]) (R := R) (by omega : 0 < n) (by simp)
  by_cases hx : x < 0
  · have hok : endOK n1 x = false := by unfold endOK; rw [decide_eq_false (fun q => absurd hx (Int32.not_lt.mpr q))]; rfl
    refine mt_start (L := [some (.ref ((ad 0) 20)), some (.int x)]) rfl (Nat.le_of_ble_eq_true rfl) rfl ?_
    refine aw_pull1 (p1 := 1) (by omega)  ?_
    refine aw_ws (w9 := (wTp G.2.2.1 (ad 1) (κ 1) ++ (WX G.2.2.1 kd ad κ n [1] ++ R))) rfl ?_
    refine aw_iload_n (pc := 0) (i := 1) dX11_end_0 rfl rfl ?_
    refine aw_if_lt (pc := 1) (tgt := 15) dX11_end_1 rfl (fun h1 => ?_) (fun h1 => ?_)
    · -- 15
      refine aw_iconst (pc := 15) dX11_end_15 iconst_0 ?_
      refine aw_push1 (p1 := 1) (by omega)  ?_
      refine ab_ret0 (pc := 16) dX11_end_16 rfl (Nat.le_refl _) (Nat.le_refl _) ?_
      rw [upN_id _ _ rfl]
      have := kk κ n1 hlen (by rw [show endS σ n1 x = mI σ 0 (nI 0) from if_neg (by rw [hok]; decide)]; exact hJ.th)
      rw [hok] at this
      exact this
    · -- 4
      exact absurd hx h1
  · obtain ⟨k, hk9, rfl⟩ : ∃ k, k < 2 ^ 31 ∧ x = nI k := ⟨_, (i32_nat hx).2, (i32_nat hx).1⟩
    have hok := endOK_n (n := n1) (k := k) (by omega) hk9
    refine mt_start (L := [some (.ref ((ad 0) 20)), some (.int (nI k))]) rfl (Nat.le_of_ble_eq_true rfl) rfl ?_
    refine aw_pull1 (p1 := 1) (by omega)  ?_
    refine aw_ws (w9 := (wTp G.2.2.1 (ad 1) (κ 1) ++ (WX G.2.2.1 kd ad κ n [1] ++ R))) rfl ?_
    refine aw_iload_n (pc := 0) (i := 1) dX11_end_0 rfl rfl ?_
    refine an_if_lt (pc := 1) (tgt := 15) dX11_end_1 rfl (by omega) ?_
    refine aw_iload_n (pc := 4) (i := 1) dX11_end_4 rfl rfl ?_
    refine aw_aload_n (pc := 5) (i := 0) dX11_end_5 rfl rfl ?_
    refine av_get (pc := 6) (x := .ref ((ad 1) 13)) dX11_end_6 rfl og_X11_10 rfl (hI.sub mem_app) hMain.1 ?_
    refine pg_X11_113 (pc := 9) (v := .int (nI n1)) dX11_end_9 rfl hTB.1 ?_
    refine an_icmp_le (pc := 12) (tgt := 17) dX11_end_12 rfl (by omega) (by omega) (fun h12 => ?_) (fun h12 => ?_)
    · -- 17
      refine aw_aload_n (pc := 17) (i := 0) dX11_end_17 rfl rfl ?_
      refine av_get (pc := 18) (x := .ref ((ad 1) 13)) dX11_end_18 rfl og_X11_10 rfl (hI.sub mem_app) hMain.1 ?_
      refine aw_iload_n (pc := 21) (i := 1) dX11_end_21 rfl rfl ?_
      refine pp_X11_113 (pc := 22) dX11_end_22 rfl ?_
      refine aw_iconst (pc := 25) dX11_end_25 iconst_1 ?_
      refine aw_push1 (p1 := 1) (by omega)  ?_
      refine ab_ret1 (pc := 26) dX11_end_26 rfl (Nat.le_refl _) (Nat.le_refl _) ?_
      rw [decide_eq_true (by omega)] at hok
      have := kk (upN κ 1 (kF (κ 1) 1 (.int (nI k)))) n1 hlen (by rw [show endS σ n1 (nI k) = mI (mI σ 0 (nI 0)) 2 (nI k) from if_pos hok]; exact ⟨hn, hMain, hSub, ⟨k, ⟨rfl, by omega, hTB.2.2⟩, rfl, hflt⟩, hR10, hR11, hR12, hR13, hMisc, hRef, hB5, jc, NM, sn, sd, m, pn, im, jSt.up (by decide) (by decide) (by decide) ⟨hCht, hSR, hSnt, hTok, hPast, hPm, hSds, hImg⟩⟩)
      rw [hok] at this
      exact this
    · -- 15
      refine aw_iconst (pc := 15) dX11_end_15 iconst_0 ?_
      refine aw_push1 (p1 := 1) (by omega)  ?_
      refine ab_ret0 (pc := 16) dX11_end_16 rfl (Nat.le_refl _) (Nat.le_refl _) ?_
      rw [decide_eq_false (by omega)] at hok
      rw [upN_id _ _ rfl]
      have := kk κ n1 hlen (by rw [show endS σ n1 (nI k) = mI σ 0 (nI 0) from if_neg (by rw [hok]; decide)]; exact hJ.th)
      rw [hok] at this
      exact this
set_option maxHeartbeats 1000000 in
set_option maxRecDepth 20000 in
theorem c11_keep {G : xG} {d : Nat} {Q : xQ} {ae : Nat → Nat} {tw ts : Nat} {kd : Nat → Bool} {ad : Nat → Nat → Nat} {κ : Nat → kS} {n : Nat} {σ : mS} {B : Nat} {R : va_W} (hE : EB ae tw ts G) (hNB : NB G) (hAO : AO G) (hJ : J ae kd ad κ n σ B) (kk : ∀ κ9 m, σ.1 23 = nI m → m ≤ 8 → J ae kd ad κ9 n (keepS σ m) B → Q none (WX G.2.2.1 kd ad κ9 n [] ++ R)) : MT G MX11_keep (d + 1) 0 0 [.ref ((ad 0) 20)] (WX G.2.2.1 kd ad κ n [] ++ R) Q := by
  obtain ⟨hn, hMain, hSub, hTape, hR10, hR11, hR12, hR13, hMisc, hRef, hB5, jc, NM, sn, sd, m, pn, im, hCht, hSR, hSnt, hTok, hPast, hPm, hSds, hImg⟩ := id hJ
  have hw : WT (σ.2.1 6) := hTok.1.1.1
  obtain ⟨hb, h0, h1, h2, hRd, hP, hD, hCl, hT⟩ := id hw
  have hm8 := hPm.2.2.2.1
  have hp8 := hPm.2.2.2.2
  obtain ⟨sdp, hsp⟩ := hSds (14 + pn) (by omega) (by omega)
  refine mt_start (L := [some (.ref ((ad 0) 20))]) rfl (Nat.le_of_ble_eq_true rfl) rfl ?_
  refine aw_pull2 (p1 := 0) (p2 := 14 + pn) (by omega) (by omega) (by omega) ?_
  rw [ck_st (i := 14 + pn) (by omega) (by omega)]
  refine aw_ws (w9 := (wIb G.2.2.1 (ad 0) (κ 0) ++ (wSt G.2.2.1 (ad (14 + pn)) (κ (14 + pn)) ++ (WX G.2.2.1 kd ad κ n [14 + pn, 0] ++ R)))) rfl ?_
  refine aw_aload_n (pc := 0) (i := 0) dX11_keep_0 rfl rfl ?_
  refine pg_X11_18 (pc := 1) dX11_keep_1 rfl ?_
  refine aw_aload_n (pc := 4) (i := 0) dX11_keep_4 rfl rfl ?_
  refine pg_X11_22 (pc := 5) (v := .int (nI pn)) dX11_keep_5 rfl hPm.2.1 ?_
  refine pl_X11_past (pc := 8) (x := some (ad (14 + pn) 12)) dX11_keep_8 (by omega) (hMain.2.2.2.2.2.2.2.2.2.2.2.1 pn (by omega)) ?_
  refine aw_topV (y := .ref (ad (14 + pn) 12)) rfl ?_
  refine aw_aload_n (pc := 9) (i := 0) dX11_keep_9 rfl rfl ?_
  refine pg_X11_72 (pc := 10) (v := .ref ((ad 2) 12)) dX11_keep_10 rfl hMain.2.1 ?_
  refine aw_swap ?_
  refine cVv (pc := 13) (As := [.ref ((ad 2) 12)]) (rest := []) dX11_keep_13 rfl oc_X11_132 rfl rfl (Nat.le_of_ble_eq_true rfl) rfl rfl ovX7 (Nat.le_refl _) (Nat.le_refl _) (c7_copy hsp ((skv_2 (by omega) (by simp; omega)).sub mem_app) hSR h0 h2 ?_)
  intro k1 sd1 g1
  refine ⟨rfl, ?_⟩
  refine aw_aload_n (pc := 16) (i := 0) dX11_keep_16 rfl rfl ?_
  refine aw_aload_n (pc := 17) (i := 0) dX11_keep_17 rfl rfl ?_
  refine aw_swap ?_
  refine pg_X11_22 (pc := 18) (v := .int (nI pn)) dX11_keep_18 rfl hPm.2.1 ?_
  refine aw_bipush (pc := 21) dX11_keep_21 bipush_7 ?_
  refine an_icmp_ne (pc := 23) (tgt := 30) dX11_keep_23 rfl (by omega) (by decide) (fun h23 => ?_) (fun h23 => ?_)
  · -- 30
    refine aw_aload_n (pc := 30) (i := 0) dX11_keep_30 rfl rfl ?_
    refine pg_X11_22 (pc := 31) (v := .int (nI pn)) dX11_keep_31 rfl hPm.2.1 ?_
    refine aw_iconst (pc := 34) dX11_keep_34 iconst_1 ?_
    refine an_add (pc := 35) dX11_keep_35 ?_
    refine pp_X11_22 (pc := 36) dX11_keep_36 rfl ?_
    refine aw_aload_n (pc := 39) (i := 0) dX11_keep_39 rfl rfl ?_
    refine aw_aload_n (pc := 40) (i := 0) dX11_keep_40 rfl rfl ?_
    refine pg_X11_26 (pc := 41) (v := .int (nI m)) dX11_keep_41 rfl hPm.2.2.1 ?_
    refine aw_iconst (pc := 44) dX11_keep_44 iconst_1 ?_
    refine an_add (pc := 45) dX11_keep_45 ?_
    refine aw_bipush (pc := 46) dX11_keep_46 bipush_8 ?_
    refine aw_min (pc := 48) dX11_keep_48 rfl mk_X11_232 (Nat.le_of_ble_eq_true rfl) (Nat.le_refl _) (Nat.le_refl _) ?_
    refine aw_top (y := nI (keepM m)) ((min_nI (by omega) (by omega)).trans (congrArg nI (minK hm8))) ?_
    refine pp_X11_26 (pc := 51) dX11_keep_51 rfl ?_
    refine aw_ws (w9 := ck G.2.2.1 kd 0 (ad 0) (kF (kF (κ 0) 4 (.int (nI (pn + 1)))) 5 (.int (nI (keepM m)))) ++ (ck G.2.2.1 kd (14 + pn) (ad (14 + pn)) k1 ++ (WX G.2.2.1 kd ad κ n [14 + pn, 0] ++ R))) (by rw [ck_st (i := 14 + pn) (by omega) (by omega)]; rfl) ?_
    refine aw_push2 (p1 := 0) (p2 := 14 + pn) (by omega) (by omega) (by omega) ?_
    exact aw_vret (pc := 54) dX11_keep_54 rfl (Nat.le_refl _) (Nat.le_refl _) (kk _ m hPm.1 hm8 (hJ.keep ⟨hCht, hSR, hSnt, hTok, hPast, hPm, hSds, hImg⟩ ⟨_, g1⟩ (fun k e4 e5 => by show upN (upN (κ 0).1 4 _) 5 _ k = _; rw [upN_n _ _ _ _ e5, upN_n _ _ _ _ e4]) rfl (by rw [pnS_n h23]; rfl) rfl))
  · -- 26
    refine aw_iconst (pc := 26) dX11_keep_26 iconst_0 ?_
    refine aw_goto (pc := 27) (tgt := 36) dX11_keep_27 rfl ?_
    refine pp_X11_22 (pc := 36) dX11_keep_36 rfl ?_
    refine aw_aload_n (pc := 39) (i := 0) dX11_keep_39 rfl rfl ?_
    refine aw_aload_n (pc := 40) (i := 0) dX11_keep_40 rfl rfl ?_
    refine pg_X11_26 (pc := 41) (v := .int (nI m)) dX11_keep_41 rfl hPm.2.2.1 ?_
    refine aw_iconst (pc := 44) dX11_keep_44 iconst_1 ?_
    refine an_add (pc := 45) dX11_keep_45 ?_
    refine aw_bipush (pc := 46) dX11_keep_46 bipush_8 ?_
    refine aw_min (pc := 48) dX11_keep_48 rfl mk_X11_232 (Nat.le_of_ble_eq_true rfl) (Nat.le_refl _) (Nat.le_refl _) ?_
    refine aw_top (y := nI (keepM m)) ((min_nI (by omega) (by omega)).trans (congrArg nI (minK hm8))) ?_
    refine pp_X11_26 (pc := 51) dX11_keep_51 rfl ?_
    refine aw_ws (w9 := ck G.2.2.1 kd 0 (ad 0) (kF (kF (κ 0) 4 (.int (nI 0))) 5 (.int (nI (keepM m)))) ++ (ck G.2.2.1 kd (14 + pn) (ad (14 + pn)) k1 ++ (WX G.2.2.1 kd ad κ n [14 + pn, 0] ++ R))) (by rw [ck_st (i := 14 + pn) (by omega) (by omega)]; rfl) ?_
    refine aw_push2 (p1 := 0) (p2 := 14 + pn) (by omega) (by omega) (by omega) ?_
    exact aw_vret (pc := 54) dX11_keep_54 rfl (Nat.le_refl _) (Nat.le_refl _) (kk _ m hPm.1 hm8 (hJ.keep ⟨hCht, hSR, hSnt, hTok, hPast, hPm, hSds, hImg⟩ ⟨_, g1⟩ (fun k e4 e5 => by show upN (upN (κ 0).1 4 _) 5 _ k = _; rw [upN_n _ _ _ _ e5, upN_n _ _ _ _ e4]) rfl (by rw [h23]; rfl) rfl))
