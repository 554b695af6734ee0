theorem J_trs {ae : Nat → Nat} {kd : Nat → Bool} {ad : Nat → Nat → Nat} {κ : Nat → kS} {n : Nat} {σ : mS} {B : Nat} {x y : Int32} (h : J ae kd ad κ n σ B) : J ae kd ad κ n (drS (triesS (mI σ 0 x)) (y, σ.2.1 6)) B := by
  unfold drS
  rw [show sN (triesS (mI σ 0 x)) 6 (y, σ.2.1 6).2 = triesS (mI σ 0 x) from sN_same (σ := triesS (mI σ 0 x)) (k := 6)]
  exact h
theorem ptD_le {t : Nat → Nat} {x y q : Nat} (h : t 93 < 2 ^ t 1) (hq : q < 2 ^ t 1) (hd : ptD t x y q = true) : q ≤ openSet t := by
  unfold ptD at hd
  have h0 : q &&& t 93 = 0 := of_decide_eq_true (by revert hd; cases decide (q &&& t 93 = 0) <;> simp)
  exact andN_0le ((fit_iff hq (open_bit h)).mpr h0)
set_option maxHeartbeats 1000000 in
set_option maxRecDepth 20000 in
theorem odd_loop {G : xG} {d : Nat} {Q : xQ} {ae : Nat → Nat} {tw ts : Nat} {kd : Nat → Bool} {ad : Nat → Nat → Nat} {κ : Nat → kS} {n : Nat} {σ : mS} {B : Nat} {R : va_W} {i u : Nat} {fr : Int32} (hE : EB ae tw ts G) (hNB : NB G) (hAO : AO G) (hJ : J ae kd ad κ n σ B) (hi : i < σ.2.1 6 2) (hu : u ≤ 30) (hB9 : B + 2520 ≤ 2 ^ 29) (kk : ∀ k3, (∃ sd, k3.1 11 = .int sd) → Q (some (.int (nI (oddG (σ.2.1 6) i fr u)))) (wSt G.2.2.1 (ad 3) k3 ++ (WX G.2.2.1 kd ad κ n [3] ++ R))) : ∀ (z j : Nat) (k3 : kS) (sd3 : Int32), j + z = u → k3.1 11 = .int sd3 → AW G MX11_odds (d + 5) 0 0 Q 27 [some (.ref ((ad 0) 20)), some (.int (nI i)), some (.int (nI u)), some (.int fr), some (.int (nI (oddG (σ.2.1 6) i fr j))), some (.int (nI j))] [] (wSt G.2.2.1 (ad 3) k3 ++ (WX G.2.2.1 kd ad κ n [3] ++ R)) 0 0 := by
  obtain ⟨hn, hMain, hSub, hTape, hR10, hR11, hR12, hR13, hMisc, hRef, hB5, jc, NM, sn, sd, m, pn, im, hCht, hSR, hSnt, hTok, hPast, hPm, hSds, hImg⟩ := id hJ
  have hw : WT (σ.2.1 6) := hTok.1.1.1
  obtain ⟨hb, h0, h1, h2, hRd, hP, hD, hCl, hT⟩ := id hw
  have hIx := ov_0 (G := G) (kd := kd) (ad := ad) (κ := κ) (xs := [3]) (R := R) (by omega : 0 < n) (by simp)
  have hSx := st_2 (G := G) (kd := kd) (ad := ad) (n := n) (xs := [3]) (R := R) hSR hw (by omega) (by simp)
  have hCx : CHR G (WX G.2.2.1 kd ad κ n [3] ++ R) (ad jc) (σ.2.1 6) NM := (hCht.chr (ad := ad) hw (fun i hi => by simp at hi; omega)).sub mem_R1
  obtain ⟨sd9, hSo, hS2, hS3, hS6, hS7, hS8, hS9, hS10⟩ := id hSx
  intro z
  induction z with
  | zero =>
    intro j k3 sd3 hj h11
    obtain rfl : j = u := by omega
    refine aw_iload (pc := 27) dX11_odds_27 rfl ?_
    refine aw_iload_n (pc := 29) (i := 2) dX11_odds_29 rfl rfl ?_
    refine an_icmp_ge (pc := 30) (tgt := 88) dX11_odds_30 rfl (by omega) (by omega) (fun h30 => ?_) (fun h30 => ?_)
    · -- 88
      refine aw_iload (pc := 88) dX11_odds_88 rfl ?_
      exact aw_iret (pc := 90) dX11_odds_90 rfl (Nat.le_refl _) (Nat.le_refl _) (kk _ ⟨_, h11⟩)
    · -- 33
      exfalso; omega
  | succ z ih =>
    intro j k3 sd3 hj h11
    have hdo := drawsG_keep 20 (x := (fr + nI j, σ.2.1 6)) (by omega) hB5 hTok.1
    refine aw_iload (pc := 27) dX11_odds_27 rfl ?_
    refine aw_iload_n (pc := 29) (i := 2) dX11_odds_29 rfl rfl ?_
    refine an_icmp_ge (pc := 30) (tgt := 88) dX11_odds_30 rfl (by omega) (by omega) (fun h30 => ?_) (fun h30 => ?_)
    · -- 88
      exfalso; omega
    · -- 33
      refine aw_aload_n (pc := 33) (i := 0) dX11_odds_33 rfl rfl ?_
      refine av_get (pc := 34) (x := .ref ((ad 3) 12)) dX11_odds_34 rfl og_X11_76 rfl (hIx.sub mem_app) hMain.2.2.1 ?_
      refine aw_aload_n (pc := 37) (i := 0) dX11_odds_37 rfl rfl ?_
      refine av_get (pc := 38) (x := .ref ((ad 2) 12)) dX11_odds_38 rfl og_X11_72 rfl (hIx.sub mem_app) hMain.2.1 ?_
      refine cVv (pc := 41) (As := [.ref ((ad 2) 12)]) (rest := []) dX11_odds_41 rfl oc_X11_132 rfl rfl (Nat.le_of_ble_eq_true rfl) rfl rfl ovX7 (Nat.le_refl _) (Nat.le_refl _) (c7_copy h11 (skv_2 (by omega) (by simp)) hSR h0 h2 ?_)
      intro k4 sd4 g4
      refine ⟨rfl, ?_⟩
      refine aw_aload_n (pc := 44) (i := 0) dX11_odds_44 rfl rfl ?_
      refine av_get (pc := 45) (x := .ref ((ad 3) 12)) dX11_odds_45 rfl og_X11_76 rfl (hIx.sub mem_app) hMain.2.2.1 ?_
      refine aw_bipush (pc := 48) dX11_odds_48 bipush_20 ?_
      refine aw_iload_n (pc := 50) (i := 3) dX11_odds_50 rfl rfl ?_
      refine aw_iload (pc := 51) dX11_odds_51 rfl ?_
      refine aw_iadd (pc := 53) dX11_odds_53 ?_
      refine cVi (pc := 54) (As := [.int (nI 20), .int (fr + ((nI j)))]) (rest := []) dX11_odds_54 rfl oc_X11_322 rfl rfl (Nat.le_of_ble_eq_true rfl) rfl rfl ovX7 (Nat.le_refl _) (Nat.le_refl _) (c7_drawDays hNB g4 hCx (by decide) (by omega) hB5 hTok.1 ?_)
      intro k5 g5
      refine ⟨_, rfl, ?_⟩
      obtain ⟨U, hU⟩ : ∃ U, U = (drawsG 20 (fr + nI j, σ.2.1 6)).2.2 := ⟨_, rfl⟩
      rw [← hU] at g5 hdo
      have hU2 : U 2 = σ.2.1 6 2 := hdo.2 2 (by omega)
      have hUb := hdo.1.1.2 (114 + i)
      refine aw_pop (pc := 57) dX11_odds_57 rfl ?_
      refine aw_aload_n (pc := 58) (i := 0) dX11_odds_58 rfl rfl ?_
      refine av_get (pc := 59) (x := .ref ((ad 3) 12)) dX11_odds_59 rfl og_X11_76 rfl (hIx.sub mem_app) hMain.2.2.1 ?_
      refine pg_X11_152 (pc := 62) dX11_odds_62 rfl ?_
      refine aw_iload_n (pc := 65) (i := 1) dX11_odds_65 rfl rfl ?_
      refine pl_X7_length (pc := 66) (x := (nI (U (114 + i)))) dX11_odds_66 (by omega) (g5.2.2.2.2.2.2 i (by omega)).2.1 ?_
      refine aw_aload_n (pc := 67) (i := 0) dX11_odds_67 rfl rfl ?_
      refine av_get (pc := 68) (x := .ref ((ad 2) 12)) dX11_odds_68 rfl og_X11_72 rfl (hIx.sub mem_app) hMain.2.1 ?_
      refine av_get (pc := 71) (x := .ref ((ad 2) 7)) dX11_odds_71 rfl og_X11_152 rfl (hSo.sub mem_app) rfl ?_
      refine aw_iload_n (pc := 74) (i := 1) dX11_odds_74 rfl rfl ?_
      refine av_iald (pc := 75) (x := (nI ((σ.2.1 6) (114 + i)))) dX11_odds_75 (hS7.sub mem_app) (by omega) (by decide) rfl ?_
      refine an_icmp_le (pc := 76) (tgt := 82) dX11_odds_76 rfl (by omega) (Nat.lt_trans (hb _) (by decide)) (fun h76 => ?_) (fun h76 => ?_)
      · -- 82
        refine an_inc (pc := 82) (z := 1) dX11_odds_82 rfl (Nat.le_of_ble_eq_true rfl) rfl ?_
        refine aw_goto (pc := 85) (tgt := 27) dX11_odds_85 rfl ?_
        have e9 : oddG (σ.2.1 6) i fr (j + 1) = oddG (σ.2.1 6) i fr j := by show oddG (σ.2.1 6) i fr j + (if _ then _ else _) = _; rw [← hU, if_neg (show ¬ σ.2.1 6 (114 + i) < U (114 + i) by omega), Nat.add_zero]
        refine aw_L (L9 := [some (.ref ((ad 0) 20)), some (.int (nI i)), some (.int (nI u)), some (.int fr), some (.int (nI (oddG (σ.2.1 6) i fr (j + 1)))), some (.int (nI (j + 1)))]) (by rw [e9]; rfl) ?_
        exact ih (j + 1) _ _ (by omega) g5.2.2.2.2.1
      · -- 79
        refine an_inc (pc := 79) (z := 1) dX11_odds_79 rfl (Nat.le_of_ble_eq_true rfl) rfl ?_
        refine an_inc (pc := 82) (z := 1) dX11_odds_82 rfl (Nat.le_of_ble_eq_true rfl) rfl ?_
        refine aw_goto (pc := 85) (tgt := 27) dX11_odds_85 rfl ?_
        have e9 : oddG (σ.2.1 6) i fr (j + 1) = oddG (σ.2.1 6) i fr j + 1 := by show oddG (σ.2.1 6) i fr j + (if _ then _ else _) = _; rw [← hU, if_pos (show σ.2.1 6 (114 + i) < U (114 + i) by omega)]
        refine aw_L (L9 := [some (.ref ((ad 0) 20)), some (.int (nI i)), some (.int (nI u)), some (.int fr), some (.int (nI (oddG (σ.2.1 6) i fr (j + 1)))), some (.int (nI (j + 1)))]) (by rw [e9]; rfl) ?_
        exact ih (j + 1) _ _ (by omega) g5.2.2.2.2.1
set_option maxHeartbeats 1000000 in
set_option maxRecDepth 20000 in
theorem x_odds {G : xG} {d : Nat} {Q : xQ} {ae : Nat → Nat} {tw ts : Nat} {kd : Nat → Bool} {ad : Nat → Nat → Nat} {κ : Nat → kS} {n : Nat} {σ : mS} {B : Nat} {R : va_W} {x y fr : Int32} (hE : EB ae tw ts G) (hNB : NB G) (hAO : AO G) (hJ : J ae kd ad κ n σ B) (hB9 : B + 2520 ≤ 2 ^ 29) (kk : ∀ κ9, J ae kd ad κ9 n (oddsS σ x y fr) B → Q (some (.int (oddsA (σ.2.1 6) x y fr))) (WX G.2.2.1 kd ad κ9 n [] ++ R)) : MT G MX11_odds (d + 5) 0 0 [.ref ((ad 0) 20), .int x, .int y, .int fr] (WX G.2.2.1 kd ad κ n [] ++ R) Q := by
  obtain ⟨hn, hMain, hSub, hTape, hR10, hR11, hR12, hR13, hMisc, hRef, hB5, jc, NM, sn, sd, m, pn, im, hCht, hSR, hSnt, hTok, hPast, hPm, hSds, hImg⟩ := id hJ
  have hw : WT (σ.2.1 6) := hTok.1.1.1
  have hI := ov_0 (G := G) (kd := kd) (ad := ad) (κ := κ) (xs := []) (R := R) (by omega : 0 < n) (by simp)
  have hTp := ov_1 (G := G) (kd := kd) (ad := ad) (κ := κ) (xs := []) (R := R) (by omega : 1 < n) (by simp)
  have hS := st_2 (G := G) (kd := kd) (ad := ad) (n := n) (xs := []) (R := R) hSR hw (by omega) (by simp)
  have hC : CHR G (WX G.2.2.1 kd ad κ n [] ++ R) (ad jc) (σ.2.1 6) NM := (hCht.chr (ad := ad) hw (fun i hi => by simp at hi)).sub mem_R1
  obtain ⟨hb, h0, h1, h2, hRd, hP, hD, hCl, hT⟩ := id hw
  obtain ⟨sd9, hSo, hS2, hS3, hS6, hS7, hS8, hS9, hS10⟩ := id hS
  obtain ⟨n1, hTB, hlen, hflt⟩ := id hTape
  obtain ⟨sd3, hsd3⟩ := hSub.1
  by_cases hy : y < 0
  · have hin : inC (nI 1) (nI 30) y = false := inC_neg (by decide) hy
    refine mt_start (L := [some (.ref ((ad 0) 20)), some (.int x), some (.int y), some (.int fr), none, none]) rfl (Nat.le_of_ble_eq_true rfl) rfl ?_
    refine aw_aload_n (pc := 0) (i := 0) dX11_odds_0 rfl rfl ?_
    refine aw_iload_n (pc := 1) (i := 1) dX11_odds_1 rfl rfl ?_
    refine cVi (pc := 2) (As := [.int x]) (rest := []) dX11_odds_2 rfl oc_X11_135 rfl rfl (Nat.le_of_ble_eq_true rfl) rfl rfl hI (Nat.le_refl _) (Nat.le_refl _) (c11_isPerson hI hMain.2.1 hS hC (by omega) ⟨_, rfl, ?_⟩)
    refine ab_if_eq (pc := 5) (tgt := 19) dX11_odds_5 rfl (fun h5 => ?_) (fun h5 => ?_)
    · -- 19
      refine aw_iconst (pc := 19) dX11_odds_19 iconst_m1 ?_
      refine aw_iret (pc := 20) dX11_odds_20 rfl (Nat.le_refl _) (Nat.le_refl _) ?_
      have := kk κ (by rw [show oddsS σ x y fr = mI σ 0 (nI 0) from if_neg (by rw [h5]; decide)]; exact hJ.th)
      rw [show oddsA (σ.2.1 6) x y fr = -1 from if_neg (by rw [h5]; decide)] at this
      exact this
    · -- 8
      obtain ⟨i, hi, rfl⟩ := inB_t (Nat.lt_of_le_of_lt h2 (by decide)) h5
      refine aw_iload_n (pc := 8) (i := 2) dX11_odds_8 rfl rfl ?_
      refine aw_iconst (pc := 9) dX11_odds_9 iconst_1 ?_
      refine aw_icmp_lt (pc := 10) (tgt := 19) dX11_odds_10 rfl (fun h10 => ?_) (fun h10 => ?_)
      · -- 19
        refine aw_iconst (pc := 19) dX11_odds_19 iconst_m1 ?_
        refine aw_iret (pc := 20) dX11_odds_20 rfl (Nat.le_refl _) (Nat.le_refl _) ?_
        have := kk κ (by rw [show oddsS σ (nI i) y fr = mI σ 0 (nI 0) from (if_pos h5).trans (if_neg (by rw [hin]; decide))]; exact hJ.th)
        rw [show oddsA (σ.2.1 6) (nI i) y fr = -1 from (if_pos h5).trans (if_neg (by rw [hin]; decide))] at this
        exact this
      · -- 13
        exact absurd (Int32.lt_trans hy (by decide)) h10
  · obtain ⟨u, hu9, rfl⟩ : ∃ k, k < 2 ^ 31 ∧ y = nI k := ⟨_, (i32_nat hy).2, (i32_nat hy).1⟩
    refine mt_start (L := [some (.ref ((ad 0) 20)), some (.int x), some (.int (nI u)), some (.int fr), none, none]) rfl (Nat.le_of_ble_eq_true rfl) rfl ?_
    refine aw_aload_n (pc := 0) (i := 0) dX11_odds_0 rfl rfl ?_
    refine aw_iload_n (pc := 1) (i := 1) dX11_odds_1 rfl rfl ?_
    refine cVi (pc := 2) (As := [.int x]) (rest := []) dX11_odds_2 rfl oc_X11_135 rfl rfl (Nat.le_of_ble_eq_true rfl) rfl rfl hI (Nat.le_refl _) (Nat.le_refl _) (c11_isPerson hI hMain.2.1 hS hC (by omega) ⟨_, rfl, ?_⟩)
    refine ab_if_eq (pc := 5) (tgt := 19) dX11_odds_5 rfl (fun h5 => ?_) (fun h5 => ?_)
    · -- 19
      refine aw_iconst (pc := 19) dX11_odds_19 iconst_m1 ?_
      refine aw_iret (pc := 20) dX11_odds_20 rfl (Nat.le_refl _) (Nat.le_refl _) ?_
      have := kk κ (by rw [show oddsS σ x (nI u) fr = mI σ 0 (nI 0) from if_neg (by rw [h5]; decide)]; exact hJ.th)
      rw [show oddsA (σ.2.1 6) x (nI u) fr = -1 from if_neg (by rw [h5]; decide)] at this
      exact this
    · -- 8
      obtain ⟨i, hi, rfl⟩ := inB_t (Nat.lt_of_le_of_lt h2 (by decide)) h5
      refine aw_iload_n (pc := 8) (i := 2) dX11_odds_8 rfl rfl ?_
      refine aw_iconst (pc := 9) dX11_odds_9 iconst_1 ?_
      refine an_icmp_lt (pc := 10) (tgt := 19) dX11_odds_10 rfl (by omega) (by decide) (fun h10 => ?_) (fun h10 => ?_)
      · -- 19
        refine aw_iconst (pc := 19) dX11_odds_19 iconst_m1 ?_
        refine aw_iret (pc := 20) dX11_odds_20 rfl (Nat.le_refl _) (Nat.le_refl _) ?_
        have := kk κ (by rw [show oddsS σ (nI i) (nI u) fr = mI σ 0 (nI 0) from (if_pos h5).trans (if_neg (by rw [inC_f (by decide) (by decide) hu9 (by omega)]; decide))]; exact hJ.th)
        rw [show oddsA (σ.2.1 6) (nI i) (nI u) fr = -1 from (if_pos h5).trans (if_neg (by rw [inC_f (by decide) (by decide) hu9 (by omega)]; decide))] at this
        exact this
      · -- 13
        refine aw_iload_n (pc := 13) (i := 2) dX11_odds_13 rfl rfl ?_
        refine aw_bipush (pc := 14) dX11_odds_14 bipush_30 ?_
        refine an_icmp_le (pc := 16) (tgt := 21) dX11_odds_16 rfl (by omega) (by decide) (fun h16 => ?_) (fun h16 => ?_)
        · -- 21
          refine aw_iconst (pc := 21) dX11_odds_21 iconst_0 ?_
          refine aw_istore (pc := 22) (i := 4) dX11_odds_22 (Nat.le_of_ble_eq_true rfl) rfl ?_
          refine aw_iconst (pc := 24) dX11_odds_24 iconst_0 ?_
          refine aw_istore (pc := 25) (i := 5) dX11_odds_25 (Nat.le_of_ble_eq_true rfl) rfl ?_
          refine aw_pull1 (p1 := 3) (by omega)  ?_
          refine aw_ws (w9 := (wSt G.2.2.1 (ad 3) (κ 3) ++ (WX G.2.2.1 kd ad κ n [3] ++ R))) rfl ?_
          have hin := inC_y (a := 1) (b := 30) (by decide) (by decide) hu9 (by omega)
          refine AW_Qw (fun v wd hq => ?_) (odd_loop hE hNB hAO hJ hi (show u ≤ 30 by omega) hB9 (Q := fun v wd => ∃ k3, (∃ sd, k3.1 11 = .int sd) ∧ v = some (.int (nI (oddG (σ.2.1 6) i fr u))) ∧ wd = wSt G.2.2.1 (ad 3) k3 ++ (WX G.2.2.1 kd ad κ n [3] ++ R)) (fun k3 hk => ⟨k3, hk, rfl, rfl⟩) u 0 (κ 3) sd3 (by omega) hsd3)
          obtain ⟨k9, hx9, rfl, rfl⟩ := hq
          refine ⟨_, p_push1 (i := 3) (by omega), ?_⟩
          have := kk (upN κ 3 k9) (by rw [show oddsS σ (nI i) (nI u) fr = drS (triesS (mI σ 0 (nI 0))) (oddD (σ.2.1 6) fr (σ.1 46) u, σ.2.1 6) by unfold oddsS; rw [if_pos h5, if_pos hin, nI_clamp (by omega)]]; exact J_trs (show J ae kd ad (upN κ 3 k9) n σ B from ⟨hn, hMain, ⟨hx9, hSub.2⟩, hTape, hR10, hR11, hR12, hR13, hMisc, hRef, hB5, jc, NM, sn, sd, m, pn, im, (jSt.up (i := 3) (by omega) (by omega) (by omega) ⟨hCht, hSR, hSnt, hTok, hPast, hPm, hSds, hImg⟩)⟩))
          rw [show oddsA (σ.2.1 6) (nI i) (nI u) fr = nI (oddG (σ.2.1 6) i fr u) by unfold oddsA; rw [if_pos h5, if_pos hin, nI_clamp (by omega), nI_clamp (by omega)]] at this
          exact this
        · -- 19
          refine aw_iconst (pc := 19) dX11_odds_19 iconst_m1 ?_
          refine aw_iret (pc := 20) dX11_odds_20 rfl (Nat.le_refl _) (Nat.le_refl _) ?_
          have := kk κ (by rw [show oddsS σ (nI i) (nI u) fr = mI σ 0 (nI 0) from (if_pos h5).trans (if_neg (by rw [inC_f (by decide) (by decide) hu9 (by omega)]; decide))]; exact hJ.th)
          rw [show oddsA (σ.2.1 6) (nI i) (nI u) fr = -1 from (if_pos h5).trans (if_neg (by rw [inC_f (by decide) (by decide) hu9 (by omega)]; decide))] at this
          exact this
set_option maxHeartbeats 1000000 in
set_option maxRecDepth 20000 in
theorem part_in {G : xG} {d : Nat} {Q : xQ} {ae : Nat → Nat} {tw ts : Nat} {kd : Nat → Bool} {ad : Nat → Nat → Nat} {κ : Nat → kS} {n : Nat} {σ : mS} {B : Nat} {R : va_W} {i j s : Nat} (hE : EB ae tw ts G) (hNB : NB G) (hAO : AO G) (hJ : J ae kd ad κ n σ B) (hi : i < σ.2.1 6 0) (hj : j < σ.2.1 6 0) (hij : ¬ i = j) (hs12 : s ≤ 12) (kk : ∀ b, MNs (ptD (σ.2.1 6) i j) (2 ^ σ.2.1 6 1) b → Q (some (.int (nI (bitsN b)))) (wIb G.2.2.1 (ad 0) (kF (κ 0) 19 (.int (nI b))) ++ (WX G.2.2.1 kd ad κ n [0] ++ R))) (hinv : (∀ q, q < 2 ^ σ.2.1 6 1 → ptD (σ.2.1 6) i j q = true → s ≤ bitsN q)) (K : (∀ q, q < 2 ^ σ.2.1 6 1 → ptD (σ.2.1 6) i j q = true → s + 1 ≤ bitsN q) → ∀ o5 o6, AW G MX11_part (d + 3) 0 0 Q 51 [some (.ref ((ad 0) 20)), some (.int (nI i)), some (.int (nI j)), some (.int (nI (openSet (σ.2.1 6)))), some (.int (nI (s + 1))), o5, o6] [] (wIb G.2.2.1 (ad 0) (κ 0) ++ (WX G.2.2.1 kd ad κ n [0] ++ R)) 0 0) : ∀ (z e : Nat) (o6 : Option Value), e + z = openSet (σ.2.1 6) + 1 → (∀ q, q < e → ptD (σ.2.1 6) i j q = true → ¬ bitsN q = s) → AW G MX11_part (d + 3) 0 0 Q 61 [some (.ref ((ad 0) 20)), some (.int (nI i)), some (.int (nI j)), some (.int (nI (openSet (σ.2.1 6)))), some (.int (nI s)), some (.int (nI e)), o6] [] (wIb G.2.2.1 (ad 0) (κ 0) ++ (WX G.2.2.1 kd ad κ n [0] ++ R)) 0 0 := by
  obtain ⟨hn, hMain, hSub, hTape, hR10, hR11, hR12, hR13, hMisc, hRef, hB5, jc, NM, sn, sd, m, pn, im, hCht, hSR, hSnt, hTok, hPast, hPm, hSds, hImg⟩ := id hJ
  have hw : WT (σ.2.1 6) := hTok.1.1.1
  obtain ⟨hb, h0, h1, h2, hRd, hP, hD, hCl, hT⟩ := id hw
  have hSx := st_2 (G := G) (kd := kd) (ad := ad) (n := n) (xs := [0]) (R := R) hSR hw (by omega) (by simp)
  have hCx : CHR G (WX G.2.2.1 kd ad κ n [0] ++ R) (ad jc) (σ.2.1 6) NM := (hCht.chr (ad := ad) hw (fun i hi => by simp at hi; omega)).sub mem_R1
  obtain ⟨sd9, hSo, hS2, hS3, hS6, hS7, hS8, hS9, hS10⟩ := id hSx
  have hos := open_lt hCl
  have h4096 : 2 ^ σ.2.1 6 1 ≤ 2 ^ 12 := Nat.pow_le_pow_right (by decide) h1
  intro z
  induction z with
  | zero =>
    intro e o6 he hne
    refine aw_iload (pc := 61) dX11_part_61 rfl ?_
    refine aw_iload_n (pc := 63) (i := 3) dX11_part_63 rfl rfl ?_
    refine an_icmp_gt (pc := 64) (tgt := 138) dX11_part_64 rfl (by omega) (by omega) (fun h64 => ?_) (fun h64 => ?_)
    · -- 138
      refine an_inc (pc := 138) (z := 1) dX11_part_138 rfl (Nat.le_of_ble_eq_true rfl) rfl ?_
      refine aw_goto (pc := 141) (tgt := 51) dX11_part_141 rfl ?_
      refine K (fun q hq hd => ?_) _ _
      have a1 := hinv q hq hd
      have a2 := hne q (by have := ptD_le hCl hq hd; omega) hd
      omega
    · -- 67
      exfalso; omega
  | succ z ih =>
    intro e o6 he hne
    have hbl := bitsN_le e
    have hE4 : e < 4096 := by omega
    have hE2 : e < 2 ^ σ.2.1 6 1 := by omega
    refine aw_iload (pc := 61) dX11_part_61 rfl ?_
    refine aw_iload_n (pc := 63) (i := 3) dX11_part_63 rfl rfl ?_
    refine an_icmp_gt (pc := 64) (tgt := 138) dX11_part_64 rfl (by omega) (by omega) (fun h64 => ?_) (fun h64 => ?_)
    · -- 138
      exfalso; omega
    · -- 67
      refine aw_iload (pc := 67) dX11_part_67 rfl ?_
      refine aw_iload_n (pc := 69) (i := 3) dX11_part_69 rfl rfl ?_
      refine aw_iconst (pc := 70) dX11_part_70 iconst_m1 ?_
      refine aw_ixor (pc := 71) dX11_part_71 ?_
      refine aw_iand (pc := 72) dX11_part_72 ?_
      refine aw_top (y := (nI (andN e (openSet (σ.2.1 6))))) (andN_i _ _ (by omega) (by omega)) ?_
      refine an_if_ne (pc := 73) (tgt := 90) dX11_part_73 rfl (by have := andN_le e (openSet (σ.2.1 6)) 12 hE4; omega) (fun h73 => ?_) (fun h73 => ?_)
      · -- 90
        refine aw_iconst (pc := 90) dX11_part_90 iconst_0 ?_
        refine aw_istore (pc := 91) (i := 6) dX11_part_91 (Nat.le_of_ble_eq_true rfl) rfl ?_
        refine aw_iload (pc := 93) dX11_part_93 rfl ?_
        refine an_if_eq (pc := 95) (tgt := 132) dX11_part_95 rfl (by decide) (fun h95 => ?_) (fun h95 => absurd h95 (by decide))
        refine an_inc (pc := 132) (z := 1) dX11_part_132 rfl (Nat.le_of_ble_eq_true rfl) rfl ?_
        refine aw_goto (pc := 135) (tgt := 61) dX11_part_135 rfl ?_
        have hf : ptD (σ.2.1 6) i j e = false := by unfold ptD; rw [decide_eq_false (fun q => by have := (fit_iff hE2 (open_bit hCl)).mpr q; omega)]; rfl
        refine ih (e + 1) _ (by omega) (fun q hq hd => ?_)
        by_cases q9 : q = e
        · subst q9; rw [hf] at hd; cases hd
        · exact hne q (by omega) hd
      · -- 76
        refine aw_iload (pc := 76) dX11_part_76 rfl ?_
        refine cSi (pc := 78) (As := [.int (nI e)]) (rest := []) dX11_part_78 rfl oc_X11_265 rfl rfl (Nat.le_of_ble_eq_true rfl) (Nat.le_refl _) (Nat.le_refl _) (c_bitCount hE4 ⟨_, rfl, ?_⟩)
        refine aw_iload (pc := 81) dX11_part_81 rfl ?_
        refine an_icmp_ne (pc := 83) (tgt := 90) dX11_part_83 rfl (by omega) (by omega) (fun h83 => ?_) (fun h83 => ?_)
        · -- 90
          refine aw_iconst (pc := 90) dX11_part_90 iconst_0 ?_
          refine aw_istore (pc := 91) (i := 6) dX11_part_91 (Nat.le_of_ble_eq_true rfl) rfl ?_
          refine aw_iload (pc := 93) dX11_part_93 rfl ?_
          refine an_if_eq (pc := 95) (tgt := 132) dX11_part_95 rfl (by decide) (fun h95 => ?_) (fun h95 => absurd h95 (by decide))
          refine an_inc (pc := 132) (z := 1) dX11_part_132 rfl (Nat.le_of_ble_eq_true rfl) rfl ?_
          refine aw_goto (pc := 135) (tgt := 61) dX11_part_135 rfl ?_
          refine ih (e + 1) _ (by omega) (fun q hq hd => ?_)
          by_cases q9 : q = e
          · subst q9; exact h83
          · exact hne q (by omega) hd
        · -- 86
          refine aw_iconst (pc := 86) dX11_part_86 iconst_1 ?_
          refine aw_goto (pc := 87) (tgt := 91) dX11_part_87 rfl ?_
          refine aw_istore (pc := 91) (i := 6) dX11_part_91 (Nat.le_of_ble_eq_true rfl) rfl ?_
          refine aw_iload (pc := 93) dX11_part_93 rfl ?_
          refine an_if_eq (pc := 95) (tgt := 132) dX11_part_95 rfl (by decide) (fun h95 => absurd h95 (by decide)) (fun h95 => ?_)
          refine aw_aload_n (pc := 98) (i := 0) dX11_part_98 rfl rfl ?_
          refine pg_X11_72 (pc := 99) (v := .ref ((ad 2) 12)) dX11_part_99 rfl hMain.2.1 ?_
          refine av_get (pc := 102) (x := .ref ((ad jc) 13)) dX11_part_102 rfl og_X11_142 rfl (hSo.sub mem_app) rfl ?_
          refine aw_iload_n (pc := 105) (i := 1) dX11_part_105 rfl rfl ?_
          refine aw_iload_n (pc := 106) (i := 2) dX11_part_106 rfl rfl ?_
          refine aw_aload_n (pc := 107) (i := 0) dX11_part_107 rfl rfl ?_
          refine pg_X11_72 (pc := 108) (v := .ref ((ad 2) 12)) dX11_part_108 rfl hMain.2.1 ?_
          refine av_get (pc := 111) (x := .int (nI ((σ.2.1 6) 93))) dX11_part_111 rfl og_X11_200 rfl (hSo.sub mem_app) rfl ?_
          refine aw_iload (pc := 114) dX11_part_114 rfl ?_
          refine aw_ior (pc := 116) dX11_part_116 ?_
          refine aw_top (y := (nI (σ.2.1 6 93 ||| e))) (nI_or _ _ (by omega) (by omega)) ?_
          refine cVi (pc := 117) (As := [.int (nI i), .int (nI j), .int (nI (σ.2.1 6 93 ||| e))]) (rest := []) dX11_part_117 rfl oc_X11_284 rfl rfl (Nat.le_of_ble_eq_true rfl) rfl rfl (hCx.sub mem_app).ov (Nat.le_refl _) (Nat.le_refl _) (c3_parted hNB (hCx.sub mem_app) hw (by have := Nat.or_lt_two_pow (x := σ.2.1 6 93) (y := e) (n := 12) (by omega) (by omega); omega) hi hj ⟨_, rfl, ?_⟩)
          refine ab_if_eq (pc := 120) (tgt := 132) dX11_part_120 rfl (fun h120 => ?_) (fun h120 => ?_)
          · -- 132
            refine an_inc (pc := 132) (z := 1) dX11_part_132 rfl (Nat.le_of_ble_eq_true rfl) rfl ?_
            refine aw_goto (pc := 135) (tgt := 61) dX11_part_135 rfl ?_
            have hf : ptD (σ.2.1 6) i j e = false := by unfold ptD; rw [Nat.or_comm, h120, Bool.and_false]
            refine ih (e + 1) _ (by omega) (fun q hq hd => ?_)
            by_cases q9 : q = e
            · subst q9; rw [hf] at hd; cases hd
            · exact hne q (by omega) hd
          · -- 123
            refine aw_aload_n (pc := 123) (i := 0) dX11_part_123 rfl rfl ?_
            refine aw_iload (pc := 124) dX11_part_124 rfl ?_
            refine pp_X11_63 (pc := 126) dX11_part_126 rfl ?_
            refine aw_iload (pc := 129) dX11_part_129 rfl ?_
            refine aw_iret (pc := 131) dX11_part_131 rfl (Nat.le_refl _) (Nat.le_refl _) ?_
            have hD9 : ptD (σ.2.1 6) i j e = true := by unfold ptD; rw [decide_eq_true ((fit_iff hE2 (open_bit hCl)).mp h73), Nat.or_comm, h120]; rfl
            rw [← h83]
            refine kk e ⟨hE2, hD9, fun q hq hd => ?_⟩
            have a1 := hinv q hq hd
            by_cases q9 : bitsN e = bitsN q
            · refine Or.inr ⟨q9, ?_⟩
              apply Classical.byContradiction
              intro q8
              exact hne q (by omega) hd (by omega)
            · exact Or.inl (by omega)
set_option maxHeartbeats 1000000 in
set_option maxRecDepth 20000 in
theorem part_out {G : xG} {d : Nat} {Q : xQ} {ae : Nat → Nat} {tw ts : Nat} {kd : Nat → Bool} {ad : Nat → Nat → Nat} {κ : Nat → kS} {n : Nat} {σ : mS} {B : Nat} {R : va_W} {i j : Nat} (hE : EB ae tw ts G) (hNB : NB G) (hAO : AO G) (hJ : J ae kd ad κ n σ B) (hi : i < σ.2.1 6 0) (hj : j < σ.2.1 6 0) (hij : ¬ i = j) (kk : ∀ b, MNs (ptD (σ.2.1 6) i j) (2 ^ σ.2.1 6 1) b → Q (some (.int (nI (bitsN b)))) (wIb G.2.2.1 (ad 0) (kF (κ 0) 19 (.int (nI b))) ++ (WX G.2.2.1 kd ad κ n [0] ++ R))) : ∀ (z s : Nat) (o5 o6 : Option Value), s + z = 13 → (∀ q, q < 2 ^ σ.2.1 6 1 → ptD (σ.2.1 6) i j q = true → s ≤ bitsN q) → AW G MX11_part (d + 3) 0 0 Q 51 [some (.ref ((ad 0) 20)), some (.int (nI i)), some (.int (nI j)), some (.int (nI (openSet (σ.2.1 6)))), some (.int (nI s)), o5, o6] [] (wIb G.2.2.1 (ad 0) (κ 0) ++ (WX G.2.2.1 kd ad κ n [0] ++ R)) 0 0 := by
  obtain ⟨hn, hMain, hSub, hTape, hR10, hR11, hR12, hR13, hMisc, hRef, hB5, jc, NM, sn, sd, m, pn, im, hCht, hSR, hSnt, hTok, hPast, hPm, hSds, hImg⟩ := id hJ
  have hw : WT (σ.2.1 6) := hTok.1.1.1
  obtain ⟨hb, h0, h1, h2, hRd, hP, hD, hCl, hT⟩ := id hw
  have hos := open_lt hCl
  have h4096 : 2 ^ σ.2.1 6 1 ≤ 2 ^ 12 := Nat.pow_le_pow_right (by decide) h1
  intro z
  induction z with
  | zero =>
    intro s o5 o6 hs hinv
    exfalso
    have a1 := hinv _ hos (part_full hCl hij)
    have a2 := bitsN_le (openSet (σ.2.1 6))
    omega
  | succ z ih =>
    intro s o5 o6 hs hinv
    refine aw_iload (pc := 51) dX11_part_51 rfl ?_
    refine aw_bipush (pc := 53) dX11_part_53 bipush_12 ?_
    refine an_icmp_gt (pc := 55) (tgt := 144) dX11_part_55 rfl (by omega) (by decide) (fun h55 => ?_) (fun h55 => ?_)
    · -- 144
      exfalso; omega
    · -- 58
      refine aw_iconst (pc := 58) dX11_part_58 iconst_0 ?_
      refine aw_istore (pc := 59) (i := 5) dX11_part_59 (Nat.le_of_ble_eq_true rfl) rfl ?_
      exact part_in hE hNB hAO hJ hi hj hij (by omega) kk hinv (fun h9 o5 o6 => ih (s + 1) o5 o6 (by omega) h9) (openSet (σ.2.1 6) + 1) 0 _ (by omega) (fun q hq => absurd hq (Nat.not_lt_zero _))
set_option maxHeartbeats 1000000 in
set_option maxRecDepth 20000 in
theorem x_part {G : xG} {d : Nat} {Q : xQ} {ae : Nat → Nat} {tw ts : Nat} {kd : Nat → Bool} {ad : Nat → Nat → Nat} {κ : Nat → kS} {n : Nat} {σ : mS} {B : Nat} {R : va_W} {x y : Int32} (hE : EB ae tw ts G) (hNB : NB G) (hAO : AO G) (hJ : J ae kd ad κ n σ B) (kk : ∀ κ9, J ae kd ad κ9 n (partS σ x y) B → Q (some (.int (partA (σ.2.1 6) x y))) (WX G.2.2.1 kd ad κ9 n [] ++ R)) : MT G MX11_part (d + 3) 0 0 [.ref ((ad 0) 20), .int x, .int y] (WX G.2.2.1 kd ad κ n [] ++ R) Q := by
  obtain ⟨hn, hMain, hSub, hTape, hR10, hR11, hR12, hR13, hMisc, hRef, hB5, jc, NM, sn, sd, m, pn, im, hCht, hSR, hSnt, hTok, hPast, hPm, hSds, hImg⟩ := id hJ
  have hw : WT (σ.2.1 6) := hTok.1.1.1
  have hI := ov_0 (G := G) (kd := kd) (ad := ad) (κ := κ) (xs := []) (R := R) (by omega : 0 < n) (by simp)
  have hTp := ov_1 (G := G) (kd := kd) (ad := ad) (κ := κ) (xs := []) (R := R) (by omega : 1 < n) (by simp)
  have hS := st_2 (G := G) (kd := kd) (ad := ad) (n := n) (xs := []) (R := R) hSR hw (by omega) (by simp)
  have hC : CHR G (WX G.2.2.1 kd ad κ n [] ++ R) (ad jc) (σ.2.1 6) NM := (hCht.chr (ad := ad) hw (fun i hi => by simp at hi)).sub mem_R1
  obtain ⟨hb, h0, h1, h2, hRd, hP, hD, hCl, hT⟩ := id hw
  obtain ⟨sd9, hSo, hS2, hS3, hS6, hS7, hS8, hS9, hS10⟩ := id hS
  obtain ⟨n1, hTB, hlen, hflt⟩ := id hTape
  refine mt_start (L := [some (.ref ((ad 0) 20)), some (.int x), some (.int y), none, none, none, none]) rfl (Nat.le_of_ble_eq_true rfl) rfl ?_
  refine aw_aload_n (pc := 0) (i := 0) dX11_part_0 rfl rfl ?_
  refine aw_iload_n (pc := 1) (i := 1) dX11_part_1 rfl rfl ?_
  refine cVi (pc := 2) (As := [.int x]) (rest := []) dX11_part_2 rfl oc_X11_167 rfl rfl (Nat.le_of_ble_eq_true rfl) rfl rfl hI (Nat.le_refl _) (Nat.le_refl _) (c11_isLand hI hMain.2.1 hS hC (by omega) ⟨_, rfl, ?_⟩)
  refine ab_if_eq (pc := 5) (tgt := 21) dX11_part_5 rfl (fun h5 => ?_) (fun h5 => ?_)
  · -- 21
    refine aw_iconst (pc := 21) dX11_part_21 iconst_m1 ?_
    refine aw_iret (pc := 22) dX11_part_22 rfl (Nat.le_refl _) (Nat.le_refl _) ?_
    have := kk κ (by rw [show partS σ x y = mI σ 0 (nI 0) from if_neg (by rw [h5]; decide)]; exact hJ.th)
    rw [show partA (σ.2.1 6) x y = -1 from if_neg (by rw [h5]; decide)] at this
    exact this
  · -- 8
    obtain ⟨i, hi, rfl⟩ := inB_t (Nat.lt_of_le_of_lt h0 (by decide)) h5
    refine aw_aload_n (pc := 8) (i := 0) dX11_part_8 rfl rfl ?_
    refine aw_iload_n (pc := 9) (i := 2) dX11_part_9 rfl rfl ?_
    refine cVi (pc := 10) (As := [.int y]) (rest := []) dX11_part_10 rfl oc_X11_167 rfl rfl (Nat.le_of_ble_eq_true rfl) rfl rfl hI (Nat.le_refl _) (Nat.le_refl _) (c11_isLand hI hMain.2.1 hS hC (by omega) ⟨_, rfl, ?_⟩)
    refine ab_if_eq (pc := 13) (tgt := 21) dX11_part_13 rfl (fun h13 => ?_) (fun h13 => ?_)
    · -- 21
      refine aw_iconst (pc := 21) dX11_part_21 iconst_m1 ?_
      refine aw_iret (pc := 22) dX11_part_22 rfl (Nat.le_refl _) (Nat.le_refl _) ?_
      have := kk κ (by rw [show partS σ (nI i) y = mI σ 0 (nI 0) from (if_pos h5).trans (if_neg (by rw [h13]; decide))]; exact hJ.th)
      rw [show partA (σ.2.1 6) (nI i) y = -1 from (if_pos h5).trans (if_neg (by rw [h13]; decide))] at this
      exact this
    · -- 16
      obtain ⟨j, hj, rfl⟩ := inB_t (Nat.lt_of_le_of_lt h0 (by decide)) h13
      refine aw_iload_n (pc := 16) (i := 1) dX11_part_16 rfl rfl ?_
      refine aw_iload_n (pc := 17) (i := 2) dX11_part_17 rfl rfl ?_
      refine an_icmp_ne (pc := 18) (tgt := 23) dX11_part_18 rfl (by omega) (by omega) (fun h18 => ?_) (fun h18 => ?_)
      · -- 23
        refine aw_iconst (pc := 23) dX11_part_23 iconst_1 ?_
        refine aw_aload_n (pc := 24) (i := 0) dX11_part_24 rfl rfl ?_
        refine av_get (pc := 25) (x := .ref ((ad 2) 12)) dX11_part_25 rfl og_X11_72 rfl hI hMain.2.1 ?_
        refine av_get (pc := 28) (x := .ref ((ad jc) 13)) dX11_part_28 rfl og_X11_142 rfl hSo rfl ?_
        refine av_get (pc := 31) (x := .int (nI ((σ.2.1 6) 1))) dX11_part_31 rfl og_X11_185 rfl hC.ov rfl ?_
        refine aw_ishl (pc := 34) dX11_part_34 ?_
        refine aw_top (y := (nI (2 ^ σ.2.1 6 1))) (nI_1shl (by omega)) ?_
        refine aw_iconst (pc := 35) dX11_part_35 iconst_1 ?_
        refine an_sub (pc := 36) dX11_part_36 (Nat.one_le_two_pow) ?_
        refine aw_aload_n (pc := 37) (i := 0) dX11_part_37 rfl rfl ?_
        refine av_get (pc := 38) (x := .ref ((ad 2) 12)) dX11_part_38 rfl og_X11_72 rfl hI hMain.2.1 ?_
        refine av_get (pc := 41) (x := .int (nI ((σ.2.1 6) 93))) dX11_part_41 rfl og_X11_200 rfl hSo rfl ?_
        refine aw_iconst (pc := 44) dX11_part_44 iconst_m1 ?_
        refine aw_ixor (pc := 45) dX11_part_45 ?_
        refine aw_iand (pc := 46) dX11_part_46 ?_
        refine aw_top (y := (nI (openSet (σ.2.1 6)))) (nI_andnot h1 hCl) ?_
        refine aw_istore_n (pc := 47) (i := 3) dX11_part_47 rfl (Nat.le_of_ble_eq_true rfl) rfl ?_
        refine aw_iconst (pc := 48) dX11_part_48 iconst_0 ?_
        refine aw_istore (pc := 49) (i := 4) dX11_part_49 (Nat.le_of_ble_eq_true rfl) rfl ?_
        refine aw_pull1 (p1 := 0) (by omega)  ?_
        refine aw_ws (w9 := (wIb G.2.2.1 (ad 0) (κ 0) ++ (WX G.2.2.1 kd ad κ n [0] ++ R))) rfl ?_
        refine AW_Qw (fun v wd hq => ?_) (part_out hE hNB hAO hJ hi hj h18 (Q := fun v wd => ∃ b, MNs (ptD (σ.2.1 6) i j) (2 ^ σ.2.1 6 1) b ∧ v = some (.int (nI (bitsN b))) ∧ wd = wIb G.2.2.1 (ad 0) (kF (κ 0) 19 (.int (nI b))) ++ (WX G.2.2.1 kd ad κ n [0] ++ R)) (fun b hb => ⟨b, hb, rfl, rfl⟩) 13 0 none none (by omega) (fun q _ _ => Nat.zero_le _))
        obtain ⟨b9, hb9, rfl, rfl⟩ := hq
        refine ⟨_, p_push1 (i := 0) (by omega), ?_⟩
        have e9 : partN (σ.2.1 6) i j = b9 := (partN_min hCl h1 (part_full hCl h18)).uniq hb9
        have := kk (upN κ 0 (kF (κ 0) 19 (.int (nI b9)))) (by rw [show partS σ (nI i) (nI j) = mI (mI (mI σ 0 (nI 0)) 43 (nI 1)) 42 (nI b9) by unfold partS; rw [if_pos h5, if_pos h13, nI_clamp (by omega), nI_clamp (by omega), if_neg h18, e9]]; exact ⟨hn, hMain, hSub, hTape, hR10, hR11, hR12, hR13, ⟨hMisc.1, hMisc.2.1, ⟨true, rfl, rfl⟩, hMisc.2.2.2⟩, hRef, hB5, jc, NM, sn, sd, m, pn, im, ⟨hCht.up (by decide), hSR, hSnt.up (by decide), hTok, jPast.up (by decide) hPast, hPm, fun q a1 a2 => by rw [upN_n _ _ _ _ (by omega)]; exact hSds q a1 a2, ⟨hImg.1, hImg.2.1, hImg.2.2.1, hImg.2.2.2.1, fun k hk hp => by obtain ⟨c1, c2⟩ := hImg.2.2.2.2 k hk hp; exact ⟨by rw [upN_n _ _ _ _ (by omega)]; exact c1.up (by decide), c2⟩⟩⟩⟩)
        rw [show partA (σ.2.1 6) (nI i) (nI j) = nI (bitsN b9) by unfold partA; rw [if_pos h5, if_pos h13, nI_clamp (by omega), nI_clamp (by omega), if_neg h18, e9]] at this
        exact this
      · -- 21
        refine aw_iconst (pc := 21) dX11_part_21 iconst_m1 ?_
        refine aw_iret (pc := 22) dX11_part_22 rfl (Nat.le_refl _) (Nat.le_refl _) ?_
        have := kk κ (by rw [show partS σ (nI i) (nI j) = mI σ 0 (nI 0) from (if_pos h5).trans ((if_pos h13).trans (if_pos (by rw [nI_clamp (by omega), nI_clamp (by omega)]; exact h18)))]; exact hJ.th)
        rw [show partA (σ.2.1 6) (nI i) (nI j) = -1 from (if_pos h5).trans ((if_pos h13).trans (if_pos (by rw [nI_clamp (by omega), nI_clamp (by omega)]; exact h18)))] at this
        exact this
