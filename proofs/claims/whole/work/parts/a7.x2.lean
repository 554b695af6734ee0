set_option maxHeartbeats 1000000 in
set_option maxRecDepth 20000 in
theorem x_count {G : xG} {d : Nat} {Q : xQ} {ae : Nat → Nat} {tw ts : Nat} {kd : Nat → Bool} {ad : Nat → Nat → Nat} {κ : Nat → kS} {n : Nat} {σ : mS} {B : Nat} {R : va_W} {x : Int32} (hE : EB ae tw ts G) (hNB : NB G) (hAO : AO G) (hJ : J ae kd ad κ n σ B) (kk : J ae kd ad κ n (mI σ 0 (nI 0)) B → Q (some (.int (countA (σ.2.1 6) (σ.1 2) x))) (WX G.2.2.1 kd ad κ n [] ++ R)) : MT G MX11_count (d + 40) 0 0 [.ref ((ad 0) 20), .int x] (WX G.2.2.1 kd ad κ n [] ++ R) Q := by
  obtain ⟨hn, hMain, hSub, hTape, hR10, hR11, hR12, hR13, hMisc, hRef, hB5, jc, NM, sn, sd, m, pn, im, hCht, hSR, hSnt, hTok, hPast, hPm, hSds, hImg⟩ := id hJ
  have hw : WT (σ.2.1 6) := hTok.1.1.1
  have hI := ov_0 (G := G) (kd := kd) (ad := ad) (κ := κ) (xs := []) (R := R) (by omega : 0 < n) (by simp)
  have hTp := ov_1 (G := G) (kd := kd) (ad := ad) (κ := κ) (xs := []) (R := R) (by omega : 1 < n) (by simp)
  have hS := st_2 (G := G) (kd := kd) (ad := ad) (n := n) (xs := []) (R := R) hSR hw (by omega) (by simp)
  have hC : CHR G (WX G.2.2.1 kd ad κ n [] ++ R) (ad jc) (σ.2.1 6) NM := (hCht.chr (ad := ad) hw (fun i hi => by simp at hi)).sub mem_R1
  obtain ⟨hb, h0, h1, h2, hRd, hP, hD, hCl, hT⟩ := id hw
  obtain ⟨sd9, hSo, hS2, hS3, hS6, hS7, hS8, hS9, hS10⟩ := id hS
  obtain ⟨n1, hTB, hlen, hflt⟩ := id hTape
  replace kk := kk hJ.th
  refine mt_start (L := [some (.ref ((ad 0) 20)), some (.int x)]) rfl (Nat.le_of_ble_eq_true rfl) rfl ?_
  refine aw_iload_n (pc := 0) (i := 1) dX11_count_0 rfl rfl ?_
  rcases sw_in (n := 3) (by decide) x with ⟨hne1, hsw1⟩ | ⟨k1, hk1, rfl⟩
  · refine aw_tabOut (pc := 1) (tgt := 73) dX11_count_1 hsw1 rfl ?_
    refine aw_iconst (pc := 73) dX11_count_73 iconst_m1 ?_
    refine aw_iret (pc := 74) dX11_count_74 rfl (Nat.le_refl _) (Nat.le_refl _) ?_
    rw [show countA (σ.2.1 6) (σ.1 2) x = -1 by
      unfold countA
      rw [if_neg (hne1 3 (by decide)), if_neg]
      intro q
      obtain ⟨j, hj, rfl⟩ := inC_t (by decide) (by decide) q
      exact hne1 j (by omega) rfl] at kk
    exact kk
  · rcases (show k1 = 0 ∨ k1 = 1 ∨ k1 = 2 ∨ k1 = 3 by omega) with rfl | rfl | rfl | rfl
    · -- case 0
      refine aw_tabIn (pc := 1) (tgt := 32) dX11_count_1 (by decide) (by decide) rfl rfl ?_
      refine aw_aload_n (pc := 32) (i := 0) dX11_count_32 rfl rfl ?_
      refine av_get (pc := 33) (x := .ref ((ad 2) 12)) dX11_count_33 rfl og_X11_72 rfl hI hMain.2.1 ?_
      refine av_get (pc := 36) (x := .ref ((ad jc) 13)) dX11_count_36 rfl og_X11_142 rfl hSo rfl ?_
      refine av_get (pc := 39) (x := .int (nI ((σ.2.1 6) 0))) dX11_count_39 rfl og_X11_262 rfl hC.ov rfl ?_
      refine aw_iret (pc := 42) dX11_count_42 rfl (Nat.le_refl _) (Nat.le_refl _) ?_
      rw [show countA (σ.2.1 6) (σ.1 2) (nI 0) = nI (σ.2.1 6 0) by unfold countA; rw [if_neg (by decide), if_pos (by decide)]; rfl] at kk
      exact kk
    · -- case 1
      refine aw_tabIn (pc := 1) (tgt := 43) dX11_count_1 (by decide) (by decide) rfl rfl ?_
      refine aw_aload_n (pc := 43) (i := 0) dX11_count_43 rfl rfl ?_
      refine av_get (pc := 44) (x := .ref ((ad 2) 12)) dX11_count_44 rfl og_X11_72 rfl hI hMain.2.1 ?_
      refine av_get (pc := 47) (x := .ref ((ad jc) 13)) dX11_count_47 rfl og_X11_142 rfl hSo rfl ?_
      refine av_get (pc := 50) (x := .int (nI ((σ.2.1 6) 1))) dX11_count_50 rfl og_X11_185 rfl hC.ov rfl ?_
      refine aw_iret (pc := 53) dX11_count_53 rfl (Nat.le_refl _) (Nat.le_refl _) ?_
      rw [show countA (σ.2.1 6) (σ.1 2) (nI 1) = nI (σ.2.1 6 1) by unfold countA; rw [if_neg (by decide), if_pos (by decide)]; rfl] at kk
      exact kk
    · -- case 2
      refine aw_tabIn (pc := 1) (tgt := 54) dX11_count_1 (by decide) (by decide) rfl rfl ?_
      refine aw_aload_n (pc := 54) (i := 0) dX11_count_54 rfl rfl ?_
      refine av_get (pc := 55) (x := .ref ((ad 2) 12)) dX11_count_55 rfl og_X11_72 rfl hI hMain.2.1 ?_
      refine av_get (pc := 58) (x := .ref ((ad jc) 13)) dX11_count_58 rfl og_X11_142 rfl hSo rfl ?_
      refine av_get (pc := 61) (x := .int (nI ((σ.2.1 6) 2))) dX11_count_61 rfl og_X11_345 rfl hC.ov rfl ?_
      refine aw_iret (pc := 64) dX11_count_64 rfl (Nat.le_refl _) (Nat.le_refl _) ?_
      rw [show countA (σ.2.1 6) (σ.1 2) (nI 2) = nI (σ.2.1 6 2) by unfold countA; rw [if_neg (by decide), if_pos (by decide)]; rfl] at kk
      exact kk
    · -- case 3
      refine aw_tabIn (pc := 1) (tgt := 65) dX11_count_1 (by decide) (by decide) rfl rfl ?_
      refine aw_aload_n (pc := 65) (i := 0) dX11_count_65 rfl rfl ?_
      refine av_get (pc := 66) (x := .ref ((ad 1) 13)) dX11_count_66 rfl og_X11_10 rfl hI hMain.1 ?_
      refine av_get (pc := 69) (x := .int (nI n1)) dX11_count_69 rfl og_X11_113 rfl hTp hTB.1 ?_
      refine aw_iret (pc := 72) dX11_count_72 rfl (Nat.le_refl _) (Nat.le_refl _) ?_
      rw [show countA (σ.2.1 6) (σ.1 2) (nI 3) = σ.1 2 from if_pos rfl, hlen] at kk
      exact kk
set_option maxHeartbeats 1000000 in
set_option maxRecDepth 20000 in
theorem x_now {G : xG} {d : Nat} {Q : xQ} {ae : Nat → Nat} {tw ts : Nat} {kd : Nat → Bool} {ad : Nat → Nat → Nat} {κ : Nat → kS} {n : Nat} {σ : mS} {B : Nat} {R : va_W} {x : Int32} (hE : EB ae tw ts G) (hNB : NB G) (hAO : AO G) (hJ : J ae kd ad κ n σ B) (kk : J ae kd ad κ n (mI σ 0 (nI 0)) B → Q (some (.int (nowA (σ.2.1 6) x))) (WX G.2.2.1 kd ad κ n [] ++ R)) : MT G MX11_now (d + 40) 0 0 [.ref ((ad 0) 20), .int x] (WX G.2.2.1 kd ad κ n [] ++ R) Q := by
  obtain ⟨hn, hMain, hSub, hTape, hR10, hR11, hR12, hR13, hMisc, hRef, hB5, jc, NM, sn, sd, m, pn, im, hCht, hSR, hSnt, hTok, hPast, hPm, hSds, hImg⟩ := id hJ
  have hw : WT (σ.2.1 6) := hTok.1.1.1
  have hI := ov_0 (G := G) (kd := kd) (ad := ad) (κ := κ) (xs := []) (R := R) (by omega : 0 < n) (by simp)
  have hTp := ov_1 (G := G) (kd := kd) (ad := ad) (κ := κ) (xs := []) (R := R) (by omega : 1 < n) (by simp)
  have hS := st_2 (G := G) (kd := kd) (ad := ad) (n := n) (xs := []) (R := R) hSR hw (by omega) (by simp)
  have hC : CHR G (WX G.2.2.1 kd ad κ n [] ++ R) (ad jc) (σ.2.1 6) NM := (hCht.chr (ad := ad) hw (fun i hi => by simp at hi)).sub mem_R1
  obtain ⟨hb, h0, h1, h2, hRd, hP, hD, hCl, hT⟩ := id hw
  obtain ⟨sd9, hSo, hS2, hS3, hS6, hS7, hS8, hS9, hS10⟩ := id hS
  obtain ⟨n1, hTB, hlen, hflt⟩ := id hTape
  replace kk := kk hJ.th
  refine mt_start (L := [some (.ref ((ad 0) 20)), some (.int x)]) rfl (Nat.le_of_ble_eq_true rfl) rfl ?_
  refine aw_iload_n (pc := 0) (i := 1) dX11_now_0 rfl rfl ?_
  rcases sw_in (n := 7) (by decide) x with ⟨hne1, hsw1⟩ | ⟨k1, hk1, rfl⟩
  · refine aw_tabOut (pc := 1) (tgt := 112) dX11_now_1 hsw1 rfl ?_
    refine aw_iconst (pc := 112) dX11_now_112 iconst_m1 ?_
    refine aw_iret (pc := 113) dX11_now_113 rfl (Nat.le_refl _) (Nat.le_refl _) ?_
    rw [show nowA (σ.2.1 6) x = -1 by unfold nowA; rw [if_neg (hne1 0 (by decide)), if_neg (hne1 1 (by decide)), if_neg (hne1 2 (by decide)), if_neg (hne1 3 (by decide)), if_neg (hne1 4 (by decide)), if_neg (hne1 5 (by decide)), if_neg (hne1 6 (by decide)), if_neg (hne1 7 (by decide))]] at kk
    exact kk
  · rcases (show k1 = 0 ∨ k1 = 1 ∨ k1 = 2 ∨ k1 = 3 ∨ k1 = 4 ∨ k1 = 5 ∨ k1 = 6 ∨ k1 = 7 by omega) with rfl | rfl | rfl | rfl | rfl | rfl | rfl | rfl
    · -- case 0
      refine aw_tabIn (pc := 1) (tgt := 48) dX11_now_1 (by decide) (by decide) rfl rfl ?_
      refine aw_aload_n (pc := 48) (i := 0) dX11_now_48 rfl rfl ?_
      refine av_get (pc := 49) (x := .ref ((ad 2) 12)) dX11_now_49 rfl og_X11_72 rfl hI hMain.2.1 ?_
      refine av_get (pc := 52) (x := .int (nI ((σ.2.1 6) 91))) dX11_now_52 rfl og_X11_207 rfl hSo rfl ?_
      refine aw_iret (pc := 55) dX11_now_55 rfl (Nat.le_refl _) (Nat.le_refl _) ?_
      rw [show nowA (σ.2.1 6) (nI 0) = nI (σ.2.1 6 91) by unfold nowA; rw [if_pos rfl]] at kk
      exact kk
    · -- case 1
      refine aw_tabIn (pc := 1) (tgt := 56) dX11_now_1 (by decide) (by decide) rfl rfl ?_
      refine aw_aload_n (pc := 56) (i := 0) dX11_now_56 rfl rfl ?_
      refine av_get (pc := 57) (x := .ref ((ad 2) 12)) dX11_now_57 rfl og_X11_72 rfl hI hMain.2.1 ?_
      refine cVi (pc := 60) (As := []) (rest := []) dX11_now_60 rfl oc_X11_210 rfl rfl (Nat.le_of_ble_eq_true rfl) rfl rfl hSo (Nat.le_refl _) (Nat.le_refl _) (c7_allLengths hS hC hw ⟨_, rfl, ?_⟩)
      refine aw_iret (pc := 63) dX11_now_63 rfl (Nat.le_refl _) (Nat.le_refl _) ?_
      rw [show nowA (σ.2.1 6) (nI 1) = nI (allLongF (σ.2.1 6)) by unfold nowA; rw [if_neg (by decide), if_pos rfl]] at kk
      exact kk
    · -- case 2
      refine aw_tabIn (pc := 1) (tgt := 64) dX11_now_1 (by decide) (by decide) rfl rfl ?_
      refine aw_aload_n (pc := 64) (i := 0) dX11_now_64 rfl rfl ?_
      refine av_get (pc := 65) (x := .ref ((ad 2) 12)) dX11_now_65 rfl og_X11_72 rfl hI hMain.2.1 ?_
      refine cVi (pc := 68) (As := []) (rest := []) dX11_now_68 rfl oc_X11_213 rfl rfl (Nat.le_of_ble_eq_true rfl) rfl rfl hSo (Nat.le_refl _) (Nat.le_refl _) (c7_allStores hS hC hw ⟨_, rfl, ?_⟩)
      refine aw_iret (pc := 71) dX11_now_71 rfl (Nat.le_refl _) (Nat.le_refl _) ?_
      rw [show nowA (σ.2.1 6) (nI 2) = nI (storesF (σ.2.1 6)) by unfold nowA; rw [if_neg (by decide), if_neg (by decide), if_pos rfl]] at kk
      exact kk
    · -- case 3
      refine aw_tabIn (pc := 1) (tgt := 72) dX11_now_1 (by decide) (by decide) rfl rfl ?_
      refine aw_aload_n (pc := 72) (i := 0) dX11_now_72 rfl rfl ?_
      refine av_get (pc := 73) (x := .ref ((ad 2) 12)) dX11_now_73 rfl og_X11_72 rfl hI hMain.2.1 ?_
      refine cVi (pc := 76) (As := []) (rest := []) dX11_now_76 rfl oc_X11_216 rfl rfl (Nat.le_of_ble_eq_true rfl) rfl rfl hSo (Nat.le_refl _) (Nat.le_refl _) (c7_allCrossings hS hC hw ⟨_, rfl, ?_⟩)
      refine aw_iret (pc := 79) dX11_now_79 rfl (Nat.le_refl _) (Nat.le_refl _) ?_
      rw [show nowA (σ.2.1 6) (nI 3) = nI (σ.2.1 6 92) by unfold nowA; rw [if_neg (by decide), if_neg (by decide), if_neg (by decide), if_pos rfl]] at kk
      rw [hTok.2.2] at kk
      exact kk
    · -- case 4
      refine aw_tabIn (pc := 1) (tgt := 80) dX11_now_1 (by decide) (by decide) rfl rfl ?_
      refine aw_aload_n (pc := 80) (i := 0) dX11_now_80 rfl rfl ?_
      refine av_get (pc := 81) (x := .ref ((ad 2) 12)) dX11_now_81 rfl og_X11_72 rfl hI hMain.2.1 ?_
      refine av_get (pc := 84) (x := .int (nI ((σ.2.1 6) 93))) dX11_now_84 rfl og_X11_200 rfl hSo rfl ?_
      refine aw_iret (pc := 87) dX11_now_87 rfl (Nat.le_refl _) (Nat.le_refl _) ?_
      rw [show nowA (σ.2.1 6) (nI 4) = nI (σ.2.1 6 93) by unfold nowA; rw [if_neg (by decide), if_neg (by decide), if_neg (by decide), if_neg (by decide), if_pos rfl]] at kk
      exact kk
    · -- case 5
      refine aw_tabIn (pc := 1) (tgt := 88) dX11_now_1 (by decide) (by decide) rfl rfl ?_
      refine aw_aload_n (pc := 88) (i := 0) dX11_now_88 rfl rfl ?_
      refine av_get (pc := 89) (x := .ref ((ad 2) 12)) dX11_now_89 rfl og_X11_72 rfl hI hMain.2.1 ?_
      refine cVi (pc := 92) (As := []) (rest := []) dX11_now_92 rfl oc_X11_219 rfl rfl (Nat.le_of_ble_eq_true rfl) rfl rfl hSo (Nat.le_refl _) (Nat.le_refl _) (c7_atHome hS hC hw ⟨_, rfl, ?_⟩)
      refine aw_iret (pc := 95) dX11_now_95 rfl (Nat.le_refl _) (Nat.le_refl _) ?_
      rw [show nowA (σ.2.1 6) (nI 5) = nI (homeF (σ.2.1 6)) by unfold nowA; rw [if_neg (by decide), if_neg (by decide), if_neg (by decide), if_neg (by decide), if_neg (by decide), if_pos rfl]] at kk
      exact kk
    · -- case 6
      refine aw_tabIn (pc := 1) (tgt := 96) dX11_now_1 (by decide) (by decide) rfl rfl ?_
      refine aw_aload_n (pc := 96) (i := 0) dX11_now_96 rfl rfl ?_
      refine av_get (pc := 97) (x := .ref ((ad 2) 12)) dX11_now_97 rfl og_X11_72 rfl hI hMain.2.1 ?_
      refine cVi (pc := 100) (As := []) (rest := []) dX11_now_100 rfl oc_X11_222 rfl rfl (Nat.le_of_ble_eq_true rfl) rfl rfl hSo (Nat.le_refl _) (Nat.le_refl _) (c7_stuck hNB hS hC hw ⟨_, rfl, ?_⟩)
      refine aw_iret (pc := 103) dX11_now_103 rfl (Nat.le_refl _) (Nat.le_refl _) ?_
      rw [show nowA (σ.2.1 6) (nI 6) = nI (stuckF (σ.2.1 6)) by unfold nowA; rw [if_neg (by decide), if_neg (by decide), if_neg (by decide), if_neg (by decide), if_neg (by decide), if_neg (by decide), if_pos rfl]] at kk
      exact kk
    · -- case 7
      refine aw_tabIn (pc := 1) (tgt := 104) dX11_now_1 (by decide) (by decide) rfl rfl ?_
      refine aw_aload_n (pc := 104) (i := 0) dX11_now_104 rfl rfl ?_
      refine av_get (pc := 105) (x := .ref ((ad 2) 12)) dX11_now_105 rfl og_X11_72 rfl hI hMain.2.1 ?_
      refine cVi (pc := 108) (As := []) (rest := []) dX11_now_108 rfl oc_X11_225 rfl rfl (Nat.le_of_ble_eq_true rfl) rfl rfl hSo (Nat.le_refl _) (Nat.le_refl _) (c7_treaties hS hC hw ⟨_, rfl, ?_⟩)
      refine aw_iret (pc := 111) dX11_now_111 rfl (Nat.le_refl _) (Nat.le_refl _) ?_
      rw [show nowA (σ.2.1 6) (nI 7) = nI (treatiesF (σ.2.1 6)) by unfold nowA; rw [if_neg (by decide), if_neg (by decide), if_neg (by decide), if_neg (by decide), if_neg (by decide), if_neg (by decide), if_neg (by decide), if_pos rfl]] at kk
      exact kk
set_option maxHeartbeats 1000000 in
set_option maxRecDepth 20000 in
theorem x_land {G : xG} {d : Nat} {Q : xQ} {ae : Nat → Nat} {tw ts : Nat} {kd : Nat → Bool} {ad : Nat → Nat → Nat} {κ : Nat → kS} {n : Nat} {σ : mS} {B : Nat} {R : va_W} {x y : Int32} (hE : EB ae tw ts G) (hNB : NB G) (hAO : AO G) (hJ : J ae kd ad κ n σ B) (kk : J ae kd ad κ n (mI σ 0 (nI 0)) B → Q (some (.int (landA (σ.2.1 6) x y))) (WX G.2.2.1 kd ad κ n [] ++ R)) : MT G MX11_land (d + 40) 0 0 [.ref ((ad 0) 20), .int x, .int y] (WX G.2.2.1 kd ad κ n [] ++ R) Q := by
  obtain ⟨hn, hMain, hSub, hTape, hR10, hR11, hR12, hR13, hMisc, hRef, hB5, jc, NM, sn, sd, m, pn, im, hCht, hSR, hSnt, hTok, hPast, hPm, hSds, hImg⟩ := id hJ
  have hw : WT (σ.2.1 6) := hTok.1.1.1
  have hI := ov_0 (G := G) (kd := kd) (ad := ad) (κ := κ) (xs := []) (R := R) (by omega : 0 < n) (by simp)
  have hTp := ov_1 (G := G) (kd := kd) (ad := ad) (κ := κ) (xs := []) (R := R) (by omega : 1 < n) (by simp)
  have hS := st_2 (G := G) (kd := kd) (ad := ad) (n := n) (xs := []) (R := R) hSR hw (by omega) (by simp)
  have hC : CHR G (WX G.2.2.1 kd ad κ n [] ++ R) (ad jc) (σ.2.1 6) NM := (hCht.chr (ad := ad) hw (fun i hi => by simp at hi)).sub mem_R1
  obtain ⟨hb, h0, h1, h2, hRd, hP, hD, hCl, hT⟩ := id hw
  obtain ⟨sd9, hSo, hS2, hS3, hS6, hS7, hS8, hS9, hS10⟩ := id hS
  obtain ⟨n1, hTB, hlen, hflt⟩ := id hTape
  replace kk := kk hJ.th
  refine mt_start (L := [some (.ref ((ad 0) 20)), some (.int x), some (.int y)]) rfl (Nat.le_of_ble_eq_true rfl) rfl ?_
  refine aw_aload_n (pc := 0) (i := 0) dX11_land_0 rfl rfl ?_
  refine aw_iload_n (pc := 1) (i := 1) dX11_land_1 rfl rfl ?_
  refine cVi (pc := 2) (As := [.int x]) (rest := []) dX11_land_2 rfl oc_X11_167 rfl rfl (Nat.le_of_ble_eq_true rfl) rfl rfl hI (Nat.le_refl _) (Nat.le_refl _) (c11_isLand hI hMain.2.1 hS hC (by omega) ⟨_, rfl, ?_⟩)
  refine ab_if_ne (pc := 5) (tgt := 10) dX11_land_5 rfl (fun h5 => ?_) (fun h5 => ?_)
  · -- 10
    obtain ⟨k, hk, rfl⟩ := inB_t (Nat.lt_of_le_of_lt h0 (by decide)) h5
    refine aw_iload_n (pc := 10) (i := 2) dX11_land_10 rfl rfl ?_
    rcases sw_in (n := 4) (by decide) y with ⟨hne11, hsw11⟩ | ⟨k11, hk11, rfl⟩
    · refine aw_tabOut (pc := 11) (tgt := 99) dX11_land_11 hsw11 rfl ?_
      refine aw_iconst (pc := 99) dX11_land_99 iconst_m1 ?_
      refine aw_iret (pc := 100) dX11_land_100 rfl (Nat.le_refl _) (Nat.le_refl _) ?_
      rw [show landA (σ.2.1 6) (nI k) y = -1 by unfold landA; rw [if_pos h5, nI_clamp (by omega)]; unfold landF; rw [if_neg (hne11 0 (by decide)), if_neg (hne11 1 (by decide)), if_neg (hne11 2 (by decide)), if_neg (hne11 3 (by decide)), if_neg (hne11 4 (by decide))]] at kk
      exact kk
    · rcases (show k11 = 0 ∨ k11 = 1 ∨ k11 = 2 ∨ k11 = 3 ∨ k11 = 4 by omega) with rfl | rfl | rfl | rfl | rfl
      · -- case 0
        refine aw_tabIn (pc := 11) (tgt := 44) dX11_land_11 (by decide) (by decide) rfl rfl ?_
        refine aw_aload_n (pc := 44) (i := 0) dX11_land_44 rfl rfl ?_
        refine av_get (pc := 45) (x := .ref ((ad 2) 12)) dX11_land_45 rfl og_X11_72 rfl hI hMain.2.1 ?_
        refine av_get (pc := 48) (x := .ref ((ad jc) 13)) dX11_land_48 rfl og_X11_142 rfl hSo rfl ?_
        refine av_get (pc := 51) (x := .ref ((ad jc) 4)) dX11_land_51 rfl og_X11_170 rfl hC.ov rfl ?_
        refine aw_iload_n (pc := 54) (i := 1) dX11_land_54 rfl rfl ?_
        refine av_iald (pc := 55) (x := (nI ((σ.2.1 6) (3 + k)))) dX11_land_55 hC.take (by omega) (by decide) rfl ?_
        refine aw_iret (pc := 56) dX11_land_56 rfl (Nat.le_refl _) (Nat.le_refl _) ?_
        rw [show landA (σ.2.1 6) (nI k) (nI 0) = nI (σ.2.1 6 (3 + k)) by unfold landA; rw [if_pos h5, nI_clamp (by omega)]; unfold landF; rw [if_pos rfl]] at kk
        exact kk
      · -- case 1
        refine aw_tabIn (pc := 11) (tgt := 57) dX11_land_11 (by decide) (by decide) rfl rfl ?_
        refine aw_aload_n (pc := 57) (i := 0) dX11_land_57 rfl rfl ?_
        refine av_get (pc := 58) (x := .ref ((ad 2) 12)) dX11_land_58 rfl og_X11_72 rfl hI hMain.2.1 ?_
        refine av_get (pc := 61) (x := .ref ((ad jc) 13)) dX11_land_61 rfl og_X11_142 rfl hSo rfl ?_
        refine av_get (pc := 64) (x := .ref ((ad jc) 5)) dX11_land_64 rfl og_X11_173 rfl hC.ov rfl ?_
        refine aw_iload_n (pc := 67) (i := 1) dX11_land_67 rfl rfl ?_
        refine av_iald (pc := 68) (x := (nI ((σ.2.1 6) (10 + k)))) dX11_land_68 hC.give (by omega) (by decide) rfl ?_
        refine aw_iret (pc := 69) dX11_land_69 rfl (Nat.le_refl _) (Nat.le_refl _) ?_
        rw [show landA (σ.2.1 6) (nI k) (nI 1) = nI (σ.2.1 6 (10 + k)) by unfold landA; rw [if_pos h5, nI_clamp (by omega)]; unfold landF; rw [if_neg (by decide), if_pos rfl]] at kk
        exact kk
      · -- case 2
        refine aw_tabIn (pc := 11) (tgt := 70) dX11_land_11 (by decide) (by decide) rfl rfl ?_
        refine aw_aload_n (pc := 70) (i := 0) dX11_land_70 rfl rfl ?_
        refine av_get (pc := 71) (x := .ref ((ad 2) 12)) dX11_land_71 rfl og_X11_72 rfl hI hMain.2.1 ?_
        refine av_get (pc := 74) (x := .ref ((ad 2) 2)) dX11_land_74 rfl og_X11_176 rfl hSo rfl ?_
        refine aw_iload_n (pc := 77) (i := 1) dX11_land_77 rfl rfl ?_
        refine av_iald (pc := 78) (x := (nI ((σ.2.1 6) (94 + k)))) dX11_land_78 hS2 (by omega) (by decide) rfl ?_
        refine aw_iret (pc := 79) dX11_land_79 rfl (Nat.le_refl _) (Nat.le_refl _) ?_
        rw [show landA (σ.2.1 6) (nI k) (nI 2) = nI (σ.2.1 6 (94 + k)) by unfold landA; rw [if_pos h5, nI_clamp (by omega)]; unfold landF; rw [if_neg (by decide), if_neg (by decide), if_pos rfl]] at kk
        exact kk
      · -- case 3
        refine aw_tabIn (pc := 11) (tgt := 80) dX11_land_11 (by decide) (by decide) rfl rfl ?_
        refine aw_aload_n (pc := 80) (i := 0) dX11_land_80 rfl rfl ?_
        refine av_get (pc := 81) (x := .ref ((ad 2) 12)) dX11_land_81 rfl og_X11_72 rfl hI hMain.2.1 ?_
        refine av_get (pc := 84) (x := .ref ((ad 2) 3)) dX11_land_84 rfl og_X11_179 rfl hSo rfl ?_
        refine aw_iload_n (pc := 87) (i := 1) dX11_land_87 rfl rfl ?_
        refine av_iald (pc := 88) (x := (nI ((σ.2.1 6) (101 + k)))) dX11_land_88 hS3 (by omega) (by decide) rfl ?_
        refine aw_iret (pc := 89) dX11_land_89 rfl (Nat.le_refl _) (Nat.le_refl _) ?_
        rw [show landA (σ.2.1 6) (nI k) (nI 3) = nI (σ.2.1 6 (101 + k)) by unfold landA; rw [if_pos h5, nI_clamp (by omega)]; unfold landF; rw [if_neg (by decide), if_neg (by decide), if_neg (by decide), if_pos rfl]] at kk
        exact kk
      · -- case 4
        refine aw_tabIn (pc := 11) (tgt := 90) dX11_land_11 (by decide) (by decide) rfl rfl ?_
        refine aw_aload_n (pc := 90) (i := 0) dX11_land_90 rfl rfl ?_
        refine av_get (pc := 91) (x := .ref ((ad 2) 12)) dX11_land_91 rfl og_X11_72 rfl hI hMain.2.1 ?_
        refine aw_iload_n (pc := 94) (i := 1) dX11_land_94 rfl rfl ?_
        refine cVi (pc := 95) (As := [.int (nI k)]) (rest := []) dX11_land_95 rfl oc_X11_182 rfl rfl (Nat.le_of_ble_eq_true rfl) rfl rfl hSo (Nat.le_refl _) (Nat.le_refl _) (c7_personsIn hS hC hw (by omega) ⟨_, rfl, ?_⟩)
        refine aw_iret (pc := 98) dX11_land_98 rfl (Nat.le_refl _) (Nat.le_refl _) ?_
        rw [show landA (σ.2.1 6) (nI k) (nI 4) = nI (hereF (σ.2.1 6) k) by unfold landA; rw [if_pos h5, nI_clamp (by omega)]; unfold landF; rw [if_neg (by decide), if_neg (by decide), if_neg (by decide), if_neg (by decide), if_pos rfl]] at kk
        exact kk
  · -- 8
    refine aw_iconst (pc := 8) dX11_land_8 iconst_m1 ?_
    refine aw_iret (pc := 9) dX11_land_9 rfl (Nat.le_refl _) (Nat.le_refl _) ?_
    rw [show landA (σ.2.1 6) x y = -1 by unfold landA; rw [if_neg (fun e => absurd (h5.symm.trans e) (by decide))]] at kk
    exact kk
set_option maxHeartbeats 1000000 in
set_option maxRecDepth 20000 in
theorem x_road {G : xG} {d : Nat} {Q : xQ} {ae : Nat → Nat} {tw ts : Nat} {kd : Nat → Bool} {ad : Nat → Nat → Nat} {κ : Nat → kS} {n : Nat} {σ : mS} {B : Nat} {R : va_W} {x y : Int32} (hE : EB ae tw ts G) (hNB : NB G) (hAO : AO G) (hJ : J ae kd ad κ n σ B) (kk : J ae kd ad κ n (mI σ 0 (nI 0)) B → Q (some (.int (roadA (σ.2.1 6) x y))) (WX G.2.2.1 kd ad κ n [] ++ R)) : MT G MX11_road (d + 40) 0 0 [.ref ((ad 0) 20), .int x, .int y] (WX G.2.2.1 kd ad κ n [] ++ R) Q := by
  obtain ⟨hn, hMain, hSub, hTape, hR10, hR11, hR12, hR13, hMisc, hRef, hB5, jc, NM, sn, sd, m, pn, im, hCht, hSR, hSnt, hTok, hPast, hPm, hSds, hImg⟩ := id hJ
  have hw : WT (σ.2.1 6) := hTok.1.1.1
  have hI := ov_0 (G := G) (kd := kd) (ad := ad) (κ := κ) (xs := []) (R := R) (by omega : 0 < n) (by simp)
  have hTp := ov_1 (G := G) (kd := kd) (ad := ad) (κ := κ) (xs := []) (R := R) (by omega : 1 < n) (by simp)
  have hS := st_2 (G := G) (kd := kd) (ad := ad) (n := n) (xs := []) (R := R) hSR hw (by omega) (by simp)
  have hC : CHR G (WX G.2.2.1 kd ad κ n [] ++ R) (ad jc) (σ.2.1 6) NM := (hCht.chr (ad := ad) hw (fun i hi => by simp at hi)).sub mem_R1
  obtain ⟨hb, h0, h1, h2, hRd, hP, hD, hCl, hT⟩ := id hw
  obtain ⟨sd9, hSo, hS2, hS3, hS6, hS7, hS8, hS9, hS10⟩ := id hS
  obtain ⟨n1, hTB, hlen, hflt⟩ := id hTape
  replace kk := kk hJ.th
  by_cases hx : x < 0
  · rw [show roadA (σ.2.1 6) x y = -1 by unfold roadA; rw [inB_neg hx]; rfl] at kk
    refine mt_start (L := [some (.ref ((ad 0) 20)), some (.int x), some (.int y)]) rfl (Nat.le_of_ble_eq_true rfl) rfl ?_
    refine aw_iload_n (pc := 0) (i := 1) dX11_road_0 rfl rfl ?_
    refine aw_if_lt (pc := 1) (tgt := 18) dX11_road_1 rfl (fun h1 => ?_) (fun h1 => ?_)
    · -- 18
      refine aw_iconst (pc := 18) dX11_road_18 iconst_m1 ?_
      exact aw_iret (pc := 19) dX11_road_19 rfl (Nat.le_refl _) (Nat.le_refl _) (kk)
    · -- 4
      exact absurd hx h1
  · obtain ⟨k, hk9, rfl⟩ : ∃ k, k < 2 ^ 31 ∧ x = nI k := ⟨_, (i32_nat hx).2, (i32_nat hx).1⟩
    refine mt_start (L := [some (.ref ((ad 0) 20)), some (.int (nI k)), some (.int y)]) rfl (Nat.le_of_ble_eq_true rfl) rfl ?_
    refine aw_iload_n (pc := 0) (i := 1) dX11_road_0 rfl rfl ?_
    refine an_if_lt (pc := 1) (tgt := 18) dX11_road_1 rfl (by omega) ?_
    refine aw_iload_n (pc := 4) (i := 1) dX11_road_4 rfl rfl ?_
    refine aw_aload_n (pc := 5) (i := 0) dX11_road_5 rfl rfl ?_
    refine av_get (pc := 6) (x := .ref ((ad 2) 12)) dX11_road_6 rfl og_X11_72 rfl hI hMain.2.1 ?_
    refine av_get (pc := 9) (x := .ref ((ad jc) 13)) dX11_road_9 rfl og_X11_142 rfl hSo rfl ?_
    refine av_get (pc := 12) (x := .int (nI ((σ.2.1 6) 1))) dX11_road_12 rfl og_X11_185 rfl hC.ov rfl ?_
    refine an_icmp_lt (pc := 15) (tgt := 20) dX11_road_15 rfl (by omega) (Nat.lt_trans (hb _) (by decide)) (fun h15 => ?_) (fun h15 => ?_)
    · -- 20
      refine aw_iload_n (pc := 20) (i := 2) dX11_road_20 rfl rfl ?_
      rcases sw_in (n := 4) (by decide) y with ⟨hne21, hsw21⟩ | ⟨k21, hk21, rfl⟩
      · refine aw_tabOut (pc := 21) (tgt := 128) dX11_road_21 hsw21 rfl ?_
        refine aw_iconst (pc := 128) dX11_road_128 iconst_m1 ?_
        refine aw_iret (pc := 129) dX11_road_129 rfl (Nat.le_refl _) (Nat.le_refl _) ?_
        rw [show roadA (σ.2.1 6) (nI k) y = -1 by unfold roadA; rw [inB_nI (by omega) hk9, decide_eq_true h15, if_pos rfl, nI_clamp (by omega)]; unfold roadFn; rw [if_neg (hne21 0 (by decide)), if_neg (hne21 1 (by decide)), if_neg (hne21 2 (by decide)), if_neg (hne21 3 (by decide)), if_neg (hne21 4 (by decide))]] at kk
        exact kk
      · rcases (show k21 = 0 ∨ k21 = 1 ∨ k21 = 2 ∨ k21 = 3 ∨ k21 = 4 by omega) with rfl | rfl | rfl | rfl | rfl
        · -- case 0
          refine aw_tabIn (pc := 21) (tgt := 56) dX11_road_21 (by decide) (by decide) rfl rfl ?_
          refine aw_aload_n (pc := 56) (i := 0) dX11_road_56 rfl rfl ?_
          refine av_get (pc := 57) (x := .ref ((ad 2) 12)) dX11_road_57 rfl og_X11_72 rfl hI hMain.2.1 ?_
          refine av_get (pc := 60) (x := .ref ((ad jc) 13)) dX11_road_60 rfl og_X11_142 rfl hSo rfl ?_
          refine av_get (pc := 63) (x := .ref ((ad jc) 6)) dX11_road_63 rfl og_X11_188 rfl hC.ov rfl ?_
          refine aw_iload_n (pc := 66) (i := 1) dX11_road_66 rfl rfl ?_
          refine av_iald (pc := 67) (x := (nI ((σ.2.1 6) (24 + k)))) dX11_road_67 hC.first (by omega) (by decide) rfl ?_
          refine aw_iret (pc := 68) dX11_road_68 rfl (Nat.le_refl _) (Nat.le_refl _) ?_
          rw [show roadA (σ.2.1 6) (nI k) (nI 0) = nI (σ.2.1 6 (24 + k)) by unfold roadA; rw [inB_nI (by omega) hk9, decide_eq_true h15, if_pos rfl, nI_clamp (by omega)]; unfold roadFn; rw [if_pos rfl]] at kk
          exact kk
        · -- case 1
          refine aw_tabIn (pc := 21) (tgt := 69) dX11_road_21 (by decide) (by decide) rfl rfl ?_
          refine aw_aload_n (pc := 69) (i := 0) dX11_road_69 rfl rfl ?_
          refine av_get (pc := 70) (x := .ref ((ad 2) 12)) dX11_road_70 rfl og_X11_72 rfl hI hMain.2.1 ?_
          refine av_get (pc := 73) (x := .ref ((ad jc) 13)) dX11_road_73 rfl og_X11_142 rfl hSo rfl ?_
          refine av_get (pc := 76) (x := .ref ((ad jc) 7)) dX11_road_76 rfl og_X11_191 rfl hC.ov rfl ?_
          refine aw_iload_n (pc := 79) (i := 1) dX11_road_79 rfl rfl ?_
          refine av_iald (pc := 80) (x := (nI ((σ.2.1 6) (36 + k)))) dX11_road_80 hC.second (by omega) (by decide) rfl ?_
          refine aw_iret (pc := 81) dX11_road_81 rfl (Nat.le_refl _) (Nat.le_refl _) ?_
          rw [show roadA (σ.2.1 6) (nI k) (nI 1) = nI (σ.2.1 6 (36 + k)) by unfold roadA; rw [inB_nI (by omega) hk9, decide_eq_true h15, if_pos rfl, nI_clamp (by omega)]; unfold roadFn; rw [if_neg (by decide), if_pos rfl]] at kk
          exact kk
        · -- case 2
          refine aw_tabIn (pc := 21) (tgt := 82) dX11_road_21 (by decide) (by decide) rfl rfl ?_
          refine aw_aload_n (pc := 82) (i := 0) dX11_road_82 rfl rfl ?_
          refine av_get (pc := 83) (x := .ref ((ad 2) 12)) dX11_road_83 rfl og_X11_72 rfl hI hMain.2.1 ?_
          refine av_get (pc := 86) (x := .ref ((ad jc) 13)) dX11_road_86 rfl og_X11_142 rfl hSo rfl ?_
          refine av_get (pc := 89) (x := .ref ((ad jc) 8)) dX11_road_89 rfl og_X11_194 rfl hC.ov rfl ?_
          refine aw_iload_n (pc := 92) (i := 1) dX11_road_92 rfl rfl ?_
          refine av_iald (pc := 93) (x := (nI ((σ.2.1 6) (48 + k)))) dX11_road_93 hC.low (by omega) (by decide) rfl ?_
          refine aw_iret (pc := 94) dX11_road_94 rfl (Nat.le_refl _) (Nat.le_refl _) ?_
          rw [show roadA (σ.2.1 6) (nI k) (nI 2) = nI (σ.2.1 6 (48 + k)) by unfold roadA; rw [inB_nI (by omega) hk9, decide_eq_true h15, if_pos rfl, nI_clamp (by omega)]; unfold roadFn; rw [if_neg (by decide), if_neg (by decide), if_pos rfl]] at kk
          exact kk
        · -- case 3
          refine aw_tabIn (pc := 21) (tgt := 95) dX11_road_21 (by decide) (by decide) rfl rfl ?_
          refine aw_aload_n (pc := 95) (i := 0) dX11_road_95 rfl rfl ?_
          refine av_get (pc := 96) (x := .ref ((ad 2) 12)) dX11_road_96 rfl og_X11_72 rfl hI hMain.2.1 ?_
          refine av_get (pc := 99) (x := .ref ((ad jc) 13)) dX11_road_99 rfl og_X11_142 rfl hSo rfl ?_
          refine av_get (pc := 102) (x := .ref ((ad jc) 9)) dX11_road_102 rfl og_X11_197 rfl hC.ov rfl ?_
          refine aw_iload_n (pc := 105) (i := 1) dX11_road_105 rfl rfl ?_
          refine av_iald (pc := 106) (x := (nI ((σ.2.1 6) (60 + k)))) dX11_road_106 hC.high (by omega) (by decide) rfl ?_
          refine aw_iret (pc := 107) dX11_road_107 rfl (Nat.le_refl _) (Nat.le_refl _) ?_
          rw [show roadA (σ.2.1 6) (nI k) (nI 3) = nI (σ.2.1 6 (60 + k)) by unfold roadA; rw [inB_nI (by omega) hk9, decide_eq_true h15, if_pos rfl, nI_clamp (by omega)]; unfold roadFn; rw [if_neg (by decide), if_neg (by decide), if_neg (by decide), if_pos rfl]] at kk
          exact kk
        · -- case 4
          refine aw_tabIn (pc := 21) (tgt := 108) dX11_road_21 (by decide) (by decide) rfl rfl ?_
          refine aw_aload_n (pc := 108) (i := 0) dX11_road_108 rfl rfl ?_
          refine av_get (pc := 109) (x := .ref ((ad 2) 12)) dX11_road_109 rfl og_X11_72 rfl hI hMain.2.1 ?_
          refine av_get (pc := 112) (x := .int (nI ((σ.2.1 6) 93))) dX11_road_112 rfl og_X11_200 rfl hSo rfl ?_
          refine aw_iload_n (pc := 115) (i := 1) dX11_road_115 rfl rfl ?_
          refine cSi (pc := 116) (As := [.int (nI ((σ.2.1 6) 93)), .int (nI k)]) (rest := []) dX11_road_116 rfl oc_X11_203 rfl rfl (Nat.le_of_ble_eq_true rfl) (Nat.le_refl _) (Nat.le_refl _) (c_hasBit (Nat.lt_trans (hb _) (by decide)) (by omega) ⟨_, rfl, ?_⟩)
          refine ab_if_eq (pc := 119) (tgt := 126) dX11_road_119 rfl (fun h119 => ?_) (fun h119 => ?_)
          · -- 126
            refine aw_iconst (pc := 126) dX11_road_126 iconst_0 ?_
            refine aw_iret (pc := 127) dX11_road_127 rfl (Nat.le_refl _) (Nat.le_refl _) ?_
            rw [show roadA (σ.2.1 6) (nI k) (nI 4) = nI 0 by unfold roadA; rw [inB_nI (by omega) hk9, decide_eq_true h15, if_pos rfl, nI_clamp (by omega)]; unfold roadFn; rw [if_neg (by decide), if_neg (by decide), if_neg (by decide), if_neg (by decide), if_pos rfl, h119]; rfl] at kk
            exact kk
          · -- 122
            refine aw_iconst (pc := 122) dX11_road_122 iconst_1 ?_
            refine aw_goto (pc := 123) (tgt := 127) dX11_road_123 rfl ?_
            refine aw_iret (pc := 127) dX11_road_127 rfl (Nat.le_refl _) (Nat.le_refl _) ?_
            rw [show roadA (σ.2.1 6) (nI k) (nI 4) = nI 1 by unfold roadA; rw [inB_nI (by omega) hk9, decide_eq_true h15, if_pos rfl, nI_clamp (by omega)]; unfold roadFn; rw [if_neg (by decide), if_neg (by decide), if_neg (by decide), if_neg (by decide), if_pos rfl, h119]; rfl] at kk
            exact kk
    · -- 18
      refine aw_iconst (pc := 18) dX11_road_18 iconst_m1 ?_
      refine aw_iret (pc := 19) dX11_road_19 rfl (Nat.le_refl _) (Nat.le_refl _) ?_
      rw [show roadA (σ.2.1 6) (nI k) y = -1 by unfold roadA; rw [inB_nI (by omega) hk9, decide_eq_false (by omega)]; rfl] at kk
      exact kk
set_option maxHeartbeats 1000000 in
set_option maxRecDepth 20000 in
theorem x_wayAt {G : xG} {d : Nat} {Q : xQ} {ae : Nat → Nat} {tw ts : Nat} {kd : Nat → Bool} {ad : Nat → Nat → Nat} {κ : Nat → kS} {n : Nat} {σ : mS} {B : Nat} {R : va_W} {x : Int32} (hE : EB ae tw ts G) (hNB : NB G) (hAO : AO G) (hJ : J ae kd ad κ n σ B) (kk : J ae kd ad κ n (mI σ 0 (nI 0)) B → Q (some (.int (rowA (σ.1 34) (σ.2.1 31) x))) (WX G.2.2.1 kd ad κ n [] ++ R)) : MT G MX11_wayAt (d + 40) 0 0 [.ref ((ad 0) 20), .int x] (WX G.2.2.1 kd ad κ n [] ++ R) Q := by
  obtain ⟨hn, hMain, hSub, hTape, hR10, hR11, hR12, hR13, hMisc, hRef, hB5, jc, NM, sn, sd, m, pn, im, hCht, hSR, hSnt, hTok, hPast, hPm, hSds, hImg⟩ := id hJ
  have hw : WT (σ.2.1 6) := hTok.1.1.1
  replace kk := kk hJ.th
  have hI := ov_0 (G := G) (kd := kd) (ad := ad) (κ := κ) (xs := [10]) (R := R) (by omega : 0 < n) (by simp)
  obtain ⟨hrm, l, hl, hlN, hrow⟩ := id hR10
  rw [← hrow] at kk
  refine mt_start (L := [some (.ref ((ad 0) 20)), some (.int x)]) rfl (Nat.le_of_ble_eq_true rfl) rfl ?_
  refine aw_pull1 (p1 := 10) (by omega)  ?_
  refine aw_ws (w9 := (wRw G.2.2.1 (ad 10) 5 (κ 10) ++ (WX G.2.2.1 kd ad κ n [10] ++ R))) rfl ?_
  refine aw_aload_n (pc := 0) (i := 0) dX11_wayAt_0 rfl rfl ?_
  refine av_get (pc := 1) (x := .ref ((ad 10) 2)) dX11_wayAt_1 rfl og_X11_44 rfl (hI.sub mem_app) hMain.2.2.2.2.2.2.2.1 ?_
  refine aw_iload_n (pc := 4) (i := 1) dX11_wayAt_4 rfl rfl ?_
  refine cVi (pc := 5) (As := [.int x]) (rest := []) dX11_wayAt_5 rfl oc_X11_256 rfl rfl (Nat.le_of_ble_eq_true rfl) rfl rfl ovX5 (Nat.le_refl _) (Nat.le_refl _) (c5_at hl hlN (by decide) ⟨_, rfl, ?_⟩)
  refine aw_push1 (p1 := 10) (by omega)  ?_
  exact aw_iret (pc := 8) dX11_wayAt_8 rfl (Nat.le_refl _) (Nat.le_refl _) (by rw [upN_id _ _ rfl]; exact kk)
set_option maxHeartbeats 1000000 in
set_option maxRecDepth 20000 in
theorem x_madeAt {G : xG} {d : Nat} {Q : xQ} {ae : Nat → Nat} {tw ts : Nat} {kd : Nat → Bool} {ad : Nat → Nat → Nat} {κ : Nat → kS} {n : Nat} {σ : mS} {B : Nat} {R : va_W} {x : Int32} (hE : EB ae tw ts G) (hNB : NB G) (hAO : AO G) (hJ : J ae kd ad κ n σ B) (kk : J ae kd ad κ n (mI σ 0 (nI 0)) B → Q (some (.int (rowA (σ.1 35) (σ.2.1 32) x))) (WX G.2.2.1 kd ad κ n [] ++ R)) : MT G MX11_madeAt (d + 40) 0 0 [.ref ((ad 0) 20), .int x] (WX G.2.2.1 kd ad κ n [] ++ R) Q := by
  obtain ⟨hn, hMain, hSub, hTape, hR10, hR11, hR12, hR13, hMisc, hRef, hB5, jc, NM, sn, sd, m, pn, im, hCht, hSR, hSnt, hTok, hPast, hPm, hSds, hImg⟩ := id hJ
  have hw : WT (σ.2.1 6) := hTok.1.1.1
  replace kk := kk hJ.th
  have hI := ov_0 (G := G) (kd := kd) (ad := ad) (κ := κ) (xs := [11]) (R := R) (by omega : 0 < n) (by simp)
  obtain ⟨hrm, l, hl, hlN, hrow⟩ := id hR11
  rw [← hrow] at kk
  refine mt_start (L := [some (.ref ((ad 0) 20)), some (.int x)]) rfl (Nat.le_of_ble_eq_true rfl) rfl ?_
  refine aw_pull1 (p1 := 11) (by omega)  ?_
  refine aw_ws (w9 := (wRw G.2.2.1 (ad 11) 5 (κ 11) ++ (WX G.2.2.1 kd ad κ n [11] ++ R))) rfl ?_
  refine aw_aload_n (pc := 0) (i := 0) dX11_madeAt_0 rfl rfl ?_
  refine av_get (pc := 1) (x := .ref ((ad 11) 2)) dX11_madeAt_1 rfl og_X11_48 rfl (hI.sub mem_app) hMain.2.2.2.2.2.2.2.2.1 ?_
  refine aw_iload_n (pc := 4) (i := 1) dX11_madeAt_4 rfl rfl ?_
  refine cVi (pc := 5) (As := [.int x]) (rest := []) dX11_madeAt_5 rfl oc_X11_256 rfl rfl (Nat.le_of_ble_eq_true rfl) rfl rfl ovX5 (Nat.le_refl _) (Nat.le_refl _) (c5_at hl hlN (by decide) ⟨_, rfl, ?_⟩)
  refine aw_push1 (p1 := 11) (by omega)  ?_
  exact aw_iret (pc := 8) dX11_madeAt_8 rfl (Nat.le_refl _) (Nat.le_refl _) (by rw [upN_id _ _ rfl]; exact kk)
set_option maxHeartbeats 1000000 in
set_option maxRecDepth 20000 in
theorem x_caravanAt {G : xG} {d : Nat} {Q : xQ} {ae : Nat → Nat} {tw ts : Nat} {kd : Nat → Bool} {ad : Nat → Nat → Nat} {κ : Nat → kS} {n : Nat} {σ : mS} {B : Nat} {R : va_W} {x : Int32} (hE : EB ae tw ts G) (hNB : NB G) (hAO : AO G) (hJ : J ae kd ad κ n σ B) (kk : J ae kd ad κ n (mI σ 0 (nI 0)) B → Q (some (.int (rowA (σ.1 41) (σ.2.1 40) x))) (WX G.2.2.1 kd ad κ n [] ++ R)) : MT G MX11_caravanAt (d + 40) 0 0 [.ref ((ad 0) 20), .int x] (WX G.2.2.1 kd ad κ n [] ++ R) Q := by
  obtain ⟨hn, hMain, hSub, hTape, hR10, hR11, hR12, hR13, hMisc, hRef, hB5, jc, NM, sn, sd, m, pn, im, hCht, hSR, hSnt, hTok, hPast, hPm, hSds, hImg⟩ := id hJ
  have hw : WT (σ.2.1 6) := hTok.1.1.1
  replace kk := kk hJ.th
  have hI := ov_0 (G := G) (kd := kd) (ad := ad) (κ := κ) (xs := [12]) (R := R) (by omega : 0 < n) (by simp)
  obtain ⟨hrm, l, hl, hlN, hrow⟩ := id hR12
  rw [← hrow] at kk
  refine mt_start (L := [some (.ref ((ad 0) 20)), some (.int x)]) rfl (Nat.le_of_ble_eq_true rfl) rfl ?_
  refine aw_pull1 (p1 := 12) (by omega)  ?_
  refine aw_ws (w9 := (wRw G.2.2.1 (ad 12) 6 (κ 12) ++ (WX G.2.2.1 kd ad κ n [12] ++ R))) rfl ?_
  refine aw_aload_n (pc := 0) (i := 0) dX11_caravanAt_0 rfl rfl ?_
  refine av_get (pc := 1) (x := .ref ((ad 12) 2)) dX11_caravanAt_1 rfl og_X11_51 rfl (hI.sub mem_app) hMain.2.2.2.2.2.2.2.2.2.1 ?_
  refine aw_iload_n (pc := 4) (i := 1) dX11_caravanAt_4 rfl rfl ?_
  refine cVi (pc := 5) (As := [.int x]) (rest := []) dX11_caravanAt_5 rfl oc_X11_256 rfl rfl (Nat.le_of_ble_eq_true rfl) rfl rfl ovX5 (Nat.le_refl _) (Nat.le_refl _) (c5_at hl hlN (by decide) ⟨_, rfl, ?_⟩)
  refine aw_push1 (p1 := 12) (by omega)  ?_
  exact aw_iret (pc := 8) dX11_caravanAt_8 rfl (Nat.le_refl _) (Nat.le_refl _) (by rw [upN_id _ _ rfl]; exact kk)
set_option maxHeartbeats 1000000 in
set_option maxRecDepth 20000 in
theorem x_byteAt {G : xG} {d : Nat} {Q : xQ} {ae : Nat → Nat} {tw ts : Nat} {kd : Nat → Bool} {ad : Nat → Nat → Nat} {κ : Nat → kS} {n : Nat} {σ : mS} {B : Nat} {R : va_W} {x : Int32} (hE : EB ae tw ts G) (hNB : NB G) (hAO : AO G) (hJ : J ae kd ad κ n σ B) (kk : J ae kd ad κ n (mI σ 0 (nI 0)) B → Q (some (.int (rowA (σ.1 45) (σ.2.1 44) x))) (WX G.2.2.1 kd ad κ n [] ++ R)) : MT G MX11_byteAt (d + 40) 0 0 [.ref ((ad 0) 20), .int x] (WX G.2.2.1 kd ad κ n [] ++ R) Q := by
  obtain ⟨hn, hMain, hSub, hTape, hR10, hR11, hR12, hR13, hMisc, hRef, hB5, jc, NM, sn, sd, m, pn, im, hCht, hSR, hSnt, hTok, hPast, hPm, hSds, hImg⟩ := id hJ
  have hw : WT (σ.2.1 6) := hTok.1.1.1
  replace kk := kk hJ.th
  have hI := ov_0 (G := G) (kd := kd) (ad := ad) (κ := κ) (xs := [13]) (R := R) (by omega : 0 < n) (by simp)
  obtain ⟨hrm, l, hl, hlN, hrow⟩ := id hR13
  rw [← hrow] at kk
  refine mt_start (L := [some (.ref ((ad 0) 20)), some (.int x)]) rfl (Nat.le_of_ble_eq_true rfl) rfl ?_
  refine aw_pull1 (p1 := 13) (by omega)  ?_
  refine aw_ws (w9 := (wRw G.2.2.1 (ad 13) 40 (κ 13) ++ (WX G.2.2.1 kd ad κ n [13] ++ R))) rfl ?_
  refine aw_aload_n (pc := 0) (i := 0) dX11_byteAt_0 rfl rfl ?_
  refine av_get (pc := 1) (x := .ref ((ad 13) 2)) dX11_byteAt_1 rfl og_X11_54 rfl (hI.sub mem_app) hMain.2.2.2.2.2.2.2.2.2.2.1 ?_
  refine aw_iload_n (pc := 4) (i := 1) dX11_byteAt_4 rfl rfl ?_
  refine cVi (pc := 5) (As := [.int x]) (rest := []) dX11_byteAt_5 rfl oc_X11_256 rfl rfl (Nat.le_of_ble_eq_true rfl) rfl rfl ovX5 (Nat.le_refl _) (Nat.le_refl _) (c5_at hl hlN (by decide) ⟨_, rfl, ?_⟩)
  refine aw_push1 (p1 := 13) (by omega)  ?_
  exact aw_iret (pc := 8) dX11_byteAt_8 rfl (Nat.le_refl _) (Nat.le_refl _) (by rw [upN_id _ _ rfl]; exact kk)
