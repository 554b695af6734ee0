theorem inB_neg {n : Nat} {x : Int32} (h : x < 0) : inB n x = false := by
  unfold inB
  rw [decide_eq_false (fun q => absurd (Int32.lt_of_le_of_lt (show nI 0 ≤ x from q) h) (by decide))]; rfl
theorem inC_neg {a b : Nat} {x : Int32} (ha : a < 2 ^ 31) (h : x < 0) : inC (nI a) (nI b) x = false := by
  unfold inC
  rw [decide_eq_false (fun q => absurd (Int32.lt_of_le_of_lt (show nI a ≤ x from q) h) (nI_pos ha))]; rfl
section XV
variable {G : xG} {kd : Nat → Bool} {ad : Nat → Nat → Nat} {κ : Nat → kS} {n : Nat} {xs : List Nat} {R : va_W}
theorem ov_0 (hn : 0 < n) (hx : 0 ∉ xs) : OV G (WX G.2.2.1 kd ad κ n xs ++ R) 9 (ad 0 20) (fvX11 (ad 0) (κ 0)) := (ovX11 (G := G) (R := []) (a := ad 0) (κ := κ 0)).sub (fun x h => mem_R1 x (wx_mem hn hx x (by rw [List.append_nil] at h; exact h)))
theorem ov_1 (hn : 1 < n) (hx : 1 ∉ xs) : OV G (WX G.2.2.1 kd ad κ n xs ++ R) 7 (ad 1 13) (fvX8 (ad 1) (κ 1)) := (ovX8 (G := G) (R := []) (a := ad 1) (κ := κ 1)).sub (fun x h => mem_R1 x (wx_mem hn hx x (by rw [List.append_nil] at h; exact h)))
theorem iv_v (hn : 0 < n) (hx : 0 ∉ xs) : IV G (WX G.2.2.1 kd ad κ n xs ++ R) 1 (ad 0 10) 4 4 ((κ 0).2.1 10) := (ivX11_verdict (G := G) (R := []) (a := ad 0) (κ := κ 0) (Nat.le_refl _) (fun _ _ => rfl)).sub (fun x h => mem_R1 x (wx_mem hn hx x (by rw [List.append_nil] at h; exact h)))
theorem st_2 {c : Nat → Nat} {sn : Option Nat} {t : Nat → Nat} {sd : Int32} (h : SRl c sn t sd (κ 2)) (hw : WT t) (hn : 2 < n) (hx : 2 ∉ xs) : STR G (WX G.2.2.1 kd ad κ n xs ++ R) (ad 2) c sn t := (h.str (G := G) (R := []) (b := ad 2) hw.2.1 hw.2.2.2.1).sub (fun x h9 => mem_R1 x (wx_mem hn hx x (by rw [List.append_nil] at h9; exact h9)))
end XV
set_option maxHeartbeats 1000000 in
set_option maxRecDepth 20000 in
theorem c11_isLand {G : xG} {d : Nat} {Q : xQ} {ws : va_W} {i : Nat} {vv : Nat → Value} {b c : Nat → Nat} {sn : Option Nat} {t : Nat → Nat} {NM : Nat → Int64} {x : Int32} (hI : OV G ws 9 i vv) (hv1 : vv 1 = .ref (b 12)) (hS : STR G ws b c sn t) (hC : CHR G ws c t NM) (hk : t 0 ≤ 7) (kk : Q (some (.int (bI (inB (t 0) x)))) ws) : MT G MX11_isLand d 0 0 [.ref i, .int x] ws Q := by
  obtain ⟨sd, hSo, hS2, hS3, hS6, hS7, hS8, hS9, hS10⟩ := id hS
  by_cases hx : x < 0
  · rw [inB_neg hx] at kk
    refine mt_start (L := [some (.ref i), some (.int x)]) rfl (Nat.le_of_ble_eq_true rfl) rfl ?_
    refine aw_iload_n (pc := 0) (i := 1) dX11_isLand_0 rfl rfl ?_
    refine aw_if_lt (pc := 1) (tgt := 22) dX11_isLand_1 rfl (fun h1 => ?_) (fun h1 => ?_)
    · -- 22
      refine aw_iconst (pc := 22) dX11_isLand_22 iconst_0 ?_
      exact ab_ret0 (pc := 23) dX11_isLand_23 rfl (Nat.le_refl _) (Nat.le_refl _) (kk)
    · -- 4
      exact absurd hx h1
  · obtain ⟨k, hk9, rfl⟩ : ∃ k, k < 2 ^ 31 ∧ x = nI k := ⟨_, (i32_nat hx).2, (i32_nat hx).1⟩
    rw [inB_nI (by omega) hk9] at kk
    refine mt_start (L := [some (.ref i), some (.int (nI k))]) rfl (Nat.le_of_ble_eq_true rfl) rfl ?_
    refine aw_iload_n (pc := 0) (i := 1) dX11_isLand_0 rfl rfl ?_
    refine an_if_lt (pc := 1) (tgt := 22) dX11_isLand_1 rfl (by omega) ?_
    refine aw_iload_n (pc := 4) (i := 1) dX11_isLand_4 rfl rfl ?_
    refine aw_aload_n (pc := 5) (i := 0) dX11_isLand_5 rfl rfl ?_
    refine av_get (pc := 6) (x := .ref (b 12)) dX11_isLand_6 rfl og_X11_72 rfl hI hv1 ?_
    refine av_get (pc := 9) (x := .ref (c 13)) dX11_isLand_9 rfl og_X11_142 rfl hSo rfl ?_
    refine av_get (pc := 12) (x := .int (nI (t 0))) dX11_isLand_12 rfl og_X11_262 rfl hC.ov rfl ?_
    refine an_icmp_ge (pc := 15) (tgt := 22) dX11_isLand_15 rfl (by omega) (by omega) (fun h15 => ?_) (fun h15 => ?_)
    · -- 22
      refine aw_iconst (pc := 22) dX11_isLand_22 iconst_0 ?_
      exact ab_ret0 (pc := 23) dX11_isLand_23 rfl (Nat.le_refl _) (Nat.le_refl _) (by rw [decide_eq_false (by omega)] at kk; exact kk)
    · -- 18
      refine aw_iconst (pc := 18) dX11_isLand_18 iconst_1 ?_
      refine aw_goto (pc := 19) (tgt := 23) dX11_isLand_19 rfl ?_
      exact ab_ret1 (pc := 23) dX11_isLand_23 rfl (Nat.le_refl _) (Nat.le_refl _) (by rw [decide_eq_true (by omega)] at kk; exact kk)
set_option maxHeartbeats 1000000 in
set_option maxRecDepth 20000 in
theorem c11_isPerson {G : xG} {d : Nat} {Q : xQ} {ws : va_W} {i : Nat} {vv : Nat → Value} {b c : Nat → Nat} {sn : Option Nat} {t : Nat → Nat} {NM : Nat → Int64} {x : Int32} (hI : OV G ws 9 i vv) (hv1 : vv 1 = .ref (b 12)) (hS : STR G ws b c sn t) (hC : CHR G ws c t NM) (hk : t 2 ≤ 7) (kk : Q (some (.int (bI (inB (t 2) x)))) ws) : MT G MX11_isPerson d 0 0 [.ref i, .int x] ws Q := by
  obtain ⟨sd, hSo, hS2, hS3, hS6, hS7, hS8, hS9, hS10⟩ := id hS
  by_cases hx : x < 0
  · rw [inB_neg hx] at kk
    refine mt_start (L := [some (.ref i), some (.int x)]) rfl (Nat.le_of_ble_eq_true rfl) rfl ?_
    refine aw_iload_n (pc := 0) (i := 1) dX11_isPerson_0 rfl rfl ?_
    refine aw_if_lt (pc := 1) (tgt := 22) dX11_isPerson_1 rfl (fun h1 => ?_) (fun h1 => ?_)
    · -- 22
      refine aw_iconst (pc := 22) dX11_isPerson_22 iconst_0 ?_
      exact ab_ret0 (pc := 23) dX11_isPerson_23 rfl (Nat.le_refl _) (Nat.le_refl _) (kk)
    · -- 4
      exact absurd hx h1
  · obtain ⟨k, hk9, rfl⟩ : ∃ k, k < 2 ^ 31 ∧ x = nI k := ⟨_, (i32_nat hx).2, (i32_nat hx).1⟩
    rw [inB_nI (by omega) hk9] at kk
    refine mt_start (L := [some (.ref i), some (.int (nI k))]) rfl (Nat.le_of_ble_eq_true rfl) rfl ?_
    refine aw_iload_n (pc := 0) (i := 1) dX11_isPerson_0 rfl rfl ?_
    refine an_if_lt (pc := 1) (tgt := 22) dX11_isPerson_1 rfl (by omega) ?_
    refine aw_iload_n (pc := 4) (i := 1) dX11_isPerson_4 rfl rfl ?_
    refine aw_aload_n (pc := 5) (i := 0) dX11_isPerson_5 rfl rfl ?_
    refine av_get (pc := 6) (x := .ref (b 12)) dX11_isPerson_6 rfl og_X11_72 rfl hI hv1 ?_
    refine av_get (pc := 9) (x := .ref (c 13)) dX11_isPerson_9 rfl og_X11_142 rfl hSo rfl ?_
    refine av_get (pc := 12) (x := .int (nI (t 2))) dX11_isPerson_12 rfl og_X11_345 rfl hC.ov rfl ?_
    refine an_icmp_ge (pc := 15) (tgt := 22) dX11_isPerson_15 rfl (by omega) (by omega) (fun h15 => ?_) (fun h15 => ?_)
    · -- 22
      refine aw_iconst (pc := 22) dX11_isPerson_22 iconst_0 ?_
      exact ab_ret0 (pc := 23) dX11_isPerson_23 rfl (Nat.le_refl _) (Nat.le_refl _) (by rw [decide_eq_false (by omega)] at kk; exact kk)
    · -- 18
      refine aw_iconst (pc := 18) dX11_isPerson_18 iconst_1 ?_
      refine aw_goto (pc := 19) (tgt := 23) dX11_isPerson_19 rfl ?_
      exact ab_ret1 (pc := 23) dX11_isPerson_23 rfl (Nat.le_refl _) (Nat.le_refl _) (by rw [decide_eq_true (by omega)] at kk; exact kk)
set_option maxHeartbeats 1000000 in
set_option maxRecDepth 20000 in
theorem c11_isLength {G : xG} {d : Nat} {Q : xQ} {ws : va_W} {x : Int32} (kk : Q (some (.int (bI (inC (nI 0) (nI 240) x)))) ws) : MT G MX11_isLength d 0 0 [.int x] ws Q := by
  by_cases hx : x < 0
  · rw [inC_neg (by decide) hx] at kk
    refine mt_start (L := [some (.int x)]) rfl (Nat.le_of_ble_eq_true rfl) rfl ?_
    refine aw_iload_n (pc := 0) (i := 0) dX11_isLength_0 rfl rfl ?_
    refine aw_if_lt (pc := 1) (tgt := 15) dX11_isLength_1 rfl (fun h1 => ?_) (fun h1 => ?_)
    · -- 15
      refine aw_iconst (pc := 15) dX11_isLength_15 iconst_0 ?_
      exact ab_ret0 (pc := 16) dX11_isLength_16 rfl (Nat.le_refl _) (Nat.le_refl _) (kk)
    · -- 4
      exact absurd hx h1
  · obtain ⟨k, hk9, rfl⟩ : ∃ k, k < 2 ^ 31 ∧ x = nI k := ⟨_, (i32_nat hx).2, (i32_nat hx).1⟩
    rw [inC_nat (by decide) (by decide) hk9] at kk
    refine mt_start (L := [some (.int (nI k))]) rfl (Nat.le_of_ble_eq_true rfl) rfl ?_
    refine aw_iload_n (pc := 0) (i := 0) dX11_isLength_0 rfl rfl ?_
    refine an_if_lt (pc := 1) (tgt := 15) dX11_isLength_1 rfl (by omega) ?_
    refine aw_iload_n (pc := 4) (i := 0) dX11_isLength_4 rfl rfl ?_
    refine aw_sipush (pc := 5) dX11_isLength_5 sipush_240 ?_
    refine an_icmp_gt (pc := 8) (tgt := 15) dX11_isLength_8 rfl (by omega) (by decide) (fun h8 => ?_) (fun h8 => ?_)
    · -- 15
      refine aw_iconst (pc := 15) dX11_isLength_15 iconst_0 ?_
      exact ab_ret0 (pc := 16) dX11_isLength_16 rfl (Nat.le_refl _) (Nat.le_refl _) (by rw [decide_eq_true (Nat.zero_le _), decide_eq_false (by omega)] at kk; exact kk)
    · -- 11
      refine aw_iconst (pc := 11) dX11_isLength_11 iconst_1 ?_
      refine aw_goto (pc := 12) (tgt := 16) dX11_isLength_12 rfl ?_
      exact ab_ret1 (pc := 16) dX11_isLength_16 rfl (Nat.le_refl _) (Nat.le_refl _) (by rw [decide_eq_true (Nat.zero_le _), decide_eq_true (by omega)] at kk; exact kk)
set_option maxHeartbeats 1000000 in
set_option maxRecDepth 20000 in
theorem x_fault {G : xG} {d : Nat} {Q : xQ} {ae : Nat → Nat} {tw ts : Nat} {kd : Nat → Bool} {ad : Nat → Nat → Nat} {κ : Nat → kS} {n : Nat} {σ : mS} {B : Nat} {R : va_W} (hE : EB ae tw ts G) (hNB : NB G) (hAO : AO G) (hJ : J ae kd ad κ n σ B) (kk : J ae kd ad κ n (mI σ 0 (nI 0)) B → Q (some (.int (σ.1 15))) (WX G.2.2.1 kd ad κ n [] ++ R)) : MT G MX11_fault (d + 40) 0 0 [.ref ((ad 0) 20)] (WX G.2.2.1 kd ad κ n [] ++ R) Q := by
  obtain ⟨hn, hMain, hSub, hTape, hR10, hR11, hR12, hR13, hMisc, hRef, hB5, jc, NM, sn, sd, m, pn, im, hCht, hSR, hSnt, hTok, hPast, hPm, hSds, hImg⟩ := id hJ
  have hw : WT (σ.2.1 6) := hTok.1.1.1
  have hI := ov_0 (G := G) (kd := kd) (ad := ad) (κ := κ) (xs := []) (R := R) (by omega : 0 < n) (by simp)
  have hTp := ov_1 (G := G) (kd := kd) (ad := ad) (κ := κ) (xs := []) (R := R) (by omega : 1 < n) (by simp)
  have hS := st_2 (G := G) (kd := kd) (ad := ad) (n := n) (xs := []) (R := R) hSR hw (by omega) (by simp)
  have hC : CHR G (WX G.2.2.1 kd ad κ n [] ++ R) (ad jc) (σ.2.1 6) NM := (hCht.chr (ad := ad) hw (fun i hi => by simp at hi)).sub mem_R1
  obtain ⟨hb, h0, h1, h2, hRd, hP, hD, hCl, hT⟩ := id hw
  obtain ⟨sd9, hSo, hS2, hS3, hS6, hS7, hS8, hS9, hS10⟩ := id hS
  obtain ⟨n1, hTB, hlen, hflt⟩ := id hTape
  refine mt_start (L := [some (.ref ((ad 0) 20))]) rfl (Nat.le_of_ble_eq_true rfl) rfl ?_
  refine aw_aload_n (pc := 0) (i := 0) dX11_fault_0 rfl rfl ?_
  refine av_get (pc := 1) (x := .ref ((ad 1) 13)) dX11_fault_1 rfl og_X11_10 rfl hI hMain.1 ?_
  refine av_get (pc := 4) (x := .int (σ.1 15)) dX11_fault_4 rfl og_X11_126 rfl hTp hflt ?_
  exact aw_iret (pc := 7) dX11_fault_7 rfl (Nat.le_refl _) (Nat.le_refl _) (kk hJ.th)
set_option maxHeartbeats 1000000 in
set_option maxRecDepth 20000 in
theorem x_likely {G : xG} {d : Nat} {Q : xQ} {ae : Nat → Nat} {tw ts : Nat} {kd : Nat → Bool} {ad : Nat → Nat → Nat} {κ : Nat → kS} {n : Nat} {σ : mS} {B : Nat} {R : va_W} (hE : EB ae tw ts G) (hNB : NB G) (hAO : AO G) (hJ : J ae kd ad κ n σ B) (kk : J ae kd ad κ n (mI σ 0 (nI 0)) B → Q (some (.int (likelyA (σ.1 35) (σ.1 36)))) (WX G.2.2.1 kd ad κ n [] ++ R)) : MT G MX11_likely (d + 40) 0 0 [.ref ((ad 0) 20)] (WX G.2.2.1 kd ad κ n [] ++ R) Q := by
  obtain ⟨hn, hMain, hSub, hTape, hR10, hR11, hR12, hR13, hMisc, hRef, hB5, jc, NM, sn, sd, m, pn, im, hCht, hSR, hSnt, hTok, hPast, hPm, hSds, hImg⟩ := id hJ
  have hw : WT (σ.2.1 6) := hTok.1.1.1
  have hI := ov_0 (G := G) (kd := kd) (ad := ad) (κ := κ) (xs := []) (R := R) (by omega : 0 < n) (by simp)
  have hTp := ov_1 (G := G) (kd := kd) (ad := ad) (κ := κ) (xs := []) (R := R) (by omega : 1 < n) (by simp)
  have hS := st_2 (G := G) (kd := kd) (ad := ad) (n := n) (xs := []) (R := R) hSR hw (by omega) (by simp)
  have hC : CHR G (WX G.2.2.1 kd ad κ n [] ++ R) (ad jc) (σ.2.1 6) NM := (hCht.chr (ad := ad) hw (fun i hi => by simp at hi)).sub mem_R1
  obtain ⟨hb, h0, h1, h2, hRd, hP, hD, hCl, hT⟩ := id hw
  obtain ⟨sd9, hSo, hS2, hS3, hS6, hS7, hS8, hS9, hS10⟩ := id hS
  obtain ⟨n1, hTB, hlen, hflt⟩ := id hTape
  refine mt_start (L := [some (.ref ((ad 0) 20))]) rfl (Nat.le_of_ble_eq_true rfl) rfl ?_
  refine aw_aload_n (pc := 0) (i := 0) dX11_likely_0 rfl rfl ?_
  refine av_get (pc := 1) (x := .int (likelyA (σ.1 35) (σ.1 36))) dX11_likely_1 rfl og_X11_57 rfl hI hMisc.1 ?_
  exact aw_iret (pc := 4) dX11_likely_4 rfl (Nat.le_refl _) (Nat.le_refl _) (kk hJ.th)
set_option maxHeartbeats 1000000 in
set_option maxRecDepth 20000 in
theorem x_spared {G : xG} {d : Nat} {Q : xQ} {ae : Nat → Nat} {tw ts : Nat} {kd : Nat → Bool} {ad : Nat → Nat → Nat} {κ : Nat → kS} {n : Nat} {σ : mS} {B : Nat} {R : va_W} (hE : EB ae tw ts G) (hNB : NB G) (hAO : AO G) (hJ : J ae kd ad κ n σ B) (kk : ∀ c, σ.1 38 = bI c → J ae kd ad κ n (mI σ 0 (nI 0)) B → Q (some (.int (hasA c (σ.1 37)))) (WX G.2.2.1 kd ad κ n [] ++ R)) : MT G MX11_spared (d + 40) 0 0 [.ref ((ad 0) 20)] (WX G.2.2.1 kd ad κ n [] ++ R) Q := by
  obtain ⟨hn, hMain, hSub, hTape, hR10, hR11, hR12, hR13, hMisc, hRef, hB5, jc, NM, sn, sd, m, pn, im, hCht, hSR, hSnt, hTok, hPast, hPm, hSds, hImg⟩ := id hJ
  have hw : WT (σ.2.1 6) := hTok.1.1.1
  have hI := ov_0 (G := G) (kd := kd) (ad := ad) (κ := κ) (xs := []) (R := R) (by omega : 0 < n) (by simp)
  have hTp := ov_1 (G := G) (kd := kd) (ad := ad) (κ := κ) (xs := []) (R := R) (by omega : 1 < n) (by simp)
  have hS := st_2 (G := G) (kd := kd) (ad := ad) (n := n) (xs := []) (R := R) hSR hw (by omega) (by simp)
  have hC : CHR G (WX G.2.2.1 kd ad κ n [] ++ R) (ad jc) (σ.2.1 6) NM := (hCht.chr (ad := ad) hw (fun i hi => by simp at hi)).sub mem_R1
  obtain ⟨hb, h0, h1, h2, hRd, hP, hD, hCl, hT⟩ := id hw
  obtain ⟨sd9, hSo, hS2, hS3, hS6, hS7, hS8, hS9, hS10⟩ := id hS
  obtain ⟨n1, hTB, hlen, hflt⟩ := id hTape
  obtain ⟨hlk, ⟨c8, hc8, hc8b⟩, ⟨c3, hc3, hc3b⟩, c9, hc9, hc9b⟩ := id hMisc
  refine mt_start (L := [some (.ref ((ad 0) 20))]) rfl (Nat.le_of_ble_eq_true rfl) rfl ?_
  refine aw_aload_n (pc := 0) (i := 0) dX11_spared_0 rfl rfl ?_
  refine av_get (pc := 1) (x := .int (hasA c8 (σ.1 37))) dX11_spared_1 rfl og_X11_60 rfl hI hc8b ?_
  exact aw_iret (pc := 4) dX11_spared_4 rfl (Nat.le_refl _) (Nat.le_refl _) (kk _ hc8 hJ.th)
set_option maxHeartbeats 1000000 in
set_option maxRecDepth 20000 in
theorem x_parting {G : xG} {d : Nat} {Q : xQ} {ae : Nat → Nat} {tw ts : Nat} {kd : Nat → Bool} {ad : Nat → Nat → Nat} {κ : Nat → kS} {n : Nat} {σ : mS} {B : Nat} {R : va_W} (hE : EB ae tw ts G) (hNB : NB G) (hAO : AO G) (hJ : J ae kd ad κ n σ B) (kk : ∀ c, σ.1 43 = bI c → J ae kd ad κ n (mI σ 0 (nI 0)) B → Q (some (.int (hasA c (σ.1 42)))) (WX G.2.2.1 kd ad κ n [] ++ R)) : MT G MX11_parting (d + 40) 0 0 [.ref ((ad 0) 20)] (WX G.2.2.1 kd ad κ n [] ++ R) Q := by
  obtain ⟨hn, hMain, hSub, hTape, hR10, hR11, hR12, hR13, hMisc, hRef, hB5, jc, NM, sn, sd, m, pn, im, hCht, hSR, hSnt, hTok, hPast, hPm, hSds, hImg⟩ := id hJ
  have hw : WT (σ.2.1 6) := hTok.1.1.1
  have hI := ov_0 (G := G) (kd := kd) (ad := ad) (κ := κ) (xs := []) (R := R) (by omega : 0 < n) (by simp)
  have hTp := ov_1 (G := G) (kd := kd) (ad := ad) (κ := κ) (xs := []) (R := R) (by omega : 1 < n) (by simp)
  have hS := st_2 (G := G) (kd := kd) (ad := ad) (n := n) (xs := []) (R := R) hSR hw (by omega) (by simp)
  have hC : CHR G (WX G.2.2.1 kd ad κ n [] ++ R) (ad jc) (σ.2.1 6) NM := (hCht.chr (ad := ad) hw (fun i hi => by simp at hi)).sub mem_R1
  obtain ⟨hb, h0, h1, h2, hRd, hP, hD, hCl, hT⟩ := id hw
  obtain ⟨sd9, hSo, hS2, hS3, hS6, hS7, hS8, hS9, hS10⟩ := id hS
  obtain ⟨n1, hTB, hlen, hflt⟩ := id hTape
  obtain ⟨hlk, ⟨c8, hc8, hc8b⟩, ⟨c3, hc3, hc3b⟩, c9, hc9, hc9b⟩ := id hMisc
  refine mt_start (L := [some (.ref ((ad 0) 20))]) rfl (Nat.le_of_ble_eq_true rfl) rfl ?_
  refine aw_aload_n (pc := 0) (i := 0) dX11_parting_0 rfl rfl ?_
  refine av_get (pc := 1) (x := .int (hasA c3 (σ.1 42))) dX11_parting_1 rfl og_X11_63 rfl hI hc3b ?_
  exact aw_iret (pc := 4) dX11_parting_4 rfl (Nat.le_refl _) (Nat.le_refl _) (kk _ hc3 hJ.th)
set_option maxHeartbeats 1000000 in
set_option maxRecDepth 20000 in
theorem x_told {G : xG} {d : Nat} {Q : xQ} {ae : Nat → Nat} {tw ts : Nat} {kd : Nat → Bool} {ad : Nat → Nat → Nat} {κ : Nat → kS} {n : Nat} {σ : mS} {B : Nat} {R : va_W} {x : Int32} (hE : EB ae tw ts G) (hNB : NB G) (hAO : AO G) (hJ : J ae kd ad κ n σ B) (kk : ∀ c, σ.1 49 = bI c → J ae kd ad κ n (mI σ 0 (nI 0)) B → Q (some (.int (toldA c (σ.2.1 48) x))) (WX G.2.2.1 kd ad κ n [] ++ R)) : MT G MX11_told (d + 40) 0 0 [.ref ((ad 0) 20), .int x] (WX G.2.2.1 kd ad κ n [] ++ R) Q := by
  obtain ⟨hn, hMain, hSub, hTape, hR10, hR11, hR12, hR13, hMisc, hRef, hB5, jc, NM, sn, sd, m, pn, im, hCht, hSR, hSnt, hTok, hPast, hPm, hSds, hImg⟩ := id hJ
  have hw : WT (σ.2.1 6) := hTok.1.1.1
  have hI := ov_0 (G := G) (kd := kd) (ad := ad) (κ := κ) (xs := []) (R := R) (by omega : 0 < n) (by simp)
  have hTp := ov_1 (G := G) (kd := kd) (ad := ad) (κ := κ) (xs := []) (R := R) (by omega : 1 < n) (by simp)
  have hS := st_2 (G := G) (kd := kd) (ad := ad) (n := n) (xs := []) (R := R) hSR hw (by omega) (by simp)
  have hC : CHR G (WX G.2.2.1 kd ad κ n [] ++ R) (ad jc) (σ.2.1 6) NM := (hCht.chr (ad := ad) hw (fun i hi => by simp at hi)).sub mem_R1
  obtain ⟨hb, h0, h1, h2, hRd, hP, hD, hCl, hT⟩ := id hw
  obtain ⟨sd9, hSo, hS2, hS3, hS6, hS7, hS8, hS9, hS10⟩ := id hS
  obtain ⟨n1, hTB, hlen, hflt⟩ := id hTape
  obtain ⟨hlk, ⟨c8, hc8, hc8b⟩, ⟨c3, hc3, hc3b⟩, c9, hc9, hc9b⟩ := id hMisc
  replace kk := kk _ hc9 hJ.th
  by_cases hx : x < 0
  · rw [show toldA c9 (σ.2.1 48) x = -1 by unfold toldA; rw [inC_neg (by decide) hx]; cases c9 <;> rfl] at kk
    refine mt_start (L := [some (.ref ((ad 0) 20)), some (.int x)]) rfl (Nat.le_of_ble_eq_true rfl) rfl ?_
    refine aw_iload_n (pc := 0) (i := 1) dX11_told_0 rfl rfl ?_
    refine aw_if_lt (pc := 1) (tgt := 22) dX11_told_1 rfl (fun h1 => ?_) (fun h1 => ?_)
    · -- 22
      refine aw_iconst (pc := 22) dX11_told_22 iconst_m1 ?_
      exact aw_iret (pc := 23) dX11_told_23 rfl (Nat.le_refl _) (Nat.le_refl _) (kk)
    · -- 4
      exact absurd hx h1
  · obtain ⟨k, hk9, rfl⟩ : ∃ k, k < 2 ^ 31 ∧ x = nI k := ⟨_, (i32_nat hx).2, (i32_nat hx).1⟩
    refine mt_start (L := [some (.ref ((ad 0) 20)), some (.int (nI k))]) rfl (Nat.le_of_ble_eq_true rfl) rfl ?_
    refine aw_iload_n (pc := 0) (i := 1) dX11_told_0 rfl rfl ?_
    refine an_if_lt (pc := 1) (tgt := 22) dX11_told_1 rfl (by omega) ?_
    refine aw_iload_n (pc := 4) (i := 1) dX11_told_4 rfl rfl ?_
    refine aw_aload_n (pc := 5) (i := 0) dX11_told_5 rfl rfl ?_
    refine av_get (pc := 6) (x := .ref ((ad 0) 10)) dX11_told_6 rfl og_X11_35 rfl hI rfl ?_
    refine av_ilen (pc := 9) dX11_told_9 (iv_v (by omega) (by simp)) ?_
    refine an_icmp_ge (pc := 10) (tgt := 22) dX11_told_10 rfl (by omega) (by decide) (fun h10 => ?_) (fun h10 => ?_)
    · -- 22
      refine aw_iconst (pc := 22) dX11_told_22 iconst_m1 ?_
      refine aw_iret (pc := 23) dX11_told_23 rfl (Nat.le_refl _) (Nat.le_refl _) ?_
      rw [show toldA c9 (σ.2.1 48) (nI k) = -1 by unfold toldA; rw [inC_nat (by decide) (by decide) hk9, decide_eq_false (show ¬ k ≤ 3 by omega), Bool.and_false]; cases c9 <;> rfl] at kk
      exact kk
    · -- 13
      refine aw_aload_n (pc := 13) (i := 0) dX11_told_13 rfl rfl ?_
      refine av_get (pc := 14) (x := .ref ((ad 0) 10)) dX11_told_14 rfl og_X11_35 rfl hI rfl ?_
      refine aw_iload_n (pc := 17) (i := 1) dX11_told_17 rfl rfl ?_
      refine av_iald (pc := 18) (x := ((κ 0).2.1 10 k)) dX11_told_18 (iv_v (by omega) (by simp)) (by omega) (by decide) rfl ?_
      refine aw_goto (pc := 19) (tgt := 23) dX11_told_19 rfl ?_
      refine aw_iret (pc := 23) dX11_told_23 rfl (Nat.le_refl _) (Nat.le_refl _) ?_
      rw [hc9b k (by omega)]
      exact kk
