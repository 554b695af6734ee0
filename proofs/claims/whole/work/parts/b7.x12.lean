theorem SK_cong {t u : Nat → Nat} (h : SK t) (e : ∀ j, 138 ≤ j → j < 319 → u j = t j) : SK u := by
  have h40 := h.1
  have e1 := e 138 (by omega) (by omega)
  refine ⟨by rw [e1]; exact h40, ?_, fun j hj => by rw [e1] at hj; rw [e _ (by omega) (by omega)]; exact h.2.2 j hj⟩
  rw [e1]
  obtain ⟨D, hD9⟩ := h.2.1
  exact ⟨D, by rw [← hD9]; exact dpF_cong _ (fun j h1 h2 => e j (by omega) (by omega))⟩
theorem TOK_cong {t u : Nat → Nat} {B : Nat} (h : TOK t B) (hB : B ≤ 2 ^ 30) (hu : ∀ j, u j < B) (e : ∀ j, j < 319 → u j = t j) : TOK u B := ⟨WV_cong h.1 hu hB (fun j hj => e j (by omega)), SK_cong h.2.1 (fun j _ hj => e j hj), by
  have h2 := h.1.1.1.2.2.2.1
  exact S92_of h.2.2 h2 (e 2 (by omega)) (e 92 (by omega)) (fun q hq => e _ (by omega))⟩
theorem ST1_cong {ae : Nat → Nat} {kd : Nat → Bool} {ad : Nat → Nat → Nat} {κ : Nat → kS} {n : Nat} {t u : Nat → Nat} {nm nm' : Nat → Int64} {κs : kS} {B : Nat} (h : ST1 ae kd ad κ n t nm κs) (hT : TOK t B) (e : ∀ j, j < 319 → u j = t j) (en : ∀ j, j < 13 → nm' j = nm j) : ST1 ae kd ad κ n u nm' κs := by
  obtain ⟨hb, h0, h1, h2, hR, hP, hD, hC, hTt⟩ := id hT.1.1.1
  obtain ⟨jc, NM, sn, sd, a1, a2, a3⟩ := h
  exact ⟨jc, NM, sn, sd, CHT_cong a1 h0 h1 h2 (fun j hj => e j (by omega)) en, SRl_cong a2 h0 h2 (fun j hj => e j (by omega)), SNT_cong a3 hT.2.1.1 (fun j _ hj => e j hj)⟩
theorem img_s {σ : mS} {k j : Nat} (hj : j < 319) : imT (imgS σ k) k j = σ.2.1 6 j := by
  unfold imT
  rw [if_pos hj]
  show cpF (σ.2.1 57) (σ.2.1 6) (319 * k) 0 319 (319 * k + j) = _
  unfold cpF
  rw [if_pos (by omega), show 0 + (319 * k + j - 319 * k) = j by omega]
theorem img_o {σ : mS} {k i : Nat} (h : ¬ i = k) : imT (imgS σ k) i = imT σ i := by
  funext j
  unfold imT
  by_cases hj : j < 319
  · rw [if_pos hj, if_pos hj]
    show cpF (σ.2.1 57) (σ.2.1 6) (319 * k) 0 319 (319 * i + j) = _
    unfold cpF
    rw [if_neg (by omega)]
  · rw [if_neg hj, if_neg hj]
theorem imgN_s {σ : mS} {k j : Nat} (hj : j < 13) : imN (imgS σ k) k j = σ.2.2.2.2 9 j := by
  show cpG (σ.2.2.2.2 58) (σ.2.2.2.2 9) (13 * k) 0 13 (13 * k + j) = _
  unfold cpG
  rw [if_pos (by omega), show 0 + (13 * k + j - 13 * k) = j by omega]
theorem imgN_o {σ : mS} {k i j : Nat} (h : ¬ i = k) (hj : j < 13) : imN (imgS σ k) i j = imN σ i j := by
  show cpG (σ.2.2.2.2 58) (σ.2.2.2.2 9) (13 * k) 0 13 (13 * i + j) = _
  unfold cpG
  rw [if_neg (by omega)]
  rfl
theorem J.img {ae : Nat → Nat} {kd : Nat → Bool} {ad : Nat → Nat → Nat} {κ : Nat → kS} {n : Nat} {σ : mS} {B jc m pn im k : Nat} {NM : Nat → Int64} {sn : Option Nat} {sd : Int32} {ki k0 : kS} (h : J ae kd ad κ n σ B) (hs : jSt ae kd ad κ n σ B jc NM sn sd m pn im) (hB : B ≤ 2 ^ 30) (hk : k < 2) (hS : ∃ sd', SRl (ad jc) sn (σ.2.1 6) sd' ki) (hF : ∀ f, ¬ f = 7 → k0.1 f = (κ 0).1 f) (hA : k0.2 = (κ 0).2) (h7 : k0.1 7 = .int (nI (im ||| 2 ^ k))) : J ae kd ad (upN (upN κ (22 + k) ki) 0 k0) n (imgS σ k) B := by
  obtain ⟨hn, hMain, hSub, hTape, hR10, hR11, hR12, hR13, hMisc, hRef, hB5, -⟩ := id h
  obtain ⟨hCht, hSR, hSnt, hTok, hPast, ⟨c1, c2, c3, c4, c5⟩, hSds, hImg⟩ := id hs
  obtain ⟨sd', hS'⟩ := hS
  have g : ∀ j, ¬ j = 0 → ¬ j = 22 + k → upN (upN κ (22 + k) ki) 0 k0 j = κ j := fun j a b => by rw [upN_n _ _ _ _ a, upN_n _ _ _ _ b]
  have hmain' : jMain ad k0 := by
    unfold jMain at *
    rw [hF 0 (by decide), hF 1 (by decide), hF 2 (by decide), hF 8 (by decide), hF 9 (by decide), hF 11 (by decide), hF 12 (by decide), hF 13 (by decide), hF 14 (by decide), hF 15 (by decide), hF 16 (by decide), hA]
    exact hMain
  have hmisc' : jMisc k0 (imgS σ k) := by
    unfold jMisc at *
    rw [hF 17 (by decide), hF 18 (by decide), hF 19 (by decide), hA]
    exact hMisc
  obtain ⟨a1, a2, a3, a4, a5⟩ := hImg
  have h59 : ∀ j, (imgS σ k).2.1 59 j = if j = k then 1 else σ.2.1 59 j := fun j => by show upN (σ.2.1 59) k 1 j = _; rw [upN_a]
  refine ⟨hn, hmain', ?_, ?_, ?_, ?_, ?_, ?_, hmisc', hRef, hB5, jc, NM, sn, sd, m, pn, im ||| 2 ^ k, (hCht.up (by omega)).up (by decide), ?_, (hSnt.up (by omega)).up (by decide), hTok, jPast.up (by omega) (jPast.up (by omega) hPast), ⟨c1, by show k0.1 4 = _; rw [hF 4 (by decide)]; exact c2, by show k0.1 5 = _; rw [hF 5 (by decide)]; exact c3, c4, c5⟩, ?_, ⟨h7, ?_, ?_, ?_, ?_⟩⟩
  · rw [g 3 (by decide) (by omega), g 4 (by decide) (by omega), g 5 (by decide) (by omega), g 6 (by decide) (by omega), g 7 (by decide) (by omega), g 8 (by decide) (by omega), g 9 (by decide) (by omega)]; exact hSub
  · rw [g 1 (by decide) (by omega)]; exact hTape
  · rw [g 10 (by decide) (by omega)]; exact hR10
  · rw [g 11 (by decide) (by omega)]; exact hR11
  · rw [g 12 (by decide) (by omega)]; exact hR12
  · rw [g 13 (by decide) (by omega)]; exact hR13
  · rw [g 2 (by decide) (by omega)]; exact hSR
  · intro i q1 q2
    by_cases e : i = 22 + k
    · subst e; rw [upN_n _ _ _ _ (by omega), upN_s]; exact ⟨sd', hS'.2.2.2.2.1⟩
    · rw [g i (by omega) e]; exact hSds i q1 q2
  · exact Nat.or_lt_two_pow (n := 2) a2 (Nat.pow_lt_pow_right (by decide) hk)
  · intro i hi
    rw [Nat.testBit_or, a3 i hi, h59, Nat.testBit_two_pow]
    by_cases e : i = k
    · subst e; rw [if_pos rfl]; simp
    · rw [if_neg e, show decide (k = i) = false from decide_eq_false (fun q => e q.symm), Bool.or_false]
  · intro j; rw [h59]; split; decide; exact a4 j
  · intro i hi hp
    by_cases e : i = k
    · subst e
      rw [upN_n _ _ _ _ (by omega), upN_s]
      have hT' : TOK (imT (imgS σ i) i) B := TOK_cong hTok hB (fun j => by
        by_cases hj : j < 319
        · rw [img_s hj]; exact hTok.1.1.2 j
        · unfold imT; rw [if_neg hj]; omega) (fun j hj => img_s hj)
      exact ⟨ST1_cong (B := B) (t := σ.2.1 6) (nm := σ.2.2.2.2 9) ⟨jc, NM, sn, sd', (hCht.up (by omega)).up (by decide), hS', (hSnt.up (by omega)).up (by decide)⟩ hTok (fun j hj => img_s hj) (fun j hj => imgN_s hj), hT'⟩
    · have hp' : 0 < σ.2.1 59 i := by rw [h59, if_neg e] at hp; exact hp
      obtain ⟨b1, b2⟩ := a5 i hi hp'
      rw [g _ (by omega) (by omega), img_o e]
      exact ⟨((ST1_cong b1 b2 (fun _ _ => rfl) (fun j hj => imgN_o e hj)).up (by omega)).up (by decide), b2⟩
theorem J.rst {ae : Nat → Nat} {kd : Nat → Bool} {ad : Nat → Nat → Nat} {κ : Nat → kS} {n : Nat} {σ : mS} {B jc m pn im k : Nat} {NM : Nat → Int64} {sn : Option Nat} {sd : Int32} {k2 k0 : kS} {jc' : Nat} {NM' : Nat → Int64} {sn' : Option Nat} {sd' : Int32} (h : J ae kd ad κ n σ B) (hs : jSt ae kd ad κ n σ B jc NM sn sd m pn im) (hB : B ≤ 2 ^ 30) (hTi : TOK (imT σ k) B) (hCi : CHT kd κ n jc' (imT σ k) (imN σ k) NM') (hSi : SRl (ad jc') sn' (imT σ k) sd' k2) (hNi : SNT ae kd ad κ n (imT σ k) sn') (hF : ∀ f, ¬ f = 5 → k0.1 f = (κ 0).1 f) (hA : k0.2 = (κ 0).2) (h5 : k0.1 5 = .int (nI 0)) : J ae kd ad (upN (upN κ 2 k2) 0 k0) n (rstS σ k) B := by
  obtain ⟨hn, hMain, hSub, hTape, hR10, hR11, hR12, hR13, hMisc, hRef, hB5, -⟩ := id h
  obtain ⟨hCht, hSR, hSnt, hTok, hPast, ⟨c1, c2, c3, c4, c5⟩, hSds, hImg⟩ := id hs
  have hmain' : jMain ad k0 := by
    unfold jMain at *
    rw [hF 0 (by decide), hF 1 (by decide), hF 2 (by decide), hF 8 (by decide), hF 9 (by decide), hF 11 (by decide), hF 12 (by decide), hF 13 (by decide), hF 14 (by decide), hF 15 (by decide), hF 16 (by decide), hA]
    exact hMain
  have hmisc' : jMisc k0 (rstS σ k) := by
    unfold jMisc at *
    rw [hF 17 (by decide), hF 18 (by decide), hF 19 (by decide), hA]
    exact hMisc
  have e : ∀ j, j < 319 → (rstS σ k).2.1 6 j = imT σ k j := fun j hj => by
    show cpF (σ.2.1 6) (σ.2.1 57) 0 (319 * k) 319 j = _
    unfold cpF imT
    rw [if_pos (by omega), if_pos hj]; rfl
  have en : ∀ j, j < 13 → (rstS σ k).2.2.2.2 9 j = imN σ k j := fun j hj => by
    show cpG (σ.2.2.2.2 9) (σ.2.2.2.2 58) 0 (13 * k) 13 j = _
    unfold cpG imN
    rw [if_pos (by omega)]; rfl
  have hu : ∀ j, (rstS σ k).2.1 6 j < B := fun j => by
    by_cases hj : j < 319
    · rw [e j hj]; exact hTi.1.1.2 j
    · show cpF (σ.2.1 6) (σ.2.1 57) 0 (319 * k) 319 j < B
      unfold cpF
      rw [if_neg (by omega)]; exact hTok.1.1.2 j
  have hT' := TOK_cong hTi hB hu e
  obtain ⟨hb, h0, h1, h2, hR, hP, hD, hC, hTt⟩ := id hTi.1.1.1
  refine ⟨hn, hmain', hSub, hTape, hR10, hR11, hR12, hR13, hmisc', hRef, hB5, jc', NM', sn', sd', 0, pn, im, ((CHT_cong hCi h0 h1 h2 (fun j hj => e j (by omega)) en).up (by decide)).up (by decide), SRl_cong hSi h0 h2 (fun j hj => e j (by omega)), ((SNT_cong hNi hTi.2.1.1 (fun j _ hj => e j hj)).up (by decide)).up (by decide), hT', fun i hi => absurd hi (Nat.not_lt_zero _), ⟨rfl, by show k0.1 4 = _; rw [hF 4 (by decide)]; exact c2, h5, by omega, c5⟩, fun i q1 q2 => by rw [upN_n _ _ _ _ (by omega), upN_n _ _ _ _ (by omega)]; exact hSds i q1 q2, ?_⟩
  obtain ⟨a1, a2, a3, a4, a5⟩ := hImg
  refine ⟨by show k0.1 7 = _; rw [hF 7 (by decide)]; exact a1, a2, a3, a4, fun j hj hp => ?_⟩
  obtain ⟨b1, b2⟩ := a5 j hj hp
  exact ⟨by rw [upN_n _ _ _ _ (by omega), upN_n _ _ _ _ (by omega)]; exact (b1.up (by omega)).up (by decide), b2⟩
set_option maxHeartbeats 1000000 in
set_option maxRecDepth 20000 in
theorem x_image {G : xG} {d : Nat} {Q : xQ} {ae : Nat → Nat} {tw ts : Nat} {kd : Nat → Bool} {ad : Nat → Nat → Nat} {κ : Nat → kS} {n : Nat} {σ : mS} {B : Nat} {R : va_W} {x : Int32} (hE : EB ae tw ts G) (hNB : NB G) (hAO : AO G) (hJ : J ae kd ad κ n σ B) (hB9 : B ≤ 2 ^ 30) (kk : ∀ κ9, J ae kd ad κ9 n (imageS σ x) B → Q (some (.int (bI (imageA x)))) (WX G.2.2.1 kd ad κ9 n [] ++ R)) : MT G MX11_image (d + 3) 0 0 [.ref ((ad 0) 20), .int x] (WX G.2.2.1 kd ad κ n [] ++ R) Q := by
  obtain ⟨hn, hMain, hSub, hTape, hR10, hR11, hR12, hR13, hMisc, hRef, hB5, jc, NM, sn, sd, m, pn, im, hCht, hSR, hSnt, hTok, hPast, hPm, hSds, hImg⟩ := id hJ
  have hw : WT (σ.2.1 6) := hTok.1.1.1
  have hI := ov_0 (G := G) (kd := kd) (ad := ad) (κ := κ) (xs := []) (R := R) (by omega : 0 < n) (by simp)
  have hTp := ov_1 (G := G) (kd := kd) (ad := ad) (κ := κ) (xs := []) (R := R) (by omega : 1 < n) (by simp)
  have hS := st_2 (G := G) (kd := kd) (ad := ad) (n := n) (xs := []) (R := R) hSR hw (by omega) (by simp)
  have hC : CHR G (WX G.2.2.1 kd ad κ n [] ++ R) (ad jc) (σ.2.1 6) NM := (hCht.chr (ad := ad) hw (fun i hi => by simp at hi)).sub mem_R1
  obtain ⟨hb, h0, h1, h2, hRd, hP, hD, hCl, hT⟩ := id hw
  obtain ⟨sd9, hSo, hS2, hS3, hS6, hS7, hS8, hS9, hS10⟩ := id hS
  obtain ⟨n1, hTB, hlen, hflt⟩ := id hTape
  have hm8 := hPm.2.2.2.1
  by_cases hx : x < 0
  · have hin : inC (nI 0) (nI 1) x = false := inC_neg (by decide) hx
    refine mt_start (L := [some (.ref ((ad 0) 20)), some (.int x)]) rfl (Nat.le_of_ble_eq_true rfl) rfl ?_
    refine aw_iload_n (pc := 0) (i := 1) dX11_image_0 rfl rfl ?_
    refine aw_if_lt (pc := 1) (tgt := 9) dX11_image_1 rfl (fun h1 => ?_) (fun h1 => ?_)
    · -- 9
      refine aw_iconst (pc := 9) dX11_image_9 iconst_0 ?_
      refine ab_ret0 (pc := 10) dX11_image_10 rfl (Nat.le_refl _) (Nat.le_refl _) ?_
      have := kk κ (by rw [show imageS σ x = mI σ 0 (nI 0) from if_neg (by rw [hin]; decide)]; exact hJ.th)
      rw [show imageA x = false from hin] at this
      exact this
    · -- 4
      exact absurd hx h1
  · obtain ⟨k, hk9, rfl⟩ : ∃ k, k < 2 ^ 31 ∧ x = nI k := ⟨_, (i32_nat hx).2, (i32_nat hx).1⟩
    by_cases h2k : k < 2
    · rcases (show k = 0 ∨ k = 1 by omega) with rfl | rfl
      · skip
        refine mt_start (L := [some (.ref ((ad 0) 20)), some (.int (nI 0))]) rfl (Nat.le_of_ble_eq_true rfl) rfl ?_
        refine aw_iload_n (pc := 0) (i := 1) dX11_image_0 rfl rfl ?_
        refine an_if_lt (pc := 1) (tgt := 9) dX11_image_1 rfl (by decide) ?_
        refine aw_iload_n (pc := 4) (i := 1) dX11_image_4 rfl rfl ?_
        refine aw_iconst (pc := 5) dX11_image_5 iconst_2 ?_
        refine an_icmp_lt (pc := 6) (tgt := 11) dX11_image_6 rfl (by decide) (by decide) (fun h6 => ?_) (fun h6 => absurd h6 (by decide))
        refine aw_pull2 (p1 := 0) (p2 := 22) (by omega) (by omega) (by decide) ?_
        refine aw_ws (w9 := (wIb G.2.2.1 (ad 0) (κ 0) ++ (wSt G.2.2.1 (ad 22) (κ 22) ++ (WX G.2.2.1 kd ad κ n [22, 0] ++ R)))) rfl ?_
        obtain ⟨sdp, hsp⟩ := hSds 22 (by omega) (by omega)
        have him4 := hImg.2.1
        refine aw_aload_n (pc := 11) (i := 0) dX11_image_11 rfl rfl ?_
        refine pg_X11_29 (pc := 12) dX11_image_12 rfl ?_
        refine aw_iload_n (pc := 15) (i := 1) dX11_image_15 rfl rfl ?_
        refine pl_X11_images (pc := 16) (x := some (ad 22 12)) dX11_image_16 (by decide) (hMain.2.2.2.2.2.2.2.2.2.2.2.2 0 (by decide)) ?_
        refine aw_topV (y := .ref (ad 22 12)) rfl ?_
        refine aw_aload_n (pc := 17) (i := 0) dX11_image_17 rfl rfl ?_
        refine pg_X11_72 (pc := 18) (v := .ref ((ad 2) 12)) dX11_image_18 rfl hMain.2.1 ?_
        refine aw_swap ?_
        refine cVv (pc := 21) (As := [.ref ((ad 2) 12)]) (rest := []) dX11_image_21 rfl oc_X11_132 rfl rfl (Nat.le_of_ble_eq_true rfl) rfl rfl ovX7 (Nat.le_refl _) (Nat.le_refl _) (c7_copy hsp ((skv_2 (by omega) (by simp)).sub mem_app) hSR h0 h2 ?_)
        intro k1 sd1 g1
        refine ⟨rfl, ?_⟩
        refine aw_aload_n (pc := 24) (i := 0) dX11_image_24 rfl rfl ?_
        refine aw_dup (pc := 25) dX11_image_25 rfl ?_
        refine aw_swap ?_
        refine pg_X11_32 (pc := 26) (v := .int (nI im)) dX11_image_26 rfl hImg.1 ?_
        refine aw_iconst (pc := 29) dX11_image_29 iconst_1 ?_
        refine aw_iload_n (pc := 30) (i := 1) dX11_image_30 rfl rfl ?_
        refine aw_ishl (pc := 31) dX11_image_31 ?_
        refine aw_top (y := (nI (2 ^ 0))) (nI_1shl (by decide)) ?_
        refine aw_ior (pc := 32) dX11_image_32 ?_
        refine aw_top (y := (nI (im ||| 2 ^ 0))) (nI_or _ _ (by omega) (by decide)) ?_
        refine pp_X11_32 (pc := 33) dX11_image_33 rfl ?_
        refine aw_iconst (pc := 36) dX11_image_36 iconst_1 ?_
        refine aw_push2 (p1 := 0) (p2 := 22) (by omega) (by omega) (by decide) ?_
        refine ab_ret1 (pc := 37) dX11_image_37 rfl (Nat.le_refl _) (Nat.le_refl _) ?_
        have := kk _ (by rw [show imageS σ (nI 0) = imgS σ 0 from if_pos (by decide)]; exact hJ.img (k := 0) (k0 := (kF (κ 0) 7 (.int (nI (im ||| 2 ^ 0))))) ⟨hCht, hSR, hSnt, hTok, hPast, hPm, hSds, hImg⟩ hB9 (by decide) ⟨_, g1⟩ (fun f e => by show upN (κ 0).1 7 _ f = _; rw [upN_n _ _ _ _ e]) rfl rfl)
        rw [show imageA (nI 0) = true by decide] at this
        exact this
      · skip
        refine mt_start (L := [some (.ref ((ad 0) 20)), some (.int (nI 1))]) rfl (Nat.le_of_ble_eq_true rfl) rfl ?_
        refine aw_iload_n (pc := 0) (i := 1) dX11_image_0 rfl rfl ?_
        refine an_if_lt (pc := 1) (tgt := 9) dX11_image_1 rfl (by decide) ?_
        refine aw_iload_n (pc := 4) (i := 1) dX11_image_4 rfl rfl ?_
        refine aw_iconst (pc := 5) dX11_image_5 iconst_2 ?_
        refine an_icmp_lt (pc := 6) (tgt := 11) dX11_image_6 rfl (by decide) (by decide) (fun h6 => ?_) (fun h6 => absurd h6 (by decide))
        refine aw_pull2 (p1 := 0) (p2 := 23) (by omega) (by omega) (by decide) ?_
        refine aw_ws (w9 := (wIb G.2.2.1 (ad 0) (κ 0) ++ (wSt G.2.2.1 (ad 23) (κ 23) ++ (WX G.2.2.1 kd ad κ n [23, 0] ++ R)))) rfl ?_
        obtain ⟨sdp, hsp⟩ := hSds 23 (by omega) (by omega)
        have him4 := hImg.2.1
        refine aw_aload_n (pc := 11) (i := 0) dX11_image_11 rfl rfl ?_
        refine pg_X11_29 (pc := 12) dX11_image_12 rfl ?_
        refine aw_iload_n (pc := 15) (i := 1) dX11_image_15 rfl rfl ?_
        refine pl_X11_images (pc := 16) (x := some (ad 23 12)) dX11_image_16 (by decide) (hMain.2.2.2.2.2.2.2.2.2.2.2.2 1 (by decide)) ?_
        refine aw_topV (y := .ref (ad 23 12)) rfl ?_
        refine aw_aload_n (pc := 17) (i := 0) dX11_image_17 rfl rfl ?_
        refine pg_X11_72 (pc := 18) (v := .ref ((ad 2) 12)) dX11_image_18 rfl hMain.2.1 ?_
        refine aw_swap ?_
        refine cVv (pc := 21) (As := [.ref ((ad 2) 12)]) (rest := []) dX11_image_21 rfl oc_X11_132 rfl rfl (Nat.le_of_ble_eq_true rfl) rfl rfl ovX7 (Nat.le_refl _) (Nat.le_refl _) (c7_copy hsp ((skv_2 (by omega) (by simp)).sub mem_app) hSR h0 h2 ?_)
        intro k1 sd1 g1
        refine ⟨rfl, ?_⟩
        refine aw_aload_n (pc := 24) (i := 0) dX11_image_24 rfl rfl ?_
        refine aw_dup (pc := 25) dX11_image_25 rfl ?_
        refine aw_swap ?_
        refine pg_X11_32 (pc := 26) (v := .int (nI im)) dX11_image_26 rfl hImg.1 ?_
        refine aw_iconst (pc := 29) dX11_image_29 iconst_1 ?_
        refine aw_iload_n (pc := 30) (i := 1) dX11_image_30 rfl rfl ?_
        refine aw_ishl (pc := 31) dX11_image_31 ?_
        refine aw_top (y := (nI (2 ^ 1))) (nI_1shl (by decide)) ?_
        refine aw_ior (pc := 32) dX11_image_32 ?_
        refine aw_top (y := (nI (im ||| 2 ^ 1))) (nI_or _ _ (by omega) (by decide)) ?_
        refine pp_X11_32 (pc := 33) dX11_image_33 rfl ?_
        refine aw_iconst (pc := 36) dX11_image_36 iconst_1 ?_
        refine aw_push2 (p1 := 0) (p2 := 23) (by omega) (by omega) (by decide) ?_
        refine ab_ret1 (pc := 37) dX11_image_37 rfl (Nat.le_refl _) (Nat.le_refl _) ?_
        have := kk _ (by rw [show imageS σ (nI 1) = imgS σ 1 from if_pos (by decide)]; exact hJ.img (k := 1) (k0 := (kF (κ 0) 7 (.int (nI (im ||| 2 ^ 1))))) ⟨hCht, hSR, hSnt, hTok, hPast, hPm, hSds, hImg⟩ hB9 (by decide) ⟨_, g1⟩ (fun f e => by show upN (κ 0).1 7 _ f = _; rw [upN_n _ _ _ _ e]) rfl rfl)
        rw [show imageA (nI 1) = true by decide] at this
        exact this
    · have hin : inC (nI 0) (nI 1) (nI k) = false := inC_f (by decide) (by decide) hk9 (by omega)
      refine mt_start (L := [some (.ref ((ad 0) 20)), some (.int (nI k))]) rfl (Nat.le_of_ble_eq_true rfl) rfl ?_
      refine aw_iload_n (pc := 0) (i := 1) dX11_image_0 rfl rfl ?_
      refine an_if_lt (pc := 1) (tgt := 9) dX11_image_1 rfl (by omega) ?_
      refine aw_iload_n (pc := 4) (i := 1) dX11_image_4 rfl rfl ?_
      refine aw_iconst (pc := 5) dX11_image_5 iconst_2 ?_
      refine an_icmp_lt (pc := 6) (tgt := 11) dX11_image_6 rfl (by omega) (by decide) (fun h6 => ?_) (fun h6 => ?_)
      · -- 11
        exfalso; omega
      · -- 9
        refine aw_iconst (pc := 9) dX11_image_9 iconst_0 ?_
        refine ab_ret0 (pc := 10) dX11_image_10 rfl (Nat.le_refl _) (Nat.le_refl _) ?_
        have := kk κ (by rw [show imageS σ (nI k) = mI σ 0 (nI 0) from if_neg (by rw [hin]; decide)]; exact hJ.th)
        rw [show imageA (nI k) = false from hin] at this
        exact this
set_option maxHeartbeats 1000000 in
set_option maxRecDepth 20000 in
theorem x_restore {G : xG} {d : Nat} {Q : xQ} {ae : Nat → Nat} {tw ts : Nat} {kd : Nat → Bool} {ad : Nat → Nat → Nat} {κ : Nat → kS} {n : Nat} {σ : mS} {B : Nat} {R : va_W} {x : Int32} (hE : EB ae tw ts G) (hNB : NB G) (hAO : AO G) (hJ : J ae kd ad κ n σ B) (hB9 : B ≤ 2 ^ 30) (kk : ∀ κ9, J ae kd ad κ9 n (restoreS σ x) B → Q (some (.int (bI (restoreA σ x)))) (WX G.2.2.1 kd ad κ9 n [] ++ R)) : MT G MX11_restore (d + 3) 0 0 [.ref ((ad 0) 20), .int x] (WX G.2.2.1 kd ad κ n [] ++ R) Q := by
  obtain ⟨hn, hMain, hSub, hTape, hR10, hR11, hR12, hR13, hMisc, hRef, hB5, jc, NM, sn, sd, m, pn, im, hCht, hSR, hSnt, hTok, hPast, hPm, hSds, hImg⟩ := id hJ
  have hw : WT (σ.2.1 6) := hTok.1.1.1
  have hI := ov_0 (G := G) (kd := kd) (ad := ad) (κ := κ) (xs := []) (R := R) (by omega : 0 < n) (by simp)
  have hTp := ov_1 (G := G) (kd := kd) (ad := ad) (κ := κ) (xs := []) (R := R) (by omega : 1 < n) (by simp)
  have hS := st_2 (G := G) (kd := kd) (ad := ad) (n := n) (xs := []) (R := R) hSR hw (by omega) (by simp)
  have hC : CHR G (WX G.2.2.1 kd ad κ n [] ++ R) (ad jc) (σ.2.1 6) NM := (hCht.chr (ad := ad) hw (fun i hi => by simp at hi)).sub mem_R1
  obtain ⟨hb, h0, h1, h2, hRd, hP, hD, hCl, hT⟩ := id hw
  obtain ⟨sd9, hSo, hS2, hS3, hS6, hS7, hS8, hS9, hS10⟩ := id hS
  obtain ⟨n1, hTB, hlen, hflt⟩ := id hTape
  have hm8 := hPm.2.2.2.1
  by_cases hx : x < 0
  · have hin : inC (nI 0) (nI 1) x = false := inC_neg (by decide) hx
    refine mt_start (L := [some (.ref ((ad 0) 20)), some (.int x)]) rfl (Nat.le_of_ble_eq_true rfl) rfl ?_
    refine aw_iload_n (pc := 0) (i := 1) dX11_restore_0 rfl rfl ?_
    refine aw_if_lt (pc := 1) (tgt := 20) dX11_restore_1 rfl (fun h1 => ?_) (fun h1 => ?_)
    · -- 20
      refine aw_iconst (pc := 20) dX11_restore_20 iconst_0 ?_
      refine ab_ret0 (pc := 21) dX11_restore_21 rfl (Nat.le_refl _) (Nat.le_refl _) ?_
      have := kk κ (by rw [show restoreS σ x = mI σ 0 (nI 0) from if_neg (by rw [hin]; decide)]; exact hJ.th)
      rw [show restoreA σ x = false from if_neg (by rw [hin]; decide)] at this
      exact this
    · -- 4
      exact absurd hx h1
  · obtain ⟨k, hk9, rfl⟩ : ∃ k, k < 2 ^ 31 ∧ x = nI k := ⟨_, (i32_nat hx).2, (i32_nat hx).1⟩
    by_cases h2k : k < 2
    · rcases (show k = 0 ∨ k = 1 by omega) with rfl | rfl
      · skip
        refine mt_start (L := [some (.ref ((ad 0) 20)), some (.int (nI 0))]) rfl (Nat.le_of_ble_eq_true rfl) rfl ?_
        refine aw_iload_n (pc := 0) (i := 1) dX11_restore_0 rfl rfl ?_
        refine an_if_lt (pc := 1) (tgt := 20) dX11_restore_1 rfl (by decide) ?_
        refine aw_iload_n (pc := 4) (i := 1) dX11_restore_4 rfl rfl ?_
        refine aw_iconst (pc := 5) dX11_restore_5 iconst_2 ?_
        refine an_icmp_ge (pc := 6) (tgt := 20) dX11_restore_6 rfl (by decide) (by decide) (fun h6 => absurd h6 (by decide)) (fun h6 => ?_)
        refine aw_aload_n (pc := 9) (i := 0) dX11_restore_9 rfl rfl ?_
        refine av_get (pc := 10) (x := .int (nI im)) dX11_restore_10 rfl og_X11_32 rfl hI hImg.1 ?_
        refine aw_iload_n (pc := 13) (i := 1) dX11_restore_13 rfl rfl ?_
        refine cSi (pc := 14) (As := [.int (nI im), .int (nI 0)]) (rest := []) dX11_restore_14 rfl oc_X11_203 rfl rfl (Nat.le_of_ble_eq_true rfl) (Nat.le_refl _) (Nat.le_refl _) (c_hasBit (by have := hImg.2.1; omega) (by decide) ⟨_, rfl, ?_⟩)
        refine ab_if_ne (pc := 17) (tgt := 22) dX11_restore_17 rfl (fun h17 => ?_) (fun h17 => ?_)
        · -- 22
          have hpk : 0 < σ.2.1 59 0 := by rw [hImg.2.2.1 0 (by decide)] at h17; exact of_decide_eq_true h17
          obtain ⟨⟨jci, NMi, sni, sdi, hCi, hSi, hNi⟩, hTi⟩ := hImg.2.2.2.2 0 (by decide) hpk
          obtain ⟨hbi, h0i, h1i, h2i, -⟩ := id hTi.1.1.1
          refine aw_pull2 (p1 := 0) (p2 := 2) (by omega) (by omega) (by decide) ?_
          refine aw_ws (w9 := (wIb G.2.2.1 (ad 0) (κ 0) ++ (wSt G.2.2.1 (ad 2) (κ 2) ++ (WX G.2.2.1 kd ad κ n [2, 0] ++ R)))) rfl ?_
          refine aw_aload_n (pc := 22) (i := 0) dX11_restore_22 rfl rfl ?_
          refine pg_X11_72 (pc := 23) (v := .ref ((ad 2) 12)) dX11_restore_23 rfl hMain.2.1 ?_
          refine aw_aload_n (pc := 26) (i := 0) dX11_restore_26 rfl rfl ?_
          refine pg_X11_29 (pc := 27) dX11_restore_27 rfl ?_
          refine aw_iload_n (pc := 30) (i := 1) dX11_restore_30 rfl rfl ?_
          refine pl_X11_images (pc := 31) (x := some (ad 22 12)) dX11_restore_31 (by decide) (hMain.2.2.2.2.2.2.2.2.2.2.2.2 0 (by decide)) ?_
          refine aw_topV (y := .ref (ad 22 12)) rfl ?_
          refine aw_swap ?_
          refine cVv (pc := 32) (As := [.ref (ad 22 12)]) (rest := []) dX11_restore_32 rfl oc_X11_132 rfl rfl (Nat.le_of_ble_eq_true rfl) rfl rfl ovX7 (Nat.le_refl _) (Nat.le_refl _) (c7_copy hSR.2.2.2.2.1 ((skv_p (i := 22) (by omega) (by omega) (by omega) (by simp)).sub mem_app) hSi h0i h2i ?_)
          intro k1 sd1 g1
          refine ⟨rfl, ?_⟩
          refine aw_aload_n (pc := 35) (i := 0) dX11_restore_35 rfl rfl ?_
          refine aw_iconst (pc := 36) dX11_restore_36 iconst_0 ?_
          refine aw_swap ?_
          refine pp_X11_26 (pc := 37) dX11_restore_37 rfl ?_
          refine aw_iconst (pc := 40) dX11_restore_40 iconst_1 ?_
          refine aw_push2 (p1 := 0) (p2 := 2) (by omega) (by omega) (by decide) ?_
          refine ab_ret1 (pc := 41) dX11_restore_41 rfl (Nat.le_refl _) (Nat.le_refl _) ?_
          have := kk _ (by rw [show restoreS σ (nI 0) = rstS σ 0 from (if_pos (by decide)).trans (if_pos hpk)]; exact hJ.rst (k := 0) (k0 := (kF (κ 0) 5 (.int (nI 0)))) ⟨hCht, hSR, hSnt, hTok, hPast, hPm, hSds, hImg⟩ hB9 hTi hCi g1 hNi (fun f e => by show upN (κ 0).1 5 _ f = _; rw [upN_n _ _ _ _ e]) rfl rfl)
          rw [show restoreA σ (nI 0) = true from (if_pos (by decide)).trans (decide_eq_true hpk)] at this
          exact this
        · -- 20
          refine aw_iconst (pc := 20) dX11_restore_20 iconst_0 ?_
          refine ab_ret0 (pc := 21) dX11_restore_21 rfl (Nat.le_refl _) (Nat.le_refl _) ?_
          have hpk : ¬ 0 < σ.2.1 59 0 := by rw [hImg.2.2.1 0 (by decide)] at h17; exact of_decide_eq_false h17
          have := kk κ (by rw [show restoreS σ (nI 0) = mI σ 0 (nI 0) from (if_pos (by decide)).trans (if_neg hpk)]; exact hJ.th)
          rw [show restoreA σ (nI 0) = false from (if_pos (by decide)).trans (decide_eq_false hpk)] at this
          exact this
      · skip
        refine mt_start (L := [some (.ref ((ad 0) 20)), some (.int (nI 1))]) rfl (Nat.le_of_ble_eq_true rfl) rfl ?_
        refine aw_iload_n (pc := 0) (i := 1) dX11_restore_0 rfl rfl ?_
        refine an_if_lt (pc := 1) (tgt := 20) dX11_restore_1 rfl (by decide) ?_
        refine aw_iload_n (pc := 4) (i := 1) dX11_restore_4 rfl rfl ?_
        refine aw_iconst (pc := 5) dX11_restore_5 iconst_2 ?_
        refine an_icmp_ge (pc := 6) (tgt := 20) dX11_restore_6 rfl (by decide) (by decide) (fun h6 => absurd h6 (by decide)) (fun h6 => ?_)
        refine aw_aload_n (pc := 9) (i := 0) dX11_restore_9 rfl rfl ?_
        refine av_get (pc := 10) (x := .int (nI im)) dX11_restore_10 rfl og_X11_32 rfl hI hImg.1 ?_
        refine aw_iload_n (pc := 13) (i := 1) dX11_restore_13 rfl rfl ?_
        refine cSi (pc := 14) (As := [.int (nI im), .int (nI 1)]) (rest := []) dX11_restore_14 rfl oc_X11_203 rfl rfl (Nat.le_of_ble_eq_true rfl) (Nat.le_refl _) (Nat.le_refl _) (c_hasBit (by have := hImg.2.1; omega) (by decide) ⟨_, rfl, ?_⟩)
        refine ab_if_ne (pc := 17) (tgt := 22) dX11_restore_17 rfl (fun h17 => ?_) (fun h17 => ?_)
        · -- 22
          have hpk : 0 < σ.2.1 59 1 := by rw [hImg.2.2.1 1 (by decide)] at h17; exact of_decide_eq_true h17
          obtain ⟨⟨jci, NMi, sni, sdi, hCi, hSi, hNi⟩, hTi⟩ := hImg.2.2.2.2 1 (by decide) hpk
          obtain ⟨hbi, h0i, h1i, h2i, -⟩ := id hTi.1.1.1
          refine aw_pull2 (p1 := 0) (p2 := 2) (by omega) (by omega) (by decide) ?_
          refine aw_ws (w9 := (wIb G.2.2.1 (ad 0) (κ 0) ++ (wSt G.2.2.1 (ad 2) (κ 2) ++ (WX G.2.2.1 kd ad κ n [2, 0] ++ R)))) rfl ?_
          refine aw_aload_n (pc := 22) (i := 0) dX11_restore_22 rfl rfl ?_
          refine pg_X11_72 (pc := 23) (v := .ref ((ad 2) 12)) dX11_restore_23 rfl hMain.2.1 ?_
          refine aw_aload_n (pc := 26) (i := 0) dX11_restore_26 rfl rfl ?_
          refine pg_X11_29 (pc := 27) dX11_restore_27 rfl ?_
          refine aw_iload_n (pc := 30) (i := 1) dX11_restore_30 rfl rfl ?_
          refine pl_X11_images (pc := 31) (x := some (ad 23 12)) dX11_restore_31 (by decide) (hMain.2.2.2.2.2.2.2.2.2.2.2.2 1 (by decide)) ?_
          refine aw_topV (y := .ref (ad 23 12)) rfl ?_
          refine aw_swap ?_
          refine cVv (pc := 32) (As := [.ref (ad 23 12)]) (rest := []) dX11_restore_32 rfl oc_X11_132 rfl rfl (Nat.le_of_ble_eq_true rfl) rfl rfl ovX7 (Nat.le_refl _) (Nat.le_refl _) (c7_copy hSR.2.2.2.2.1 ((skv_p (i := 23) (by omega) (by omega) (by omega) (by simp)).sub mem_app) hSi h0i h2i ?_)
          intro k1 sd1 g1
          refine ⟨rfl, ?_⟩
          refine aw_aload_n (pc := 35) (i := 0) dX11_restore_35 rfl rfl ?_
          refine aw_iconst (pc := 36) dX11_restore_36 iconst_0 ?_
          refine aw_swap ?_
          refine pp_X11_26 (pc := 37) dX11_restore_37 rfl ?_
          refine aw_iconst (pc := 40) dX11_restore_40 iconst_1 ?_
          refine aw_push2 (p1 := 0) (p2 := 2) (by omega) (by omega) (by decide) ?_
          refine ab_ret1 (pc := 41) dX11_restore_41 rfl (Nat.le_refl _) (Nat.le_refl _) ?_
          have := kk _ (by rw [show restoreS σ (nI 1) = rstS σ 1 from (if_pos (by decide)).trans (if_pos hpk)]; exact hJ.rst (k := 1) (k0 := (kF (κ 0) 5 (.int (nI 0)))) ⟨hCht, hSR, hSnt, hTok, hPast, hPm, hSds, hImg⟩ hB9 hTi hCi g1 hNi (fun f e => by show upN (κ 0).1 5 _ f = _; rw [upN_n _ _ _ _ e]) rfl rfl)
          rw [show restoreA σ (nI 1) = true from (if_pos (by decide)).trans (decide_eq_true hpk)] at this
          exact this
        · -- 20
          refine aw_iconst (pc := 20) dX11_restore_20 iconst_0 ?_
          refine ab_ret0 (pc := 21) dX11_restore_21 rfl (Nat.le_refl _) (Nat.le_refl _) ?_
          have hpk : ¬ 0 < σ.2.1 59 1 := by rw [hImg.2.2.1 1 (by decide)] at h17; exact of_decide_eq_false h17
          have := kk κ (by rw [show restoreS σ (nI 1) = mI σ 0 (nI 0) from (if_pos (by decide)).trans (if_neg hpk)]; exact hJ.th)
          rw [show restoreA σ (nI 1) = false from (if_pos (by decide)).trans (decide_eq_false hpk)] at this
          exact this
    · have hin : inC (nI 0) (nI 1) (nI k) = false := inC_f (by decide) (by decide) hk9 (by omega)
      refine mt_start (L := [some (.ref ((ad 0) 20)), some (.int (nI k))]) rfl (Nat.le_of_ble_eq_true rfl) rfl ?_
      refine aw_iload_n (pc := 0) (i := 1) dX11_restore_0 rfl rfl ?_
      refine an_if_lt (pc := 1) (tgt := 20) dX11_restore_1 rfl (by omega) ?_
      refine aw_iload_n (pc := 4) (i := 1) dX11_restore_4 rfl rfl ?_
      refine aw_iconst (pc := 5) dX11_restore_5 iconst_2 ?_
      refine an_icmp_ge (pc := 6) (tgt := 20) dX11_restore_6 rfl (by omega) (by decide) (fun h6 => ?_) (fun h6 => ?_)
      · -- 20
        refine aw_iconst (pc := 20) dX11_restore_20 iconst_0 ?_
        refine ab_ret0 (pc := 21) dX11_restore_21 rfl (Nat.le_refl _) (Nat.le_refl _) ?_
        have := kk κ (by rw [show restoreS σ (nI k) = mI σ 0 (nI 0) from if_neg (by rw [hin]; decide)]; exact hJ.th)
        rw [show restoreA σ (nI k) = false from if_neg (by rw [hin]; decide)] at this
        exact this
      · -- 9
        exfalso; omega
