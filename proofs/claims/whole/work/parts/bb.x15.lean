theorem liv_3 (rd : Nat → Nat) : ∀ (n i : Nat) (t : Nat → Nat), (liv rd n i t).2.2.1 = if (liv rd n i t).1 = 0 then -1 else nI (liv rd n i t).2.1 := by
  intro n
  induction n with
  | zero => intro i t; rfl
  | succ n ih =>
    intro i t
    rw [liv]
    split
    · exact ih _ _
    · rfl
theorem liv_lt (rd : Nat → Nat) : ∀ (n i : Nat) (t : Nat → Nat), (∀ k, k < i + n → rd (4 * k) ≤ 6) → (liv rd n i t).1 < 2 ^ 31 := by
  intro n
  induction n with
  | zero => intro i t _; exact Nat.two_pow_pos 31
  | succ n ih =>
    intro i t h
    rw [liv]
    split
    · exact ih _ _ (fun k hk => h k (by omega))
    · exact doesA_lt (h i (by omega))
theorem liv_ge (rd : Nat → Nat) : ∀ (n i : Nat) (t : Nat → Nat), i ≤ (liv rd n i t).2.1 ∧ ((liv rd n i t).2.1 = i → (liv rd n i t).2.2.2 = t) := by
  intro n
  induction n with
  | zero => intro i t; exact ⟨Nat.le_refl _, fun _ => rfl⟩
  | succ n ih =>
    intro i t
    rw [liv]
    split
    · have := ih (i + 1) (doesS t (rd (4 * i)) (rd (4 * i + 1)) (rd (4 * i + 2)) (rd (4 * i + 3)))
      exact ⟨by omega, fun e => by omega⟩
    · exact ⟨Nat.le_refl _, fun _ => rfl⟩
theorem liv_92 (rd : Nat → Nat) : ∀ (n i : Nat) {u : Nat → Nat} {b : Nat}, WV u b → b + 99 * n ≤ 2 ^ 29 → 4096 ≤ b → (∀ k, k < i + n → lnOK u (rd (4 * k)) (rd (4 * k + 1)) (rd (4 * k + 2)) (rd (4 * k + 3))) → S92 u → S92 (liv rd n i u).2.2.2 := by
  intro n
  induction n with
  | zero => intro i u b _ _ _ _ h; exact h
  | succ n ih =>
    intro i u b H hb hb5 hl h
    rw [liv]
    split
    · obtain ⟨d1, d2⟩ := WV_does H (by omega) hb5 (hl i (by omega))
      refine ih (i + 1) (b := b + 99) d1 (by omega) (by omega) (fun k hk => lnOK_of (hl k (by omega)) (d2 0 (by omega)) (d2 2 (by omega))) ?_
      unfold doesS
      split
      · exact S92_does H hb5 (hl i (by omega)) h
      · exact h
    · exact h
theorem J.up5 {ae : Nat → Nat} {kd : Nat → Bool} {ad : Nat → Nat → Nat} {κ : Nat → kS} {n : Nat} {σ : mS} {B : Nat} {k5 : kS} (h5 : k5.1 0 = .ref (ad 1 13)) (h : J ae kd ad κ n σ B) : J ae kd ad (upN κ 5 k5) n σ B := by
  obtain ⟨hn, hMain, hSub, hTape, hR10, hR11, hR12, hR13, hMisc, hRef, hB5, jc, NM, sn, sd, m, pn, im, hCht, hSR, hSnt, hTok, hPast, hPm, hSds, hImg⟩ := id h
  exact ⟨hn, hMain, ⟨hSub.1, hSub.2.1, h5, hSub.2.2.2⟩, hTape, hR10, hR11, hR12, hR13, hMisc, hRef, hB5, jc, NM, sn, sd, m, pn, im, (jSt.up (i := 5) (by omega) (by omega) (by omega) ⟨hCht, hSR, hSnt, hTok, hPast, hPm, hSds, hImg⟩)⟩
theorem J.up3 {ae : Nat → Nat} {kd : Nat → Bool} {ad : Nat → Nat → Nat} {κ : Nat → kS} {n : Nat} {σ : mS} {B : Nat} {k3 : kS} {sd3 : Int32} (h3 : k3.1 11 = .int sd3) (h : J ae kd ad κ n σ B) : J ae kd ad (upN κ 3 k3) n σ B := by
  obtain ⟨hn, hMain, hSub, hTape, hR10, hR11, hR12, hR13, hMisc, hRef, hB5, jc, NM, sn, sd, m, pn, im, hCht, hSR, hSnt, hTok, hPast, hPm, hSds, hImg⟩ := id h
  exact ⟨hn, hMain, ⟨⟨_, h3⟩, hSub.2⟩, hTape, hR10, hR11, hR12, hR13, hMisc, hRef, hB5, jc, NM, sn, sd, m, pn, im, (jSt.up (i := 3) (by omega) (by omega) (by omega) ⟨hCht, hSR, hSnt, hTok, hPast, hPm, hSds, hImg⟩)⟩
theorem J.vd {ae : Nat → Nat} {kd : Nat → Bool} {ad : Nat → Nat → Nat} {κ : Nat → kS} {n : Nat} {σ : mS} {B : Nat} {k0 : kS} {tf : Nat → Nat} (hF : k0.1 = (κ 0).1) (hP : k0.2.2.2 = (κ 0).2.2.2) (hv : ∀ k, k < 4 → k0.2.1 10 k = nI (tf k)) (h : J ae kd ad κ n σ B) : J ae kd ad (upN κ 0 k0) n (mI (rho (triesS σ) (σ.2.1 6) tf) 49 (nI 1)) B := by
  obtain ⟨hn, hMain, hSub, hTape, hR10, hR11, hR12, hR13, hMisc, hRef, hB5, jc, NM, sn, sd, m, pn, im, hCht, hSR, hSnt, hTok, hPast, hPm, hSds, hImg⟩ := id h
  have hmain' : jMain ad k0 := by unfold jMain at *; rw [hF, hP]; exact hMain
  obtain ⟨i1, i2, i3, i4, i5⟩ := hImg
  refine ⟨hn, hmain', hSub, hTape, hR10, hR11, hR12, hR13, ⟨by show k0.1 17 = _; rw [hF]; exact hMisc.1, ?_, ?_, ⟨true, rfl, fun k hk => ?_⟩⟩, hRef, hB5, jc, NM, sn, sd, m, pn, im, hCht.up (by decide), hSR, hSnt.up (by decide), hTok, hPast.up (by decide), ⟨hPm.1, by show k0.1 4 = _; rw [hF]; exact hPm.2.1, by show k0.1 5 = _; rw [hF]; exact hPm.2.2.1, hPm.2.2.2⟩, fun i q1 q2 => by rw [upN_n _ _ _ _ (by omega)]; exact hSds i q1 q2, ⟨by show k0.1 7 = _; rw [hF]; exact i1, i2, i3, i4, fun k hk hp => ?_⟩⟩
  · obtain ⟨c, c1, c2⟩ := hMisc.2.1
    exact ⟨c, c1, by show k0.1 18 = _; rw [hF]; exact c2⟩
  · obtain ⟨c, c1, c2⟩ := hMisc.2.2.1
    exact ⟨c, c1, by show k0.1 19 = _; rw [hF]; exact c2⟩
  · show k0.2.1 10 k = toldA true tf (nI k)
    rw [hv k hk]; unfold toldA
    rw [if_pos rfl, inC_nat (by decide) (by decide) (by omega), decide_eq_true (Nat.zero_le _), decide_eq_true (show k ≤ 3 by omega), if_pos (show (true && true) = true from rfl), nI_clamp (by omega)]
  · obtain ⟨b1, b2⟩ := i5 k hk hp
    exact ⟨by rw [upN_n _ _ _ _ (by omega)]; exact b1.up (by decide), b2⟩
theorem skv_3 {G : xG} {kd : Nat → Bool} {ad : Nat → Nat → Nat} {κ : Nat → kS} {n : Nat} {xs : List Nat} {R : va_W} (hn : 3 < n) (hx : 3 ∉ xs) : SKV G (WX G.2.2.1 kd ad κ n xs ++ R) (ad 3) (κ 3) := (SKV.of (G := G) (R := []) (b := ad 3) (κ := κ 3)).sub (fun x h9 => mem_R1 x (wx_mem hn hx x (by rw [List.append_nil] at h9; exact h9)))
theorem ov_5 {G : xG} {kd : Nat → Bool} {ad : Nat → Nat → Nat} {κ : Nat → kS} {n : Nat} {xs : List Nat} {R : va_W} (hn : 5 < n) (hx : 5 ∉ xs) : OV G (WX G.2.2.1 kd ad κ n xs ++ R) 0 (ad 5 8) (fvX1 (ad 5) (κ 5)) := (ovX1 (G := G) (R := []) (a := ad 5) (κ := κ 5)).sub (fun x h => mem_R1 x (wx_mem hn hx x (by rw [List.append_nil] at h; exact h)))
set_option maxHeartbeats 1000000 in
set_option maxRecDepth 20000 in
theorem c11_keepX {G : xG} {d : Nat} {Q : xQ} {ae : Nat → Nat} {tw ts : Nat} {kd : Nat → Bool} {ad : Nat → Nat → Nat} {κ : Nat → kS} {n : Nat} {σ : mS} {B : Nat} {R : va_W} (hE : EB ae tw ts G) (hNB : NB G) (hAO : AO G) (hJ : J ae kd ad κ n σ B) (kk : ∀ κ9 m, σ.1 23 = nI m → m ≤ 8 → (∀ i, ¬ i = 0 → ¬ (14 ≤ i ∧ i < 22) → κ9 i = κ i) → J ae kd ad κ9 n (keepS σ m) B → Q none (WX G.2.2.1 kd ad κ9 n [] ++ R)) : MT G MX11_keep (d + 1) 0 0 [.ref ((ad 0) 20)] (WX G.2.2.1 kd ad κ n [] ++ R) Q := by
  obtain ⟨hn, hMain, hSub, hTape, hR10, hR11, hR12, hR13, hMisc, hRef, hB5, jc, NM, sn, sd, m, pn, im, hCht, hSR, hSnt, hTok, hPast, hPm, hSds, hImg⟩ := id hJ
  have hw : WT (σ.2.1 6) := hTok.1.1.1
  obtain ⟨hb, h0, h1, h2, hRd, hP, hD, hCl, hT⟩ := id hw
  have hm8 := hPm.2.2.2.1
  have hp8 := hPm.2.2.2.2
  obtain ⟨sdp, hsp⟩ := hSds (14 + pn) (by omega) (by omega)
  refine mt_start (L := [some (.ref ((ad 0) 20))]) rfl (Nat.le_of_ble_eq_true rfl) rfl ?_
  refine aw_pull2 (p1 := 0) (p2 := 14 + pn) (by omega) (by omega) (by omega) ?_
  rw [ck_st (i := 14 + pn) (by omega) (by omega)]
  refine aw_ws (w9 := (wIb G.2.2.1 (ad 0) (κ 0) ++ (wSt G.2.2.1 (ad (14 + pn)) (κ (14 + pn)) ++ (WX G.2.2.1 kd ad κ n [14 + pn, 0] ++ R)))) rfl ?_
  refine aw_aload_n (pc := 0) (i := 0) dX11_keep_0 rfl rfl ?_
  refine pg_X11_18 (pc := 1) dX11_keep_1 rfl ?_
  refine aw_aload_n (pc := 4) (i := 0) dX11_keep_4 rfl rfl ?_
  refine pg_X11_22 (pc := 5) (v := .int (nI pn)) dX11_keep_5 rfl hPm.2.1 ?_
  refine pl_X11_past (pc := 8) (x := some (ad (14 + pn) 12)) dX11_keep_8 (by omega) (hMain.2.2.2.2.2.2.2.2.2.2.2.1 pn (by omega)) ?_
  refine aw_topV (y := .ref (ad (14 + pn) 12)) rfl ?_
  refine aw_aload_n (pc := 9) (i := 0) dX11_keep_9 rfl rfl ?_
  refine pg_X11_72 (pc := 10) (v := .ref ((ad 2) 12)) dX11_keep_10 rfl hMain.2.1 ?_
  refine aw_swap ?_
  refine cVv (pc := 13) (As := [.ref ((ad 2) 12)]) (rest := []) dX11_keep_13 rfl oc_X11_132 rfl rfl (Nat.le_of_ble_eq_true rfl) rfl rfl ovX7 (Nat.le_refl _) (Nat.le_refl _) (c7_copy hsp ((skv_2 (by omega) (by simp; omega)).sub mem_app) hSR h0 h2 ?_)
  intro k1 sd1 g1
  refine ⟨rfl, ?_⟩
  refine aw_aload_n (pc := 16) (i := 0) dX11_keep_16 rfl rfl ?_
  refine aw_aload_n (pc := 17) (i := 0) dX11_keep_17 rfl rfl ?_
  refine aw_swap ?_
  refine pg_X11_22 (pc := 18) (v := .int (nI pn)) dX11_keep_18 rfl hPm.2.1 ?_
  refine aw_bipush (pc := 21) dX11_keep_21 bipush_7 ?_
  refine an_icmp_ne (pc := 23) (tgt := 30) dX11_keep_23 rfl (by omega) (by decide) (fun h23 => ?_) (fun h23 => ?_)
  · -- 30
    refine aw_aload_n (pc := 30) (i := 0) dX11_keep_30 rfl rfl ?_
    refine pg_X11_22 (pc := 31) (v := .int (nI pn)) dX11_keep_31 rfl hPm.2.1 ?_
    refine aw_iconst (pc := 34) dX11_keep_34 iconst_1 ?_
    refine an_add (pc := 35) dX11_keep_35 ?_
    refine pp_X11_22 (pc := 36) dX11_keep_36 rfl ?_
    refine aw_aload_n (pc := 39) (i := 0) dX11_keep_39 rfl rfl ?_
    refine aw_aload_n (pc := 40) (i := 0) dX11_keep_40 rfl rfl ?_
    refine pg_X11_26 (pc := 41) (v := .int (nI m)) dX11_keep_41 rfl hPm.2.2.1 ?_
    refine aw_iconst (pc := 44) dX11_keep_44 iconst_1 ?_
    refine an_add (pc := 45) dX11_keep_45 ?_
    refine aw_bipush (pc := 46) dX11_keep_46 bipush_8 ?_
    refine aw_min (pc := 48) dX11_keep_48 rfl mk_X11_232 (Nat.le_of_ble_eq_true rfl) (Nat.le_refl _) (Nat.le_refl _) ?_
    refine aw_top (y := nI (keepM m)) ((min_nI (by omega) (by omega)).trans (congrArg nI (minK hm8))) ?_
    refine pp_X11_26 (pc := 51) dX11_keep_51 rfl ?_
    refine aw_ws (w9 := ck G.2.2.1 kd 0 (ad 0) (kF (kF (κ 0) 4 (.int (nI (pn + 1)))) 5 (.int (nI (keepM m)))) ++ (ck G.2.2.1 kd (14 + pn) (ad (14 + pn)) k1 ++ (WX G.2.2.1 kd ad κ n [14 + pn, 0] ++ R))) (by rw [ck_st (i := 14 + pn) (by omega) (by omega)]; rfl) ?_
    refine aw_push2 (p1 := 0) (p2 := 14 + pn) (by omega) (by omega) (by omega) ?_
    exact aw_vret (pc := 54) dX11_keep_54 rfl (Nat.le_refl _) (Nat.le_refl _) (kk _ m hPm.1 hm8 (fun i e0 e1 => by rw [upN_n _ _ _ _ e0, upN_n _ _ _ _ (by omega)]) (hJ.keep ⟨hCht, hSR, hSnt, hTok, hPast, hPm, hSds, hImg⟩ ⟨_, g1⟩ (fun k e4 e5 => by show upN (upN (κ 0).1 4 _) 5 _ k = _; rw [upN_n _ _ _ _ e5, upN_n _ _ _ _ e4]) rfl (by rw [pnS_n h23]; rfl) rfl))
  · -- 26
    refine aw_iconst (pc := 26) dX11_keep_26 iconst_0 ?_
    refine aw_goto (pc := 27) (tgt := 36) dX11_keep_27 rfl ?_
    refine pp_X11_22 (pc := 36) dX11_keep_36 rfl ?_
    refine aw_aload_n (pc := 39) (i := 0) dX11_keep_39 rfl rfl ?_
    refine aw_aload_n (pc := 40) (i := 0) dX11_keep_40 rfl rfl ?_
    refine pg_X11_26 (pc := 41) (v := .int (nI m)) dX11_keep_41 rfl hPm.2.2.1 ?_
    refine aw_iconst (pc := 44) dX11_keep_44 iconst_1 ?_
    refine an_add (pc := 45) dX11_keep_45 ?_
    refine aw_bipush (pc := 46) dX11_keep_46 bipush_8 ?_
    refine aw_min (pc := 48) dX11_keep_48 rfl mk_X11_232 (Nat.le_of_ble_eq_true rfl) (Nat.le_refl _) (Nat.le_refl _) ?_
    refine aw_top (y := nI (keepM m)) ((min_nI (by omega) (by omega)).trans (congrArg nI (minK hm8))) ?_
    refine pp_X11_26 (pc := 51) dX11_keep_51 rfl ?_
    refine aw_ws (w9 := ck G.2.2.1 kd 0 (ad 0) (kF (kF (κ 0) 4 (.int (nI 0))) 5 (.int (nI (keepM m)))) ++ (ck G.2.2.1 kd (14 + pn) (ad (14 + pn)) k1 ++ (WX G.2.2.1 kd ad κ n [14 + pn, 0] ++ R))) (by rw [ck_st (i := 14 + pn) (by omega) (by omega)]; rfl) ?_
    refine aw_push2 (p1 := 0) (p2 := 14 + pn) (by omega) (by omega) (by omega) ?_
    exact aw_vret (pc := 54) dX11_keep_54 rfl (Nat.le_refl _) (Nat.le_refl _) (kk _ m hPm.1 hm8 (fun i e0 e1 => by rw [upN_n _ _ _ _ e0, upN_n _ _ _ _ (by omega)]) (hJ.keep ⟨hCht, hSR, hSnt, hTok, hPast, hPm, hSds, hImg⟩ ⟨_, g1⟩ (fun k e4 e5 => by show upN (upN (κ 0).1 4 _) 5 _ k = _; rw [upN_n _ _ _ _ e5, upN_n _ _ _ _ e4]) rfl (by rw [h23]; rfl) rfl))
set_option maxHeartbeats 1000000 in
set_option maxRecDepth 20000 in
theorem bk_keep {G : xG} {d : Nat} {Q : xQ} {ae : Nat → Nat} {tw ts : Nat} {kd : Nat → Bool} {ad : Nat → Nat → Nat} {κ : Nat → kS} {n : Nat} {σ : mS} {B : Nat} {R : va_W} {u : Nat → Nat} {B9 wy r : Nat} {k3 kb : kS} (hE : EB ae tw ts G) (hNB : NB G) (hAO : AO G) (hJ : J ae kd ad κ n σ B) (hk3 : κ 3 = k3) (hk5 : κ 5 = kb) (h57 : kb.1 7 = .int (nI wy)) (hwy : wy < 2 ^ 31) (hu : WV u B9) (he : ∀ j, ¬ (91 ≤ j ∧ j < 138) → u j = σ.2.1 6 j) (h92 : S92 u) (hBB : B ≤ B9) (hS3 : ∀ c sn sd, SRl c sn (σ.2.1 6) sd (κ 2) → ∃ sd9, SRl c sn u sd9 k3) (kk : ∀ κ9 mm, σ.1 23 = nI mm → mm ≤ 8 → J ae kd ad κ9 n (sN (keepS σ mm) 6 u) B9 → Q (some (.int (if wy = 0 then -1 else nI r))) (WX G.2.2.1 kd ad κ9 n [] ++ R)) : AW G MX11_book (d + 2) 0 0 Q 134 [some (.ref ((ad 0) 20)), some (.int (nI 1)), some (.int (nI r))] [] (WX G.2.2.1 kd ad κ n [] ++ R) 0 0 := by
  obtain ⟨hn, hMain, hSub, hTape, hR10, hR11, hR12, hR13, hMisc, hRef, hB5, jc, NM, sn, sd, m, pn, im, hCht, hSR, hSnt, hTok, hPast, hPm, hSds, hImg⟩ := id hJ
  have hI := ov_0 (G := G) (kd := kd) (ad := ad) (κ := κ) (xs := []) (R := R) (by omega : 0 < n) (by simp)
  refine aw_aload_n (pc := 134) (i := 0) dX11_book_134 rfl rfl ?_
  refine cVv (pc := 135) (As := []) (rest := []) dX11_book_135 rfl oc_X11_319 rfl rfl (Nat.le_of_ble_eq_true rfl) rfl rfl hI (Nat.le_refl _) (Nat.le_refl _) (c11_keepX hE hNB hAO hJ ?_)
  intro κ8 mm h23 hmm hk8 hJ8
  refine ⟨rfl, ?_⟩
  have e2 := hk8 2 (by decide) (by omega)
  have e3 := (hk8 3 (by decide) (by omega)).trans hk3
  have e5 := (hk8 5 (by decide) (by omega)).trans hk5
  clear hI hn hMain hSub hTape hR10 hR11 hR12 hR13 hMisc hRef hB5 hCht hSR hSnt hTok hPast hPm hSds hImg
  obtain ⟨hn, hMain, hSub, hTape, hR10, hR11, hR12, hR13, hMisc, hRef, hB5, jc, NM, sn, sd, m, pn, im, hCht, hSR, hSnt, hTok, hPast, hPm, hSds, hImg⟩ := id hJ8
  have hw : WT (σ.2.1 6) := hTok.1.1.1
  obtain ⟨hb, h0, h1, h2, hRd, hP, hD, hCl, hT⟩ := id hw
  obtain ⟨sd9, hS9⟩ := hS3 _ _ _ (by rw [← e2]; exact hSR)
  rw [← e3] at hS9
  have hIx := ov_0 (G := G) (kd := kd) (ad := ad) (κ := κ8) (xs := [2]) (R := R) (by omega : 0 < n) (by simp)
  have hBx := ov_5 (G := G) (kd := kd) (ad := ad) (κ := κ8) (xs := [2]) (R := R) (by omega : 5 < n) (by simp)
  have u0 : u 0 = σ.2.1 6 0 := he 0 (by omega)
  have u2 : u 2 = σ.2.1 6 2 := he 2 (by omega)
  refine aw_pull1 (p1 := 2) (by omega) ?_
  refine aw_ws (w9 := (wSt G.2.2.1 (ad 2) (κ8 2) ++ (WX G.2.2.1 kd ad κ8 n [2] ++ R))) rfl ?_
  refine aw_aload_n (pc := 138) (i := 0) dX11_book_138 rfl rfl ?_
  refine av_get (pc := 139) (x := .ref ((ad 2) 12)) dX11_book_139 rfl og_X11_72 rfl (hIx.sub mem_app) hMain.2.1 ?_
  refine aw_aload_n (pc := 142) (i := 0) dX11_book_142 rfl rfl ?_
  refine av_get (pc := 143) (x := .ref ((ad 3) 12)) dX11_book_143 rfl og_X11_76 rfl (hIx.sub mem_app) hMain.2.2.1 ?_
  refine cVv (pc := 146) (As := [.ref ((ad 3) 12)]) (rest := []) dX11_book_146 rfl oc_X11_132 rfl rfl (Nat.le_of_ble_eq_true rfl) rfl rfl ovX7 (Nat.le_refl _) (Nat.le_refl _) (c7_copy hSR.2.2.2.2.1 (skv_3 (by omega) (by simp)) hS9 (by rw [u0]; exact h0) (by rw [u2]; exact h2) ?_)
  intro k1 sd1 g1
  refine ⟨rfl, ?_⟩
  refine aw_aload_n (pc := 149) (i := 0) dX11_book_149 rfl rfl ?_
  refine av_get (pc := 150) (x := .ref ((ad 5) 8)) dX11_book_150 rfl og_X11_93 rfl (hIx.sub mem_app) hMain.2.2.2.2.1 ?_
  refine av_get (pc := 153) (x := .int (nI wy)) dX11_book_153 rfl og_X11_331 rfl (hBx.sub mem_app) (by rw [e5]; exact h57) ?_
  refine an_if_ne (pc := 156) (tgt := 163) dX11_book_156 rfl (by omega) (fun h156 => ?_) (fun h156 => ?_)
  · -- 163
    refine aw_iload_n (pc := 163) (i := 2) dX11_book_163 rfl rfl ?_
    refine aw_push1 (p1 := 2) (by omega) ?_
    refine aw_iret (pc := 164) dX11_book_164 rfl (Nat.le_refl _) (Nat.le_refl _) ?_
    have := kk (upN κ8 2 k1) mm h23 hmm (J.act hJ8 (fun j hj => he j hj) hu h92 hBB (fun c sn9 sd9 hx => ⟨sd1, g1.1.trans (hSR.1.symm.trans hx.1), g1.2.1.trans (hSR.2.1.symm.trans hx.2.1), g1.2.2⟩))
    rw [if_neg (by omega)] at this
    exact this
  · -- 159
    refine aw_iconst (pc := 159) dX11_book_159 iconst_m1 ?_
    refine aw_goto (pc := 160) (tgt := 164) dX11_book_160 rfl ?_
    refine aw_push1 (p1 := 2) (by omega) ?_
    refine aw_iret (pc := 164) dX11_book_164 rfl (Nat.le_refl _) (Nat.le_refl _) ?_
    have := kk (upN κ8 2 k1) mm h23 hmm (J.act hJ8 (fun j hj => he j hj) hu h92 hBB (fun c sn9 sd9 hx => ⟨sd1, g1.1.trans (hSR.1.symm.trans hx.1), g1.2.1.trans (hSR.2.1.symm.trans hx.2.1), g1.2.2⟩))
    rw [if_pos (by omega)] at this
    exact this
theorem J_told {ae : Nat → Nat} {kd : Nat → Bool} {ad : Nat → Nat → Nat} {κ : Nat → kS} {n : Nat} {X : mS} {B mm : Nat} {t u tf tg : Nat → Nat} (he : ∀ k, k < 4 → tf k = tg k) (h : J ae kd ad κ n (sN (keepS (mI (rho X t tg) 49 (nI 1)) mm) 6 u) B) : J ae kd ad κ n (sN (keepS (mI (rho X t tf) 49 (nI 1)) mm) 6 u) B := by
  obtain ⟨hn, hMain, hSub, hTape, hR10, hR11, hR12, hR13, ⟨m1, m2, m3, c, c1, c2⟩, hRef, hB5, hJ9⟩ := h
  refine ⟨hn, hMain, hSub, hTape, hR10, hR11, hR12, hR13, ⟨m1, m2, m3, c, c1, fun k hk => ?_⟩, hRef, hB5, hJ9⟩
  rw [c2 k hk]
  show toldA c tg (nI k) = toldA c tf (nI k)
  unfold toldA
  rw [nI_clamp (by omega), he k hk]
theorem jkp_eq {σ : mS} {t u tf : Nat → Nat} {m : Nat} : sN (keepS (mI (rho (triesS σ) t tf) 49 (nI 1)) m) 6 u = mI (sN (mI (rho (triesS σ) u tf) 49 (nI 1)) 21 (keepU (σ.2.1 21) t m)) 23 (nI (keepM m)) := by
  have e : ∀ k, upN (upN (upN (upN (upN σ.2.1 22 (cpF (σ.2.1 22) (σ.2.1 6) 0 91 47)) 6 t) 48 tf) 21 (keepU (σ.2.1 21) t m)) 6 u k = upN (upN (upN (upN σ.2.1 22 (cpF (σ.2.1 22) (σ.2.1 6) 0 91 47)) 6 u) 48 tf) 21 (keepU (σ.2.1 21) t m) k := fun k => by
    by_cases e6 : k = 6
    · subst e6; rw [upN_s, upN_n _ _ _ _ (by decide), upN_n _ _ _ _ (by decide), upN_s]
    · rw [upN_n _ _ _ _ e6]
      by_cases e21 : k = 21
      · subst e21; rw [upN_s, upN_s]
      · rw [upN_n _ _ _ _ e21, upN_n _ _ _ _ e21]
        by_cases e48 : k = 48
        · subst e48; rw [upN_s, upN_s]
        · rw [upN_n _ _ _ _ e48, upN_n _ _ _ _ e48, upN_n _ _ _ _ e6, upN_n _ _ _ _ e6]
  exact Prod.ext rfl (Prod.ext (funext e) rfl)
set_option maxHeartbeats 1000000 in
set_option maxRecDepth 20000 in
theorem bk_fin0 {G : xG} {d : Nat} {Q : xQ} {ae : Nat → Nat} {tw ts : Nat} {kd : Nat → Bool} {ad : Nat → Nat → Nat} {κ : Nat → kS} {n : Nat} {σ : mS} {B : Nat} {R : va_W} {m5 : Nat} {res : Nat × Nat × Int32 × (Nat → Nat)} (hE : EB ae tw ts G) (hNB : NB G) (hAO : AO G) (hJ : J ae kd ad κ n σ B) (hB9 : B + 99 * 40 ≤ 2 ^ 29) (hm5 : m5 ≤ 40) (h56 : (κ 5).1 6 = .int (nI m5)) (hLn : ∀ i, i < m5 → LNq (κ 5) (σ.2.1 8) i) (hOk : ∀ i, i < m5 → lnOK (σ.2.1 6) (σ.2.1 8 (4 * i)) (σ.2.1 8 (4 * i + 1)) (σ.2.1 8 (4 * i + 2)) (σ.2.1 8 (4 * i + 3))) (hres : bkW σ m5 (σ.2.1 6) = res) (kk : ∀ κ9, (∀ tf : Nat → Nat, tf 0 = res.1 → tf 1 = res.2.1 → tf 2 = res.2.2.2 91 → tf 3 = allLongF res.2.2.2 → J ae kd ad κ9 n (mI (rho (triesS σ) (σ.2.1 6) tf) 49 (nI 1)) (B + 99 * 40)) → Q (some (.int res.2.2.1)) (WX G.2.2.1 kd ad κ9 n [] ++ R)) : AW G MX11_book (d + 6) 0 0 Q 56 [some (.ref ((ad 0) 20)), some (.int (nI 0)), none] [] (WX G.2.2.1 kd ad κ n [] ++ R) 0 0 := by
  obtain ⟨hn, hMain, hSub, hTape, hR10, hR11, hR12, hR13, hMisc, hRef, hB5, jc, NM, sn, sd, m, pn, im, hCht, hSR, hSnt, hTok, hPast, hPm, hSds, hImg⟩ := id hJ
  have hw : WT (σ.2.1 6) := hTok.1.1.1
  obtain ⟨hb, h0, h1, h2, hRd, hP, hD, hCl, hT⟩ := id hw
  obtain ⟨sd3, hsd3⟩ := hSub.1
  have hlk := liv_keep (σ.2.1 8) m5 0 hTok.1 (by omega) hB5 (fun k hk => hOk k (by omega))
  have hl3 := liv_3 (σ.2.1 8) m5 0 (σ.2.1 6)
  have hl1 := liv_lt (σ.2.1 8) m5 0 (σ.2.1 6) (fun k hk => (hOk k (by omega)).1)
  have hl0 := (liv_ge (σ.2.1 8) m5 0 (σ.2.1 6)).2
  have hl9 := liv_92 (σ.2.1 8) m5 0 hTok.1 (by omega) hB5 (fun k hk => hOk k (by omega)) hTok.2.2
  change liv (σ.2.1 8) m5 0 (σ.2.1 6) = res at hres
  rw [hres] at hlk hl3 hl1 hl0 hl9
  obtain ⟨hlW, hlE, hlN⟩ := hlk
  obtain ⟨u, hu⟩ : ∃ u, u = res.2.2.2 := ⟨_, rfl⟩
  rw [← hu] at hlW hlE hl0 hl9
  have u0 : u 0 = σ.2.1 6 0 := hlE 0 (by omega)
  have u2 : u 2 = σ.2.1 6 2 := hlE 2 (by omega)
  have hwu : WT u := hlW.1.1
  have hCx : CHR G (WX G.2.2.1 kd ad κ n [0, 3, 5] ++ R) (ad jc) (σ.2.1 6) NM := (hCht.chr (ad := ad) hw (fun i hi => by simp at hi; omega)).sub mem_R1
  have hCu : CHR G (WX G.2.2.1 kd ad κ n [0, 3, 5] ++ R) (ad jc) u NM := ((CHT_cong (nm' := σ.2.2.2.2 9) hCht h0 h1 h2 (fun j hj => hlE j (by omega)) (fun _ _ => rfl)).chr (ad := ad) hwu (fun i hi => by simp at hi; omega)).sub mem_R1
  have hu91 : u 91 ≤ 400 := hwu.2.2.2.2.2.2.1
  refine aw_pull3 (p1 := 5) (p2 := 3) (p3 := 0) (by omega) (by omega) (by omega) (by decide) (by decide) (by decide) ?_
  refine aw_ws (w9 := (wBk G.2.2.1 (ad 5) (κ 5) ++ (wSt G.2.2.1 (ad 3) (κ 3) ++ (wIb G.2.2.1 (ad 0) (κ 0) ++ (WX G.2.2.1 kd ad κ n [0, 3, 5] ++ R))))) rfl ?_
  refine aw_aload_n (pc := 56) (i := 0) dX11_book_56 rfl rfl ?_
  refine aw_swap3 ?_
  refine pg_X11_76 (pc := 57) (v := .ref ((ad 3) 12)) dX11_book_57 rfl hMain.2.2.1 ?_
  refine aw_aload_n (pc := 60) (i := 0) dX11_book_60 rfl rfl ?_
  refine pg_X11_72 (pc := 61) (v := .ref ((ad 2) 12)) dX11_book_61 rfl hMain.2.1 ?_
  refine aw_swap3 ?_
  refine aw_swap ?_
  refine aw_swap3 ?_
  refine aw_swap3 ?_
  refine cVv (pc := 64) (As := [.ref ((ad 2) 12)]) (rest := []) dX11_book_64 rfl oc_X11_132 rfl rfl (Nat.le_of_ble_eq_true rfl) rfl rfl ovX7 (Nat.le_refl _) (Nat.le_refl _) (c7_copy hsd3 ((skv_2 (by omega) (by simp)).sub mem_ap2) hSR h0 h2 ?_)
  intro k3 sd4 g4
  refine ⟨rfl, ?_⟩
  refine aw_aload_n (pc := 67) (i := 0) dX11_book_67 rfl rfl ?_
  refine aw_swap3 ?_
  refine pg_X11_93 (pc := 68) (v := .ref ((ad 5) 8)) dX11_book_68 rfl hMain.2.2.2.2.1 ?_
  refine aw_aload_n (pc := 71) (i := 0) dX11_book_71 rfl rfl ?_
  refine pg_X11_76 (pc := 72) (v := .ref ((ad 3) 12)) dX11_book_72 rfl hMain.2.2.1 ?_
  refine aw_swap3 ?_
  refine aw_swap ?_
  refine aw_swap3 ?_
  refine aw_swap3 ?_
  refine cVi (pc := 75) (As := [.ref ((ad 3) 12)]) (rest := []) dX11_book_75 rfl oc_X11_327 rfl rfl (Nat.le_of_ble_eq_true rfl) rfl rfl ovX1 (Nat.le_refl _) (Nat.le_refl _) (c1_live hNB h56 hm5 hLn hTok.1 hB9 hB5 hOk g4 (hCx.sub mem_app) ?_)
  rw [hres]
  intro k4 kb g5 hk7 hk0 hk1
  rw [← hu] at g5
  refine ⟨_, rfl, ?_⟩
  refine aw_istore_n (pc := 78) (i := 2) dX11_book_78 rfl (Nat.le_of_ble_eq_true rfl) rfl ?_
  refine aw_aload_n (pc := 79) (i := 0) dX11_book_79 rfl rfl ?_
  refine aw_swap3 ?_
  refine pg_X11_35 (pc := 80) dX11_book_80 rfl ?_
  refine aw_iconst (pc := 83) dX11_book_83 iconst_0 ?_
  refine aw_aload_n (pc := 84) (i := 0) dX11_book_84 rfl rfl ?_
  refine pg_X11_93 (pc := 85) (v := .ref ((ad 5) 8)) dX11_book_85 rfl hMain.2.2.2.2.1 ?_
  refine aw_swap ?_
  refine pg_X11_331 (pc := 88) (v := .int (nI res.1)) dX11_book_88 rfl hk7 ?_
  refine aw_swap ?_
  refine ps_X11_verdict (pc := 91) dX11_book_91 (by decide) ?_
  refine aw_aload_n (pc := 92) (i := 0) dX11_book_92 rfl rfl ?_
  refine pg_X11_35 (pc := 93) dX11_book_93 rfl ?_
  refine aw_iconst (pc := 96) dX11_book_96 iconst_1 ?_
  refine aw_iload_n (pc := 97) (i := 2) dX11_book_97 rfl rfl ?_
  refine ps_X11_verdict (pc := 98) dX11_book_98 (by decide) ?_
  refine aw_aload_n (pc := 99) (i := 0) dX11_book_99 rfl rfl ?_
  refine pg_X11_35 (pc := 100) dX11_book_100 rfl ?_
  refine aw_iconst (pc := 103) dX11_book_103 iconst_2 ?_
  refine aw_aload_n (pc := 104) (i := 0) dX11_book_104 rfl rfl ?_
  refine pg_X11_76 (pc := 105) (v := .ref ((ad 3) 12)) dX11_book_105 rfl hMain.2.2.1 ?_
  refine aw_swap3 ?_
  refine pg_X11_207 (pc := 108) (v := .int (nI (u 91))) dX11_book_108 rfl g5.2.2.2.1 ?_
  refine aw_swap ?_
  refine ps_X11_verdict (pc := 111) dX11_book_111 (by decide) ?_
  refine aw_aload_n (pc := 112) (i := 0) dX11_book_112 rfl rfl ?_
  refine pg_X11_35 (pc := 113) dX11_book_113 rfl ?_
  refine aw_iconst (pc := 116) dX11_book_116 iconst_3 ?_
  refine aw_aload_n (pc := 117) (i := 0) dX11_book_117 rfl rfl ?_
  refine pg_X11_76 (pc := 118) (v := .ref ((ad 3) 12)) dX11_book_118 rfl hMain.2.2.1 ?_
  refine aw_swap ?_
  refine aw_swap ?_
  refine aw_swap3 ?_
  refine aw_swap3 ?_
  refine cVi (pc := 121) (As := []) (rest := [.int (nI 3), .ref ((ad 0) 10)]) dX11_book_121 rfl oc_X11_210 rfl rfl (Nat.le_of_ble_eq_true rfl) rfl rfl ovX7 (Nat.le_refl _) (Nat.le_refl _) (c7_allLengths (g5.str hwu.2.1 hwu.2.2.2.1) (hCu.sub mem_d3) hwu ⟨_, rfl, ?_⟩)
  refine aw_swap3 ?_
  refine ps_X11_verdict (pc := 124) dX11_book_124 (by decide) ?_
  refine aw_iload_n (pc := 125) (i := 1) dX11_book_125 rfl rfl ?_
  refine aw_iconst (pc := 126) dX11_book_126 iconst_1 ?_
  refine an_icmp_ne (pc := 127) (tgt := 149) dX11_book_127 rfl (by decide) (by decide) (fun h127 => ?_) (fun h127 => absurd h127 (by decide))
  refine aw_aload_n (pc := 149) (i := 0) dX11_book_149 rfl rfl ?_
  refine pg_X11_93 (pc := 150) (v := .ref ((ad 5) 8)) dX11_book_150 rfl hMain.2.2.2.2.1 ?_
  refine aw_swap3 ?_
  refine pg_X11_331 (pc := 153) (v := .int (nI res.1)) dX11_book_153 rfl hk7 ?_
  refine an_if_ne (pc := 156) (tgt := 163) dX11_book_156 rfl (by omega) (fun h156 => ?_) (fun h156 => ?_)
  · -- 163
    refine aw_iload_n (pc := 163) (i := 2) dX11_book_163 rfl rfl ?_
    refine aw_swap ?_
    refine aw_swap3 ?_
    refine aw_swap3 ?_
    refine aw_push3 (p1 := 5) (p2 := 3) (p3 := 0) (by omega) (by omega) (by omega) (by decide) (by decide) (by decide) ?_
    refine aw_iret (pc := 164) dX11_book_164 rfl (Nat.le_refl _) (Nat.le_refl _) ?_
    have := kk (upN (upN (upN κ 0 (kI (kI (kI (kI (κ 0) 10 0 (nI res.1)) 10 1 (nI res.2.1)) 10 2 (nI (u 91))) 10 3 (nI (sumF (fun q => u (114 + q)) (u 2))))) 3 k4) 5 kb) (fun tf t0 t1 t2 t3 => J.mono (J.up5 (hk0.trans hSub.2.2.1) (J.up3 g5.2.2.2.2.1 (J.vd (k0 := (kI (kI (kI (kI (κ 0) 10 0 (nI res.1)) 10 1 (nI res.2.1)) 10 2 (nI (u 91))) 10 3 (nI (sumF (fun q => u (114 + q)) (u 2))))) (tf := tf) rfl rfl (fun k hk => by rcases (show k = 0 ∨ k = 1 ∨ k = 2 ∨ k = 3 by omega) with rfl | rfl | rfl | rfl; rw [t0]; rfl; rw [t1]; rfl; rw [t2, ← hu]; rfl; rw [t3, ← hu]; rfl) hJ))) (by omega))
    rw [hl3, if_neg (by omega)] at this
    exact this
  · -- 159
    refine aw_iconst (pc := 159) dX11_book_159 iconst_m1 ?_
    refine aw_goto (pc := 160) (tgt := 164) dX11_book_160 rfl ?_
    refine aw_swap ?_
    refine aw_swap3 ?_
    refine aw_swap3 ?_
    refine aw_push3 (p1 := 5) (p2 := 3) (p3 := 0) (by omega) (by omega) (by omega) (by decide) (by decide) (by decide) ?_
    refine aw_iret (pc := 164) dX11_book_164 rfl (Nat.le_refl _) (Nat.le_refl _) ?_
    have := kk (upN (upN (upN κ 0 (kI (kI (kI (kI (κ 0) 10 0 (nI res.1)) 10 1 (nI res.2.1)) 10 2 (nI (u 91))) 10 3 (nI (sumF (fun q => u (114 + q)) (u 2))))) 3 k4) 5 kb) (fun tf t0 t1 t2 t3 => J.mono (J.up5 (hk0.trans hSub.2.2.1) (J.up3 g5.2.2.2.2.1 (J.vd (k0 := (kI (kI (kI (kI (κ 0) 10 0 (nI res.1)) 10 1 (nI res.2.1)) 10 2 (nI (u 91))) 10 3 (nI (sumF (fun q => u (114 + q)) (u 2))))) (tf := tf) rfl rfl (fun k hk => by rcases (show k = 0 ∨ k = 1 ∨ k = 2 ∨ k = 3 by omega) with rfl | rfl | rfl | rfl; rw [t0]; rfl; rw [t1]; rfl; rw [t2, ← hu]; rfl; rw [t3, ← hu]; rfl) hJ))) (by omega))
    rw [hl3, if_pos (by omega)] at this
    exact this
set_option maxHeartbeats 1000000 in
set_option maxRecDepth 20000 in
theorem bk_fin1 {G : xG} {d : Nat} {Q : xQ} {ae : Nat → Nat} {tw ts : Nat} {kd : Nat → Bool} {ad : Nat → Nat → Nat} {κ : Nat → kS} {n : Nat} {σ : mS} {B : Nat} {R : va_W} {m5 : Nat} {res : Nat × Nat × Int32 × (Nat → Nat)} (hE : EB ae tw ts G) (hNB : NB G) (hAO : AO G) (hJ : J ae kd ad κ n σ B) (hB9 : B + 99 * 40 ≤ 2 ^ 29) (hm5 : m5 ≤ 40) (h56 : (κ 5).1 6 = .int (nI m5)) (hLn : ∀ i, i < m5 → LNq (κ 5) (σ.2.1 8) i) (hOk : ∀ i, i < m5 → lnOK (σ.2.1 6) (σ.2.1 8 (4 * i)) (σ.2.1 8 (4 * i + 1)) (σ.2.1 8 (4 * i + 2)) (σ.2.1 8 (4 * i + 3))) (hres : bkW σ m5 (σ.2.1 6) = res) (kk : ∀ κ9 mm, σ.1 23 = nI mm → mm ≤ 8 → (∀ tf : Nat → Nat, tf 0 = res.1 → tf 1 = res.2.1 → tf 2 = res.2.2.2 91 → tf 3 = allLongF res.2.2.2 → J ae kd ad κ9 n (if 0 < res.2.1 then mI (sN (mI (rho (triesS σ) res.2.2.2 tf) 49 (nI 1)) 21 (keepU (σ.2.1 21) (σ.2.1 6) mm)) 23 (nI (keepM mm)) else mI (rho (triesS σ) res.2.2.2 tf) 49 (nI 1)) (B + 99 * 40)) → Q (some (.int res.2.2.1)) (WX G.2.2.1 kd ad κ9 n [] ++ R)) : AW G MX11_book (d + 6) 0 0 Q 56 [some (.ref ((ad 0) 20)), some (.int (nI 1)), none] [] (WX G.2.2.1 kd ad κ n [] ++ R) 0 0 := by
  obtain ⟨hn, hMain, hSub, hTape, hR10, hR11, hR12, hR13, hMisc, hRef, hB5, jc, NM, sn, sd, m, pn, im, hCht, hSR, hSnt, hTok, hPast, hPm, hSds, hImg⟩ := id hJ
  have hw : WT (σ.2.1 6) := hTok.1.1.1
  obtain ⟨hb, h0, h1, h2, hRd, hP, hD, hCl, hT⟩ := id hw
  obtain ⟨sd3, hsd3⟩ := hSub.1
  have hlk := liv_keep (σ.2.1 8) m5 0 hTok.1 (by omega) hB5 (fun k hk => hOk k (by omega))
  have hl3 := liv_3 (σ.2.1 8) m5 0 (σ.2.1 6)
  have hl1 := liv_lt (σ.2.1 8) m5 0 (σ.2.1 6) (fun k hk => (hOk k (by omega)).1)
  have hl0 := (liv_ge (σ.2.1 8) m5 0 (σ.2.1 6)).2
  have hl9 := liv_92 (σ.2.1 8) m5 0 hTok.1 (by omega) hB5 (fun k hk => hOk k (by omega)) hTok.2.2
  change liv (σ.2.1 8) m5 0 (σ.2.1 6) = res at hres
  rw [hres] at hlk hl3 hl1 hl0 hl9
  obtain ⟨hlW, hlE, hlN⟩ := hlk
  obtain ⟨u, hu⟩ : ∃ u, u = res.2.2.2 := ⟨_, rfl⟩
  rw [← hu] at hlW hlE hl0 hl9
  have u0 : u 0 = σ.2.1 6 0 := hlE 0 (by omega)
  have u2 : u 2 = σ.2.1 6 2 := hlE 2 (by omega)
  have hwu : WT u := hlW.1.1
  have hCx : CHR G (WX G.2.2.1 kd ad κ n [0, 3, 5] ++ R) (ad jc) (σ.2.1 6) NM := (hCht.chr (ad := ad) hw (fun i hi => by simp at hi; omega)).sub mem_R1
  have hCu : CHR G (WX G.2.2.1 kd ad κ n [0, 3, 5] ++ R) (ad jc) u NM := ((CHT_cong (nm' := σ.2.2.2.2 9) hCht h0 h1 h2 (fun j hj => hlE j (by omega)) (fun _ _ => rfl)).chr (ad := ad) hwu (fun i hi => by simp at hi; omega)).sub mem_R1
  have hu91 : u 91 ≤ 400 := hwu.2.2.2.2.2.2.1
  refine aw_pull3 (p1 := 5) (p2 := 3) (p3 := 0) (by omega) (by omega) (by omega) (by decide) (by decide) (by decide) ?_
  refine aw_ws (w9 := (wBk G.2.2.1 (ad 5) (κ 5) ++ (wSt G.2.2.1 (ad 3) (κ 3) ++ (wIb G.2.2.1 (ad 0) (κ 0) ++ (WX G.2.2.1 kd ad κ n [0, 3, 5] ++ R))))) rfl ?_
  refine aw_aload_n (pc := 56) (i := 0) dX11_book_56 rfl rfl ?_
  refine aw_swap3 ?_
  refine pg_X11_76 (pc := 57) (v := .ref ((ad 3) 12)) dX11_book_57 rfl hMain.2.2.1 ?_
  refine aw_aload_n (pc := 60) (i := 0) dX11_book_60 rfl rfl ?_
  refine pg_X11_72 (pc := 61) (v := .ref ((ad 2) 12)) dX11_book_61 rfl hMain.2.1 ?_
  refine aw_swap3 ?_
  refine aw_swap ?_
  refine aw_swap3 ?_
  refine aw_swap3 ?_
  refine cVv (pc := 64) (As := [.ref ((ad 2) 12)]) (rest := []) dX11_book_64 rfl oc_X11_132 rfl rfl (Nat.le_of_ble_eq_true rfl) rfl rfl ovX7 (Nat.le_refl _) (Nat.le_refl _) (c7_copy hsd3 ((skv_2 (by omega) (by simp)).sub mem_ap2) hSR h0 h2 ?_)
  intro k3 sd4 g4
  refine ⟨rfl, ?_⟩
  refine aw_aload_n (pc := 67) (i := 0) dX11_book_67 rfl rfl ?_
  refine aw_swap3 ?_
  refine pg_X11_93 (pc := 68) (v := .ref ((ad 5) 8)) dX11_book_68 rfl hMain.2.2.2.2.1 ?_
  refine aw_aload_n (pc := 71) (i := 0) dX11_book_71 rfl rfl ?_
  refine pg_X11_76 (pc := 72) (v := .ref ((ad 3) 12)) dX11_book_72 rfl hMain.2.2.1 ?_
  refine aw_swap3 ?_
  refine aw_swap ?_
  refine aw_swap3 ?_
  refine aw_swap3 ?_
  refine cVi (pc := 75) (As := [.ref ((ad 3) 12)]) (rest := []) dX11_book_75 rfl oc_X11_327 rfl rfl (Nat.le_of_ble_eq_true rfl) rfl rfl ovX1 (Nat.le_refl _) (Nat.le_refl _) (c1_live hNB h56 hm5 hLn hTok.1 hB9 hB5 hOk g4 (hCx.sub mem_app) ?_)
  rw [hres]
  intro k4 kb g5 hk7 hk0 hk1
  rw [← hu] at g5
  refine ⟨_, rfl, ?_⟩
  refine aw_istore_n (pc := 78) (i := 2) dX11_book_78 rfl (Nat.le_of_ble_eq_true rfl) rfl ?_
  refine aw_aload_n (pc := 79) (i := 0) dX11_book_79 rfl rfl ?_
  refine aw_swap3 ?_
  refine pg_X11_35 (pc := 80) dX11_book_80 rfl ?_
  refine aw_iconst (pc := 83) dX11_book_83 iconst_0 ?_
  refine aw_aload_n (pc := 84) (i := 0) dX11_book_84 rfl rfl ?_
  refine pg_X11_93 (pc := 85) (v := .ref ((ad 5) 8)) dX11_book_85 rfl hMain.2.2.2.2.1 ?_
  refine aw_swap ?_
  refine pg_X11_331 (pc := 88) (v := .int (nI res.1)) dX11_book_88 rfl hk7 ?_
  refine aw_swap ?_
  refine ps_X11_verdict (pc := 91) dX11_book_91 (by decide) ?_
  refine aw_aload_n (pc := 92) (i := 0) dX11_book_92 rfl rfl ?_
  refine pg_X11_35 (pc := 93) dX11_book_93 rfl ?_
  refine aw_iconst (pc := 96) dX11_book_96 iconst_1 ?_
  refine aw_iload_n (pc := 97) (i := 2) dX11_book_97 rfl rfl ?_
  refine ps_X11_verdict (pc := 98) dX11_book_98 (by decide) ?_
  refine aw_aload_n (pc := 99) (i := 0) dX11_book_99 rfl rfl ?_
  refine pg_X11_35 (pc := 100) dX11_book_100 rfl ?_
  refine aw_iconst (pc := 103) dX11_book_103 iconst_2 ?_
  refine aw_aload_n (pc := 104) (i := 0) dX11_book_104 rfl rfl ?_
  refine pg_X11_76 (pc := 105) (v := .ref ((ad 3) 12)) dX11_book_105 rfl hMain.2.2.1 ?_
  refine aw_swap3 ?_
  refine pg_X11_207 (pc := 108) (v := .int (nI (u 91))) dX11_book_108 rfl g5.2.2.2.1 ?_
  refine aw_swap ?_
  refine ps_X11_verdict (pc := 111) dX11_book_111 (by decide) ?_
  refine aw_aload_n (pc := 112) (i := 0) dX11_book_112 rfl rfl ?_
  refine pg_X11_35 (pc := 113) dX11_book_113 rfl ?_
  refine aw_iconst (pc := 116) dX11_book_116 iconst_3 ?_
  refine aw_aload_n (pc := 117) (i := 0) dX11_book_117 rfl rfl ?_
  refine pg_X11_76 (pc := 118) (v := .ref ((ad 3) 12)) dX11_book_118 rfl hMain.2.2.1 ?_
  refine aw_swap ?_
  refine aw_swap ?_
  refine aw_swap3 ?_
  refine aw_swap3 ?_
  refine cVi (pc := 121) (As := []) (rest := [.int (nI 3), .ref ((ad 0) 10)]) dX11_book_121 rfl oc_X11_210 rfl rfl (Nat.le_of_ble_eq_true rfl) rfl rfl ovX7 (Nat.le_refl _) (Nat.le_refl _) (c7_allLengths (g5.str hwu.2.1 hwu.2.2.2.1) (hCu.sub mem_d3) hwu ⟨_, rfl, ?_⟩)
  refine aw_swap3 ?_
  refine ps_X11_verdict (pc := 124) dX11_book_124 (by decide) ?_
  refine aw_iload_n (pc := 125) (i := 1) dX11_book_125 rfl rfl ?_
  refine aw_iconst (pc := 126) dX11_book_126 iconst_1 ?_
  refine an_icmp_ne (pc := 127) (tgt := 149) dX11_book_127 rfl (by decide) (by decide) (fun h127 => absurd h127 (by decide)) (fun h127 => ?_)
  refine aw_iload_n (pc := 130) (i := 2) dX11_book_130 rfl rfl ?_
  refine an_if_le (pc := 131) (tgt := 149) dX11_book_131 rfl (by omega) (fun h131 => ?_) (fun h131 => ?_)
  · -- 149
    refine aw_aload_n (pc := 149) (i := 0) dX11_book_149 rfl rfl ?_
    refine pg_X11_93 (pc := 150) (v := .ref ((ad 5) 8)) dX11_book_150 rfl hMain.2.2.2.2.1 ?_
    refine aw_swap3 ?_
    refine pg_X11_331 (pc := 153) (v := .int (nI res.1)) dX11_book_153 rfl hk7 ?_
    refine an_if_ne (pc := 156) (tgt := 163) dX11_book_156 rfl (by omega) (fun h156 => ?_) (fun h156 => ?_)
    · -- 163
      refine aw_iload_n (pc := 163) (i := 2) dX11_book_163 rfl rfl ?_
      refine aw_swap ?_
      refine aw_swap3 ?_
      refine aw_swap3 ?_
      refine aw_push3 (p1 := 5) (p2 := 3) (p3 := 0) (by omega) (by omega) (by omega) (by decide) (by decide) (by decide) ?_
      refine aw_iret (pc := 164) dX11_book_164 rfl (Nat.le_refl _) (Nat.le_refl _) ?_
      have hr0 : ¬ 0 < res.2.1 := by omega
      have := kk (upN (upN (upN κ 0 (kI (kI (kI (kI (κ 0) 10 0 (nI res.1)) 10 1 (nI res.2.1)) 10 2 (nI (u 91))) 10 3 (nI (sumF (fun q => u (114 + q)) (u 2))))) 3 k4) 5 kb) m hPm.1 hPm.2.2.2.1 (fun tf t0 t1 t2 t3 => by rw [show (if 0 < res.2.1 then mI (sN (mI (rho (triesS σ) res.2.2.2 tf) 49 (nI 1)) 21 (keepU (σ.2.1 21) (σ.2.1 6) m)) 23 (nI (keepM m)) else mI (rho (triesS σ) res.2.2.2 tf) 49 (nI 1)) = mI (rho (triesS σ) (σ.2.1 6) tf) 49 (nI 1) by rw [if_neg hr0, ← hu, hl0 (by omega)]]; exact J.mono (J.up5 (hk0.trans hSub.2.2.1) (J.up3 g5.2.2.2.2.1 (J.vd (k0 := (kI (kI (kI (kI (κ 0) 10 0 (nI res.1)) 10 1 (nI res.2.1)) 10 2 (nI (u 91))) 10 3 (nI (sumF (fun q => u (114 + q)) (u 2))))) (tf := tf) rfl rfl (fun k hk => by rcases (show k = 0 ∨ k = 1 ∨ k = 2 ∨ k = 3 by omega) with rfl | rfl | rfl | rfl; rw [t0]; rfl; rw [t1]; rfl; rw [t2, ← hu]; rfl; rw [t3, ← hu]; rfl) hJ))) (by omega))
      rw [hl3, if_neg (by omega)] at this
      exact this
    · -- 159
      refine aw_iconst (pc := 159) dX11_book_159 iconst_m1 ?_
      refine aw_goto (pc := 160) (tgt := 164) dX11_book_160 rfl ?_
      refine aw_swap ?_
      refine aw_swap3 ?_
      refine aw_swap3 ?_
      refine aw_push3 (p1 := 5) (p2 := 3) (p3 := 0) (by omega) (by omega) (by omega) (by decide) (by decide) (by decide) ?_
      refine aw_iret (pc := 164) dX11_book_164 rfl (Nat.le_refl _) (Nat.le_refl _) ?_
      have hr0 : ¬ 0 < res.2.1 := by omega
      have := kk (upN (upN (upN κ 0 (kI (kI (kI (kI (κ 0) 10 0 (nI res.1)) 10 1 (nI res.2.1)) 10 2 (nI (u 91))) 10 3 (nI (sumF (fun q => u (114 + q)) (u 2))))) 3 k4) 5 kb) m hPm.1 hPm.2.2.2.1 (fun tf t0 t1 t2 t3 => by rw [show (if 0 < res.2.1 then mI (sN (mI (rho (triesS σ) res.2.2.2 tf) 49 (nI 1)) 21 (keepU (σ.2.1 21) (σ.2.1 6) m)) 23 (nI (keepM m)) else mI (rho (triesS σ) res.2.2.2 tf) 49 (nI 1)) = mI (rho (triesS σ) (σ.2.1 6) tf) 49 (nI 1) by rw [if_neg hr0, ← hu, hl0 (by omega)]]; exact J.mono (J.up5 (hk0.trans hSub.2.2.1) (J.up3 g5.2.2.2.2.1 (J.vd (k0 := (kI (kI (kI (kI (κ 0) 10 0 (nI res.1)) 10 1 (nI res.2.1)) 10 2 (nI (u 91))) 10 3 (nI (sumF (fun q => u (114 + q)) (u 2))))) (tf := tf) rfl rfl (fun k hk => by rcases (show k = 0 ∨ k = 1 ∨ k = 2 ∨ k = 3 by omega) with rfl | rfl | rfl | rfl; rw [t0]; rfl; rw [t1]; rfl; rw [t2, ← hu]; rfl; rw [t3, ← hu]; rfl) hJ))) (by omega))
      rw [hl3, if_pos (by omega)] at this
      exact this
  · -- 134
    refine aw_swap ?_
    refine aw_swap3 ?_
    refine aw_push3 (p1 := 5) (p2 := 3) (p3 := 0) (by omega) (by omega) (by omega) (by decide) (by decide) (by decide) ?_
    obtain ⟨tg, tg0, tg1, tg2, tg3⟩ : ∃ tf : Nat → Nat, tf 0 = res.1 ∧ tf 1 = res.2.1 ∧ tf 2 = res.2.2.2 91 ∧ tf 3 = allLongF res.2.2.2 := ⟨fun k => if k = 0 then res.1 else if k = 1 then res.2.1 else if k = 2 then res.2.2.2 91 else allLongF res.2.2.2, rfl, rfl, rfl, rfl⟩
    have hJv : ∀ tf : Nat → Nat, tf 0 = res.1 → tf 1 = res.2.1 → tf 2 = res.2.2.2 91 → tf 3 = allLongF res.2.2.2 → J ae kd ad (upN (upN (upN κ 0 (kI (kI (kI (kI (κ 0) 10 0 (nI res.1)) 10 1 (nI res.2.1)) 10 2 (nI (u 91))) 10 3 (nI (sumF (fun q => u (114 + q)) (u 2))))) 3 k4) 5 kb) n (mI (rho (triesS σ) (σ.2.1 6) tf) 49 (nI 1)) B := fun tf t0 t1 t2 t3 => (J.up5 (hk0.trans hSub.2.2.1) (J.up3 g5.2.2.2.2.1 (J.vd (k0 := (kI (kI (kI (kI (κ 0) 10 0 (nI res.1)) 10 1 (nI res.2.1)) 10 2 (nI (u 91))) 10 3 (nI (sumF (fun q => u (114 + q)) (u 2))))) (tf := tf) rfl rfl (fun k hk => by rcases (show k = 0 ∨ k = 1 ∨ k = 2 ∨ k = 3 by omega) with rfl | rfl | rfl | rfl; rw [t0]; rfl; rw [t1]; rfl; rw [t2, ← hu]; rfl; rw [t3, ← hu]; rfl) hJ)))
    refine bk_keep (σ := mI (rho (triesS σ) (σ.2.1 6) tg) 49 (nI 1)) (u := u) (B9 := B + 99 * 40) (k3 := k4) (kb := kb) hE hNB hAO (hJv tg tg0 tg1 tg2 tg3) rfl rfl hk7 hl1 (WV_mono hlW (by omega)) (fun j hj => hlE j hj) hl9 (by omega) (fun c sn9 sd9 hx => ⟨_, g5.1.trans (hSR.1.symm.trans hx.1), g5.2.1.trans (hSR.2.1.symm.trans hx.2.1), g5.2.2⟩) (fun κ9 mm h23 hmm hJ9 => ?_)
    have := kk κ9 mm h23 hmm (fun tf t0 t1 t2 t3 => ?_)
    · rw [hl3] at this; exact this
    rw [if_pos (by omega), ← hu, ← jkp_eq]
    refine J_told (fun k hk => ?_) hJ9
    rcases (show k = 0 ∨ k = 1 ∨ k = 2 ∨ k = 3 by omega) with rfl | rfl | rfl | rfl
    · exact t0.trans tg0.symm
    · exact t1.trans tg1.symm
    · exact t2.trans tg2.symm
    · exact t3.trans tg3.symm
