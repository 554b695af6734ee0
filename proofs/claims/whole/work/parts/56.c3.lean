set_option maxHeartbeats 1000000 in
set_option maxRecDepth 20000 in
theorem c7_over {G : xG} {d : Nat} {Q : xQ} {ws : va_W} {b c : Nat → Nat} {t : Nat → Nat} {NM : Nat → Int64} {sn : Option Nat} {p l : Nat} (hN : NB G) (hS : STR G ws b c sn t) (hC : CHR G ws c t NM) (hw : WT t) (hp : p < t 2) (hl : l < t 0) (kk : Q (some (.int (nI (whyX t p l)))) ws) : MT G MX7_whyNotOver (d + 2) 0 0 [.ref (b 12), .int (nI p), .int (nI l)] ws Q := by
  obtain ⟨sd, hSo, hS2, hS3, hS6, hS7, hS8, hS9, hS10⟩ := id hS
  obtain ⟨hb, h0, h1, h2, hR, hP, hD, hCl, hT⟩ := id hw
  have hq := hP p hp
  refine mt_start (L := [some (.ref (b 12)), some (.int (nI p)), some (.int (nI l)), none, none]) rfl (Nat.le_of_ble_eq_true rfl) rfl ?_
  refine aw_aload_n (pc := 0) (i := 0) dX7_whyNotOver_0 rfl rfl ?_
  refine av_get (pc := 1) (x := .ref (c 13)) dX7_whyNotOver_1 rfl og_X7_47 rfl hSo rfl ?_
  refine av_get (pc := 4) (x := .ref (c 12)) dX7_whyNotOver_4 rfl og_X7_75 rfl hC.ov rfl ?_
  refine aw_iload_n (pc := 7) (i := 1) dX7_whyNotOver_7 rfl rfl ?_
  refine av_iald (pc := 8) (x := (nI (t (79 + p)))) dX7_whyNotOver_8 hC.home (by omega) (by decide) rfl ?_
  refine aw_istore_n (pc := 9) (i := 3) dX7_whyNotOver_9 rfl (Nat.le_of_ble_eq_true rfl) rfl ?_
  refine aw_aload_n (pc := 10) (i := 0) dX7_whyNotOver_10 rfl rfl ?_
  refine av_get (pc := 11) (x := .ref (c 13)) dX7_whyNotOver_11 rfl og_X7_47 rfl hSo rfl ?_
  refine aw_iload_n (pc := 14) (i := 2) dX7_whyNotOver_14 rfl rfl ?_
  refine aw_iload_n (pc := 15) (i := 3) dX7_whyNotOver_15 rfl rfl ?_
  refine aw_aload_n (pc := 16) (i := 0) dX7_whyNotOver_16 rfl rfl ?_
  refine av_get (pc := 17) (x := .ref (b 3)) dX7_whyNotOver_17 rfl og_X7_19 rfl hSo rfl ?_
  refine aw_iload_n (pc := 20) (i := 3) dX7_whyNotOver_20 rfl rfl ?_
  refine av_iald (pc := 21) (x := (nI (t (101 + (t (79 + p)))))) dX7_whyNotOver_21 hS3 (by omega) (by decide) rfl ?_
  refine cVi (pc := 22) (As := [.int (nI l), .int (nI (t (79 + p))), .int (nI (t (101 + (t (79 + p)))))]) (rest := []) dX7_whyNotOver_22 rfl oc_X7_78 rfl rfl (Nat.le_of_ble_eq_true rfl) rfl rfl hC.ov (Nat.le_refl _) (Nat.le_refl _) (c3_toll hN hC (by omega) h0 (by omega) (Nat.lt_trans (hb _) (by decide)) ⟨_, rfl, ?_⟩)
  refine aw_istore (pc := 25) (i := 4) dX7_whyNotOver_25 (Nat.le_of_ble_eq_true rfl) rfl ?_
  refine aw_aload_n (pc := 27) (i := 0) dX7_whyNotOver_27 rfl rfl ?_
  refine av_get (pc := 28) (x := .ref (c 13)) dX7_whyNotOver_28 rfl og_X7_47 rfl hSo rfl ?_
  refine aw_aload_n (pc := 31) (i := 0) dX7_whyNotOver_31 rfl rfl ?_
  refine av_get (pc := 32) (x := .ref (b 6)) dX7_whyNotOver_32 rfl og_X7_29 rfl hSo rfl ?_
  refine aw_iload_n (pc := 35) (i := 1) dX7_whyNotOver_35 rfl rfl ?_
  refine av_iald (pc := 36) (x := (nI (t (108 + p)))) dX7_whyNotOver_36 hS6 (by omega) (by decide) rfl ?_
  refine aw_iload_n (pc := 37) (i := 2) dX7_whyNotOver_37 rfl rfl ?_
  refine aw_aload_n (pc := 38) (i := 0) dX7_whyNotOver_38 rfl rfl ?_
  refine av_get (pc := 39) (x := .ref (b 7)) dX7_whyNotOver_39 rfl og_X7_32 rfl hSo rfl ?_
  refine aw_iload_n (pc := 42) (i := 1) dX7_whyNotOver_42 rfl rfl ?_
  refine av_iald (pc := 43) (x := (nI (t (114 + p)))) dX7_whyNotOver_43 hS7 (by omega) (by decide) rfl ?_
  refine aw_iload (pc := 44) dX7_whyNotOver_44 rfl ?_
  refine aw_aload_n (pc := 46) (i := 0) dX7_whyNotOver_46 rfl rfl ?_
  refine av_get (pc := 47) (x := .int (nI (t 93))) dX7_whyNotOver_47 rfl og_X7_22 rfl hSo rfl ?_
  refine cVi (pc := 50) (As := [.int (nI (t (108 + p))), .int (nI l), .int (nI (t (114 + p))), .int (nI (tollF t l (t (79 + p)) (t (101 + (t (79 + p)))))), .int (nI (t 93))]) (rest := []) dX7_whyNotOver_50 rfl oc_X7_82 rfl rfl (Nat.le_of_ble_eq_true rfl) rfl rfl hC.ov (Nat.le_refl _) (Nat.le_refl _) (c3_whyNotOver hN hC hb h1 (by omega) (by omega) (Nat.lt_trans (hb _) (by decide)) (by unfold tollF; have := hb (3 + l); split; omega; split <;> omega) (Nat.lt_trans (hb _) (by decide)) ⟨_, rfl, ?_⟩)
  exact aw_iret (pc := 53) dX7_whyNotOver_53 rfl (Nat.le_refl _) (Nat.le_refl _) (by have hq := hP p (by omega); rw [whyX, sparedF, whyBy_ch (by omega)] at kk; exact kk)
set_option maxHeartbeats 1000000 in
set_option maxRecDepth 20000 in
theorem whither_loop {G : xG} {d : Nat} {Q : xQ} {ws : va_W} {b c : Nat → Nat} {t : Nat → Nat} {NM : Nat → Int64} {sn : Option Nat} {p : Nat} (hN : NB G) (hS : STR G ws b c sn t) (hC : CHR G ws c t NM) (hw : WT t) (hp : p < t 2) (kk : Q (some (.int (nI (orF (fun l => decide (whyX t p l = 0)) (t 0))))) ws) : ∀ (z i : Nat), i + z = t 0 → AW G MX7_whither (d + 3) 0 0 Q 4 [some (.ref (b 12)), some (.int (nI p)), some (.int (nI (orF (fun l => decide (whyX t p l = 0)) i))), some (.int (nI i))] [] ws 0 0 := by
  obtain ⟨sd, hSo, hS2, hS3, hS6, hS7, hS8, hS9, hS10⟩ := id hS
  obtain ⟨hb, h0, h1, h2, hR, hP, hD, hCl, hT⟩ := id hw
  intro z
  induction z with
  | zero =>
    intro i hi
    have hu := orF_lt (fun l => decide (whyX t p l = 0)) i
    refine aw_iload_n (pc := 4) (i := 3) dX7_whither_4 rfl rfl ?_
    refine aw_aload_n (pc := 5) (i := 0) dX7_whither_5 rfl rfl ?_
    refine av_get (pc := 6) (x := .ref (c 13)) dX7_whither_6 rfl og_X7_47 rfl hSo rfl ?_
    refine av_get (pc := 9) (x := .int (nI (t 0))) dX7_whither_9 rfl og_X7_89 rfl hC.ov rfl ?_
    refine an_icmp_ge (pc := 12) (tgt := 36) dX7_whither_12 rfl (by omega) (Nat.lt_trans (hb _) (by decide)) (fun h12 => ?_) (fun h12 => ?_)
    · -- 36
      refine aw_iload_n (pc := 36) (i := 2) dX7_whither_36 rfl rfl ?_
      exact aw_iret (pc := 37) dX7_whither_37 rfl (Nat.le_refl _) (Nat.le_refl _) (by have e : i = t 0 := (by omega); rw [← e] at kk; exact kk)
    · -- 15
      exfalso; omega
  | succ z ih =>
    intro i hi
    have hu := orF_lt (fun l => decide (whyX t p l = 0)) i
    have hu2 : orF (fun l => decide (whyX t p l = 0)) i < 2 ^ 12 := Nat.lt_of_lt_of_le hu (Nat.pow_le_pow_right (by decide) (by omega))
    have hi2 : 2 ^ i < 2 ^ 12 := Nat.pow_lt_pow_right (by decide) (by omega)
    have hwl := whyBy_le t (t (108 + p)) i (t (114 + p)) (sparedF t p)
    have hwx : whyX t p i < 2 ^ 31 := by unfold whyX; omega
    have hs : orF (fun l => decide (whyX t p l = 0)) (i + 1) = if (fun l => decide (whyX t p l = 0)) i = true then orF (fun l => decide (whyX t p l = 0)) i ||| 2 ^ i else orF (fun l => decide (whyX t p l = 0)) i := rfl
    generalize orF (fun l => decide (whyX t p l = 0)) i = u at *
    refine aw_iload_n (pc := 4) (i := 3) dX7_whither_4 rfl rfl ?_
    refine aw_aload_n (pc := 5) (i := 0) dX7_whither_5 rfl rfl ?_
    refine av_get (pc := 6) (x := .ref (c 13)) dX7_whither_6 rfl og_X7_47 rfl hSo rfl ?_
    refine av_get (pc := 9) (x := .int (nI (t 0))) dX7_whither_9 rfl og_X7_89 rfl hC.ov rfl ?_
    refine an_icmp_ge (pc := 12) (tgt := 36) dX7_whither_12 rfl (by omega) (Nat.lt_trans (hb _) (by decide)) (fun h12 => ?_) (fun h12 => ?_)
    · -- 36
      exfalso; omega
    · -- 15
      refine aw_aload_n (pc := 15) (i := 0) dX7_whither_15 rfl rfl ?_
      refine aw_iload_n (pc := 16) (i := 1) dX7_whither_16 rfl rfl ?_
      refine aw_iload_n (pc := 17) (i := 3) dX7_whither_17 rfl rfl ?_
      refine cVi (pc := 18) (As := [.int (nI p), .int (nI i)]) (rest := []) dX7_whither_18 rfl oc_X7_51 rfl rfl (Nat.le_of_ble_eq_true rfl) rfl rfl hSo (Nat.le_refl _) (Nat.le_refl _) (c7_over hN hS hC hw (by omega) (by omega) ⟨_, rfl, ?_⟩)
      refine an_if_ne (pc := 21) (tgt := 30) dX7_whither_21 rfl (by omega) (fun h21 => ?_) (fun h21 => ?_)
      · -- 30
        refine an_inc (pc := 30) (z := 1) dX7_whither_30 rfl (Nat.le_of_ble_eq_true rfl) rfl ?_
        refine aw_goto (pc := 33) (tgt := 4) dX7_whither_33 rfl ?_
        refine aw_L (L9 := [some (.ref (b 12)), some (.int (nI p)), some (.int (nI (orF (fun l => decide (whyX t p l = 0)) (i + 1)))), some (.int (nI (i + 1)))]) (by rw [hs, if_neg (by simp; omega)]; rfl) ?_
        exact ih (i + 1) (by omega)
      · -- 24
        refine aw_iload_n (pc := 24) (i := 2) dX7_whither_24 rfl rfl ?_
        refine aw_iconst (pc := 25) dX7_whither_25 iconst_1 ?_
        refine aw_iload_n (pc := 26) (i := 3) dX7_whither_26 rfl rfl ?_
        refine aw_ishl (pc := 27) dX7_whither_27 ?_
        refine aw_top (y := (nI (2 ^ i))) (nI_1shl (by omega)) ?_
        refine aw_ior (pc := 28) dX7_whither_28 ?_
        refine aw_top (y := (nI (u ||| 2 ^ i))) (nI_or _ _ (by omega) (by omega)) ?_
        refine aw_istore_n (pc := 29) (i := 2) dX7_whither_29 rfl (Nat.le_of_ble_eq_true rfl) rfl ?_
        refine an_inc (pc := 30) (z := 1) dX7_whither_30 rfl (Nat.le_of_ble_eq_true rfl) rfl ?_
        refine aw_goto (pc := 33) (tgt := 4) dX7_whither_33 rfl ?_
        refine aw_L (L9 := [some (.ref (b 12)), some (.int (nI p)), some (.int (nI (orF (fun l => decide (whyX t p l = 0)) (i + 1)))), some (.int (nI (i + 1)))]) (by rw [hs, if_pos (decide_eq_true h21)]; rfl) ?_
        exact ih (i + 1) (by omega)
set_option maxHeartbeats 1000000 in
set_option maxRecDepth 20000 in
theorem c7_whither {G : xG} {d : Nat} {Q : xQ} {ws : va_W} {b c : Nat → Nat} {t : Nat → Nat} {NM : Nat → Int64} {sn : Option Nat} {p : Nat} (hN : NB G) (hS : STR G ws b c sn t) (hC : CHR G ws c t NM) (hw : WT t) (hp : p < t 2) (kk : Q (some (.int (nI (orF (fun l => decide (whyX t p l = 0)) (t 0))))) ws) : MT G MX7_whither (d + 3) 0 0 [.ref (b 12), .int (nI p)] ws Q := by
  obtain ⟨sd, hSo, hS2, hS3, hS6, hS7, hS8, hS9, hS10⟩ := id hS
  obtain ⟨hb, h0, h1, h2, hR, hP, hD, hCl, hT⟩ := id hw
  refine mt_start (L := [some (.ref (b 12)), some (.int (nI p)), none, none]) rfl (Nat.le_of_ble_eq_true rfl) rfl ?_
  refine aw_iconst (pc := 0) dX7_whither_0 iconst_0 ?_
  refine aw_istore_n (pc := 1) (i := 2) dX7_whither_1 rfl (Nat.le_of_ble_eq_true rfl) rfl ?_
  refine aw_iconst (pc := 2) dX7_whither_2 iconst_0 ?_
  refine aw_istore_n (pc := 3) (i := 3) dX7_whither_3 rfl (Nat.le_of_ble_eq_true rfl) rfl ?_
  exact whither_loop hN hS hC hw hp kk (t 0) 0 (by omega)
set_option maxHeartbeats 1000000 in
set_option maxRecDepth 20000 in
theorem c7_isHome {G : xG} {d : Nat} {Q : xQ} {ws : va_W} {b c : Nat → Nat} {t : Nat → Nat} {NM : Nat → Int64} {sn : Option Nat} {p : Nat} (hS : STR G ws b c sn t) (hC : CHR G ws c t NM) (hw : WT t) (hp : p < t 2) (kk : Q (some (.int (bI (decide (t (108 + p) = t (79 + p)))))) ws) : MT G MX7_isHome (d) 0 0 [.ref (b 12), .int (nI p)] ws Q := by
  obtain ⟨sd, hSo, hS2, hS3, hS6, hS7, hS8, hS9, hS10⟩ := id hS
  obtain ⟨hb, h0, h1, h2, hR, hP, hD, hCl, hT⟩ := id hw
  refine mt_start (L := [some (.ref (b 12)), some (.int (nI p))]) rfl (Nat.le_of_ble_eq_true rfl) rfl ?_
  refine aw_aload_n (pc := 0) (i := 0) dX7_isHome_0 rfl rfl ?_
  refine av_get (pc := 1) (x := .ref (b 6)) dX7_isHome_1 rfl og_X7_29 rfl hSo rfl ?_
  refine aw_iload_n (pc := 4) (i := 1) dX7_isHome_4 rfl rfl ?_
  refine av_iald (pc := 5) (x := (nI (t (108 + p)))) dX7_isHome_5 hS6 (by omega) (by decide) rfl ?_
  refine aw_aload_n (pc := 6) (i := 0) dX7_isHome_6 rfl rfl ?_
  refine av_get (pc := 7) (x := .ref (c 13)) dX7_isHome_7 rfl og_X7_47 rfl hSo rfl ?_
  refine av_get (pc := 10) (x := .ref (c 12)) dX7_isHome_10 rfl og_X7_75 rfl hC.ov rfl ?_
  refine aw_iload_n (pc := 13) (i := 1) dX7_isHome_13 rfl rfl ?_
  refine av_iald (pc := 14) (x := (nI (t (79 + p)))) dX7_isHome_14 hC.home (by omega) (by decide) rfl ?_
  refine an_icmp_ne (pc := 15) (tgt := 22) dX7_isHome_15 rfl (Nat.lt_trans (hb _) (by decide)) (Nat.lt_trans (hb _) (by decide)) (fun h15 => ?_) (fun h15 => ?_)
  · -- 22
    refine aw_iconst (pc := 22) dX7_isHome_22 iconst_0 ?_
    exact ab_ret0 (pc := 23) dX7_isHome_23 rfl (Nat.le_refl _) (Nat.le_refl _) (by rw [decide_eq_false h15] at kk; exact kk)
  · -- 18
    refine aw_iconst (pc := 18) dX7_isHome_18 iconst_1 ?_
    refine aw_goto (pc := 19) (tgt := 23) dX7_isHome_19 rfl ?_
    exact ab_ret1 (pc := 23) dX7_isHome_23 rfl (Nat.le_refl _) (Nat.le_refl _) (by rw [decide_eq_true h15] at kk; exact kk)
set_option maxHeartbeats 1000000 in
set_option maxRecDepth 20000 in
theorem c7_grows {G : xG} {d : Nat} {Q : xQ} {ws : va_W} {b c : Nat → Nat} {t : Nat → Nat} {NM : Nat → Int64} {sn : Option Nat} {p : Nat} (hS : STR G ws b c sn t) (hC : CHR G ws c t NM) (hw : WT t) (hp : p < t 2) (kk : Q (some (.int (bI (growsF t p)))) ws) : MT G MX7_grows (d + 1) 0 0 [.ref (b 12), .int (nI p)] ws Q := by
  obtain ⟨sd, hSo, hS2, hS3, hS6, hS7, hS8, hS9, hS10⟩ := id hS
  obtain ⟨hb, h0, h1, h2, hR, hP, hD, hCl, hT⟩ := id hw
  have hq := hP p hp
  refine mt_start (L := [some (.ref (b 12)), some (.int (nI p))]) rfl (Nat.le_of_ble_eq_true rfl) rfl ?_
  refine aw_aload_n (pc := 0) (i := 0) dX7_grows_0 rfl rfl ?_
  refine aw_iload_n (pc := 1) (i := 1) dX7_grows_1 rfl rfl ?_
  refine cVi (pc := 2) (As := [.int (nI p)]) (rest := []) dX7_grows_2 rfl oc_X7_92 rfl rfl (Nat.le_of_ble_eq_true rfl) rfl rfl hSo (Nat.le_refl _) (Nat.le_refl _) (c7_isHome hS hC hw (by omega) ⟨_, rfl, ?_⟩)
  refine ab_if_eq (pc := 5) (tgt := 38) dX7_grows_5 rfl (fun h5 => ?_) (fun h5 => ?_)
  · -- 38
    refine aw_iconst (pc := 38) dX7_grows_38 iconst_0 ?_
    exact ab_ret0 (pc := 39) dX7_grows_39 rfl (Nat.le_refl _) (Nat.le_refl _) (by rw [show growsF t p = false by unfold growsF; simp [of_decide_eq_false h5]] at kk; exact kk)
  · -- 8
    refine aw_aload_n (pc := 8) (i := 0) dX7_grows_8 rfl rfl ?_
    refine av_get (pc := 9) (x := .ref (b 7)) dX7_grows_9 rfl og_X7_32 rfl hSo rfl ?_
    refine aw_iload_n (pc := 12) (i := 1) dX7_grows_12 rfl rfl ?_
    refine av_iald (pc := 13) (x := (nI (t (114 + p)))) dX7_grows_13 hS7 (by omega) (by decide) rfl ?_
    refine aw_sipush (pc := 14) dX7_grows_14 sipush_240 ?_
    refine an_icmp_ge (pc := 17) (tgt := 38) dX7_grows_17 rfl (Nat.lt_trans (hb _) (by decide)) (by decide) (fun h17 => ?_) (fun h17 => ?_)
    · -- 38
      refine aw_iconst (pc := 38) dX7_grows_38 iconst_0 ?_
      exact ab_ret0 (pc := 39) dX7_grows_39 rfl (Nat.le_refl _) (Nat.le_refl _) (by rw [show growsF t p = false by unfold growsF; simp; omega] at kk; exact kk)
    · -- 20
      refine aw_aload_n (pc := 20) (i := 0) dX7_grows_20 rfl rfl ?_
      refine av_get (pc := 21) (x := .ref (b 2)) dX7_grows_21 rfl og_X7_15 rfl hSo rfl ?_
      refine aw_aload_n (pc := 24) (i := 0) dX7_grows_24 rfl rfl ?_
      refine av_get (pc := 25) (x := .ref (b 6)) dX7_grows_25 rfl og_X7_29 rfl hSo rfl ?_
      refine aw_iload_n (pc := 28) (i := 1) dX7_grows_28 rfl rfl ?_
      refine av_iald (pc := 29) (x := (nI (t (108 + p)))) dX7_grows_29 hS6 (by omega) (by decide) rfl ?_
      refine av_iald (pc := 30) (x := (nI (t (94 + (t (108 + p)))))) dX7_grows_30 hS2 (by omega) (by decide) rfl ?_
      refine an_if_le (pc := 31) (tgt := 38) dX7_grows_31 rfl (Nat.lt_trans (hb _) (by decide)) (fun h31 => ?_) (fun h31 => ?_)
      · -- 38
        refine aw_iconst (pc := 38) dX7_grows_38 iconst_0 ?_
        exact ab_ret0 (pc := 39) dX7_grows_39 rfl (Nat.le_refl _) (Nat.le_refl _) (by rw [show growsF t p = false by unfold growsF; have e := of_decide_eq_true h5; rw [← e, h31]; simp] at kk; exact kk)
      · -- 34
        refine aw_iconst (pc := 34) dX7_grows_34 iconst_1 ?_
        refine aw_goto (pc := 35) (tgt := 39) dX7_grows_35 rfl ?_
        exact ab_ret1 (pc := 39) dX7_grows_39 rfl (Nat.le_refl _) (Nat.le_refl _) (by rw [show growsF t p = true by unfold growsF; have e := of_decide_eq_true h5; rw [← e]; simp [h17, h31]] at kk; exact kk)
set_option maxHeartbeats 1000000 in
set_option maxRecDepth 20000 in
theorem atHome_loop {G : xG} {d : Nat} {Q : xQ} {ws : va_W} {b c : Nat → Nat} {t : Nat → Nat} {NM : Nat → Int64} {sn : Option Nat} (hS : STR G ws b c sn t) (hC : CHR G ws c t NM) (hw : WT t) (kk : Q (some (.int (nI (orF (fun q => decide (t (108 + q) = t (79 + q))) (t 2))))) ws) : ∀ (z i : Nat), i + z = t 2 → AW G MX7_atHome (d + 1) 0 0 Q 4 [some (.ref (b 12)), some (.int (nI (orF (fun q => decide (t (108 + q) = t (79 + q))) i))), some (.int (nI i))] [] ws 0 0 := by
  obtain ⟨sd, hSo, hS2, hS3, hS6, hS7, hS8, hS9, hS10⟩ := id hS
  obtain ⟨hb, h0, h1, h2, hR, hP, hD, hCl, hT⟩ := id hw
  intro z
  induction z with
  | zero =>
    intro i hi
    have hu := orF_lt (fun q => decide (t (108 + q) = t (79 + q))) i
    refine aw_iload_n (pc := 4) (i := 2) dX7_atHome_4 rfl rfl ?_
    refine aw_aload_n (pc := 5) (i := 0) dX7_atHome_5 rfl rfl ?_
    refine av_get (pc := 6) (x := .ref (c 13)) dX7_atHome_6 rfl og_X7_47 rfl hSo rfl ?_
    refine av_get (pc := 9) (x := .int (nI (t 2))) dX7_atHome_9 rfl og_X7_96 rfl hC.ov rfl ?_
    refine an_icmp_ge (pc := 12) (tgt := 35) dX7_atHome_12 rfl (by omega) (Nat.lt_trans (hb _) (by decide)) (fun h12 => ?_) (fun h12 => ?_)
    · -- 35
      refine aw_iload_n (pc := 35) (i := 1) dX7_atHome_35 rfl rfl ?_
      exact aw_iret (pc := 36) dX7_atHome_36 rfl (Nat.le_refl _) (Nat.le_refl _) (by have e : i = t 2 := (by omega); rw [← e] at kk; exact kk)
    · -- 15
      exfalso; omega
  | succ z ih =>
    intro i hi
    have hu := orF_lt (fun q => decide (t (108 + q) = t (79 + q))) i
    have hu2 : orF (fun q => decide (t (108 + q) = t (79 + q))) i < 2 ^ 12 := Nat.lt_of_lt_of_le hu (Nat.pow_le_pow_right (by decide) (by omega))
    have hi2 : 2 ^ i < 2 ^ 12 := Nat.pow_lt_pow_right (by decide) (by omega)
    have hs : orF (fun q => decide (t (108 + q) = t (79 + q))) (i + 1) = if (fun q => decide (t (108 + q) = t (79 + q))) i = true then orF (fun q => decide (t (108 + q) = t (79 + q))) i ||| 2 ^ i else orF (fun q => decide (t (108 + q) = t (79 + q))) i := rfl
    generalize orF (fun q => decide (t (108 + q) = t (79 + q))) i = u at *
    refine aw_iload_n (pc := 4) (i := 2) dX7_atHome_4 rfl rfl ?_
    refine aw_aload_n (pc := 5) (i := 0) dX7_atHome_5 rfl rfl ?_
    refine av_get (pc := 6) (x := .ref (c 13)) dX7_atHome_6 rfl og_X7_47 rfl hSo rfl ?_
    refine av_get (pc := 9) (x := .int (nI (t 2))) dX7_atHome_9 rfl og_X7_96 rfl hC.ov rfl ?_
    refine an_icmp_ge (pc := 12) (tgt := 35) dX7_atHome_12 rfl (by omega) (Nat.lt_trans (hb _) (by decide)) (fun h12 => ?_) (fun h12 => ?_)
    · -- 35
      exfalso; omega
    · -- 15
      refine aw_aload_n (pc := 15) (i := 0) dX7_atHome_15 rfl rfl ?_
      refine aw_iload_n (pc := 16) (i := 2) dX7_atHome_16 rfl rfl ?_
      refine cVi (pc := 17) (As := [.int (nI i)]) (rest := []) dX7_atHome_17 rfl oc_X7_92 rfl rfl (Nat.le_of_ble_eq_true rfl) rfl rfl hSo (Nat.le_refl _) (Nat.le_refl _) (c7_isHome hS hC hw (by omega) ⟨_, rfl, ?_⟩)
      refine ab_if_eq (pc := 20) (tgt := 29) dX7_atHome_20 rfl (fun h20 => ?_) (fun h20 => ?_)
      · -- 29
        refine an_inc (pc := 29) (z := 1) dX7_atHome_29 rfl (Nat.le_of_ble_eq_true rfl) rfl ?_
        refine aw_goto (pc := 32) (tgt := 4) dX7_atHome_32 rfl ?_
        refine aw_L (L9 := [some (.ref (b 12)), some (.int (nI (orF (fun q => decide (t (108 + q) = t (79 + q))) (i + 1)))), some (.int (nI (i + 1)))]) (by rw [hs, if_neg (fun e => absurd (h20.symm.trans e) (by decide))]; rfl) ?_
        exact ih (i + 1) (by omega)
      · -- 23
        refine aw_iload_n (pc := 23) (i := 1) dX7_atHome_23 rfl rfl ?_
        refine aw_iconst (pc := 24) dX7_atHome_24 iconst_1 ?_
        refine aw_iload_n (pc := 25) (i := 2) dX7_atHome_25 rfl rfl ?_
        refine aw_ishl (pc := 26) dX7_atHome_26 ?_
        refine aw_top (y := (nI (2 ^ i))) (nI_1shl (by omega)) ?_
        refine aw_ior (pc := 27) dX7_atHome_27 ?_
        refine aw_top (y := (nI (u ||| 2 ^ i))) (nI_or _ _ (by omega) (by omega)) ?_
        refine aw_istore_n (pc := 28) (i := 1) dX7_atHome_28 rfl (Nat.le_of_ble_eq_true rfl) rfl ?_
        refine an_inc (pc := 29) (z := 1) dX7_atHome_29 rfl (Nat.le_of_ble_eq_true rfl) rfl ?_
        refine aw_goto (pc := 32) (tgt := 4) dX7_atHome_32 rfl ?_
        refine aw_L (L9 := [some (.ref (b 12)), some (.int (nI (orF (fun q => decide (t (108 + q) = t (79 + q))) (i + 1)))), some (.int (nI (i + 1)))]) (by rw [hs, if_pos (h20)]; rfl) ?_
        exact ih (i + 1) (by omega)
set_option maxHeartbeats 1000000 in
set_option maxRecDepth 20000 in
theorem c7_atHome {G : xG} {d : Nat} {Q : xQ} {ws : va_W} {b c : Nat → Nat} {t : Nat → Nat} {NM : Nat → Int64} {sn : Option Nat} (hS : STR G ws b c sn t) (hC : CHR G ws c t NM) (hw : WT t) (kk : Q (some (.int (nI (orF (fun q => decide (t (108 + q) = t (79 + q))) (t 2))))) ws) : MT G MX7_atHome (d + 1) 0 0 [.ref (b 12)] ws Q := by
  obtain ⟨sd, hSo, hS2, hS3, hS6, hS7, hS8, hS9, hS10⟩ := id hS
  obtain ⟨hb, h0, h1, h2, hR, hP, hD, hCl, hT⟩ := id hw
  refine mt_start (L := [some (.ref (b 12)), none, none]) rfl (Nat.le_of_ble_eq_true rfl) rfl ?_
  refine aw_iconst (pc := 0) dX7_atHome_0 iconst_0 ?_
  refine aw_istore_n (pc := 1) (i := 1) dX7_atHome_1 rfl (Nat.le_of_ble_eq_true rfl) rfl ?_
  refine aw_iconst (pc := 2) dX7_atHome_2 iconst_0 ?_
  refine aw_istore_n (pc := 3) (i := 2) dX7_atHome_3 rfl (Nat.le_of_ble_eq_true rfl) rfl ?_
  exact atHome_loop hS hC hw kk (t 2) 0 (by omega)
set_option maxHeartbeats 1000000 in
set_option maxRecDepth 20000 in
theorem stuck_loop {G : xG} {d : Nat} {Q : xQ} {ws : va_W} {b c : Nat → Nat} {t : Nat → Nat} {NM : Nat → Int64} {sn : Option Nat} (hN : NB G) (hS : STR G ws b c sn t) (hC : CHR G ws c t NM) (hw : WT t) (kk : Q (some (.int (nI (orF (fun q => decide (couldF t q = 0)) (t 2))))) ws) : ∀ (z i : Nat), i + z = t 2 → AW G MX7_stuck (d + 4) 0 0 Q 4 [some (.ref (b 12)), some (.int (nI (orF (fun q => decide (couldF t q = 0)) i))), some (.int (nI i))] [] ws 0 0 := by
  obtain ⟨sd, hSo, hS2, hS3, hS6, hS7, hS8, hS9, hS10⟩ := id hS
  obtain ⟨hb, h0, h1, h2, hR, hP, hD, hCl, hT⟩ := id hw
  intro z
  induction z with
  | zero =>
    intro i hi
    have hu := orF_lt (fun q => decide (couldF t q = 0)) i
    refine aw_iload_n (pc := 4) (i := 2) dX7_stuck_4 rfl rfl ?_
    refine aw_aload_n (pc := 5) (i := 0) dX7_stuck_5 rfl rfl ?_
    refine av_get (pc := 6) (x := .ref (c 13)) dX7_stuck_6 rfl og_X7_47 rfl hSo rfl ?_
    refine av_get (pc := 9) (x := .int (nI (t 2))) dX7_stuck_9 rfl og_X7_96 rfl hC.ov rfl ?_
    refine an_icmp_ge (pc := 12) (tgt := 35) dX7_stuck_12 rfl (by omega) (Nat.lt_trans (hb _) (by decide)) (fun h12 => ?_) (fun h12 => ?_)
    · -- 35
      refine aw_iload_n (pc := 35) (i := 1) dX7_stuck_35 rfl rfl ?_
      exact aw_iret (pc := 36) dX7_stuck_36 rfl (Nat.le_refl _) (Nat.le_refl _) (by have e : i = t 2 := (by omega); rw [← e] at kk; exact kk)
    · -- 15
      exfalso; omega
  | succ z ih =>
    intro i hi
    have hu := orF_lt (fun q => decide (couldF t q = 0)) i
    have hu2 : orF (fun q => decide (couldF t q = 0)) i < 2 ^ 12 := Nat.lt_of_lt_of_le hu (Nat.pow_le_pow_right (by decide) (by omega))
    have hi2 : 2 ^ i < 2 ^ 12 := Nat.pow_lt_pow_right (by decide) (by omega)
    have hcl := orF_lt (fun l => decide (whyX t i l = 0)) (t 0)
    have hcl2 : orF (fun l => decide (whyX t i l = 0)) (t 0) < 2 ^ 12 := Nat.lt_of_lt_of_le hcl (Nat.pow_le_pow_right (by decide) (by omega))
    have hs : orF (fun q => decide (couldF t q = 0)) (i + 1) = if (fun q => decide (couldF t q = 0)) i = true then orF (fun q => decide (couldF t q = 0)) i ||| 2 ^ i else orF (fun q => decide (couldF t q = 0)) i := rfl
    generalize orF (fun q => decide (couldF t q = 0)) i = u at *
    refine aw_iload_n (pc := 4) (i := 2) dX7_stuck_4 rfl rfl ?_
    refine aw_aload_n (pc := 5) (i := 0) dX7_stuck_5 rfl rfl ?_
    refine av_get (pc := 6) (x := .ref (c 13)) dX7_stuck_6 rfl og_X7_47 rfl hSo rfl ?_
    refine av_get (pc := 9) (x := .int (nI (t 2))) dX7_stuck_9 rfl og_X7_96 rfl hC.ov rfl ?_
    refine an_icmp_ge (pc := 12) (tgt := 35) dX7_stuck_12 rfl (by omega) (Nat.lt_trans (hb _) (by decide)) (fun h12 => ?_) (fun h12 => ?_)
    · -- 35
      exfalso; omega
    · -- 15
      refine aw_aload_n (pc := 15) (i := 0) dX7_stuck_15 rfl rfl ?_
      refine aw_iload_n (pc := 16) (i := 2) dX7_stuck_16 rfl rfl ?_
      refine cVi (pc := 17) (As := [.int (nI i)]) (rest := []) dX7_stuck_17 rfl oc_X7_110 rfl rfl (Nat.le_of_ble_eq_true rfl) rfl rfl hSo (Nat.le_refl _) (Nat.le_refl _) (c7_whither hN hS hC hw (by omega) ⟨_, rfl, ?_⟩)
      refine an_if_ne (pc := 20) (tgt := 29) dX7_stuck_20 rfl (by omega) (fun h20 => ?_) (fun h20 => ?_)
      · -- 29
        refine an_inc (pc := 29) (z := 1) dX7_stuck_29 rfl (Nat.le_of_ble_eq_true rfl) rfl ?_
        refine aw_goto (pc := 32) (tgt := 4) dX7_stuck_32 rfl ?_
        refine aw_L (L9 := [some (.ref (b 12)), some (.int (nI (orF (fun q => decide (couldF t q = 0)) (i + 1)))), some (.int (nI (i + 1)))]) (by rw [hs, if_neg (fun e => absurd (of_decide_eq_true e) (show ¬ couldF t i = 0 from Nat.ne_of_gt h20))]; rfl) ?_
        exact ih (i + 1) (by omega)
      · -- 23
        refine aw_iload_n (pc := 23) (i := 1) dX7_stuck_23 rfl rfl ?_
        refine aw_iconst (pc := 24) dX7_stuck_24 iconst_1 ?_
        refine aw_iload_n (pc := 25) (i := 2) dX7_stuck_25 rfl rfl ?_
        refine aw_ishl (pc := 26) dX7_stuck_26 ?_
        refine aw_top (y := (nI (2 ^ i))) (nI_1shl (by omega)) ?_
        refine aw_ior (pc := 27) dX7_stuck_27 ?_
        refine aw_top (y := (nI (u ||| 2 ^ i))) (nI_or _ _ (by omega) (by omega)) ?_
        refine aw_istore_n (pc := 28) (i := 1) dX7_stuck_28 rfl (Nat.le_of_ble_eq_true rfl) rfl ?_
        refine an_inc (pc := 29) (z := 1) dX7_stuck_29 rfl (Nat.le_of_ble_eq_true rfl) rfl ?_
        refine aw_goto (pc := 32) (tgt := 4) dX7_stuck_32 rfl ?_
        refine aw_L (L9 := [some (.ref (b 12)), some (.int (nI (orF (fun q => decide (couldF t q = 0)) (i + 1)))), some (.int (nI (i + 1)))]) (by rw [hs, if_pos (decide_eq_true (show couldF t i = 0 from h20))]; rfl) ?_
        exact ih (i + 1) (by omega)
set_option maxHeartbeats 1000000 in
set_option maxRecDepth 20000 in
theorem c7_stuck {G : xG} {d : Nat} {Q : xQ} {ws : va_W} {b c : Nat → Nat} {t : Nat → Nat} {NM : Nat → Int64} {sn : Option Nat} (hN : NB G) (hS : STR G ws b c sn t) (hC : CHR G ws c t NM) (hw : WT t) (kk : Q (some (.int (nI (orF (fun q => decide (couldF t q = 0)) (t 2))))) ws) : MT G MX7_stuck (d + 4) 0 0 [.ref (b 12)] ws Q := by
  obtain ⟨sd, hSo, hS2, hS3, hS6, hS7, hS8, hS9, hS10⟩ := id hS
  obtain ⟨hb, h0, h1, h2, hR, hP, hD, hCl, hT⟩ := id hw
  refine mt_start (L := [some (.ref (b 12)), none, none]) rfl (Nat.le_of_ble_eq_true rfl) rfl ?_
  refine aw_iconst (pc := 0) dX7_stuck_0 iconst_0 ?_
  refine aw_istore_n (pc := 1) (i := 1) dX7_stuck_1 rfl (Nat.le_of_ble_eq_true rfl) rfl ?_
  refine aw_iconst (pc := 2) dX7_stuck_2 iconst_0 ?_
  refine aw_istore_n (pc := 3) (i := 2) dX7_stuck_3 rfl (Nat.le_of_ble_eq_true rfl) rfl ?_
  exact stuck_loop hN hS hC hw kk (t 2) 0 (by omega)
set_option maxHeartbeats 1000000 in
set_option maxRecDepth 20000 in
theorem personsIn_loop {G : xG} {d : Nat} {Q : xQ} {ws : va_W} {b c : Nat → Nat} {t : Nat → Nat} {NM : Nat → Int64} {sn : Option Nat} {l : Nat} (hS : STR G ws b c sn t) (hC : CHR G ws c t NM) (hw : WT t) (hl : l < 2 ^ 31) (kk : Q (some (.int (nI (orF (fun q => decide (t (108 + q) = l)) (t 2))))) ws) : ∀ (z i : Nat), i + z = t 2 → AW G MX7_personsIn (d) 0 0 Q 4 [some (.ref (b 12)), some (.int (nI l)), some (.int (nI (orF (fun q => decide (t (108 + q) = l)) i))), some (.int (nI i))] [] ws 0 0 := by
  obtain ⟨sd, hSo, hS2, hS3, hS6, hS7, hS8, hS9, hS10⟩ := id hS
  obtain ⟨hb, h0, h1, h2, hR, hP, hD, hCl, hT⟩ := id hw
  intro z
  induction z with
  | zero =>
    intro i hi
    have hu := orF_lt (fun q => decide (t (108 + q) = l)) i
    refine aw_iload_n (pc := 4) (i := 3) dX7_personsIn_4 rfl rfl ?_
    refine aw_aload_n (pc := 5) (i := 0) dX7_personsIn_5 rfl rfl ?_
    refine av_get (pc := 6) (x := .ref (c 13)) dX7_personsIn_6 rfl og_X7_47 rfl hSo rfl ?_
    refine av_get (pc := 9) (x := .int (nI (t 2))) dX7_personsIn_9 rfl og_X7_96 rfl hC.ov rfl ?_
    refine an_icmp_ge (pc := 12) (tgt := 37) dX7_personsIn_12 rfl (by omega) (Nat.lt_trans (hb _) (by decide)) (fun h12 => ?_) (fun h12 => ?_)
    · -- 37
      refine aw_iload_n (pc := 37) (i := 2) dX7_personsIn_37 rfl rfl ?_
      exact aw_iret (pc := 38) dX7_personsIn_38 rfl (Nat.le_refl _) (Nat.le_refl _) (by have e : i = t 2 := (by omega); rw [← e] at kk; exact kk)
    · -- 15
      exfalso; omega
  | succ z ih =>
    intro i hi
    have hu := orF_lt (fun q => decide (t (108 + q) = l)) i
    have hu2 : orF (fun q => decide (t (108 + q) = l)) i < 2 ^ 12 := Nat.lt_of_lt_of_le hu (Nat.pow_le_pow_right (by decide) (by omega))
    have hi2 : 2 ^ i < 2 ^ 12 := Nat.pow_lt_pow_right (by decide) (by omega)
    have hs : orF (fun q => decide (t (108 + q) = l)) (i + 1) = if (fun q => decide (t (108 + q) = l)) i = true then orF (fun q => decide (t (108 + q) = l)) i ||| 2 ^ i else orF (fun q => decide (t (108 + q) = l)) i := rfl
    generalize orF (fun q => decide (t (108 + q) = l)) i = u at *
    refine aw_iload_n (pc := 4) (i := 3) dX7_personsIn_4 rfl rfl ?_
    refine aw_aload_n (pc := 5) (i := 0) dX7_personsIn_5 rfl rfl ?_
    refine av_get (pc := 6) (x := .ref (c 13)) dX7_personsIn_6 rfl og_X7_47 rfl hSo rfl ?_
    refine av_get (pc := 9) (x := .int (nI (t 2))) dX7_personsIn_9 rfl og_X7_96 rfl hC.ov rfl ?_
    refine an_icmp_ge (pc := 12) (tgt := 37) dX7_personsIn_12 rfl (by omega) (Nat.lt_trans (hb _) (by decide)) (fun h12 => ?_) (fun h12 => ?_)
    · -- 37
      exfalso; omega
    · -- 15
      refine aw_aload_n (pc := 15) (i := 0) dX7_personsIn_15 rfl rfl ?_
      refine av_get (pc := 16) (x := .ref (b 6)) dX7_personsIn_16 rfl og_X7_29 rfl hSo rfl ?_
      refine aw_iload_n (pc := 19) (i := 3) dX7_personsIn_19 rfl rfl ?_
      refine av_iald (pc := 20) (x := (nI (t (108 + i)))) dX7_personsIn_20 hS6 (by omega) (by decide) rfl ?_
      refine aw_iload_n (pc := 21) (i := 1) dX7_personsIn_21 rfl rfl ?_
      refine an_icmp_ne (pc := 22) (tgt := 31) dX7_personsIn_22 rfl (Nat.lt_trans (hb _) (by decide)) (by omega) (fun h22 => ?_) (fun h22 => ?_)
      · -- 31
        refine an_inc (pc := 31) (z := 1) dX7_personsIn_31 rfl (Nat.le_of_ble_eq_true rfl) rfl ?_
        refine aw_goto (pc := 34) (tgt := 4) dX7_personsIn_34 rfl ?_
        refine aw_L (L9 := [some (.ref (b 12)), some (.int (nI l)), some (.int (nI (orF (fun q => decide (t (108 + q) = l)) (i + 1)))), some (.int (nI (i + 1)))]) (by rw [hs, if_neg (by simpa using h22)]; rfl) ?_
        exact ih (i + 1) (by omega)
      · -- 25
        refine aw_iload_n (pc := 25) (i := 2) dX7_personsIn_25 rfl rfl ?_
        refine aw_iconst (pc := 26) dX7_personsIn_26 iconst_1 ?_
        refine aw_iload_n (pc := 27) (i := 3) dX7_personsIn_27 rfl rfl ?_
        refine aw_ishl (pc := 28) dX7_personsIn_28 ?_
        refine aw_top (y := (nI (2 ^ i))) (nI_1shl (by omega)) ?_
        refine aw_ior (pc := 29) dX7_personsIn_29 ?_
        refine aw_top (y := (nI (u ||| 2 ^ i))) (nI_or _ _ (by omega) (by omega)) ?_
        refine aw_istore_n (pc := 30) (i := 2) dX7_personsIn_30 rfl (Nat.le_of_ble_eq_true rfl) rfl ?_
        refine an_inc (pc := 31) (z := 1) dX7_personsIn_31 rfl (Nat.le_of_ble_eq_true rfl) rfl ?_
        refine aw_goto (pc := 34) (tgt := 4) dX7_personsIn_34 rfl ?_
        refine aw_L (L9 := [some (.ref (b 12)), some (.int (nI l)), some (.int (nI (orF (fun q => decide (t (108 + q) = l)) (i + 1)))), some (.int (nI (i + 1)))]) (by rw [hs, if_pos (decide_eq_true h22)]; rfl) ?_
        exact ih (i + 1) (by omega)
set_option maxHeartbeats 1000000 in
set_option maxRecDepth 20000 in
theorem c7_personsIn {G : xG} {d : Nat} {Q : xQ} {ws : va_W} {b c : Nat → Nat} {t : Nat → Nat} {NM : Nat → Int64} {sn : Option Nat} {l : Nat} (hS : STR G ws b c sn t) (hC : CHR G ws c t NM) (hw : WT t) (hl : l < 2 ^ 31) (kk : Q (some (.int (nI (orF (fun q => decide (t (108 + q) = l)) (t 2))))) ws) : MT G MX7_personsIn (d) 0 0 [.ref (b 12), .int (nI l)] ws Q := by
  obtain ⟨sd, hSo, hS2, hS3, hS6, hS7, hS8, hS9, hS10⟩ := id hS
  obtain ⟨hb, h0, h1, h2, hR, hP, hD, hCl, hT⟩ := id hw
  refine mt_start (L := [some (.ref (b 12)), some (.int (nI l)), none, none]) rfl (Nat.le_of_ble_eq_true rfl) rfl ?_
  refine aw_iconst (pc := 0) dX7_personsIn_0 iconst_0 ?_
  refine aw_istore_n (pc := 1) (i := 2) dX7_personsIn_1 rfl (Nat.le_of_ble_eq_true rfl) rfl ?_
  refine aw_iconst (pc := 2) dX7_personsIn_2 iconst_0 ?_
  refine aw_istore_n (pc := 3) (i := 3) dX7_personsIn_3 rfl (Nat.le_of_ble_eq_true rfl) rfl ?_
  exact personsIn_loop hS hC hw hl kk (t 2) 0 (by omega)
set_option maxHeartbeats 1000000 in
set_option maxRecDepth 20000 in
theorem allLengths_loop {G : xG} {d : Nat} {Q : xQ} {ws : va_W} {b c : Nat → Nat} {t : Nat → Nat} {NM : Nat → Int64} {sn : Option Nat} (hS : STR G ws b c sn t) (hC : CHR G ws c t NM) (hw : WT t) (kk : Q (some (.int (nI (sumF (fun q => t (114 + q)) (t 2))))) ws) : ∀ (z i : Nat), i + z = t 2 → AW G MX7_allLengths (d) 0 0 Q 4 [some (.ref (b 12)), some (.int (nI (sumF (fun q => t (114 + q)) i))), some (.int (nI i))] [] ws 0 0 := by
  obtain ⟨sd, hSo, hS2, hS3, hS6, hS7, hS8, hS9, hS10⟩ := id hS
  obtain ⟨hb, h0, h1, h2, hR, hP, hD, hCl, hT⟩ := id hw
  intro z
  induction z with
  | zero =>
    intro i hi
    refine aw_iload_n (pc := 4) (i := 2) dX7_allLengths_4 rfl rfl ?_
    refine aw_aload_n (pc := 5) (i := 0) dX7_allLengths_5 rfl rfl ?_
    refine av_get (pc := 6) (x := .ref (c 13)) dX7_allLengths_6 rfl og_X7_47 rfl hSo rfl ?_
    refine av_get (pc := 9) (x := .int (nI (t 2))) dX7_allLengths_9 rfl og_X7_96 rfl hC.ov rfl ?_
    refine an_icmp_ge (pc := 12) (tgt := 30) dX7_allLengths_12 rfl (by omega) (Nat.lt_trans (hb _) (by decide)) (fun h12 => ?_) (fun h12 => ?_)
    · -- 30
      refine aw_iload_n (pc := 30) (i := 1) dX7_allLengths_30 rfl rfl ?_
      exact aw_iret (pc := 31) dX7_allLengths_31 rfl (Nat.le_refl _) (Nat.le_refl _) (by have e : i = t 2 := (by omega); rw [← e] at kk; exact kk)
    · -- 15
      exfalso; omega
  | succ z ih =>
    intro i hi
    refine aw_iload_n (pc := 4) (i := 2) dX7_allLengths_4 rfl rfl ?_
    refine aw_aload_n (pc := 5) (i := 0) dX7_allLengths_5 rfl rfl ?_
    refine av_get (pc := 6) (x := .ref (c 13)) dX7_allLengths_6 rfl og_X7_47 rfl hSo rfl ?_
    refine av_get (pc := 9) (x := .int (nI (t 2))) dX7_allLengths_9 rfl og_X7_96 rfl hC.ov rfl ?_
    refine an_icmp_ge (pc := 12) (tgt := 30) dX7_allLengths_12 rfl (by omega) (Nat.lt_trans (hb _) (by decide)) (fun h12 => ?_) (fun h12 => ?_)
    · -- 30
      exfalso; omega
    · -- 15
      refine aw_iload_n (pc := 15) (i := 1) dX7_allLengths_15 rfl rfl ?_
      refine aw_aload_n (pc := 16) (i := 0) dX7_allLengths_16 rfl rfl ?_
      refine av_get (pc := 17) (x := .ref (b 7)) dX7_allLengths_17 rfl og_X7_32 rfl hSo rfl ?_
      refine aw_iload_n (pc := 20) (i := 2) dX7_allLengths_20 rfl rfl ?_
      refine av_iald (pc := 21) (x := (nI (t (114 + i)))) dX7_allLengths_21 hS7 (by omega) (by decide) rfl ?_
      refine an_add (pc := 22) dX7_allLengths_22 ?_
      refine aw_istore_n (pc := 23) (i := 1) dX7_allLengths_23 rfl (Nat.le_of_ble_eq_true rfl) rfl ?_
      refine an_inc (pc := 24) (z := 1) dX7_allLengths_24 rfl (Nat.le_of_ble_eq_true rfl) rfl ?_
      refine aw_goto (pc := 27) (tgt := 4) dX7_allLengths_27 rfl ?_
      exact ih (i + 1) (by omega)
set_option maxHeartbeats 1000000 in
set_option maxRecDepth 20000 in
theorem c7_allLengths {G : xG} {d : Nat} {Q : xQ} {ws : va_W} {b c : Nat → Nat} {t : Nat → Nat} {NM : Nat → Int64} {sn : Option Nat} (hS : STR G ws b c sn t) (hC : CHR G ws c t NM) (hw : WT t) (kk : Q (some (.int (nI (sumF (fun q => t (114 + q)) (t 2))))) ws) : MT G MX7_allLengths (d) 0 0 [.ref (b 12)] ws Q := by
  obtain ⟨sd, hSo, hS2, hS3, hS6, hS7, hS8, hS9, hS10⟩ := id hS
  obtain ⟨hb, h0, h1, h2, hR, hP, hD, hCl, hT⟩ := id hw
  refine mt_start (L := [some (.ref (b 12)), none, none]) rfl (Nat.le_of_ble_eq_true rfl) rfl ?_
  refine aw_iconst (pc := 0) dX7_allLengths_0 iconst_0 ?_
  refine aw_istore_n (pc := 1) (i := 1) dX7_allLengths_1 rfl (Nat.le_of_ble_eq_true rfl) rfl ?_
  refine aw_iconst (pc := 2) dX7_allLengths_2 iconst_0 ?_
  refine aw_istore_n (pc := 3) (i := 2) dX7_allLengths_3 rfl (Nat.le_of_ble_eq_true rfl) rfl ?_
  exact allLengths_loop hS hC hw kk (t 2) 0 (by omega)
set_option maxHeartbeats 1000000 in
set_option maxRecDepth 20000 in
theorem allStores_loop {G : xG} {d : Nat} {Q : xQ} {ws : va_W} {b c : Nat → Nat} {t : Nat → Nat} {NM : Nat → Int64} {sn : Option Nat} (hS : STR G ws b c sn t) (hC : CHR G ws c t NM) (hw : WT t) (kk : Q (some (.int (nI (sumF (fun l => t (94 + l)) (t 0))))) ws) : ∀ (z i : Nat), i + z = t 0 → AW G MX7_allStores (d) 0 0 Q 4 [some (.ref (b 12)), some (.int (nI (sumF (fun l => t (94 + l)) i))), some (.int (nI i))] [] ws 0 0 := by
  obtain ⟨sd, hSo, hS2, hS3, hS6, hS7, hS8, hS9, hS10⟩ := id hS
  obtain ⟨hb, h0, h1, h2, hR, hP, hD, hCl, hT⟩ := id hw
  intro z
  induction z with
  | zero =>
    intro i hi
    refine aw_iload_n (pc := 4) (i := 2) dX7_allStores_4 rfl rfl ?_
    refine aw_aload_n (pc := 5) (i := 0) dX7_allStores_5 rfl rfl ?_
    refine av_get (pc := 6) (x := .ref (c 13)) dX7_allStores_6 rfl og_X7_47 rfl hSo rfl ?_
    refine av_get (pc := 9) (x := .int (nI (t 0))) dX7_allStores_9 rfl og_X7_89 rfl hC.ov rfl ?_
    refine an_icmp_ge (pc := 12) (tgt := 30) dX7_allStores_12 rfl (by omega) (Nat.lt_trans (hb _) (by decide)) (fun h12 => ?_) (fun h12 => ?_)
    · -- 30
      refine aw_iload_n (pc := 30) (i := 1) dX7_allStores_30 rfl rfl ?_
      exact aw_iret (pc := 31) dX7_allStores_31 rfl (Nat.le_refl _) (Nat.le_refl _) (by have e : i = t 0 := (by omega); rw [← e] at kk; exact kk)
    · -- 15
      exfalso; omega
  | succ z ih =>
    intro i hi
    refine aw_iload_n (pc := 4) (i := 2) dX7_allStores_4 rfl rfl ?_
    refine aw_aload_n (pc := 5) (i := 0) dX7_allStores_5 rfl rfl ?_
    refine av_get (pc := 6) (x := .ref (c 13)) dX7_allStores_6 rfl og_X7_47 rfl hSo rfl ?_
    refine av_get (pc := 9) (x := .int (nI (t 0))) dX7_allStores_9 rfl og_X7_89 rfl hC.ov rfl ?_
    refine an_icmp_ge (pc := 12) (tgt := 30) dX7_allStores_12 rfl (by omega) (Nat.lt_trans (hb _) (by decide)) (fun h12 => ?_) (fun h12 => ?_)
    · -- 30
      exfalso; omega
    · -- 15
      refine aw_iload_n (pc := 15) (i := 1) dX7_allStores_15 rfl rfl ?_
      refine aw_aload_n (pc := 16) (i := 0) dX7_allStores_16 rfl rfl ?_
      refine av_get (pc := 17) (x := .ref (b 2)) dX7_allStores_17 rfl og_X7_15 rfl hSo rfl ?_
      refine aw_iload_n (pc := 20) (i := 2) dX7_allStores_20 rfl rfl ?_
      refine av_iald (pc := 21) (x := (nI (t (94 + i)))) dX7_allStores_21 hS2 (by omega) (by decide) rfl ?_
      refine an_add (pc := 22) dX7_allStores_22 ?_
      refine aw_istore_n (pc := 23) (i := 1) dX7_allStores_23 rfl (Nat.le_of_ble_eq_true rfl) rfl ?_
      refine an_inc (pc := 24) (z := 1) dX7_allStores_24 rfl (Nat.le_of_ble_eq_true rfl) rfl ?_
      refine aw_goto (pc := 27) (tgt := 4) dX7_allStores_27 rfl ?_
      exact ih (i + 1) (by omega)
set_option maxHeartbeats 1000000 in
set_option maxRecDepth 20000 in
theorem c7_allStores {G : xG} {d : Nat} {Q : xQ} {ws : va_W} {b c : Nat → Nat} {t : Nat → Nat} {NM : Nat → Int64} {sn : Option Nat} (hS : STR G ws b c sn t) (hC : CHR G ws c t NM) (hw : WT t) (kk : Q (some (.int (nI (sumF (fun l => t (94 + l)) (t 0))))) ws) : MT G MX7_allStores (d) 0 0 [.ref (b 12)] ws Q := by
  obtain ⟨sd, hSo, hS2, hS3, hS6, hS7, hS8, hS9, hS10⟩ := id hS
  obtain ⟨hb, h0, h1, h2, hR, hP, hD, hCl, hT⟩ := id hw
  refine mt_start (L := [some (.ref (b 12)), none, none]) rfl (Nat.le_of_ble_eq_true rfl) rfl ?_
  refine aw_iconst (pc := 0) dX7_allStores_0 iconst_0 ?_
  refine aw_istore_n (pc := 1) (i := 1) dX7_allStores_1 rfl (Nat.le_of_ble_eq_true rfl) rfl ?_
  refine aw_iconst (pc := 2) dX7_allStores_2 iconst_0 ?_
  refine aw_istore_n (pc := 3) (i := 2) dX7_allStores_3 rfl (Nat.le_of_ble_eq_true rfl) rfl ?_
  exact allStores_loop hS hC hw kk (t 0) 0 (by omega)
set_option maxHeartbeats 1000000 in
set_option maxRecDepth 20000 in
theorem allCrossings_loop {G : xG} {d : Nat} {Q : xQ} {ws : va_W} {b c : Nat → Nat} {t : Nat → Nat} {NM : Nat → Int64} {sn : Option Nat} (hS : STR G ws b c sn t) (hC : CHR G ws c t NM) (hw : WT t) (kk : Q (some (.int (nI (sumF (fun q => t (132 + q)) (t 2))))) ws) : ∀ (z i : Nat), i + z = t 2 → AW G MX7_allCrossings (d) 0 0 Q 4 [some (.ref (b 12)), some (.int (nI (sumF (fun q => t (132 + q)) i))), some (.int (nI i))] [] ws 0 0 := by
  obtain ⟨sd, hSo, hS2, hS3, hS6, hS7, hS8, hS9, hS10⟩ := id hS
  obtain ⟨hb, h0, h1, h2, hR, hP, hD, hCl, hT⟩ := id hw
  intro z
  induction z with
  | zero =>
    intro i hi
    refine aw_iload_n (pc := 4) (i := 2) dX7_allCrossings_4 rfl rfl ?_
    refine aw_aload_n (pc := 5) (i := 0) dX7_allCrossings_5 rfl rfl ?_
    refine av_get (pc := 6) (x := .ref (c 13)) dX7_allCrossings_6 rfl og_X7_47 rfl hSo rfl ?_
    refine av_get (pc := 9) (x := .int (nI (t 2))) dX7_allCrossings_9 rfl og_X7_96 rfl hC.ov rfl ?_
    refine an_icmp_ge (pc := 12) (tgt := 30) dX7_allCrossings_12 rfl (by omega) (Nat.lt_trans (hb _) (by decide)) (fun h12 => ?_) (fun h12 => ?_)
    · -- 30
      refine aw_iload_n (pc := 30) (i := 1) dX7_allCrossings_30 rfl rfl ?_
      exact aw_iret (pc := 31) dX7_allCrossings_31 rfl (Nat.le_refl _) (Nat.le_refl _) (by have e : i = t 2 := (by omega); rw [← e] at kk; exact kk)
    · -- 15
      exfalso; omega
  | succ z ih =>
    intro i hi
    refine aw_iload_n (pc := 4) (i := 2) dX7_allCrossings_4 rfl rfl ?_
    refine aw_aload_n (pc := 5) (i := 0) dX7_allCrossings_5 rfl rfl ?_
    refine av_get (pc := 6) (x := .ref (c 13)) dX7_allCrossings_6 rfl og_X7_47 rfl hSo rfl ?_
    refine av_get (pc := 9) (x := .int (nI (t 2))) dX7_allCrossings_9 rfl og_X7_96 rfl hC.ov rfl ?_
    refine an_icmp_ge (pc := 12) (tgt := 30) dX7_allCrossings_12 rfl (by omega) (Nat.lt_trans (hb _) (by decide)) (fun h12 => ?_) (fun h12 => ?_)
    · -- 30
      exfalso; omega
    · -- 15
      refine aw_iload_n (pc := 15) (i := 1) dX7_allCrossings_15 rfl rfl ?_
      refine aw_aload_n (pc := 16) (i := 0) dX7_allCrossings_16 rfl rfl ?_
      refine av_get (pc := 17) (x := .ref (b 10)) dX7_allCrossings_17 rfl og_X7_41 rfl hSo rfl ?_
      refine aw_iload_n (pc := 20) (i := 2) dX7_allCrossings_20 rfl rfl ?_
      refine av_iald (pc := 21) (x := (nI (t (132 + i)))) dX7_allCrossings_21 hS10 (by omega) (by decide) rfl ?_
      refine an_add (pc := 22) dX7_allCrossings_22 ?_
      refine aw_istore_n (pc := 23) (i := 1) dX7_allCrossings_23 rfl (Nat.le_of_ble_eq_true rfl) rfl ?_
      refine an_inc (pc := 24) (z := 1) dX7_allCrossings_24 rfl (Nat.le_of_ble_eq_true rfl) rfl ?_
      refine aw_goto (pc := 27) (tgt := 4) dX7_allCrossings_27 rfl ?_
      exact ih (i + 1) (by omega)
set_option maxHeartbeats 1000000 in
set_option maxRecDepth 20000 in
theorem c7_allCrossings {G : xG} {d : Nat} {Q : xQ} {ws : va_W} {b c : Nat → Nat} {t : Nat → Nat} {NM : Nat → Int64} {sn : Option Nat} (hS : STR G ws b c sn t) (hC : CHR G ws c t NM) (hw : WT t) (kk : Q (some (.int (nI (sumF (fun q => t (132 + q)) (t 2))))) ws) : MT G MX7_allCrossings (d) 0 0 [.ref (b 12)] ws Q := by
  obtain ⟨sd, hSo, hS2, hS3, hS6, hS7, hS8, hS9, hS10⟩ := id hS
  obtain ⟨hb, h0, h1, h2, hR, hP, hD, hCl, hT⟩ := id hw
  refine mt_start (L := [some (.ref (b 12)), none, none]) rfl (Nat.le_of_ble_eq_true rfl) rfl ?_
  refine aw_iconst (pc := 0) dX7_allCrossings_0 iconst_0 ?_
  refine aw_istore_n (pc := 1) (i := 1) dX7_allCrossings_1 rfl (Nat.le_of_ble_eq_true rfl) rfl ?_
  refine aw_iconst (pc := 2) dX7_allCrossings_2 iconst_0 ?_
  refine aw_istore_n (pc := 3) (i := 2) dX7_allCrossings_3 rfl (Nat.le_of_ble_eq_true rfl) rfl ?_
  exact allCrossings_loop hS hC hw kk (t 2) 0 (by omega)
set_option maxHeartbeats 1000000 in
set_option maxRecDepth 20000 in
theorem treaties_loop {G : xG} {d : Nat} {Q : xQ} {ws : va_W} {b c : Nat → Nat} {t : Nat → Nat} {NM : Nat → Int64} {sn : Option Nat} (hS : STR G ws b c sn t) (hC : CHR G ws c t NM) (hw : WT t) (kk : Q (some (.int (nI (sumF (fun l => bitsN (t (101 + l))) (t 0))))) ws) : ∀ (z i : Nat), i + z = t 0 → AW G MX7_treaties (d + 1) 0 0 Q 4 [some (.ref (b 12)), some (.int (nI (sumF (fun l => bitsN (t (101 + l))) i))), some (.int (nI i))] [] ws 0 0 := by
  obtain ⟨sd, hSo, hS2, hS3, hS6, hS7, hS8, hS9, hS10⟩ := id hS
  obtain ⟨hb, h0, h1, h2, hR, hP, hD, hCl, hT⟩ := id hw
  intro z
  induction z with
  | zero =>
    intro i hi
    refine aw_iload_n (pc := 4) (i := 2) dX7_treaties_4 rfl rfl ?_
    refine aw_aload_n (pc := 5) (i := 0) dX7_treaties_5 rfl rfl ?_
    refine av_get (pc := 6) (x := .ref (c 13)) dX7_treaties_6 rfl og_X7_47 rfl hSo rfl ?_
    refine av_get (pc := 9) (x := .int (nI (t 0))) dX7_treaties_9 rfl og_X7_89 rfl hC.ov rfl ?_
    refine an_icmp_ge (pc := 12) (tgt := 33) dX7_treaties_12 rfl (by omega) (Nat.lt_trans (hb _) (by decide)) (fun h12 => ?_) (fun h12 => ?_)
    · -- 33
      refine aw_iload_n (pc := 33) (i := 1) dX7_treaties_33 rfl rfl ?_
      exact aw_iret (pc := 34) dX7_treaties_34 rfl (Nat.le_refl _) (Nat.le_refl _) (by have e : i = t 0 := (by omega); rw [← e] at kk; exact kk)
    · -- 15
      exfalso; omega
  | succ z ih =>
    intro i hi
    refine aw_iload_n (pc := 4) (i := 2) dX7_treaties_4 rfl rfl ?_
    refine aw_aload_n (pc := 5) (i := 0) dX7_treaties_5 rfl rfl ?_
    refine av_get (pc := 6) (x := .ref (c 13)) dX7_treaties_6 rfl og_X7_47 rfl hSo rfl ?_
    refine av_get (pc := 9) (x := .int (nI (t 0))) dX7_treaties_9 rfl og_X7_89 rfl hC.ov rfl ?_
    refine an_icmp_ge (pc := 12) (tgt := 33) dX7_treaties_12 rfl (by omega) (Nat.lt_trans (hb _) (by decide)) (fun h12 => ?_) (fun h12 => ?_)
    · -- 33
      exfalso; omega
    · -- 15
      refine aw_iload_n (pc := 15) (i := 1) dX7_treaties_15 rfl rfl ?_
      refine aw_aload_n (pc := 16) (i := 0) dX7_treaties_16 rfl rfl ?_
      refine av_get (pc := 17) (x := .ref (b 3)) dX7_treaties_17 rfl og_X7_19 rfl hSo rfl ?_
      refine aw_iload_n (pc := 20) (i := 2) dX7_treaties_20 rfl rfl ?_
      refine av_iald (pc := 21) (x := (nI (t (101 + i)))) dX7_treaties_21 hS3 (by omega) (by decide) rfl ?_
      refine cSi (pc := 22) (As := [.int (nI (t (101 + i)))]) (rest := [.int (nI (sumF (fun l => bitsN (t (101 + l))) i))]) dX7_treaties_22 rfl oc_X7_113 rfl rfl (Nat.le_of_ble_eq_true rfl) (Nat.le_refl _) (Nat.le_refl _) (c_bitCount (by have := hT i (by omega); omega) ⟨_, rfl, ?_⟩)
      refine an_add (pc := 25) dX7_treaties_25 ?_
      refine aw_istore_n (pc := 26) (i := 1) dX7_treaties_26 rfl (Nat.le_of_ble_eq_true rfl) rfl ?_
      refine an_inc (pc := 27) (z := 1) dX7_treaties_27 rfl (Nat.le_of_ble_eq_true rfl) rfl ?_
      refine aw_goto (pc := 30) (tgt := 4) dX7_treaties_30 rfl ?_
      exact ih (i + 1) (by omega)
set_option maxHeartbeats 1000000 in
set_option maxRecDepth 20000 in
theorem c7_treaties {G : xG} {d : Nat} {Q : xQ} {ws : va_W} {b c : Nat → Nat} {t : Nat → Nat} {NM : Nat → Int64} {sn : Option Nat} (hS : STR G ws b c sn t) (hC : CHR G ws c t NM) (hw : WT t) (kk : Q (some (.int (nI (sumF (fun l => bitsN (t (101 + l))) (t 0))))) ws) : MT G MX7_treaties (d + 1) 0 0 [.ref (b 12)] ws Q := by
  obtain ⟨sd, hSo, hS2, hS3, hS6, hS7, hS8, hS9, hS10⟩ := id hS
  obtain ⟨hb, h0, h1, h2, hR, hP, hD, hCl, hT⟩ := id hw
  refine mt_start (L := [some (.ref (b 12)), none, none]) rfl (Nat.le_of_ble_eq_true rfl) rfl ?_
  refine aw_iconst (pc := 0) dX7_treaties_0 iconst_0 ?_
  refine aw_istore_n (pc := 1) (i := 1) dX7_treaties_1 rfl (Nat.le_of_ble_eq_true rfl) rfl ?_
  refine aw_iconst (pc := 2) dX7_treaties_2 iconst_0 ?_
  refine aw_istore_n (pc := 3) (i := 2) dX7_treaties_3 rfl (Nat.le_of_ble_eq_true rfl) rfl ?_
  exact treaties_loop hS hC hw kk (t 0) 0 (by omega)
set_option maxHeartbeats 1000000 in
set_option maxRecDepth 20000 in
theorem restB_mono {t : Nat → Nat} : ∀ n m, n ≤ m → restB t n = false → restB t m = false := by
  intro n m h
  induction m with
  | zero => intro e; rw [show n = 0 by omega] at e; exact e
  | succ m ih =>
    intro e
    rcases Nat.lt_or_ge m n with h1 | h1
    · rw [show m + 1 = n by omega]; exact e
    · rw [restB, ih h1 e]; rfl
set_option maxHeartbeats 1000000 in
set_option maxRecDepth 20000 in
theorem sgrows_loop {G : xG} {d : Nat} {Q : xQ} {ws : va_W} {b c : Nat → Nat} {t : Nat → Nat} {NM : Nat → Int64} {sn : Option Nat} (hS : STR G ws b c sn t) (hC : CHR G ws c t NM) (hw : WT t) (kk : Q (some (.int (bI (!restB t (t 2))))) ws) : ∀ (z i : Nat), i + z = t 2 → restB t i = true → AW G MX7_somebodyGrows (d + 2) 0 0 Q 2 [some (.ref (b 12)), some (.int (nI i))] [] ws 0 0 := by
  obtain ⟨sd, hSo, hS2, hS3, hS6, hS7, hS8, hS9, hS10⟩ := id hS
  obtain ⟨hb, h0, h1, h2, hR, hP, hD, hCl, hT⟩ := id hw
  intro z
  induction z with
  | zero =>
    intro i hi hr
    refine aw_iload_n (pc := 2) (i := 1) dX7_somebodyGrows_2 rfl rfl ?_
    refine aw_aload_n (pc := 3) (i := 0) dX7_somebodyGrows_3 rfl rfl ?_
    refine av_get (pc := 4) (x := .ref (c 13)) dX7_somebodyGrows_4 rfl og_X7_47 rfl hSo rfl ?_
    refine av_get (pc := 7) (x := .int (nI (t 2))) dX7_somebodyGrows_7 rfl og_X7_96 rfl hC.ov rfl ?_
    refine an_icmp_ge (pc := 10) (tgt := 29) dX7_somebodyGrows_10 rfl (by omega) (Nat.lt_trans (hb _) (by decide)) (fun h10 => ?_) (fun h10 => ?_)
    · -- 29
      refine aw_iconst (pc := 29) dX7_somebodyGrows_29 iconst_0 ?_
      exact ab_ret0 (pc := 30) dX7_somebodyGrows_30 rfl (Nat.le_refl _) (Nat.le_refl _) (by have e : i = t 2 := (by omega); rw [← e, hr] at kk; exact kk)
    · -- 13
      exfalso; omega
  | succ z ih =>
    intro i hi hr
    refine aw_iload_n (pc := 2) (i := 1) dX7_somebodyGrows_2 rfl rfl ?_
    refine aw_aload_n (pc := 3) (i := 0) dX7_somebodyGrows_3 rfl rfl ?_
    refine av_get (pc := 4) (x := .ref (c 13)) dX7_somebodyGrows_4 rfl og_X7_47 rfl hSo rfl ?_
    refine av_get (pc := 7) (x := .int (nI (t 2))) dX7_somebodyGrows_7 rfl og_X7_96 rfl hC.ov rfl ?_
    refine an_icmp_ge (pc := 10) (tgt := 29) dX7_somebodyGrows_10 rfl (by omega) (Nat.lt_trans (hb _) (by decide)) (fun h10 => ?_) (fun h10 => ?_)
    · -- 29
      exfalso; omega
    · -- 13
      refine aw_aload_n (pc := 13) (i := 0) dX7_somebodyGrows_13 rfl rfl ?_
      refine aw_iload_n (pc := 14) (i := 1) dX7_somebodyGrows_14 rfl rfl ?_
      refine cVi (pc := 15) (As := [.int (nI i)]) (rest := []) dX7_somebodyGrows_15 rfl oc_X7_99 rfl rfl (Nat.le_of_ble_eq_true rfl) rfl rfl hSo (Nat.le_refl _) (Nat.le_refl _) (c7_grows hS hC hw (by omega) ⟨_, rfl, ?_⟩)
      refine ab_if_eq (pc := 18) (tgt := 23) dX7_somebodyGrows_18 rfl (fun h18 => ?_) (fun h18 => ?_)
      · -- 23
        refine an_inc (pc := 23) (z := 1) dX7_somebodyGrows_23 rfl (Nat.le_of_ble_eq_true rfl) rfl ?_
        refine aw_goto (pc := 26) (tgt := 2) dX7_somebodyGrows_26 rfl ?_
        exact ih (i + 1) (by omega) (by rw [restB, hr, h18]; rfl)
      · -- 21
        refine aw_iconst (pc := 21) dX7_somebodyGrows_21 iconst_1 ?_
        exact ab_ret1 (pc := 22) dX7_somebodyGrows_22 rfl (Nat.le_refl _) (Nat.le_refl _) (by rw [restB_mono (i + 1) (t 2) (by omega) (by rw [restB, h18]; simp)] at kk; exact kk)
set_option maxHeartbeats 1000000 in
set_option maxRecDepth 20000 in
theorem c7_somebodyGrows {G : xG} {d : Nat} {Q : xQ} {ws : va_W} {b c : Nat → Nat} {t : Nat → Nat} {NM : Nat → Int64} {sn : Option Nat} (hS : STR G ws b c sn t) (hC : CHR G ws c t NM) (hw : WT t) (kk : Q (some (.int (bI (!restB t (t 2))))) ws) : MT G MX7_somebodyGrows (d + 2) 0 0 [.ref (b 12)] ws Q := by
  obtain ⟨sd, hSo, hS2, hS3, hS6, hS7, hS8, hS9, hS10⟩ := id hS
  obtain ⟨hb, h0, h1, h2, hR, hP, hD, hCl, hT⟩ := id hw
  refine mt_start (L := [some (.ref (b 12)), none]) rfl (Nat.le_of_ble_eq_true rfl) rfl ?_
  refine aw_iconst (pc := 0) dX7_somebodyGrows_0 iconst_0 ?_
  refine aw_istore_n (pc := 1) (i := 1) dX7_somebodyGrows_1 rfl (Nat.le_of_ble_eq_true rfl) rfl ?_
  exact sgrows_loop hS hC hw kk (t 2) 0 (by omega) rfl
