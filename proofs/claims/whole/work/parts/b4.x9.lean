/-- what comes back may stand in another order -/
theorem AW_Qw {G : xG} {μ : xM} {d mc ms : Nat} {Q Q' : xQ} {pc : Nat} {L : List (Option Value)} {st : List Value} {ws : va_W} {n k : Nat} (hq : ∀ v w, Q v w → ∃ w', List.Perm w w' ∧ Q' v w') (h : AW G μ d mc ms Q pc L st ws n k) : AW G μ d mc ms Q' pc L st ws n k := by
  intro p e s m args below meth c H locs A ls C hS hP hD hl T hT X
  obtain ⟨t, a1, o, b1, b2, ⟨⟨v, w, c1, c2, c3, c4, c5⟩, c6⟩, b4⟩ := h p e s m args below meth c H locs A ls C hS hP hD hl T hT X
  obtain ⟨w', hp, hq'⟩ := hq v w c2
  refine ⟨t, a1, o, b1, b2, ⟨⟨v, w', c1, hq', fun i q hi => ?_, c4, ?_⟩, c6⟩, b4⟩
  · obtain ⟨j, hj⟩ := List.getElem?_of_mem (hp.mem_iff.mpr (List.mem_of_getElem? hi))
    exact c3 j q hj
  · have hnd : (w.map Prod.fst).Nodup := by
      rw [List.Nodup, List.pairwise_iff_getElem]
      intro i j hi hj hij e
      rw [List.length_map] at hi hj
      rw [List.getElem_map, List.getElem_map] at e
      exact absurd (c5.1 i j _ _ (List.getElem?_eq_getElem hi) (List.getElem?_eq_getElem hj) e) (by omega)
    have hnd2 : (w'.map Prod.fst).Nodup := (hp.map Prod.fst).nodup_iff.mp hnd
    refine ⟨fun i j p q hi hj e => ?_, fun i q hi => ?_⟩
    · obtain ⟨hi', hi2⟩ := List.getElem?_eq_some_iff.mp hi
      obtain ⟨hj', hj2⟩ := List.getElem?_eq_some_iff.mp hj
      rw [List.Nodup, List.pairwise_iff_getElem] at hnd2
      rcases Nat.lt_trichotomy i j with h1 | h1 | h1
      · exact absurd (by rw [List.getElem_map, List.getElem_map, hi2, hj2]; exact e) (hnd2 i j (by rw [List.length_map]; exact hi') (by rw [List.length_map]; exact hj') h1)
      · exact h1
      · exact absurd (by rw [List.getElem_map, List.getElem_map, hi2, hj2]; exact e.symm) (hnd2 j i (by rw [List.length_map]; exact hj') (by rw [List.length_map]; exact hi') h1)
    · obtain ⟨j, hj⟩ := List.getElem?_of_mem (hp.mem_iff.mpr (List.mem_of_getElem? hi))
      exact c5.2 j q hj
theorem p_push1 {g : Nat → ClassId} {kd : Nat → Bool} {ad : Nat → Nat → Nat} {κ : Nat → kS} {n i : Nat} {k1 : kS} {R : va_W} (hi : i < n) : (ck g kd i (ad i) k1 ++ (WX g kd ad κ n [i] ++ R)).Perm (WX g kd ad (upN κ i k1) n [] ++ R) := by
  rw [← List.append_assoc]
  exact List.Perm.append_right R (wx_push hi List.not_mem_nil)
theorem sN_same {σ : mS} {k : Nat} : sN σ k (σ.2.1 k) = σ := by
  unfold sN
  rw [upN_id _ _ rfl]
theorem J_same {ae : Nat → Nat} {kd : Nat → Bool} {ad : Nat → Nat → Nat} {κ : Nat → kS} {n : Nat} {σ : mS} {B : Nat} {x y : Int32} (h : J ae kd ad κ n σ B) : J ae kd ad κ n (drS (mI σ 0 x) (y, σ.2.1 6)) B := by
  unfold drS
  rw [show sN (mI σ 0 x) 6 (y, σ.2.1 6).2 = mI σ 0 x from sN_same (σ := mI σ 0 x) (k := 6)]
  exact h
set_option maxHeartbeats 1000000 in
set_option maxRecDepth 20000 in
theorem rst_loop {G : xG} {d : Nat} {Q : xQ} {kd : Nat → Bool} {ad : Nat → Nat → Nat} {κ : Nat → kS} {n jc B : Nat} {σ : mS} {NM : Nat → Int64} {R : va_W} {t : Nat → Nat} {sn : Option Nat} (hNB : NB G) (hB5 : 500 ≤ B) (hMain : jMain ad (κ 0)) (hI : OV G (WX G.2.2.1 kd ad κ n [3] ++ R) 9 (ad 0 20) (fvX11 (ad 0) (κ 0))) (hCht : CHT kd κ n jc t (σ.2.2.2.2 9) NM) (hwt : WT t) (kk : ∀ k3, (∃ sd, k3.1 11 = .int sd) → Q (some (.int (restsA t))) (wSt G.2.2.1 (ad 3) k3 ++ (WX G.2.2.1 kd ad κ n [3] ++ R))) : ∀ (f g : Nat) (u : Nat → Nat) (k3 : kS) (sd3 : Int32), g + f = 400 → restsG 401 t = (g + (restsG (f + 1) u).1, (restsG (f + 1) u).2) → u 91 = t 91 + g → WV u B → (∀ j, j < 91 → u j = t j) → SRl (ad jc) sn u sd3 k3 → AW G MX11_rests (d + 4) 0 0 Q 13 [some (.ref ((ad 0) 20)), some (.int (nI g))] [] (wSt G.2.2.1 (ad 3) k3 ++ (WX G.2.2.1 kd ad κ n [3] ++ R)) 0 0 := by
  obtain ⟨hbt, h0t, h1t, h2t, -⟩ := id hwt
  intro f
  induction f with
  | zero =>
    intro g u k3 sd3 hg hr h91 HW hE9 hS3
    have hw := HW.1.1
    have hCu : CHR G (WX G.2.2.1 kd ad κ n [3] ++ R) (ad jc) u NM := ((CHT_cong (nm' := σ.2.2.2.2 9) hCht h0t h1t h2t hE9 (fun _ _ => rfl)).chr (ad := ad) hw (fun i hi => by simp at hi; omega)).sub mem_R1
    obtain ⟨hb, h0, h1, h2, hRd, hP, hD, hCl, hT⟩ := id hw
    refine aw_iload_n (pc := 13) (i := 1) dX11_rests_13 rfl rfl ?_
    refine aw_sipush (pc := 14) dX11_rests_14 sipush_400 ?_
    refine an_icmp_ge (pc := 17) (tgt := 58) dX11_rests_17 rfl (by omega) (by decide) (fun h17 => ?_) (fun h17 => ?_)
    · -- 58
      refine aw_iconst (pc := 58) dX11_rests_58 iconst_m1 ?_
      refine aw_iret (pc := 59) dX11_rests_59 rfl (Nat.le_refl _) (Nat.le_refl _) ?_
      have e1 : restsG (0 + 1) u = (0, u) := by rw [restsG, if_neg (by omega)]
      have e2 : restsA t = -1 := by unfold restsA; rw [hr, e1]; show (if u 91 < 400 then _ else _) = _; rw [if_neg (by omega)]
      rw [← e2]
      exact kk _ ⟨_, hS3.2.2.2.2.1⟩
    · -- 20
      exfalso; omega
  | succ f ih =>
    intro g u k3 sd3 hg hr h91 HW hE9 hS3
    have hw := HW.1.1
    have hCu : CHR G (WX G.2.2.1 kd ad κ n [3] ++ R) (ad jc) u NM := ((CHT_cong (nm' := σ.2.2.2.2 9) hCht h0t h1t h2t hE9 (fun _ _ => rfl)).chr (ad := ad) hw (fun i hi => by simp at hi; omega)).sub mem_R1
    obtain ⟨hb, h0, h1, h2, hRd, hP, hD, hCl, hT⟩ := id hw
    refine aw_iload_n (pc := 13) (i := 1) dX11_rests_13 rfl rfl ?_
    refine aw_sipush (pc := 14) dX11_rests_14 sipush_400 ?_
    refine an_icmp_ge (pc := 17) (tgt := 58) dX11_rests_17 rfl (by omega) (by decide) (fun h17 => ?_) (fun h17 => ?_)
    · -- 58
      exfalso; omega
    · -- 20
      refine aw_aload_n (pc := 20) (i := 0) dX11_rests_20 rfl rfl ?_
      refine av_get (pc := 21) (x := .ref ((ad 3) 12)) dX11_rests_21 rfl og_X11_76 rfl (hI.sub mem_app) hMain.2.2.1 ?_
      refine pg_X11_207 (pc := 24) (v := .int (nI (u 91))) dX11_rests_24 rfl hS3.2.2.2.1 ?_
      refine aw_sipush (pc := 27) dX11_rests_27 sipush_400 ?_
      refine an_icmp_ge (pc := 30) (tgt := 58) dX11_rests_30 rfl (Nat.lt_trans (hb _) (by decide)) (by decide) (fun h30 => ?_) (fun h30 => ?_)
      · -- 58
        refine aw_iconst (pc := 58) dX11_rests_58 iconst_m1 ?_
        refine aw_iret (pc := 59) dX11_rests_59 rfl (Nat.le_refl _) (Nat.le_refl _) ?_
        have e1 : restsG ((f + 1) + 1) u = (0, u) := by rw [restsG, if_neg (by omega)]
        have e2 : restsA t = -1 := by unfold restsA; rw [hr, e1]; show (if u 91 < 400 then _ else _) = _; rw [if_neg (by omega)]
        rw [← e2]
        exact kk _ ⟨_, hS3.2.2.2.2.1⟩
      · -- 33
        refine aw_aload_n (pc := 33) (i := 0) dX11_rests_33 rfl rfl ?_
        refine av_get (pc := 34) (x := .ref ((ad 3) 12)) dX11_rests_34 rfl og_X11_76 rfl (hI.sub mem_app) hMain.2.2.1 ?_
        refine cVi (pc := 37) (As := []) (rest := []) dX11_rests_37 rfl oc_X11_288 rfl rfl (Nat.le_of_ble_eq_true rfl) rfl rfl ovX7 (Nat.le_refl _) (Nat.le_refl _) (c7_somebodyGrows (SRl.str hS3 h0 h2) (hCu.sub mem_app) hw ⟨_, rfl, ?_⟩)
        refine ab_if_ne (pc := 40) (tgt := 45) dX11_rests_40 rfl (fun h40 => ?_) (fun h40 => ?_)
        · -- 45
          refine aw_aload_n (pc := 45) (i := 0) dX11_rests_45 rfl rfl ?_
          refine av_get (pc := 46) (x := .ref ((ad 3) 12)) dX11_rests_46 rfl og_X11_76 rfl (hI.sub mem_app) hMain.2.2.1 ?_
          refine cVv (pc := 49) (As := []) (rest := []) dX11_rests_49 rfl oc_X11_292 rfl rfl (Nat.le_of_ble_eq_true rfl) rfl rfl ovX7 (Nat.le_refl _) (Nat.le_refl _) (c7_goDay hS3 hCu hw ?_)
          intro k4 g4
          refine ⟨rfl, ?_⟩
          refine an_inc (pc := 52) (z := 1) dX11_rests_52 rfl (Nat.le_of_ble_eq_true rfl) rfl ?_
          refine aw_goto (pc := 55) (tgt := 13) dX11_rests_55 rfl ?_
          have hc9 : restB u (u 2) = false := by revert h40; cases restB u (u 2) <;> simp
          refine ih (g + 1) (dayF u) k4 sd3 (by omega) ?_ (by rw [DK_day HW hB5 (by omega)]; omega) (WV_day HW hB5 (by omega)) (fun j hj => by rw [day_keep h2 (fun q hq => by have := hP q hq; omega) (by omega) (by omega) (by omega)]; exact hE9 j hj) g4
          rw [hr]
          have e1 : restsG (f + 1 + 1) u = ((restsG (f + 1) (dayF u)).1 + 1, (restsG (f + 1) (dayF u)).2) := by rw [restsG, if_pos (by omega), if_neg (by rw [hc9]; decide)]
          rw [e1]
          show (g + ((restsG (f + 1) (dayF u)).1 + 1), _) = _
          rw [show g + ((restsG (f + 1) (dayF u)).1 + 1) = g + 1 + (restsG (f + 1) (dayF u)).1 by omega]
        · -- 43
          refine aw_iload_n (pc := 43) (i := 1) dX11_rests_43 rfl rfl ?_
          refine aw_iret (pc := 44) dX11_rests_44 rfl (Nat.le_refl _) (Nat.le_refl _) ?_
          have e1 : restsG ((f + 1) + 1) u = (0, u) := by rw [restsG, if_pos (by omega), if_pos (by revert h40; cases restB u (u 2) <;> simp)]
          have e2 : restsA t = nI g := by unfold restsA; rw [hr, e1]; show (if u 91 < 400 then _ else _) = _; rw [if_pos (by omega)]; rfl
          rw [← e2]
          exact kk _ ⟨_, hS3.2.2.2.2.1⟩
set_option maxHeartbeats 1000000 in
set_option maxRecDepth 20000 in
theorem x_rests {G : xG} {d : Nat} {Q : xQ} {ae : Nat → Nat} {tw ts : Nat} {kd : Nat → Bool} {ad : Nat → Nat → Nat} {κ : Nat → kS} {n : Nat} {σ : mS} {B : Nat} {R : va_W} (hE : EB ae tw ts G) (hNB : NB G) (hAO : AO G) (hJ : J ae kd ad κ n σ B) (kk : ∀ κ9, J ae kd ad κ9 n (triesS (mI σ 0 (nI 0))) B → Q (some (.int (restsA (σ.2.1 6)))) (WX G.2.2.1 kd ad κ9 n [] ++ R)) : MT G MX11_rests (d + 4) 0 0 [.ref ((ad 0) 20)] (WX G.2.2.1 kd ad κ n [] ++ R) Q := by
  obtain ⟨hn, hMain, hSub, hTape, hR10, hR11, hR12, hR13, hMisc, hRef, hB5, jc, NM, sn, sd, m, pn, im, hCht, hSR, hSnt, hTok, hPast, hPm, hSds, hImg⟩ := id hJ
  have hw : WT (σ.2.1 6) := hTok.1.1.1
  obtain ⟨hb, h0, h1, h2, hRd, hP, hD, hCl, hT⟩ := id hw
  obtain ⟨sd3, hsd3⟩ := hSub.1
  have hIx := ov_0 (G := G) (kd := kd) (ad := ad) (κ := κ) (xs := [3]) (R := R) (by omega : 0 < n) (by simp)
  refine mt_start (L := [some (.ref ((ad 0) 20)), none]) rfl (Nat.le_of_ble_eq_true rfl) rfl ?_
  refine aw_pull1 (p1 := 3) (by omega)  ?_
  refine aw_ws (w9 := (wSt G.2.2.1 (ad 3) (κ 3) ++ (WX G.2.2.1 kd ad κ n [3] ++ R))) rfl ?_
  refine aw_aload_n (pc := 0) (i := 0) dX11_rests_0 rfl rfl ?_
  refine av_get (pc := 1) (x := .ref ((ad 3) 12)) dX11_rests_1 rfl og_X11_76 rfl (hIx.sub mem_app) hMain.2.2.1 ?_
  refine aw_aload_n (pc := 4) (i := 0) dX11_rests_4 rfl rfl ?_
  refine av_get (pc := 5) (x := .ref ((ad 2) 12)) dX11_rests_5 rfl og_X11_72 rfl (hIx.sub mem_app) hMain.2.1 ?_
  refine cVv (pc := 8) (As := [.ref ((ad 2) 12)]) (rest := []) dX11_rests_8 rfl oc_X11_132 rfl rfl (Nat.le_of_ble_eq_true rfl) rfl rfl ovX7 (Nat.le_refl _) (Nat.le_refl _) (c7_copy hsd3 (skv_2 (by omega) (by simp)) hSR h0 h2 ?_)
  intro k3 sdx g3
  refine ⟨rfl, ?_⟩
  refine aw_iconst (pc := 11) dX11_rests_11 iconst_0 ?_
  refine aw_istore_n (pc := 12) (i := 1) dX11_rests_12 rfl (Nat.le_of_ble_eq_true rfl) rfl ?_
  refine AW_Qw (fun v wd hq => ?_) (rst_loop hNB (by omega) hMain hIx hCht hw (Q := fun v wd => ∃ k3, (∃ sd, k3.1 11 = .int sd) ∧ v = some (.int (restsA (σ.2.1 6))) ∧ wd = wSt G.2.2.1 (ad 3) k3 ++ (WX G.2.2.1 kd ad κ n [3] ++ R)) (fun k3 hk => ⟨k3, hk, rfl, rfl⟩) 400 0 (σ.2.1 6) k3 sdx (by omega) (by rw [Nat.zero_add]) (by omega) hTok.1 (fun _ _ => rfl) g3)
  obtain ⟨k9, hx9, rfl, rfl⟩ := hq
  exact ⟨_, p_push1 (i := 3) (by omega), kk _ (⟨hn, hMain, ⟨hx9, hSub.2⟩, hTape, hR10, hR11, hR12, hR13, hMisc, hRef, hB5, jc, NM, sn, sd, m, pn, im, (jSt.up (i := 3) (by omega) (by omega) (by omega) ⟨hCht, hSR, hSnt, hTok, hPast, hPm, hSds, hImg⟩)⟩)⟩
set_option maxHeartbeats 1000000 in
set_option maxRecDepth 20000 in
theorem drw_do {G : xG} {d : Nat} {Q : xQ} {ae : Nat → Nat} {tw ts : Nat} {kd : Nat → Bool} {ad : Nat → Nat → Nat} {κ : Nat → kS} {n : Nat} {σ : mS} {B : Nat} {R : va_W} {u : Nat} {fr : Int32} (hE : EB ae tw ts G) (hNB : NB G) (hAO : AO G) (hJ : J ae kd ad κ n σ B) (hu : u ≤ 60) (hB9 : B + 8000 ≤ 2 ^ 29) (h0l : 0 < σ.2.1 6 0) (kk : ∀ κ9, J ae kd ad κ9 n (sN σ 6 (drawsG u (fr, σ.2.1 6)).2.2) (B + 8000) → Q (some (.int (nI (drawsG u (fr, σ.2.1 6)).1))) (WX G.2.2.1 kd ad κ9 n [] ++ R)) : AW G MX11_drawn (d + 5) 0 0 Q 45 [some (.ref ((ad 0) 20)), some (.int (nI u)), some (.int fr)] [] (WX G.2.2.1 kd ad κ n [] ++ R) 0 0 := by
  obtain ⟨hn, hMain, hSub, hTape, hR10, hR11, hR12, hR13, hMisc, hRef, hB5, jc, NM, sn, sd, m, pn, im, hCht, hSR, hSnt, hTok, hPast, hPm, hSds, hImg⟩ := id hJ
  have hw : WT (σ.2.1 6) := hTok.1.1.1
  have hI := ov_0 (G := G) (kd := kd) (ad := ad) (κ := κ) (xs := [2]) (R := R) (by omega : 0 < n) (by simp)
  have hC2 : CHR G (WX G.2.2.1 kd ad κ n [2] ++ R) (ad jc) (σ.2.1 6) NM := (hCht.chr (ad := ad) hw (fun i hi => by simp at hi; omega)).sub mem_R1
  have hdo := drawsG_keep u (x := (fr, σ.2.1 6)) (by omega) hB5 hTok.1
  have h92 := S92_draws u (x := (fr, σ.2.1 6)) (by omega) hB5 hTok.1 h0l hTok.2.2
  refine aw_pull1 (p1 := 2) (by omega)  ?_
  refine aw_ws (w9 := (wSt G.2.2.1 (ad 2) (κ 2) ++ (WX G.2.2.1 kd ad κ n [2] ++ R))) rfl ?_
  refine aw_aload_n (pc := 45) (i := 0) dX11_drawn_45 rfl rfl ?_
  refine av_get (pc := 46) (x := .ref ((ad 2) 12)) dX11_drawn_46 rfl og_X11_72 rfl (hI.sub mem_app) hMain.2.1 ?_
  refine aw_iload_n (pc := 49) (i := 1) dX11_drawn_49 rfl rfl ?_
  refine aw_iload_n (pc := 50) (i := 2) dX11_drawn_50 rfl rfl ?_
  refine cVi (pc := 51) (As := [.int (nI u), .int fr]) (rest := []) dX11_drawn_51 rfl oc_X11_322 rfl rfl (Nat.le_of_ble_eq_true rfl) rfl rfl ovX7 (Nat.le_refl _) (Nat.le_refl _) (c7_drawDays hNB hSR hC2 hu (by omega) hB5 hTok.1 ?_)
  intro k1 g1
  refine ⟨_, rfl, ?_⟩
  refine aw_push1 (p1 := 2) (by omega)  ?_
  refine aw_iret (pc := 54) dX11_drawn_54 rfl (Nat.le_refl _) (Nat.le_refl _) ?_
  refine kk _ (hJ.act hdo.2 (WV_mono hdo.1 (by omega)) h92 (by omega) (fun c9 sn9 sd9 h9 => ?_))
  obtain ⟨e1, e2, e3, e4, e5, e6, e7⟩ := id g1
  obtain ⟨f1, f2, -⟩ := id hSR
  obtain ⟨q1, q2, -⟩ := id h9
  exact ⟨_, e1.trans (f1.symm.trans q1), e2.trans (f2.symm.trans q2), e3, e4, e5, e6, e7⟩
set_option maxHeartbeats 1000000 in
set_option maxRecDepth 20000 in
theorem x_drawn {G : xG} {d : Nat} {Q : xQ} {ae : Nat → Nat} {tw ts : Nat} {kd : Nat → Bool} {ad : Nat → Nat → Nat} {κ : Nat → kS} {n : Nat} {σ : mS} {B : Nat} {R : va_W} {x fr : Int32} (hE : EB ae tw ts G) (hNB : NB G) (hAO : AO G) (hJ : J ae kd ad κ n σ B) (hB9 : B + 8000 ≤ 2 ^ 29) (kk : ∀ κ9 m, σ.1 23 = nI m → m ≤ 8 → J ae kd ad κ9 n (drawnS σ m x fr) (B + 8000) → Q (some (.int (drawnA (σ.2.1 6) x fr))) (WX G.2.2.1 kd ad κ9 n [] ++ R)) : MT G MX11_drawn (d + 5) 0 0 [.ref ((ad 0) 20), .int x, .int fr] (WX G.2.2.1 kd ad κ n [] ++ R) Q := by
  obtain ⟨hn, hMain, hSub, hTape, hR10, hR11, hR12, hR13, hMisc, hRef, hB5, jc, NM, sn, sd, m, pn, im, hCht, hSR, hSnt, hTok, hPast, hPm, hSds, hImg⟩ := id hJ
  have hw : WT (σ.2.1 6) := hTok.1.1.1
  have hI := ov_0 (G := G) (kd := kd) (ad := ad) (κ := κ) (xs := []) (R := R) (by omega : 0 < n) (by simp)
  have hTp := ov_1 (G := G) (kd := kd) (ad := ad) (κ := κ) (xs := []) (R := R) (by omega : 1 < n) (by simp)
  have hS := st_2 (G := G) (kd := kd) (ad := ad) (n := n) (xs := []) (R := R) hSR hw (by omega) (by simp)
  have hC : CHR G (WX G.2.2.1 kd ad κ n [] ++ R) (ad jc) (σ.2.1 6) NM := (hCht.chr (ad := ad) hw (fun i hi => by simp at hi)).sub mem_R1
  obtain ⟨hb, h0, h1, h2, hRd, hP, hD, hCl, hT⟩ := id hw
  obtain ⟨sd9, hSo, hS2, hS3, hS6, hS7, hS8, hS9, hS10⟩ := id hS
  obtain ⟨n1, hTB, hlen, hflt⟩ := id hTape
  by_cases hx : x < 0
  · have hin : inC (nI 1) (nI 60) x = false := inC_neg (by decide) hx
    refine mt_start (L := [some (.ref ((ad 0) 20)), some (.int x), some (.int fr)]) rfl (Nat.le_of_ble_eq_true rfl) rfl ?_
    refine aw_iload_n (pc := 0) (i := 1) dX11_drawn_0 rfl rfl ?_
    refine aw_iconst (pc := 1) dX11_drawn_1 iconst_1 ?_
    refine aw_icmp_lt (pc := 2) (tgt := 24) dX11_drawn_2 rfl (fun h2 => ?_) (fun h2 => ?_)
    · -- 24
      refine aw_iconst (pc := 24) dX11_drawn_24 iconst_m1 ?_
      refine aw_iret (pc := 25) dX11_drawn_25 rfl (Nat.le_refl _) (Nat.le_refl _) ?_
      have := hin
      have := kk κ m hPm.1 hPm.2.2.2.1 (by rw [show drawnS σ m x fr = mI σ 0 (nI 0) from if_neg (by rw [hin]; decide)]; exact (hJ.mono (by omega)).th)
      rw [show drawnA (σ.2.1 6) x fr = -1 from if_neg (by rw [hin]; decide)] at this
      exact this
    · -- 5
      exact absurd (Int32.lt_trans hx (by decide)) h2
  · obtain ⟨u, hu9, rfl⟩ : ∃ k, k < 2 ^ 31 ∧ x = nI k := ⟨_, (i32_nat hx).2, (i32_nat hx).1⟩
    refine mt_start (L := [some (.ref ((ad 0) 20)), some (.int (nI u)), some (.int fr)]) rfl (Nat.le_of_ble_eq_true rfl) rfl ?_
    refine aw_iload_n (pc := 0) (i := 1) dX11_drawn_0 rfl rfl ?_
    refine aw_iconst (pc := 1) dX11_drawn_1 iconst_1 ?_
    refine an_icmp_lt (pc := 2) (tgt := 24) dX11_drawn_2 rfl (by omega) (by decide) (fun h2 => ?_) (fun h2 => ?_)
    · -- 24
      refine aw_iconst (pc := 24) dX11_drawn_24 iconst_m1 ?_
      refine aw_iret (pc := 25) dX11_drawn_25 rfl (Nat.le_refl _) (Nat.le_refl _) ?_
      have hin : inC (nI 1) (nI 60) (nI u) = false := inC_f (by decide) (by decide) hu9 (by omega)
      have := kk κ m hPm.1 hPm.2.2.2.1 (by rw [show drawnS σ m (nI u) fr = mI σ 0 (nI 0) from if_neg (by rw [hin]; decide)]; exact (hJ.mono (by omega)).th)
      rw [show drawnA (σ.2.1 6) (nI u) fr = -1 from if_neg (by rw [hin]; decide)] at this
      exact this
    · -- 5
      refine aw_iload_n (pc := 5) (i := 1) dX11_drawn_5 rfl rfl ?_
      refine aw_bipush (pc := 6) dX11_drawn_6 bipush_60 ?_
      refine an_icmp_gt (pc := 8) (tgt := 24) dX11_drawn_8 rfl (by omega) (by decide) (fun h8 => ?_) (fun h8 => ?_)
      · -- 24
        refine aw_iconst (pc := 24) dX11_drawn_24 iconst_m1 ?_
        refine aw_iret (pc := 25) dX11_drawn_25 rfl (Nat.le_refl _) (Nat.le_refl _) ?_
        have hin : inC (nI 1) (nI 60) (nI u) = false := inC_f (by decide) (by decide) hu9 (by omega)
        have := kk κ m hPm.1 hPm.2.2.2.1 (by rw [show drawnS σ m (nI u) fr = mI σ 0 (nI 0) from if_neg (by rw [hin]; decide)]; exact (hJ.mono (by omega)).th)
        rw [show drawnA (σ.2.1 6) (nI u) fr = -1 from if_neg (by rw [hin]; decide)] at this
        exact this
      · -- 11
        refine aw_aload_n (pc := 11) (i := 0) dX11_drawn_11 rfl rfl ?_
        refine av_get (pc := 12) (x := .ref ((ad 2) 12)) dX11_drawn_12 rfl og_X11_72 rfl hI hMain.2.1 ?_
        refine av_get (pc := 15) (x := .ref ((ad jc) 13)) dX11_drawn_15 rfl og_X11_142 rfl hSo rfl ?_
        refine av_get (pc := 18) (x := .int (nI ((σ.2.1 6) 0))) dX11_drawn_18 rfl og_X11_262 rfl hC.ov rfl ?_
        refine an_if_ne (pc := 21) (tgt := 26) dX11_drawn_21 rfl (Nat.lt_trans (hb _) (by decide)) (fun h21 => ?_) (fun h21 => ?_)
        · -- 26
          refine aw_aload_n (pc := 26) (i := 0) dX11_drawn_26 rfl rfl ?_
          refine av_get (pc := 27) (x := .ref ((ad 2) 12)) dX11_drawn_27 rfl og_X11_72 rfl hI hMain.2.1 ?_
          refine av_get (pc := 30) (x := .int (nI ((σ.2.1 6) 91))) dX11_drawn_30 rfl og_X11_207 rfl hSo rfl ?_
          refine aw_sipush (pc := 33) dX11_drawn_33 sipush_400 ?_
          refine an_icmp_lt (pc := 36) (tgt := 41) dX11_drawn_36 rfl (Nat.lt_trans (hb _) (by decide)) (by decide) (fun h36 => ?_) (fun h36 => ?_)
          · -- 41
            refine aw_aload_n (pc := 41) (i := 0) dX11_drawn_41 rfl rfl ?_
            refine cVv (pc := 42) (As := []) (rest := []) dX11_drawn_42 rfl oc_X11_319 rfl rfl (Nat.le_of_ble_eq_true rfl) rfl rfl hI (Nat.le_refl _) (Nat.le_refl _) (c11_keep hE hNB hAO hJ ?_)
            · -- call
              intro κ1 m1 hm1 hm2 hJ1
              refine ⟨rfl, ?_⟩
              have hin := inC_y (a := 1) (b := 60) (by decide) (by decide) hu9 (by omega)
              refine drw_do hE hNB hAO hJ1 (by omega) hB9 (show 0 < σ.2.1 6 0 by omega) (fun κ9 h9 => ?_)
              have := kk κ9 m1 hm1 hm2 (by rw [show drawnS σ m1 (nI u) fr = drS (keepS (mI σ 0 (nI 0)) m1) (drawsG u (fr, σ.2.1 6)).2 by unfold drawnS; rw [if_pos hin, if_neg (by omega), if_pos (by omega), nI_clamp (by omega)]]; exact h9)
              rw [show drawnA (σ.2.1 6) (nI u) fr = nI (drawsG u (fr, σ.2.1 6)).1 by unfold drawnA; rw [if_pos hin, if_neg (by omega), nI_clamp (by omega)]] at this
              exact this
          · -- 39
            refine aw_iconst (pc := 39) dX11_drawn_39 iconst_0 ?_
            refine aw_iret (pc := 40) dX11_drawn_40 rfl (Nat.le_refl _) (Nat.le_refl _) ?_
            have hin := inC_y (a := 1) (b := 60) (by decide) (by decide) hu9 (by omega)
            have e0 : drawsG u (fr, σ.2.1 6) = (0, (fr, σ.2.1 6)) := by cases u with | zero => rfl | succ v => rw [drawsG, if_neg (show ¬ σ.2.1 6 91 < 400 by omega)]
            have := kk κ m hPm.1 hPm.2.2.2.1 (by rw [show drawnS σ m (nI u) fr = drS (mI σ 0 (nI 0)) (fr, σ.2.1 6) by unfold drawnS; rw [if_pos hin, if_neg (by omega), if_neg (by omega), nI_clamp (by omega), e0]]; exact J_same (hJ.mono (by omega)))
            rw [show drawnA (σ.2.1 6) (nI u) fr = nI 0 by unfold drawnA; rw [if_pos hin, if_neg (by omega), nI_clamp (by omega), e0]] at this
            exact this
        · -- 24
          refine aw_iconst (pc := 24) dX11_drawn_24 iconst_m1 ?_
          refine aw_iret (pc := 25) dX11_drawn_25 rfl (Nat.le_refl _) (Nat.le_refl _) ?_
          have hin := inC_y (a := 1) (b := 60) (by decide) (by decide) hu9 (by omega)
          have := kk κ m hPm.1 hPm.2.2.2.1 (by rw [show drawnS σ m (nI u) fr = mI σ 0 (nI 0) from by unfold drawnS; rw [if_pos hin, if_pos (show σ.2.1 6 0 = 0 from h21)]]; exact (hJ.mono (by omega)).th)
          rw [show drawnA (σ.2.1 6) (nI u) fr = -1 from by unfold drawnA; rw [if_pos hin, if_pos (show σ.2.1 6 0 = 0 from h21)]] at this
          exact this
