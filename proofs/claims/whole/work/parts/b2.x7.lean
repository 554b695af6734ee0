theorem skv_p {G : xG} {kd : Nat → Bool} {ad : Nat → Nat → Nat} {κ : Nat → kS} {n i : Nat} {xs : List Nat} {R : va_W} (hi : i < n) (h1 : 14 ≤ i) (h2 : i < 24) (hx : i ∉ xs) : SKV G (WX G.2.2.1 kd ad κ n xs ++ R) (ad i) (κ i) := (SKV.of (G := G) (R := []) (b := ad i) (κ := κ i)).sub (fun x h9 => mem_R1 x (wx_mem hi hx x (by rw [List.append_nil] at h9; rw [ck_st h1 h2]; exact h9)))
theorem row_eq {r : List Nat} {k : Nat} {u : Nat → Nat} (hk : r.length = k) (h30 : k < 2 ^ 30) (hu : ∀ i, i < k → u i = r.getD i 0) (x : Int32) : rowL (r.map nI) x = rowA (nI k) u x := by
  unfold rowL rowA
  rw [show inC (nI 0) (nI k - nI 1) x = inB k x from rfl, List.length_map, hk]
  by_cases hx : x < 0
  · rw [inB_neg hx, if_neg (fun q => absurd hx (Int32.not_lt.mpr q.1))]; rfl
  · obtain ⟨j, hj, rfl⟩ : ∃ k, k < 2 ^ 31 ∧ x = nI k := ⟨_, (i32_nat hx).2, (i32_nat hx).1⟩
    rw [inB_nI h30 hj, nI_clamp hj]
    by_cases q : j < k
    · rw [if_pos ⟨Int32.not_lt.mp hx, q⟩, decide_eq_true q, if_pos rfl, hu j q]
      have hl : j < r.length := by omega
      simp [hl]
    · rw [if_neg (fun e => q e.2), decide_eq_false q]; rfl
theorem caF_len {t : Nat → Nat} {l : Nat} : (caF t l).2.length = (caG t l).length := by
  have h2 : ∀ (V : List (List Nat)) (acc : Nat × List Nat), (∀ y ∈ V, y.length = (caG t l).length) → acc.1 = 0 ∨ acc.2.length = (caG t l).length → (V.foldl (bsS t l) acc).1 = 0 ∨ (V.foldl (bsS t l) acc).2.length = (caG t l).length := by
    intro V
    induction V with
    | nil => intro acc _ h; exact h
    | cons x V ih =>
      intro acc hV h
      rw [List.foldl_cons]
      refine ih _ (fun y hy => hV y (List.mem_cons_of_mem _ hy)) ?_
      unfold bsS
      split
      · exact Or.inr (hV x List.mem_cons_self)
      · exact h
  rcases h2 (PM (caG t l).length (caG t l)) (0, []) (fun y hy => (PM_mem _ _ rfl y hy).1) (Or.inl rfl) with q | q
  · have := caF_pos (t := t) (l := l)
    unfold caF at this
    omega
  · exact q
set_option maxHeartbeats 1000000 in
set_option maxRecDepth 20000 in
theorem x_undo {G : xG} {d : Nat} {Q : xQ} {ae : Nat → Nat} {tw ts : Nat} {kd : Nat → Bool} {ad : Nat → Nat → Nat} {κ : Nat → kS} {n : Nat} {σ : mS} {B : Nat} {R : va_W} (hE : EB ae tw ts G) (hNB : NB G) (hAO : AO G) (hJ : J ae kd ad κ n σ B) (kk : ∀ κ9 m, σ.1 23 = nI m → m ≤ 8 → J ae kd ad κ9 n (undoS σ m) B → Q (some (.int (undoA m))) (WX G.2.2.1 kd ad κ9 n [] ++ R)) : MT G MX11_undo (d + 1) 0 0 [.ref ((ad 0) 20)] (WX G.2.2.1 kd ad κ n [] ++ R) Q := by
  obtain ⟨hn, hMain, hSub, hTape, hR10, hR11, hR12, hR13, hMisc, hRef, hB5, jc, NM, sn, sd, m, pn, im, hCht, hSR, hSnt, hTok, hPast, hPm, hSds, hImg⟩ := id hJ
  have hw : WT (σ.2.1 6) := hTok.1.1.1
  obtain ⟨hb, h0, h1, h2, hRd, hP, hD, hCl, hT⟩ := id hw
  have hm8 := hPm.2.2.2.1
  have hp8 := hPm.2.2.2.2
  cases m with
  | zero =>
    refine mt_start (L := [some (.ref ((ad 0) 20)), none]) rfl (Nat.le_of_ble_eq_true rfl) rfl ?_
    refine aw_pull2 (p1 := 0) (p2 := 2) (by omega) (by omega) (by decide) ?_
    refine aw_ws (w9 := (wIb G.2.2.1 (ad 0) (κ 0) ++ (wSt G.2.2.1 (ad 2) (κ 2) ++ (WX G.2.2.1 kd ad κ n [2, 0] ++ R)))) rfl ?_
    refine aw_aload_n (pc := 0) (i := 0) dX11_undo_0 rfl rfl ?_
    refine pg_X11_26 (pc := 1) (v := .int (nI 0)) dX11_undo_1 rfl hPm.2.2.1 ?_
    refine an_if_ne (pc := 4) (tgt := 9) dX11_undo_4 rfl (by decide) (fun h4 => absurd h4 (by decide)) (fun h4 => ?_)
    refine aw_iconst (pc := 7) dX11_undo_7 iconst_m1 ?_
    refine aw_push2 (p1 := 0) (p2 := 2) (by omega) (by omega) (by decide) ?_
    refine aw_iret (pc := 8) dX11_undo_8 rfl (Nat.le_refl _) (Nat.le_refl _) ?_
    rw [upN_id _ _ rfl, upN_id _ _ rfl]
    exact kk κ 0 hPm.1 (by omega) (by rw [show undoS σ 0 = mI σ 0 (nI 0) from if_pos rfl]; exact hJ.th)
  | succ m1 =>
    obtain ⟨⟨sni, sdi, hSi⟩, hWi, hqi⟩ := hPast m1 (by omega)
    have hidx : paI (m1 + 1) pn m1 = 14 + pnP pn := by unfold paI pnP; split <;> omega
    rw [hidx] at hSi
    refine mt_start (L := [some (.ref ((ad 0) 20)), none]) rfl (Nat.le_of_ble_eq_true rfl) rfl ?_
    refine aw_pull2 (p1 := 0) (p2 := 2) (by omega) (by omega) (by decide) ?_
    refine aw_ws (w9 := (wIb G.2.2.1 (ad 0) (κ 0) ++ (wSt G.2.2.1 (ad 2) (κ 2) ++ (WX G.2.2.1 kd ad κ n [2, 0] ++ R)))) rfl ?_
    refine aw_aload_n (pc := 0) (i := 0) dX11_undo_0 rfl rfl ?_
    refine pg_X11_26 (pc := 1) (v := .int (nI (m1 + 1))) dX11_undo_1 rfl hPm.2.2.1 ?_
    refine an_if_ne (pc := 4) (tgt := 9) dX11_undo_4 rfl (by omega) (fun h4 => ?_) (fun h4 => ?_)
    · -- 9
      refine aw_aload_n (pc := 9) (i := 0) dX11_undo_9 rfl rfl ?_
      refine aw_aload_n (pc := 10) (i := 0) dX11_undo_10 rfl rfl ?_
      refine pg_X11_22 (pc := 11) (v := .int (nI pn)) dX11_undo_11 rfl hPm.2.1 ?_
      refine an_if_ne (pc := 14) (tgt := 22) dX11_undo_14 rfl (by omega) (fun h14 => ?_) (fun h14 => ?_)
      · -- 22
        rw [show pnP pn = pn - 1 from if_neg (by omega)] at hSi
        refine aw_aload_n (pc := 22) (i := 0) dX11_undo_22 rfl rfl ?_
        refine pg_X11_22 (pc := 23) (v := .int (nI pn)) dX11_undo_23 rfl hPm.2.1 ?_
        refine aw_iconst (pc := 26) dX11_undo_26 iconst_1 ?_
        refine an_sub (pc := 27) dX11_undo_27 (by omega) ?_
        refine pp_X11_22 (pc := 28) dX11_undo_28 rfl ?_
        refine aw_aload_n (pc := 31) (i := 0) dX11_undo_31 rfl rfl ?_
        refine aw_dup (pc := 32) dX11_undo_32 rfl ?_
        refine pg_X11_26 (pc := 33) (v := .int (nI (m1 + 1))) dX11_undo_33 rfl hPm.2.2.1 ?_
        refine aw_iconst (pc := 36) dX11_undo_36 iconst_1 ?_
        refine an_sub (pc := 37) dX11_undo_37 (by omega) ?_
        refine aw_top (y := (nI m1)) rfl ?_
        refine pp_X11_26 (pc := 38) dX11_undo_38 rfl ?_
        refine aw_aload_n (pc := 41) (i := 0) dX11_undo_41 rfl rfl ?_
        refine pg_X11_72 (pc := 42) (v := .ref ((ad 2) 12)) dX11_undo_42 rfl hMain.2.1 ?_
        refine aw_swap ?_
        refine pg_X11_238 (pc := 45) (v := va_rf sn) dX11_undo_45 rfl hSR.2.1 ?_
        refine aw_qstore_n (pc := 48) (i := 1) dX11_undo_48 rfl (Nat.le_of_ble_eq_true rfl) rfl ?_
        refine aw_aload_n (pc := 49) (i := 0) dX11_undo_49 rfl rfl ?_
        refine aw_swap ?_
        refine pg_X11_72 (pc := 50) (v := .ref ((ad 2) 12)) dX11_undo_50 rfl hMain.2.1 ?_
        refine aw_aload_n (pc := 53) (i := 0) dX11_undo_53 rfl rfl ?_
        refine pg_X11_18 (pc := 54) dX11_undo_54 rfl ?_
        refine aw_aload_n (pc := 57) (i := 0) dX11_undo_57 rfl rfl ?_
        refine pg_X11_22 (pc := 58) (v := .int (nI (pn - 1))) dX11_undo_58 rfl rfl ?_
        refine pl_X11_past (pc := 61) (x := some (ad (14 + (pn - 1)) 12)) dX11_undo_61 (by omega) (hMain.2.2.2.2.2.2.2.2.2.2.2.1 _ (by omega)) ?_
        refine aw_topV (y := .ref (ad (14 + (pn - 1)) 12)) rfl ?_
        refine aw_swap ?_
        refine cVv (pc := 62) (As := [.ref (ad (14 + (pn - 1)) 12)]) (rest := []) dX11_undo_62 rfl oc_X11_132 rfl rfl (Nat.le_of_ble_eq_true rfl) rfl rfl ovX7 (Nat.le_refl _) (Nat.le_refl _) (c7_copy hSR.2.2.2.2.1 ((skv_p (i := 14 + (pn - 1)) (by omega) (by omega) (by omega) (by first | (simp; done) | (simp; omega))).sub mem_app) hSi (by rw [paT_out (by omega)]; exact h0) (by rw [paT_out (by omega)]; exact h2) ?_)
        intro k1 sd1 g1
        refine ⟨rfl, ?_⟩
        refine aw_aload_n (pc := 65) (i := 0) dX11_undo_65 rfl rfl ?_
        refine aw_swap ?_
        refine pg_X11_72 (pc := 66) (v := .ref ((ad 2) 12)) dX11_undo_66 rfl hMain.2.1 ?_
        refine aw_qload_n (pc := 69) (i := 1) dX11_undo_69 rfl rfl ?_
        refine aw_swap ?_
        refine pp_X11_238 (pc := 70) dX11_undo_70 rfl ?_
        refine aw_aload_n (pc := 73) (i := 0) dX11_undo_73 rfl rfl ?_
        refine aw_swap ?_
        refine pg_X11_26 (pc := 74) (v := .int (nI m1)) dX11_undo_74 rfl rfl ?_
        refine aw_push2 (p1 := 0) (p2 := 2) (by omega) (by omega) (by decide) ?_
        refine aw_iret (pc := 77) dX11_undo_77 rfl (Nat.le_refl _) (Nat.le_refl _) ?_
        have := kk _ (m1 + 1) hPm.1 hm8 (hJ.unk ⟨hCht, hSR, hSnt, hTok, hPast, hPm, hSds, hImg⟩ (k2 := kF k1 1 (va_rf sn)) ⟨sd1, g1.1, rfl, g1.2.2⟩ (k0 := (kF (kF (κ 0) 4 (.int (nI (pn - 1)))) 5 (.int (nI m1)))) (fun k e4 e5 => by show upN (upN (κ 0).1 4 _) 5 _ k = _; rw [upN_n _ _ _ _ e5, upN_n _ _ _ _ e4]) rfl (by rw [show pnP pn = pn - 1 from if_neg (by omega)]; rfl) rfl)
        rw [show undoA (m1 + 1) = nI m1 from if_neg (by omega)] at this
        exact this
      · -- 17
        rw [show pnP pn = 7 from if_pos h14] at hSi
        refine aw_bipush (pc := 17) dX11_undo_17 bipush_7 ?_
        refine aw_goto (pc := 19) (tgt := 28) dX11_undo_19 rfl ?_
        refine pp_X11_22 (pc := 28) dX11_undo_28 rfl ?_
        refine aw_aload_n (pc := 31) (i := 0) dX11_undo_31 rfl rfl ?_
        refine aw_dup (pc := 32) dX11_undo_32 rfl ?_
        refine pg_X11_26 (pc := 33) (v := .int (nI (m1 + 1))) dX11_undo_33 rfl hPm.2.2.1 ?_
        refine aw_iconst (pc := 36) dX11_undo_36 iconst_1 ?_
        refine an_sub (pc := 37) dX11_undo_37 (by omega) ?_
        refine aw_top (y := (nI m1)) rfl ?_
        refine pp_X11_26 (pc := 38) dX11_undo_38 rfl ?_
        refine aw_aload_n (pc := 41) (i := 0) dX11_undo_41 rfl rfl ?_
        refine pg_X11_72 (pc := 42) (v := .ref ((ad 2) 12)) dX11_undo_42 rfl hMain.2.1 ?_
        refine aw_swap ?_
        refine pg_X11_238 (pc := 45) (v := va_rf sn) dX11_undo_45 rfl hSR.2.1 ?_
        refine aw_qstore_n (pc := 48) (i := 1) dX11_undo_48 rfl (Nat.le_of_ble_eq_true rfl) rfl ?_
        refine aw_aload_n (pc := 49) (i := 0) dX11_undo_49 rfl rfl ?_
        refine aw_swap ?_
        refine pg_X11_72 (pc := 50) (v := .ref ((ad 2) 12)) dX11_undo_50 rfl hMain.2.1 ?_
        refine aw_aload_n (pc := 53) (i := 0) dX11_undo_53 rfl rfl ?_
        refine pg_X11_18 (pc := 54) dX11_undo_54 rfl ?_
        refine aw_aload_n (pc := 57) (i := 0) dX11_undo_57 rfl rfl ?_
        refine pg_X11_22 (pc := 58) (v := .int (nI 7)) dX11_undo_58 rfl rfl ?_
        refine pl_X11_past (pc := 61) (x := some (ad (14 + 7) 12)) dX11_undo_61 (by omega) (hMain.2.2.2.2.2.2.2.2.2.2.2.1 _ (by omega)) ?_
        refine aw_topV (y := .ref (ad (14 + 7) 12)) rfl ?_
        refine aw_swap ?_
        refine cVv (pc := 62) (As := [.ref (ad (14 + 7) 12)]) (rest := []) dX11_undo_62 rfl oc_X11_132 rfl rfl (Nat.le_of_ble_eq_true rfl) rfl rfl ovX7 (Nat.le_refl _) (Nat.le_refl _) (c7_copy hSR.2.2.2.2.1 ((skv_p (i := 14 + 7) (by omega) (by omega) (by omega) (by first | (simp; done) | (simp; omega))).sub mem_app) hSi (by rw [paT_out (by omega)]; exact h0) (by rw [paT_out (by omega)]; exact h2) ?_)
        intro k1 sd1 g1
        refine ⟨rfl, ?_⟩
        refine aw_aload_n (pc := 65) (i := 0) dX11_undo_65 rfl rfl ?_
        refine aw_swap ?_
        refine pg_X11_72 (pc := 66) (v := .ref ((ad 2) 12)) dX11_undo_66 rfl hMain.2.1 ?_
        refine aw_qload_n (pc := 69) (i := 1) dX11_undo_69 rfl rfl ?_
        refine aw_swap ?_
        refine pp_X11_238 (pc := 70) dX11_undo_70 rfl ?_
        refine aw_aload_n (pc := 73) (i := 0) dX11_undo_73 rfl rfl ?_
        refine aw_swap ?_
        refine pg_X11_26 (pc := 74) (v := .int (nI m1)) dX11_undo_74 rfl rfl ?_
        refine aw_push2 (p1 := 0) (p2 := 2) (by omega) (by omega) (by decide) ?_
        refine aw_iret (pc := 77) dX11_undo_77 rfl (Nat.le_refl _) (Nat.le_refl _) ?_
        have := kk _ (m1 + 1) hPm.1 hm8 (hJ.unk ⟨hCht, hSR, hSnt, hTok, hPast, hPm, hSds, hImg⟩ (k2 := kF k1 1 (va_rf sn)) ⟨sd1, g1.1, rfl, g1.2.2⟩ (k0 := (kF (kF (κ 0) 4 (.int (nI 7))) 5 (.int (nI m1)))) (fun k e4 e5 => by show upN (upN (κ 0).1 4 _) 5 _ k = _; rw [upN_n _ _ _ _ e5, upN_n _ _ _ _ e4]) rfl (by rw [show pnP pn = 7 from if_pos h14]; rfl) rfl)
        rw [show undoA (m1 + 1) = nI m1 from if_neg (by omega)] at this
        exact this
    · -- 7
      exfalso; omega
theorem mem_d3 {X Y Z R : va_W} : ∀ x ∈ R, x ∈ X ++ (Y ++ (Z ++ R)) := fun _ h => List.mem_append_right _ (List.mem_append_right _ (List.mem_append_right _ h))
set_option maxHeartbeats 1000000 in
set_option maxRecDepth 20000 in
theorem x_way {G : xG} {d : Nat} {Q : xQ} {ae : Nat → Nat} {tw ts : Nat} {kd : Nat → Bool} {ad : Nat → Nat → Nat} {κ : Nat → kS} {n : Nat} {σ : mS} {B : Nat} {R : va_W} {x y z : Int32} (hE : EB ae tw ts G) (hNB : NB G) (hAO : AO G) (hJ : J ae kd ad κ n σ B) (k0 : wayR (σ.2.1 6) x y z = none → ∀ κ9, (∀ (p9 : pS) (dd9 : Int32) (sp9 hm9 : Nat), J ae kd ad κ9 n (scr (mI σ 0 (nI 0)) p9 dd9 sp9 hm9) B) → Q (some (.int (-1))) (WX G.2.2.1 kd ad κ9 n [] ++ R)) (k1 : ∀ k row, wayR (σ.2.1 6) x y z = some (k, row) → k ≤ 5 → ∀ κ9, (∀ (p9 : pS) (dd9 : Int32) (sp9 hm9 : Nat) (u9 : Nat → Nat), (∀ i, i < k → u9 i = row.getD i 0) → J ae kd ad κ9 n (sN (mI (scr (mI σ 0 (nI 0)) p9 dd9 sp9 hm9) 34 (nI k)) 31 u9) B) → Q (some (.int (nI k))) (WX G.2.2.1 kd ad κ9 n [] ++ R)) : MT G MX11_way (d + 12) 0 0 [.ref ((ad 0) 20), .int x, .int y, .int z] (WX G.2.2.1 kd ad κ n [] ++ R) Q := by
  obtain ⟨hn, hMain, hSub, hTape, hR10, hR11, hR12, hR13, hMisc, hRef, hB5, jc, NM, sn, sd, m, pn, im, hCht, hSR, hSnt, hTok, hPast, hPm, hSds, hImg⟩ := id hJ
  have hw : WT (σ.2.1 6) := hTok.1.1.1
  have hI := ov_0 (G := G) (kd := kd) (ad := ad) (κ := κ) (xs := []) (R := R) (by omega : 0 < n) (by simp)
  have hTp := ov_1 (G := G) (kd := kd) (ad := ad) (κ := κ) (xs := []) (R := R) (by omega : 1 < n) (by simp)
  have hS := st_2 (G := G) (kd := kd) (ad := ad) (n := n) (xs := []) (R := R) hSR hw (by omega) (by simp)
  have hC : CHR G (WX G.2.2.1 kd ad κ n [] ++ R) (ad jc) (σ.2.1 6) NM := (hCht.chr (ad := ad) hw (fun i hi => by simp at hi)).sub mem_R1
  obtain ⟨hb, h0, h1, h2, hRd, hP, hD, hCl, hT⟩ := id hw
  obtain ⟨sd9, hSo, hS2, hS3, hS6, hS7, hS8, hS9, hS10⟩ := id hS
  obtain ⟨n1, hTB, hlen, hflt⟩ := id hTape
  refine mt_start (L := [some (.ref ((ad 0) 20)), some (.int x), some (.int y), some (.int z)]) rfl (Nat.le_of_ble_eq_true rfl) rfl ?_
  refine aw_aload_n (pc := 0) (i := 0) dX11_way_0 rfl rfl ?_
  refine aw_iload_n (pc := 1) (i := 1) dX11_way_1 rfl rfl ?_
  refine cVi (pc := 2) (As := [.int x]) (rest := []) dX11_way_2 rfl oc_X11_135 rfl rfl (Nat.le_of_ble_eq_true rfl) rfl rfl hI (Nat.le_refl _) (Nat.le_refl _) (c11_isPerson hI hMain.2.1 hS hC (by omega) ⟨_, rfl, ?_⟩)
  refine ab_if_eq (pc := 5) (tgt := 23) dX11_way_5 rfl (fun h5 => ?_) (fun h5 => ?_)
  · -- 23
    refine aw_iconst (pc := 23) dX11_way_23 iconst_m1 ?_
    exact aw_iret (pc := 24) dX11_way_24 rfl (Nat.le_refl _) (Nat.le_refl _) (k0 (show wayR (σ.2.1 6) x y z = none from if_neg (by rw [h5]; decide)) κ (fun p9 dd9 sp9 hm9 => hJ))
  · -- 8
    obtain ⟨i, hi, rfl⟩ := inB_t (Nat.lt_of_le_of_lt h2 (by decide)) h5
    refine aw_aload_n (pc := 8) (i := 0) dX11_way_8 rfl rfl ?_
    refine aw_iload_n (pc := 9) (i := 2) dX11_way_9 rfl rfl ?_
    refine cVi (pc := 10) (As := [.int y]) (rest := []) dX11_way_10 rfl oc_X11_167 rfl rfl (Nat.le_of_ble_eq_true rfl) rfl rfl hI (Nat.le_refl _) (Nat.le_refl _) (c11_isLand hI hMain.2.1 hS hC (by omega) ⟨_, rfl, ?_⟩)
    refine ab_if_eq (pc := 13) (tgt := 23) dX11_way_13 rfl (fun h13 => ?_) (fun h13 => ?_)
    · -- 23
      refine aw_iconst (pc := 23) dX11_way_23 iconst_m1 ?_
      exact aw_iret (pc := 24) dX11_way_24 rfl (Nat.le_refl _) (Nat.le_refl _) (k0 (show wayR (σ.2.1 6) (nI i) y z = none from (if_pos h5).trans (if_neg (by rw [h13]; decide))) κ (fun p9 dd9 sp9 hm9 => hJ))
    · -- 16
      obtain ⟨j, hj, rfl⟩ := inB_t (Nat.lt_of_le_of_lt h0 (by decide)) h13
      refine aw_iload_n (pc := 16) (i := 3) dX11_way_16 rfl rfl ?_
      refine cSi (pc := 17) (As := [.int z]) (rest := []) dX11_way_17 rfl oc_X11_242 rfl rfl (Nat.le_of_ble_eq_true rfl) (Nat.le_refl _) (Nat.le_refl _) (c11_isLength ⟨_, rfl, ?_⟩)
      refine ab_if_ne (pc := 20) (tgt := 25) dX11_way_20 rfl (fun h20 => ?_) (fun h20 => ?_)
      · -- 25
        obtain ⟨u, hu1, hu2, rfl⟩ := inC_b (by decide) (by decide) h20
        have hIx := ov_0 (G := G) (kd := kd) (ad := ad) (κ := κ) (xs := [10, 7, 6]) (R := R) (by omega : 0 < n) (by simp)
        have hSx := st_2 (G := G) (kd := kd) (ad := ad) (n := n) (xs := [10, 7, 6]) (R := R) hSR hw (by omega) (by simp)
        have hCx : CHR G (WX G.2.2.1 kd ad κ n [10, 7, 6] ++ R) (ad jc) (σ.2.1 6) NM := (hCht.chr (ad := ad) hw (fun i hi => by simp at hi; omega)).sub mem_R1
        have hwr : wayR (σ.2.1 6) (nI i) (nI j) (nI u) = fewG (σ.2.1 6) i j u (sparedF (σ.2.1 6) i ||| 0) 6 0 := by unfold wayR; rw [if_pos h5, if_pos h13, if_pos h20, nI_clamp (by omega), nI_clamp (by omega), nI_clamp (by omega)]
        refine aw_pull3 (p1 := 6) (p2 := 7) (p3 := 10) (by omega) (by omega) (by omega) (by decide) (by decide) (by decide) ?_
        refine aw_ws (w9 := (wWk G.2.2.1 (ad 6) (κ 6) ++ (wRw G.2.2.1 (ad 7) 5 (κ 7) ++ (wRw G.2.2.1 (ad 10) 5 (κ 10) ++ (WX G.2.2.1 kd ad κ n [10, 7, 6] ++ R))))) rfl ?_
        refine aw_aload_n (pc := 25) (i := 0) dX11_way_25 rfl rfl ?_
        refine av_get (pc := 26) (x := .ref ((ad 6) 13)) dX11_way_26 rfl og_X11_100 rfl (hIx.sub mem_d3) hMain.2.2.2.2.2.1 ?_
        refine aw_aload_n (pc := 29) (i := 0) dX11_way_29 rfl rfl ?_
        refine av_get (pc := 30) (x := .ref ((ad 2) 12)) dX11_way_30 rfl og_X11_72 rfl (hIx.sub mem_d3) hMain.2.1 ?_
        refine aw_iload_n (pc := 33) (i := 1) dX11_way_33 rfl rfl ?_
        refine aw_iconst (pc := 34) dX11_way_34 iconst_0 ?_
        refine aw_iload_n (pc := 35) (i := 2) dX11_way_35 rfl rfl ?_
        refine aw_iload_n (pc := 36) (i := 3) dX11_way_36 rfl rfl ?_
        refine cVi (pc := 37) (As := [.ref ((ad 2) 12), .int (nI i), .int (nI 0), .int (nI j), .int (nI u)]) (rest := []) dX11_way_37 rfl oc_X11_245 rfl rfl (Nat.le_of_ble_eq_true rfl) rfl rfl ovX9 (Nat.le_refl _) (Nat.le_refl _) (c9_findWay (bs := 0) hNB (hSx.sub mem_app) (hCx.sub mem_app) hw (by omega) hSub.2.2.2.1 (by decide) (by omega) (by omega) ?_ ?_)
        · -- call
          intro e9 k6 k7 hI6
          refine ⟨_, rfl, ?_⟩
          refine ab_if_ne (pc := 40) (tgt := 45) dX11_way_40 rfl (fun h40 => absurd h40 (by decide)) (fun h40 => ?_)
          refine aw_iconst (pc := 43) dX11_way_43 iconst_m1 ?_
          refine aw_push3 (p1 := 6) (p2 := 7) (p3 := 10) (by omega) (by omega) (by omega) (by decide) (by decide) (by decide) ?_
          exact aw_iret (pc := 44) dX11_way_44 rfl (Nat.le_refl _) (Nat.le_refl _) (k0 (hwr.trans e9) _ (fun p9 dd9 sp9 hm9 => ⟨hn, hMain, ⟨hSub.1, hSub.2.1, hSub.2.2.1, hI6, hSub.2.2.2.2⟩, hTape, hR10, hR11, hR12, hR13, hMisc, hRef, hB5, jc, NM, sn, sd, m, pn, im, (jSt.up (i := 6) (by omega) (by omega) (by omega) (jSt.up (i := 7) (by omega) (by omega) (by omega) (jSt.up (i := 10) (by omega) (by omega) (by omega) ⟨hCht, hSR, hSnt, hTok, hPast, hPm, hSds, hImg⟩)))⟩))
        · -- call
          intro k9 row9 e9 k6 k7 hI6 hrw hlr hk5
          refine ⟨_, rfl, ?_⟩
          refine ab_if_ne (pc := 40) (tgt := 45) dX11_way_40 rfl (fun h40 => ?_) (fun h40 => absurd h40 (by decide))
          refine aw_aload_n (pc := 45) (i := 0) dX11_way_45 rfl rfl ?_
          refine av_get (pc := 46) (x := .ref ((ad 10) 2)) dX11_way_46 rfl og_X11_44 rfl (hIx.sub mem_d3) hMain.2.2.2.2.2.2.2.1 ?_
          refine aw_aload_n (pc := 49) (i := 0) dX11_way_49 rfl rfl ?_
          refine av_get (pc := 50) (x := .ref ((ad 6) 13)) dX11_way_50 rfl og_X11_100 rfl (hIx.sub mem_d3) hMain.2.2.2.2.2.1 ?_
          refine pg_X11_249 (pc := 53) (v := .ref ((ad 7) 2)) dX11_way_53 rfl hI6.1 ?_
          refine aw_swap3 ?_
          refine cVv (pc := 56) (As := [.ref ((ad 7) 2)]) (rest := []) dX11_way_56 rfl oc_X11_252 rfl rfl (Nat.le_of_ble_eq_true rfl) rfl rfl ovX5 (Nat.le_refl _) (Nat.le_refl _) (c5_copy (by decide) (by decide) ((RwV.of hrw (by rw [List.length_map]; omega)).sub mem_app) (by rw [List.length_map]; omega) ?_)
          intro k10 g10
          refine ⟨rfl, ?_⟩
          refine aw_aload_n (pc := 59) (i := 0) dX11_way_59 rfl rfl ?_
          refine av_get (pc := 60) (x := .ref ((ad 10) 2)) dX11_way_60 rfl og_X11_44 rfl (hIx.sub mem_d3) hMain.2.2.2.2.2.2.2.1 ?_
          refine pg_X11_255 (pc := 63) (v := .int (nI k9)) dX11_way_63 rfl (by have := g10.1; rw [List.length_map, hlr] at this; exact this) ?_
          refine aw_swap3 ?_
          refine aw_swap3 ?_
          refine aw_push3 (p1 := 6) (p2 := 7) (p3 := 10) (by omega) (by omega) (by omega) (by decide) (by decide) (by decide) ?_
          exact aw_iret (pc := 66) dX11_way_66 rfl (Nat.le_refl _) (Nat.le_refl _) (k1 k9 row9 (hwr.trans e9) hk5 _ (fun p9 dd9 sp9 hm9 u9 hu9 => ⟨hn, hMain, ⟨hSub.1, hSub.2.1, hSub.2.2.1, hI6, hSub.2.2.2.2⟩, hTape, ⟨Or.inr ⟨k9, hk5, rfl⟩, row9.map nI, g10, by rw [List.length_map]; omega, row_eq hlr (by omega) hu9⟩, hR11, hR12, hR13, hMisc, hRef, hB5, jc, NM, sn, sd, m, pn, im, (jSt.up (i := 6) (by omega) (by omega) (by omega) (jSt.up (i := 7) (by omega) (by omega) (by omega) (jSt.up (i := 10) (by omega) (by omega) (by omega) ⟨hCht, hSR, hSnt, hTok, hPast, hPm, hSds, hImg⟩)))⟩))
      · -- 23
        refine aw_iconst (pc := 23) dX11_way_23 iconst_m1 ?_
        exact aw_iret (pc := 24) dX11_way_24 rfl (Nat.le_refl _) (Nat.le_refl _) (k0 (show wayR (σ.2.1 6) (nI i) (nI j) z = none from (if_pos h5).trans ((if_pos h13).trans (if_neg (by rw [h20]; decide)))) κ (fun p9 dd9 sp9 hm9 => hJ))
set_option maxHeartbeats 1000000 in
set_option maxRecDepth 20000 in
theorem x_round {G : xG} {d : Nat} {Q : xQ} {ae : Nat → Nat} {tw ts : Nat} {kd : Nat → Bool} {ad : Nat → Nat → Nat} {κ : Nat → kS} {n : Nat} {σ : mS} {B : Nat} {R : va_W} {x : Int32} (hE : EB ae tw ts G) (hNB : NB G) (hAO : AO G) (hJ : J ae kd ad κ n σ B) (kk : ∀ κ9, (∀ (p9 : pS) (dd9 : Int32) (sp9 hm9 : Nat), J ae kd ad κ9 n (scr (mI σ 0 (nI 0)) p9 dd9 sp9 hm9) B) → Q (some (.int (roundA (σ.2.1 6) x))) (WX G.2.2.1 kd ad κ9 n [] ++ R)) : MT G MX11_round (d + 12) 0 0 [.ref ((ad 0) 20), .int x] (WX G.2.2.1 kd ad κ n [] ++ R) Q := by
  obtain ⟨hn, hMain, hSub, hTape, hR10, hR11, hR12, hR13, hMisc, hRef, hB5, jc, NM, sn, sd, m, pn, im, hCht, hSR, hSnt, hTok, hPast, hPm, hSds, hImg⟩ := id hJ
  have hw : WT (σ.2.1 6) := hTok.1.1.1
  have hI := ov_0 (G := G) (kd := kd) (ad := ad) (κ := κ) (xs := []) (R := R) (by omega : 0 < n) (by simp)
  have hTp := ov_1 (G := G) (kd := kd) (ad := ad) (κ := κ) (xs := []) (R := R) (by omega : 1 < n) (by simp)
  have hS := st_2 (G := G) (kd := kd) (ad := ad) (n := n) (xs := []) (R := R) hSR hw (by omega) (by simp)
  have hC : CHR G (WX G.2.2.1 kd ad κ n [] ++ R) (ad jc) (σ.2.1 6) NM := (hCht.chr (ad := ad) hw (fun i hi => by simp at hi)).sub mem_R1
  obtain ⟨hb, h0, h1, h2, hRd, hP, hD, hCl, hT⟩ := id hw
  obtain ⟨sd9, hSo, hS2, hS3, hS6, hS7, hS8, hS9, hS10⟩ := id hS
  obtain ⟨n1, hTB, hlen, hflt⟩ := id hTape
  refine mt_start (L := [some (.ref ((ad 0) 20)), some (.int x)]) rfl (Nat.le_of_ble_eq_true rfl) rfl ?_
  refine aw_aload_n (pc := 0) (i := 0) dX11_round_0 rfl rfl ?_
  refine aw_iload_n (pc := 1) (i := 1) dX11_round_1 rfl rfl ?_
  refine cVi (pc := 2) (As := [.int x]) (rest := []) dX11_round_2 rfl oc_X11_135 rfl rfl (Nat.le_of_ble_eq_true rfl) rfl rfl hI (Nat.le_refl _) (Nat.le_refl _) (c11_isPerson hI hMain.2.1 hS hC (by omega) ⟨_, rfl, ?_⟩)
  refine ab_if_eq (pc := 5) (tgt := 23) dX11_round_5 rfl (fun h5 => ?_) (fun h5 => ?_)
  · -- 23
    refine aw_iconst (pc := 23) dX11_round_23 iconst_m1 ?_
    refine aw_iret (pc := 24) dX11_round_24 rfl (Nat.le_refl _) (Nat.le_refl _) ?_
    have := kk κ (fun p9 dd9 sp9 hm9 => hJ)
    rw [show roundA (σ.2.1 6) x = -1 from if_neg (by rw [h5]; decide)] at this
    exact this
  · -- 8
    obtain ⟨i, hi, rfl⟩ := inB_t (Nat.lt_of_le_of_lt h2 (by decide)) h5
    have hIx := ov_0 (G := G) (kd := kd) (ad := ad) (κ := κ) (xs := [7, 6]) (R := R) (by omega : 0 < n) (by simp)
    have hSx := st_2 (G := G) (kd := kd) (ad := ad) (n := n) (xs := [7, 6]) (R := R) hSR hw (by omega) (by simp)
    have hCx : CHR G (WX G.2.2.1 kd ad κ n [7, 6] ++ R) (ad jc) (σ.2.1 6) NM := (hCht.chr (ad := ad) hw (fun i hi => by simp at hi; omega)).sub mem_R1
    refine aw_pull2 (p1 := 6) (p2 := 7) (by omega) (by omega) (by decide) ?_
    refine aw_ws (w9 := (wWk G.2.2.1 (ad 6) (κ 6) ++ (wRw G.2.2.1 (ad 7) 5 (κ 7) ++ (WX G.2.2.1 kd ad κ n [7, 6] ++ R)))) rfl ?_
    refine aw_aload_n (pc := 8) (i := 0) dX11_round_8 rfl rfl ?_
    refine av_get (pc := 9) (x := .ref ((ad 6) 13)) dX11_round_9 rfl og_X11_100 rfl (hIx.sub mem_ap2) hMain.2.2.2.2.2.1 ?_
    refine aw_aload_n (pc := 12) (i := 0) dX11_round_12 rfl rfl ?_
    refine av_get (pc := 13) (x := .ref ((ad 2) 12)) dX11_round_13 rfl og_X11_72 rfl (hIx.sub mem_ap2) hMain.2.1 ?_
    refine aw_iload_n (pc := 16) (i := 1) dX11_round_16 rfl rfl ?_
    refine cVi (pc := 17) (As := [.ref ((ad 2) 12), .int (nI i)]) (rest := []) dX11_round_17 rfl oc_X11_258 rfl rfl (Nat.le_of_ble_eq_true rfl) rfl rfl ovX9 (Nat.le_refl _) (Nat.le_refl _) (c9_round hNB hSx hCx hw (by omega) hSub.2.2.2.1 ?_)
    intro k6 k7 hI6
    refine ⟨_, rfl, ?_⟩
    refine aw_goto (pc := 20) (tgt := 24) dX11_round_20 rfl ?_
    refine aw_push2 (p1 := 6) (p2 := 7) (by omega) (by omega) (by decide) ?_
    refine aw_iret (pc := 24) dX11_round_24 rfl (Nat.le_refl _) (Nat.le_refl _) ?_
    have := kk (upN (upN κ 7 k7) 6 k6) (fun p9 dd9 sp9 hm9 => ⟨hn, hMain, ⟨hSub.1, hSub.2.1, hSub.2.2.1, hI6, hSub.2.2.2.2⟩, hTape, hR10, hR11, hR12, hR13, hMisc, hRef, hB5, jc, NM, sn, sd, m, pn, im, (jSt.up (i := 6) (by omega) (by omega) (by omega) (jSt.up (i := 7) (by omega) (by omega) (by omega) ⟨hCht, hSR, hSnt, hTok, hPast, hPm, hSds, hImg⟩))⟩)
    rw [show roundA (σ.2.1 6) (nI i) = dpI (rdK (σ.2.1 6) i 5 1 0) by unfold roundA; rw [if_pos h5, nI_clamp (by omega)]] at this
    exact this
set_option maxHeartbeats 1000000 in
set_option maxRecDepth 20000 in
theorem x_caravan {G : xG} {d : Nat} {Q : xQ} {ae : Nat → Nat} {tw ts : Nat} {kd : Nat → Bool} {ad : Nat → Nat → Nat} {κ : Nat → kS} {n : Nat} {σ : mS} {B : Nat} {R : va_W} {x : Int32} (hE : EB ae tw ts G) (hNB : NB G) (hAO : AO G) (hJ : J ae kd ad κ n σ B) (k0 : inB (σ.2.1 6 0) x = false → ∀ κ9, J ae kd ad κ9 n (mI σ 0 (nI 0)) B → Q (some (.int (-1))) (WX G.2.2.1 kd ad κ9 n [] ++ R)) (k1 : ∀ l, l < σ.2.1 6 0 → x = nI l → ∀ κ9, (∀ o9 bf9 cr9 : Nat → Nat, (∀ k, k < (caG (σ.2.1 6) l).length → cr9 k = gt (caF (σ.2.1 6) l).2 k) → J ae kd ad κ9 n (mI (cvS (mI σ 0 (nI 0)) (σ.2.1 6) bf9 o9 cr9) 41 (nI (caG (σ.2.1 6) l).length)) B) → Q (some (.int (dpI (caF (σ.2.1 6) l).1))) (WX G.2.2.1 kd ad κ9 n [] ++ R)) : MT G MX11_caravan (d + 12) 0 0 [.ref ((ad 0) 20), .int x] (WX G.2.2.1 kd ad κ n [] ++ R) Q := by
  obtain ⟨hn, hMain, hSub, hTape, hR10, hR11, hR12, hR13, hMisc, hRef, hB5, jc, NM, sn, sd, m, pn, im, hCht, hSR, hSnt, hTok, hPast, hPm, hSds, hImg⟩ := id hJ
  have hw : WT (σ.2.1 6) := hTok.1.1.1
  have hI := ov_0 (G := G) (kd := kd) (ad := ad) (κ := κ) (xs := []) (R := R) (by omega : 0 < n) (by simp)
  have hTp := ov_1 (G := G) (kd := kd) (ad := ad) (κ := κ) (xs := []) (R := R) (by omega : 1 < n) (by simp)
  have hS := st_2 (G := G) (kd := kd) (ad := ad) (n := n) (xs := []) (R := R) hSR hw (by omega) (by simp)
  have hC : CHR G (WX G.2.2.1 kd ad κ n [] ++ R) (ad jc) (σ.2.1 6) NM := (hCht.chr (ad := ad) hw (fun i hi => by simp at hi)).sub mem_R1
  obtain ⟨hb, h0, h1, h2, hRd, hP, hD, hCl, hT⟩ := id hw
  obtain ⟨sd9, hSo, hS2, hS3, hS6, hS7, hS8, hS9, hS10⟩ := id hS
  obtain ⟨n1, hTB, hlen, hflt⟩ := id hTape
  refine mt_start (L := [some (.ref ((ad 0) 20)), some (.int x), none]) rfl (Nat.le_of_ble_eq_true rfl) rfl ?_
  refine aw_aload_n (pc := 0) (i := 0) dX11_caravan_0 rfl rfl ?_
  refine aw_iload_n (pc := 1) (i := 1) dX11_caravan_1 rfl rfl ?_
  refine cVi (pc := 2) (As := [.int x]) (rest := []) dX11_caravan_2 rfl oc_X11_167 rfl rfl (Nat.le_of_ble_eq_true rfl) rfl rfl hI (Nat.le_refl _) (Nat.le_refl _) (c11_isLand hI hMain.2.1 hS hC (by omega) ⟨_, rfl, ?_⟩)
  refine ab_if_ne (pc := 5) (tgt := 10) dX11_caravan_5 rfl (fun h5 => ?_) (fun h5 => ?_)
  · -- 10
    obtain ⟨l, hl, rfl⟩ := inB_t (Nat.lt_of_le_of_lt h0 (by decide)) h5
    have hIx := ov_0 (G := G) (kd := kd) (ad := ad) (κ := κ) (xs := [12, 9, 8]) (R := R) (by omega : 0 < n) (by simp)
    have hSx := st_2 (G := G) (kd := kd) (ad := ad) (n := n) (xs := [12, 9, 8]) (R := R) hSR hw (by omega) (by simp)
    have hCx : CHR G (WX G.2.2.1 kd ad κ n [12, 9, 8] ++ R) (ad jc) (σ.2.1 6) NM := (hCht.chr (ad := ad) hw (fun i hi => by simp at hi; omega)).sub mem_R1
    obtain ⟨b0, hb0, hRb⟩ := hSub.2.2.2.2.2
    refine aw_pull3 (p1 := 8) (p2 := 9) (p3 := 12) (by omega) (by omega) (by omega) (by decide) (by decide) (by decide) ?_
    refine aw_ws (w9 := (wCv G.2.2.1 (ad 8) (κ 8) ++ (wRw G.2.2.1 (ad 9) 6 (κ 9) ++ (wRw G.2.2.1 (ad 12) 6 (κ 12) ++ (WX G.2.2.1 kd ad κ n [12, 9, 8] ++ R))))) rfl ?_
    refine aw_aload_n (pc := 10) (i := 0) dX11_caravan_10 rfl rfl ?_
    refine av_get (pc := 11) (x := .ref ((ad 8) 8)) dX11_caravan_11 rfl og_X11_109 rfl (hIx.sub mem_d3) hMain.2.2.2.2.2.2.1 ?_
    refine aw_aload_n (pc := 14) (i := 0) dX11_caravan_14 rfl rfl ?_
    refine av_get (pc := 15) (x := .ref ((ad 2) 12)) dX11_caravan_15 rfl og_X11_72 rfl (hIx.sub mem_d3) hMain.2.1 ?_
    refine aw_iload_n (pc := 18) (i := 1) dX11_caravan_18 rfl rfl ?_
    refine cVi (pc := 19) (As := [.ref ((ad 2) 12), .int (nI l)]) (rest := []) dX11_caravan_19 rfl oc_X11_280 rfl rfl (Nat.le_of_ble_eq_true rfl) rfl rfl ovX2 (Nat.le_refl _) (Nat.le_refl _) (c2_longest hNB (hSx.sub mem_app) (hCx.sub mem_app) hw hl hb0 hRb hSub.2.2.2.2.1 ?_)
    intro k8 k9 g7 grw glen g1441 gpos
    refine ⟨_, rfl, ?_⟩
    refine aw_istore_n (pc := 22) (i := 2) dX11_caravan_22 rfl (Nat.le_of_ble_eq_true rfl) rfl ?_
    refine aw_aload_n (pc := 23) (i := 0) dX11_caravan_23 rfl rfl ?_
    refine av_get (pc := 24) (x := .ref ((ad 12) 2)) dX11_caravan_24 rfl og_X11_51 rfl (hIx.sub mem_d3) hMain.2.2.2.2.2.2.2.2.2.1 ?_
    refine aw_aload_n (pc := 27) (i := 0) dX11_caravan_27 rfl rfl ?_
    refine av_get (pc := 28) (x := .ref ((ad 8) 8)) dX11_caravan_28 rfl og_X11_109 rfl (hIx.sub mem_d3) hMain.2.2.2.2.2.2.1 ?_
    refine pg_X11_283 (pc := 31) (v := .ref ((ad 9) 2)) dX11_caravan_31 rfl g7 ?_
    refine aw_swap3 ?_
    refine cVv (pc := 34) (As := [.ref ((ad 9) 2)]) (rest := []) dX11_caravan_34 rfl oc_X11_252 rfl rfl (Nat.le_of_ble_eq_true rfl) rfl rfl ovX5 (Nat.le_refl _) (Nat.le_refl _) (c5_copy (by decide) (by decide) ((RwV.of grw (by rw [List.length_map]; omega)).sub mem_app) (by rw [List.length_map]; omega) ?_)
    intro k12 g12
    refine ⟨rfl, ?_⟩
    refine aw_iload_n (pc := 37) (i := 2) dX11_caravan_37 rfl rfl ?_
    refine aw_swap3 ?_
    refine aw_swap3 ?_
    refine aw_push3 (p1 := 8) (p2 := 9) (p3 := 12) (by omega) (by omega) (by omega) (by decide) (by decide) (by decide) ?_
    refine aw_iret (pc := 38) dX11_caravan_38 rfl (Nat.le_refl _) (Nat.le_refl _) ?_
    have hlen : (caF (σ.2.1 6) l).2.length = (caG (σ.2.1 6) l).length := caF_len
    exact k1 l hl rfl _ (fun o9 bf9 cr9 hcr => ⟨hn, hMain, ⟨hSub.1, hSub.2.1, hSub.2.2.1, hSub.2.2.2.1, g7, _, glen, grw⟩, hTape, hR10, hR11, ⟨Or.inr ⟨_, by omega, rfl⟩, (caF (σ.2.1 6) l).2.map nI, g12, by rw [List.length_map]; omega, row_eq hlen (by omega) hcr⟩, hR13, hMisc, hRef, hB5, jc, NM, sn, sd, m, pn, im, (jSt.up (i := 8) (by omega) (by omega) (by omega) (jSt.up (i := 9) (by omega) (by omega) (by omega) (jSt.up (i := 12) (by omega) (by omega) (by omega) ⟨hCht, hSR, hSnt, hTok, hPast, hPm, hSds, hImg⟩)))⟩)
  · -- 8
    refine aw_iconst (pc := 8) dX11_caravan_8 iconst_m1 ?_
    exact aw_iret (pc := 9) dX11_caravan_9 rfl (Nat.le_refl _) (Nat.le_refl _) (k0 h5 κ hJ.th)
