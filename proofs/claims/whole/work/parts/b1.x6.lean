theorem inC_b {a b : Nat} {x : Int32} (ha : a < 2 ^ 31) (hb : b < 2 ^ 31) (h : inC (nI a) (nI b) x = true) : ∃ k, a ≤ k ∧ k ≤ b ∧ x = nI k := by
  have hx : ¬ x < 0 := fun q => by rw [inC_neg ha q] at h; cases h
  have e := i32_nat hx
  refine ⟨x.toNatClampNeg, ?_, ?_, e.1⟩
  · rw [e.1, inC_nat ha hb e.2] at h
    exact of_decide_eq_true (by revert h; cases decide (a ≤ x.toNatClampNeg) <;> simp)
  · rw [e.1, inC_nat ha hb e.2] at h
    exact of_decide_eq_true (by revert h; cases decide (a ≤ x.toNatClampNeg) <;> simp)
theorem inC_f {a b : Nat} {k : Nat} (ha : a < 2 ^ 31) (hb : b < 2 ^ 31) (hk : k < 2 ^ 31) (h : ¬ (a ≤ k ∧ k ≤ b)) : inC (nI a) (nI b) (nI k) = false := by
  rw [inC_nat ha hb hk]
  by_cases q : a ≤ k
  · rw [decide_eq_true q, decide_eq_false (fun e => h ⟨q, e⟩)]; rfl
  · rw [decide_eq_false q]; rfl
theorem inC_y {a b : Nat} {k : Nat} (ha : a < 2 ^ 31) (hb : b < 2 ^ 31) (hk : k < 2 ^ 31) (h : a ≤ k ∧ k ≤ b) : inC (nI a) (nI b) (nI k) = true := by
  rw [inC_nat ha hb hk, decide_eq_true h.1, decide_eq_true h.2]; rfl
set_option maxHeartbeats 1000000 in
set_option maxRecDepth 20000 in
theorem x_lend {G : xG} {d : Nat} {Q : xQ} {ae : Nat → Nat} {tw ts : Nat} {kd : Nat → Bool} {ad : Nat → Nat → Nat} {κ : Nat → kS} {n : Nat} {σ : mS} {B : Nat} {R : va_W} {x y z : Int32} (hE : EB ae tw ts G) (hNB : NB G) (hAO : AO G) (hJ : J ae kd ad κ n σ B) (hB9 : B + 99 ≤ 2 ^ 29) (kk : ∀ κ9 m, σ.1 23 = nI m → m ≤ 8 → J ae kd ad κ9 n (lendS σ m x y z) (B + 99) → Q (some (.int (lendA (σ.2.1 6) x y z))) (WX G.2.2.1 kd ad κ9 n [] ++ R)) : MT G MX11_lend (d + 5) 0 0 [.ref ((ad 0) 20), .int x, .int y, .int z] (WX G.2.2.1 kd ad κ n [] ++ R) Q := by
  obtain ⟨hn, hMain, hSub, hTape, hR10, hR11, hR12, hR13, hMisc, hRef, hB5, jc, NM, sn, sd, m, pn, im, hCht, hSR, hSnt, hTok, hPast, hPm, hSds, hImg⟩ := id hJ
  have hw : WT (σ.2.1 6) := hTok.1.1.1
  have hI := ov_0 (G := G) (kd := kd) (ad := ad) (κ := κ) (xs := []) (R := R) (by omega : 0 < n) (by simp)
  have hTp := ov_1 (G := G) (kd := kd) (ad := ad) (κ := κ) (xs := []) (R := R) (by omega : 1 < n) (by simp)
  have hS := st_2 (G := G) (kd := kd) (ad := ad) (n := n) (xs := []) (R := R) hSR hw (by omega) (by simp)
  have hC : CHR G (WX G.2.2.1 kd ad κ n [] ++ R) (ad jc) (σ.2.1 6) NM := (hCht.chr (ad := ad) hw (fun i hi => by simp at hi)).sub mem_R1
  obtain ⟨hb, h0, h1, h2, hRd, hP, hD, hCl, hT⟩ := id hw
  obtain ⟨sd9, hSo, hS2, hS3, hS6, hS7, hS8, hS9, hS10⟩ := id hS
  obtain ⟨n1, hTB, hlen, hflt⟩ := id hTape
  by_cases hz0 : z < 0
  · have hin : inC (nI 1) (nI 99) z = false := inC_neg (by decide) hz0
    refine mt_start (L := [some (.ref ((ad 0) 20)), some (.int x), some (.int y), some (.int z)]) rfl (Nat.le_of_ble_eq_true rfl) rfl ?_
    refine aw_aload_n (pc := 0) (i := 0) dX11_lend_0 rfl rfl ?_
    refine aw_iload_n (pc := 1) (i := 1) dX11_lend_1 rfl rfl ?_
    refine cVi (pc := 2) (As := [.int x]) (rest := []) dX11_lend_2 rfl oc_X11_167 rfl rfl (Nat.le_of_ble_eq_true rfl) rfl rfl hI (Nat.le_refl _) (Nat.le_refl _) (c11_isLand hI hMain.2.1 hS hC (by omega) ⟨_, rfl, ?_⟩)
    refine ab_if_eq (pc := 5) (tgt := 27) dX11_lend_5 rfl (fun h5 => ?_) (fun h5 => ?_)
    · -- 27
      refine aw_iconst (pc := 27) dX11_lend_27 iconst_m1 ?_
      refine aw_iret (pc := 28) dX11_lend_28 rfl (Nat.le_refl _) (Nat.le_refl _) ?_
      have hg : ¬ (inB (σ.2.1 6 0) x && inB (σ.2.1 6 0) y && inC (nI 1) (nI 99) z) = true := by rw [h5, Bool.false_and, Bool.false_and]; decide
      have := kk κ m hPm.1 hPm.2.2.2.1 (by rw [show lendS σ m x y z = mI σ 0 (nI 0) from if_neg hg]; exact (hJ.mono (by omega)).th)
      rw [show lendA (σ.2.1 6) x y z = -1 from if_neg hg] at this
      exact this
    · -- 8
      obtain ⟨i, hi, rfl⟩ := inB_t (Nat.lt_of_le_of_lt h0 (by decide)) h5
      refine aw_aload_n (pc := 8) (i := 0) dX11_lend_8 rfl rfl ?_
      refine aw_iload_n (pc := 9) (i := 2) dX11_lend_9 rfl rfl ?_
      refine cVi (pc := 10) (As := [.int y]) (rest := []) dX11_lend_10 rfl oc_X11_167 rfl rfl (Nat.le_of_ble_eq_true rfl) rfl rfl hI (Nat.le_refl _) (Nat.le_refl _) (c11_isLand hI hMain.2.1 hS hC (by omega) ⟨_, rfl, ?_⟩)
      refine ab_if_eq (pc := 13) (tgt := 27) dX11_lend_13 rfl (fun h13 => ?_) (fun h13 => ?_)
      · -- 27
        refine aw_iconst (pc := 27) dX11_lend_27 iconst_m1 ?_
        refine aw_iret (pc := 28) dX11_lend_28 rfl (Nat.le_refl _) (Nat.le_refl _) ?_
        have hg : ¬ (inB (σ.2.1 6 0) (nI i) && inB (σ.2.1 6 0) y && inC (nI 1) (nI 99) z) = true := by rw [h5, h13, Bool.and_false, Bool.false_and]; decide
        have := kk κ m hPm.1 hPm.2.2.2.1 (by rw [show lendS σ m (nI i) y z = mI σ 0 (nI 0) from if_neg hg]; exact (hJ.mono (by omega)).th)
        rw [show lendA (σ.2.1 6) (nI i) y z = -1 from if_neg hg] at this
        exact this
      · -- 16
        obtain ⟨j, hj, rfl⟩ := inB_t (Nat.lt_of_le_of_lt h0 (by decide)) h13
        refine aw_iload_n (pc := 16) (i := 3) dX11_lend_16 rfl rfl ?_
        refine aw_iconst (pc := 17) dX11_lend_17 iconst_1 ?_
        refine aw_icmp_lt (pc := 18) (tgt := 27) dX11_lend_18 rfl (fun h18 => ?_) (fun h18 => ?_)
        · -- 27
          refine aw_iconst (pc := 27) dX11_lend_27 iconst_m1 ?_
          refine aw_iret (pc := 28) dX11_lend_28 rfl (Nat.le_refl _) (Nat.le_refl _) ?_
          have hg : ¬ (inB (σ.2.1 6 0) (nI i) && inB (σ.2.1 6 0) (nI j) && inC (nI 1) (nI 99) z) = true := by rw [h5, h13, hin]; decide
          have := kk κ m hPm.1 hPm.2.2.2.1 (by rw [show lendS σ m (nI i) (nI j) z = mI σ 0 (nI 0) from if_neg hg]; exact (hJ.mono (by omega)).th)
          rw [show lendA (σ.2.1 6) (nI i) (nI j) z = -1 from if_neg hg] at this
          exact this
        · -- 21
          exact absurd (Int32.lt_trans hz0 (by decide)) h18
  · obtain ⟨u, hu9, rfl⟩ : ∃ k, k < 2 ^ 31 ∧ z = nI k := ⟨_, (i32_nat hz0).2, (i32_nat hz0).1⟩
    refine mt_start (L := [some (.ref ((ad 0) 20)), some (.int x), some (.int y), some (.int (nI u))]) rfl (Nat.le_of_ble_eq_true rfl) rfl ?_
    refine aw_aload_n (pc := 0) (i := 0) dX11_lend_0 rfl rfl ?_
    refine aw_iload_n (pc := 1) (i := 1) dX11_lend_1 rfl rfl ?_
    refine cVi (pc := 2) (As := [.int x]) (rest := []) dX11_lend_2 rfl oc_X11_167 rfl rfl (Nat.le_of_ble_eq_true rfl) rfl rfl hI (Nat.le_refl _) (Nat.le_refl _) (c11_isLand hI hMain.2.1 hS hC (by omega) ⟨_, rfl, ?_⟩)
    refine ab_if_eq (pc := 5) (tgt := 27) dX11_lend_5 rfl (fun h5 => ?_) (fun h5 => ?_)
    · -- 27
      refine aw_iconst (pc := 27) dX11_lend_27 iconst_m1 ?_
      refine aw_iret (pc := 28) dX11_lend_28 rfl (Nat.le_refl _) (Nat.le_refl _) ?_
      have hg : ¬ (inB (σ.2.1 6 0) x && inB (σ.2.1 6 0) y && inC (nI 1) (nI 99) (nI u)) = true := by rw [h5, Bool.false_and, Bool.false_and]; decide
      have := kk κ m hPm.1 hPm.2.2.2.1 (by rw [show lendS σ m x y (nI u) = mI σ 0 (nI 0) from if_neg hg]; exact (hJ.mono (by omega)).th)
      rw [show lendA (σ.2.1 6) x y (nI u) = -1 from if_neg hg] at this
      exact this
    · -- 8
      obtain ⟨i, hi, rfl⟩ := inB_t (Nat.lt_of_le_of_lt h0 (by decide)) h5
      refine aw_aload_n (pc := 8) (i := 0) dX11_lend_8 rfl rfl ?_
      refine aw_iload_n (pc := 9) (i := 2) dX11_lend_9 rfl rfl ?_
      refine cVi (pc := 10) (As := [.int y]) (rest := []) dX11_lend_10 rfl oc_X11_167 rfl rfl (Nat.le_of_ble_eq_true rfl) rfl rfl hI (Nat.le_refl _) (Nat.le_refl _) (c11_isLand hI hMain.2.1 hS hC (by omega) ⟨_, rfl, ?_⟩)
      refine ab_if_eq (pc := 13) (tgt := 27) dX11_lend_13 rfl (fun h13 => ?_) (fun h13 => ?_)
      · -- 27
        refine aw_iconst (pc := 27) dX11_lend_27 iconst_m1 ?_
        refine aw_iret (pc := 28) dX11_lend_28 rfl (Nat.le_refl _) (Nat.le_refl _) ?_
        have hg : ¬ (inB (σ.2.1 6 0) (nI i) && inB (σ.2.1 6 0) y && inC (nI 1) (nI 99) (nI u)) = true := by rw [h5, h13, Bool.and_false, Bool.false_and]; decide
        have := kk κ m hPm.1 hPm.2.2.2.1 (by rw [show lendS σ m (nI i) y (nI u) = mI σ 0 (nI 0) from if_neg hg]; exact (hJ.mono (by omega)).th)
        rw [show lendA (σ.2.1 6) (nI i) y (nI u) = -1 from if_neg hg] at this
        exact this
      · -- 16
        obtain ⟨j, hj, rfl⟩ := inB_t (Nat.lt_of_le_of_lt h0 (by decide)) h13
        refine aw_iload_n (pc := 16) (i := 3) dX11_lend_16 rfl rfl ?_
        refine aw_iconst (pc := 17) dX11_lend_17 iconst_1 ?_
        refine an_icmp_lt (pc := 18) (tgt := 27) dX11_lend_18 rfl (by omega) (by decide) (fun h18 => ?_) (fun h18 => ?_)
        · -- 27
          refine aw_iconst (pc := 27) dX11_lend_27 iconst_m1 ?_
          refine aw_iret (pc := 28) dX11_lend_28 rfl (Nat.le_refl _) (Nat.le_refl _) ?_
          have hg : ¬ (inB (σ.2.1 6 0) (nI i) && inB (σ.2.1 6 0) (nI j) && inC (nI 1) (nI 99) (nI u)) = true := by rw [h5, h13, inC_f (by decide) (by decide) hu9 (by omega)]; decide
          have := kk κ m hPm.1 hPm.2.2.2.1 (by rw [show lendS σ m (nI i) (nI j) (nI u) = mI σ 0 (nI 0) from if_neg hg]; exact (hJ.mono (by omega)).th)
          rw [show lendA (σ.2.1 6) (nI i) (nI j) (nI u) = -1 from if_neg hg] at this
          exact this
        · -- 21
          refine aw_iload_n (pc := 21) (i := 3) dX11_lend_21 rfl rfl ?_
          refine aw_bipush (pc := 22) dX11_lend_22 bipush_99 ?_
          refine an_icmp_le (pc := 24) (tgt := 29) dX11_lend_24 rfl (by omega) (by decide) (fun h24 => ?_) (fun h24 => ?_)
          · -- 29
            refine aw_aload_n (pc := 29) (i := 0) dX11_lend_29 rfl rfl ?_
            refine aw_iconst (pc := 30) dX11_lend_30 iconst_5 ?_
            refine aw_iload_n (pc := 31) (i := 1) dX11_lend_31 rfl rfl ?_
            refine aw_iload_n (pc := 32) (i := 2) dX11_lend_32 rfl rfl ?_
            refine aw_iload_n (pc := 33) (i := 3) dX11_lend_33 rfl rfl ?_
            refine cVi (pc := 34) (As := [.int (nI 5), .int (nI i), .int (nI j), .int (nI u)]) (rest := []) dX11_lend_34 rfl oc_X11_228 rfl rfl (Nat.le_of_ble_eq_true rfl) rfl rfl hI (Nat.le_refl _) (Nat.le_refl _) (c11_attempt (k := 5) (x := i) (y := j) (z := u) hE hNB hAO hJ ⟨by decide, by omega, by omega, by omega, by omega, by omega⟩ ⟨fun _ => rfl, fun _ => rfl, fun _ => rfl, fun h => absurd h (by decide)⟩ hB9 ?_ ?_)
            · -- call
              intro hpos
              refine ⟨_, rfl, ?_⟩
              have hg : (inB (σ.2.1 6 0) (nI i) && inB (σ.2.1 6 0) (nI j) && inC (nI 1) (nI 99) (nI u)) = true := by rw [h5, h13, inC_y (by decide) (by decide) hu9 (by omega)]; rfl
              exact aw_iret (pc := 37) dX11_lend_37 rfl (Nat.le_refl _) (Nat.le_refl _) (by
                have := kk κ m hPm.1 hPm.2.2.2.1 (by rw [show lendS σ m (nI i) (nI j) (nI u) = mI σ 0 (nI 0) by unfold lendS; rw [if_pos hg, nI_clamp (by omega), nI_clamp (by omega), nI_clamp (by omega), if_neg (by have : 0 < whyLendF (σ.2.1 6) i j u := hpos; omega)]]; exact (hJ.mono (by omega)).th)
                rw [show lendA (σ.2.1 6) (nI i) (nI j) (nI u) = nI (doesN (σ.2.1 6) 5 i j u) by unfold lendA; rw [if_pos hg, nI_clamp (by omega), nI_clamp (by omega), nI_clamp (by omega)]; rfl] at this
                exact this)
            · -- call
              intro hz κ9 m9 hm9 hm9b hJ9
              refine ⟨_, rfl, ?_⟩
              have hg : (inB (σ.2.1 6 0) (nI i) && inB (σ.2.1 6 0) (nI j) && inC (nI 1) (nI 99) (nI u)) = true := by rw [h5, h13, inC_y (by decide) (by decide) hu9 (by omega)]; rfl
              exact aw_iret (pc := 37) dX11_lend_37 rfl (Nat.le_refl _) (Nat.le_refl _) (by
                have := kk κ9 m9 hm9 hm9b (by rw [show lendS σ m9 (nI i) (nI j) (nI u) = sN (keepS (mI σ 0 (nI 0)) m9) 6 (doesT (σ.2.1 6) 5 i j u) by unfold lendS; rw [if_pos hg, nI_clamp (by omega), nI_clamp (by omega), nI_clamp (by omega), if_pos (show whyLendF (σ.2.1 6) i j u = 0 from hz)]; rfl]; exact hJ9)
                rw [show lendA (σ.2.1 6) (nI i) (nI j) (nI u) = nI 0 by unfold lendA; rw [if_pos hg, nI_clamp (by omega), nI_clamp (by omega), nI_clamp (by omega), show whyLendF (σ.2.1 6) i j u = 0 from hz]] at this
                exact this)
          · -- 27
            refine aw_iconst (pc := 27) dX11_lend_27 iconst_m1 ?_
            refine aw_iret (pc := 28) dX11_lend_28 rfl (Nat.le_refl _) (Nat.le_refl _) ?_
            have hg : ¬ (inB (σ.2.1 6 0) (nI i) && inB (σ.2.1 6 0) (nI j) && inC (nI 1) (nI 99) (nI u)) = true := by rw [h5, h13, inC_f (by decide) (by decide) hu9 (by omega)]; decide
            have := kk κ m hPm.1 hPm.2.2.2.1 (by rw [show lendS σ m (nI i) (nI j) (nI u) = mI σ 0 (nI 0) from if_neg hg]; exact (hJ.mono (by omega)).th)
            rw [show lendA (σ.2.1 6) (nI i) (nI j) (nI u) = -1 from if_neg hg] at this
            exact this
theorem DK_day {t : Nat → Nat} {b : Nat} (H : WV t b) (hb : 500 ≤ b) (h9 : t 91 < 400) : dayF t 91 = t 91 + 1 := by
  obtain ⟨hb9, h0, h1, h2, hR, hP, hD, hC, hT⟩ := id H.1.1
  exact dayF_91 ⟨hb9, h2, fun q hq => by have := hP q hq; omega⟩
theorem goG_min : ∀ (n : Nat) {t : Nat → Nat} {b : Nat}, 500 ≤ b → WV t b → (goG n t).1 = min n (400 - t 91) ∧ (goG (min n (400 - t 91)) t).2 = (goG n t).2 := by
  intro n
  induction n with
  | zero => intro t b _ _; rw [Nat.zero_min]; exact ⟨rfl, rfl⟩
  | succ n ih =>
    intro t b hb H
    by_cases h9 : t 91 < 400
    · obtain ⟨i1, i2⟩ := ih hb (WV_day H hb h9)
      rw [DK_day H hb h9] at i1 i2
      have e : min (n + 1) (400 - t 91) = min n (400 - (t 91 + 1)) + 1 := by omega
      rw [e, goG, goG, if_pos h9, if_pos h9]
      exact ⟨by show (goG n (dayF t)).1 + 1 = _; rw [i1], i2⟩
    · have e : min (n + 1) (400 - t 91) = 0 := by omega
      have e2 : goG (n + 1) t = (0, t) := by rw [goG, if_neg h9]
      rw [e, e2]
      exact ⟨rfl, rfl⟩
set_option maxHeartbeats 1000000 in
set_option maxRecDepth 20000 in
theorem x_days {G : xG} {d : Nat} {Q : xQ} {ae : Nat → Nat} {tw ts : Nat} {kd : Nat → Bool} {ad : Nat → Nat → Nat} {κ : Nat → kS} {n : Nat} {σ : mS} {B : Nat} {R : va_W} {x : Int32} (hE : EB ae tw ts G) (hNB : NB G) (hAO : AO G) (hJ : J ae kd ad κ n σ B) (hB9 : B + 99 ≤ 2 ^ 29) (kk : ∀ κ9 m, σ.1 23 = nI m → m ≤ 8 → J ae kd ad κ9 n (daysS σ m x) (B + 99) → Q (some (.int (daysA (σ.2.1 6) x))) (WX G.2.2.1 kd ad κ9 n [] ++ R)) : MT G MX11_days (d + 5) 0 0 [.ref ((ad 0) 20), .int x] (WX G.2.2.1 kd ad κ n [] ++ R) Q := by
  obtain ⟨hn, hMain, hSub, hTape, hR10, hR11, hR12, hR13, hMisc, hRef, hB5, jc, NM, sn, sd, m, pn, im, hCht, hSR, hSnt, hTok, hPast, hPm, hSds, hImg⟩ := id hJ
  have hw : WT (σ.2.1 6) := hTok.1.1.1
  have hI := ov_0 (G := G) (kd := kd) (ad := ad) (κ := κ) (xs := []) (R := R) (by omega : 0 < n) (by simp)
  have hTp := ov_1 (G := G) (kd := kd) (ad := ad) (κ := κ) (xs := []) (R := R) (by omega : 1 < n) (by simp)
  have hS := st_2 (G := G) (kd := kd) (ad := ad) (n := n) (xs := []) (R := R) hSR hw (by omega) (by simp)
  have hC : CHR G (WX G.2.2.1 kd ad κ n [] ++ R) (ad jc) (σ.2.1 6) NM := (hCht.chr (ad := ad) hw (fun i hi => by simp at hi)).sub mem_R1
  obtain ⟨hb, h0, h1, h2, hRd, hP, hD, hCl, hT⟩ := id hw
  obtain ⟨sd9, hSo, hS2, hS3, hS6, hS7, hS8, hS9, hS10⟩ := id hS
  obtain ⟨n1, hTB, hlen, hflt⟩ := id hTape
  by_cases hx : x < 0
  · have hin : inC (nI 1) (nI 60) x = false := inC_neg (by decide) hx
    refine mt_start (L := [some (.ref ((ad 0) 20)), some (.int x), none]) rfl (Nat.le_of_ble_eq_true rfl) rfl ?_
    refine aw_iload_n (pc := 0) (i := 1) dX11_days_0 rfl rfl ?_
    refine aw_iconst (pc := 1) dX11_days_1 iconst_1 ?_
    refine aw_icmp_lt (pc := 2) (tgt := 11) dX11_days_2 rfl (fun h2 => ?_) (fun h2 => ?_)
    · -- 11
      refine aw_iconst (pc := 11) dX11_days_11 iconst_m1 ?_
      refine aw_iret (pc := 12) dX11_days_12 rfl (Nat.le_refl _) (Nat.le_refl _) ?_
      have hg : ¬ inC (nI 1) (nI 60) x = true := by rw [hin]; decide
      have := kk κ m hPm.1 hPm.2.2.2.1 (by rw [show daysS σ m x = mI σ 0 (nI 0) from if_neg hg]; exact (hJ.mono (by omega)).th)
      rw [show daysA (σ.2.1 6) x = -1 from if_neg hg] at this
      exact this
    · -- 5
      exact absurd (Int32.lt_trans hx (by decide)) h2
  · obtain ⟨u, hu9, rfl⟩ : ∃ k, k < 2 ^ 31 ∧ x = nI k := ⟨_, (i32_nat hx).2, (i32_nat hx).1⟩
    have hgm := goG_min u (by omega) hTok.1
    refine mt_start (L := [some (.ref ((ad 0) 20)), some (.int (nI u)), none]) rfl (Nat.le_of_ble_eq_true rfl) rfl ?_
    refine aw_iload_n (pc := 0) (i := 1) dX11_days_0 rfl rfl ?_
    refine aw_iconst (pc := 1) dX11_days_1 iconst_1 ?_
    refine an_icmp_lt (pc := 2) (tgt := 11) dX11_days_2 rfl (by omega) (by decide) (fun h2 => ?_) (fun h2 => ?_)
    · -- 11
      refine aw_iconst (pc := 11) dX11_days_11 iconst_m1 ?_
      refine aw_iret (pc := 12) dX11_days_12 rfl (Nat.le_refl _) (Nat.le_refl _) ?_
      have hin : inC (nI 1) (nI 60) (nI u) = false := inC_f (by decide) (by decide) hu9 (by omega)
      have hg : ¬ inC (nI 1) (nI 60) (nI u) = true := by rw [hin]; decide
      have := kk κ m hPm.1 hPm.2.2.2.1 (by rw [show daysS σ m (nI u) = mI σ 0 (nI 0) from if_neg hg]; exact (hJ.mono (by omega)).th)
      rw [show daysA (σ.2.1 6) (nI u) = -1 from if_neg hg] at this
      exact this
    · -- 5
      refine aw_iload_n (pc := 5) (i := 1) dX11_days_5 rfl rfl ?_
      refine aw_bipush (pc := 6) dX11_days_6 bipush_60 ?_
      refine an_icmp_le (pc := 8) (tgt := 13) dX11_days_8 rfl (by omega) (by decide) (fun h8 => ?_) (fun h8 => ?_)
      · -- 13
        refine aw_iload_n (pc := 13) (i := 1) dX11_days_13 rfl rfl ?_
        refine aw_sipush (pc := 14) dX11_days_14 sipush_400 ?_
        refine aw_aload_n (pc := 17) (i := 0) dX11_days_17 rfl rfl ?_
        refine av_get (pc := 18) (x := .ref ((ad 2) 12)) dX11_days_18 rfl og_X11_72 rfl hI hMain.2.1 ?_
        refine av_get (pc := 21) (x := .int (nI ((σ.2.1 6) 91))) dX11_days_21 rfl og_X11_207 rfl hSo rfl ?_
        refine an_sub (pc := 24) dX11_days_24 (by omega) ?_
        refine aw_min (pc := 25) dX11_days_25 rfl mk_X11_232 (Nat.le_of_ble_eq_true rfl) (Nat.le_refl _) (Nat.le_refl _) ?_
        refine aw_top (y := nI (min u (400 - (σ.2.1 6) 91))) (min_nI (by omega) (by omega)) ?_
        refine aw_istore_n (pc := 28) (i := 2) dX11_days_28 rfl (Nat.le_of_ble_eq_true rfl) rfl ?_
        refine aw_iload_n (pc := 29) (i := 2) dX11_days_29 rfl rfl ?_
        refine an_if_le (pc := 30) (tgt := 43) dX11_days_30 rfl (by omega) (fun h30 => ?_) (fun h30 => ?_)
        · -- 43
          refine aw_iload_n (pc := 43) (i := 2) dX11_days_43 rfl rfl ?_
          refine aw_iret (pc := 44) dX11_days_44 rfl (Nat.le_refl _) (Nat.le_refl _) ?_
          have hin := inC_y (a := 1) (b := 60) (by decide) (by decide) hu9 (by omega)
          have h400 : σ.2.1 6 91 = 400 := by omega
          have := kk κ m hPm.1 hPm.2.2.2.1 (by rw [show daysS σ m (nI u) = mI σ 0 (nI 0) by unfold daysS; rw [if_pos hin, if_pos h400]]; exact (hJ.mono (by omega)).th)
          rw [show daysA (σ.2.1 6) (nI u) = nI 0 by unfold daysA; rw [if_pos hin, if_pos h400]] at this
          rw [show min u (400 - (σ.2.1 6) 91) = 0 from h30]
          exact this
        · -- 33
          refine aw_aload_n (pc := 33) (i := 0) dX11_days_33 rfl rfl ?_
          refine aw_bipush (pc := 34) dX11_days_34 bipush_6 ?_
          refine aw_iconst (pc := 36) dX11_days_36 iconst_0 ?_
          refine aw_iconst (pc := 37) dX11_days_37 iconst_0 ?_
          refine aw_iload_n (pc := 38) (i := 2) dX11_days_38 rfl rfl ?_
          refine cVi (pc := 39) (As := [.int (nI 6), .int (nI 0), .int (nI 0), .int (nI (min u (400 - (σ.2.1 6) 91)))]) (rest := []) dX11_days_39 rfl oc_X11_228 rfl rfl (Nat.le_of_ble_eq_true rfl) rfl rfl hI (Nat.le_refl _) (Nat.le_refl _) (c11_attempt (k := 6) (x := min u (400 - (σ.2.1 6) 91)) (y := 0) (z := 0) hE hNB hAO hJ ⟨by decide, by omega, by omega, by omega, by omega, by omega⟩ ⟨fun h => absurd h (by decide), fun h => absurd h (by decide), fun h => absurd h (by decide), fun _ => rfl⟩ hB9 ?_ ?_)
          · -- call
            intro hpos
            have : doesN (σ.2.1 6) 6 (min u (400 - (σ.2.1 6) 91)) 0 0 = 0 := (show (if 400 < (σ.2.1 6) 91 + min u (400 - (σ.2.1 6) 91) then 1 else 0) = 0 from if_neg (by omega))
            exfalso; omega
          · -- call
            intro hz κ9 m9 hm9 hm9b hJ9
            refine ⟨_, rfl, ?_⟩
            have hin := inC_y (a := 1) (b := 60) (by decide) (by decide) hu9 (by omega)
            refine aw_pop (pc := 42) dX11_days_42 rfl ?_
            refine aw_iload_n (pc := 43) (i := 2) dX11_days_43 rfl rfl ?_
            exact aw_iret (pc := 44) dX11_days_44 rfl (Nat.le_refl _) (Nat.le_refl _) (by
              have := kk κ9 m9 hm9 hm9b (by rw [show daysS σ m9 (nI u) = sN (keepS (mI σ 0 (nI 0)) m9) 6 (doesT (σ.2.1 6) 6 (min u (400 - (σ.2.1 6) 91)) 0 0) by unfold daysS; rw [if_pos hin, if_neg (by omega), nI_clamp (by omega), ← hgm.2]; rfl]; exact hJ9)
              rw [show daysA (σ.2.1 6) (nI u) = nI (min u (400 - (σ.2.1 6) 91)) by unfold daysA; rw [if_pos hin, if_neg (by omega), nI_clamp (by omega), hgm.1]] at this
              exact this)
      · -- 11
        refine aw_iconst (pc := 11) dX11_days_11 iconst_m1 ?_
        refine aw_iret (pc := 12) dX11_days_12 rfl (Nat.le_refl _) (Nat.le_refl _) ?_
        have hin : inC (nI 1) (nI 60) (nI u) = false := inC_f (by decide) (by decide) hu9 (by omega)
        have hg : ¬ inC (nI 1) (nI 60) (nI u) = true := by rw [hin]; decide
        have := kk κ m hPm.1 hPm.2.2.2.1 (by rw [show daysS σ m (nI u) = mI σ 0 (nI 0) from if_neg hg]; exact (hJ.mono (by omega)).th)
        rw [show daysA (σ.2.1 6) (nI u) = -1 from if_neg hg] at this
        exact this
def pnP (pn : Nat) : Nat := if pn = 0 then 7 else pn - 1
/-- one act is undone -/
theorem J.unk {ae : Nat → Nat} {kd : Nat → Bool} {ad : Nat → Nat → Nat} {κ : Nat → kS} {n : Nat} {σ : mS} {B jc m pn im : Nat} {NM : Nat → Int64} {sn : Option Nat} {sd : Int32} {k0 k2 : kS} (h : J ae kd ad κ n σ B) (hs : jSt ae kd ad κ n σ B jc NM sn sd (m + 1) pn im) (hk : ∃ sd', SRl (ad jc) sn (paT (σ.2.1 6) (σ.2.1 21) m) sd' k2) (hF : ∀ k, ¬ k = 4 → ¬ k = 5 → k0.1 k = (κ 0).1 k) (hA : k0.2 = (κ 0).2) (h4 : k0.1 4 = .int (nI (pnP pn))) (h5 : k0.1 5 = .int (nI m)) : J ae kd ad (upN (upN κ 2 k2) 0 k0) n (undoS σ (m + 1)) B := by
  obtain ⟨hn, hMain, hSub, hTape, hR10, hR11, hR12, hR13, hMisc, hRef, hB5, -⟩ := id h
  obtain ⟨hCht, hSR, hSnt, hTok, hPast, ⟨c1, c2, c3, c4, c5⟩, hSds, hImg⟩ := id hs
  obtain ⟨sd', hk'⟩ := hk
  obtain ⟨p1, p2, p3⟩ := hPast m (by omega)
  obtain ⟨hb, h0, h1, h2, hRd, hP, hD, hCl, hT⟩ := id hTok.1.1.1
  have e : ∀ j, ¬ (91 ≤ j ∧ j < 138) → paT (σ.2.1 6) (σ.2.1 21) m j = σ.2.1 6 j := fun j hj => paT_out hj
  have e2 : paT (σ.2.1 6) (σ.2.1 21) m 2 = σ.2.1 6 2 := e 2 (by omega)
  have hA1 := h.act (u := paT (σ.2.1 6) (σ.2.1 21) m) (k2 := k2) e p2 (by rw [e2]; exact p3) (Nat.le_refl _) (fun c9 sn9 sd9 h9 => by
    obtain ⟨e1, e2, e3⟩ := id hk'
    obtain ⟨f1, f2, -⟩ := id hSR
    obtain ⟨q1, q2, -⟩ := id h9
    exact ⟨_, e1.trans (f1.symm.trans q1), e2.trans (f2.symm.trans q2), e3⟩)
  obtain ⟨-, -, -, -, -, -, -, -, -, -, -, -⟩ := id hA1
  have hmain' : jMain ad k0 := by
    unfold jMain at *
    rw [hF 0 (by decide) (by decide), hF 1 (by decide) (by decide), hF 2 (by decide) (by decide), hF 8 (by decide) (by decide), hF 9 (by decide) (by decide), hF 11 (by decide) (by decide), hF 12 (by decide) (by decide), hF 13 (by decide) (by decide), hF 14 (by decide) (by decide), hF 15 (by decide) (by decide), hF 16 (by decide) (by decide), hA]
    exact hMain
  have hmisc' : jMisc k0 σ := by
    unfold jMisc at *
    rw [hF 17 (by decide) (by decide), hF 18 (by decide) (by decide), hF 19 (by decide) (by decide), hA]
    exact hMisc
  have hSK : SK (paT (σ.2.1 6) (σ.2.1 21) m) := by
    have := hTok.2.1
    have e1 : ∀ j, 138 ≤ j → paT (σ.2.1 6) (σ.2.1 21) m j = σ.2.1 6 j := fun j hj => e j (by omega)
    refine ⟨by rw [e1 138 (by omega)]; exact this.1, ?_, fun j hj => by rw [e1 _ (by omega)]; exact this.2.2 j (by rw [e1 138 (by omega)] at hj; exact hj)⟩
    rw [e1 138 (by omega)]
    obtain ⟨D, hD9⟩ := this.2.1
    exact ⟨D, by rw [← hD9]; exact dpF_cong _ (fun j h1 h2 => e1 j (by omega))⟩
  rw [show undoS σ (m + 1) = sN (mI (mI σ 0 (nI 0)) 23 (nI m)) 6 (paT (σ.2.1 6) (σ.2.1 21) m) from if_neg (by omega)]
  refine ⟨hn, hmain', hSub, hTape, hR10, hR11, hR12, hR13, hmisc', hRef, hB5, jc, NM, sn, sd', m, pnP pn, im, (CHT_cong hCht h0 h1 h2 (fun j hj => e j (by omega)) (fun _ _ => rfl)).up (by decide) |>.up (by decide), hk', ((SNT_cong hSnt hTok.2.1.1 (fun j h1 _ => e j (by omega))).up (by decide)).up (by decide), ⟨p2, hSK, by show _ = sumF _ (paT (σ.2.1 6) (σ.2.1 21) m 2); rw [e2]; exact p3⟩, ?_, ⟨rfl, h4, h5, by omega, by unfold pnP; split <;> omega⟩, fun i h1 h2 => by rw [upN_n _ _ _ _ (by omega), upN_n _ _ _ _ (by omega)]; exact hSds i h1 h2, ?_⟩
  · refine (jPast.up (by decide) (jPast.up (by decide) (fun i hi => ?_)))
    obtain ⟨a1, a2, a3⟩ := hPast i (by omega)
    show (∃ sn sd, SRl (ad jc) sn (paT (paT (σ.2.1 6) (σ.2.1 21) m) (σ.2.1 21) i) sd _) ∧ WV (paT (paT (σ.2.1 6) (σ.2.1 21) m) (σ.2.1 21) i) B ∧ paT (paT (σ.2.1 6) (σ.2.1 21) m) (σ.2.1 21) i 92 = sumF (fun q => paT (paT (σ.2.1 6) (σ.2.1 21) m) (σ.2.1 21) i (132 + q)) (paT (σ.2.1 6) (σ.2.1 21) m 2)
    rw [paT_cong e, e2, show paI m (pnP pn) i = paI (m + 1) pn i by unfold paI pnP; split <;> omega]
    exact ⟨a1, a2, a3⟩
  · obtain ⟨a1, a2, a3, a4, a5⟩ := hImg
    refine ⟨by show k0.1 7 = _; rw [hF 7 (by decide) (by decide)]; exact a1, a2, a3, a4, fun j hj hp => ?_⟩
    obtain ⟨b1, b2⟩ := a5 j hj hp
    exact ⟨by rw [upN_n _ _ _ _ (by omega), upN_n _ _ _ _ (by omega)]; exact (b1.up (by omega)).up (by decide), b2⟩
