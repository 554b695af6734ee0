theorem bkL_end {σ : mS} {n m : Nat} (h : σ.1 11 = nI 0) : bkL (n + 1) σ m = (true, σ, m) := by rw [bkL, if_pos h]
theorem bkL_no {σ s : mS} {n m : Nat} (h : ¬ σ.1 11 = nI 0) (h1 : bookLineF σ m = (false, s)) : bkL (n + 1) σ m = (false, s, m) := by rw [bkL, if_neg h, h1]; rfl
theorem bkL_ns {σ s : mS} {n m : Nat} (h : ¬ σ.1 11 = nI 0) (h1 : bookLineF σ m = (true, s)) (h2 : (signF s 59).1 = false) : bkL (n + 1) σ m = (false, (signF s 59).2, m) := by rw [bkL, if_neg h, h1]; dsimp only; rw [if_pos rfl, if_neg (by rw [h2]; decide)]
theorem bkL_on {σ s : mS} {n m : Nat} (h : ¬ σ.1 11 = nI 0) (h1 : bookLineF σ m = (true, s)) (h2 : (signF s 59).1 = true) : bkL (n + 1) σ m = bkL n (mI (signF s 59).2 47 (nI (m + 1))) (m + 1) := by rw [bkL, if_neg h, h1]; dsimp only; rw [if_pos rfl, if_pos h2]
theorem BXF_sg {σ : mS} {v : Int32} (h : (signF σ 59).1 = true) : (mI (signF σ 59).2 47 v).2.1 = σ.2.1 ∧ (mI (signF σ 59).2 47 v).2.2.2.2 = σ.2.2.2.2 ∧ (mI (signF σ 59).2 47 v).2.2.1 = σ.2.2.1 ∧ (mI (signF σ 59).2 47 v).1 15 = σ.1 15 := by
  rw [(sign_t h).2]
  have n := NXF_nx σ
  generalize nx σ = s at *
  exact ⟨n.1, n.2.2.1, n.2.1, (mI_o _ _ _ _ (by decide)).trans (n.2.2.2 15 (by decide) (by decide) (by decide) (by decide) (by decide) (by decide))⟩
/-- a book as far as it is read, in both -/
def BRl (ad : Nat → Nat) (κT κB : kS) (σ : mS) (NM : Nat → Int64) (m : Nat) : Prop := TPR ad κT σ ∧ κT.1 11 = .int (nI 0) ∧ κB.1 6 = .int (nI m) ∧ BV (σ.2.1 6) σ m ∧ RES σ ∧ NMb σ NM ∧ ∀ i, i < m → LNq κB (σ.2.1 8) i
def BK2 (κ κ9 : kS) : Prop := κ9.1 0 = κ.1 0 ∧ κ9.1 1 = κ.1 1
set_option maxHeartbeats 1000000 in
set_option maxRecDepth 20000 in
theorem c1_rdLoop {G : xG} {d : Nat} {Q : xQ} {a ad bk c : Nat → Nat} {tw ts cm : Nat} {R : va_W} {NM : Nat → Int64} (hE : EB ad tw ts G) : ∀ (n : Nat) (σ : mS) (m : Nat) (κT κB : kS) (hB0 : κB.1 0 = .ref (a 13)) (hB1 : κB.1 1 = .ref (c 13)) (hC : CHR G R c (σ.2.1 6) NM) (h0 : σ.2.1 6 0 ≤ 7) (hp2 : σ.2.1 6 2 ≤ 6) (H : BRl ad κT κB σ NM m) (hm : mz σ < n) (k1 : ∀ σ9 m9 κT9 κB9, bkL n σ m = (true, σ9, m9) → BRl ad κT9 κB9 σ9 NM m9 → TBs κT κT9 → BK2 κB κB9 → Q none (wBk G.2.2.1 bk κB9 ++ (wTp G.2.2.1 a κT9 ++ R))) (k0 : ∀ σ9 m9 κT9 κB9, bkL n σ m = (false, σ9, m9) → FRl κT9 σ9 → TBs κT κT9 → BK2 κB κB9 → Q none (wBk G.2.2.1 bk κB9 ++ (wTp G.2.2.1 a κT9 ++ R))), AW G MX1_read (d + 5) 0 0 Q 22 [some (.ref (bk 8)), some (.ref cm), some (.int (nI 1))] [] (wBk G.2.2.1 bk κB ++ (wTp G.2.2.1 a κT ++ R)) 0 0 := by
  intro n
  induction n with
  | zero => intro σ m κT κB _ _ _ _ _ _ hm; exact absurd hm (Nat.not_lt_zero _)
  | succ n ih =>
    intro σ m κT κB hB0 hB1 hC h0 hp2 H hm k1 k0
    obtain ⟨hT, hf, hB6, hBV, hRes, hNm, hLn⟩ := id H
    refine aw_iload_n (pc := 22) (i := 2) dX1_read_22 rfl rfl ?_
    refine an_if_eq (pc := 23) (tgt := 83) dX1_read_23 rfl (by decide) (fun h23 => absurd h23 (by decide)) (fun h23 => ?_)
    refine aw_aload_n (pc := 26) (i := 0) dX1_read_26 rfl rfl ?_
    refine pg_X1_24 (pc := 27) (v := .int (nI m)) dX1_read_27 rfl hB6 ?_
    refine aw_bipush (pc := 30) dX1_read_30 bipush_40 ?_
    refine an_icmp_gt (pc := 32) (tgt := 83) dX1_read_32 rfl (by have := hBV.2.2.2.1; omega) (by decide) (fun h32 => ?_) (fun h32 => ?_)
    · -- 83
      exfalso; have := hBV.2.2.2.1; omega
    · -- 35
      refine aw_aload_n (pc := 35) (i := 0) dX1_read_35 rfl rfl ?_
      refine pg_X1_31 (pc := 36) (v := .ref (a 13)) dX1_read_36 rfl hB0 ?_
      refine aw_swap ?_
      refine cVi (pc := 39) (As := []) (rest := []) dX1_read_39 rfl oc_X1_45 rfl rfl (Nat.le_of_ble_eq_true rfl) rfl rfl ovX8 (Nat.le_refl _) (Nat.le_refl _) (c8_atEnd hT ⟨_, rfl, ?_⟩)
      refine ab_if_ne (pc := 42) (tgt := 83) dX1_read_42 rfl (fun h42 => ?_) (fun h42 => ?_)
      · -- 83
        refine aw_swap ?_
        exact aw_vret (pc := 83) dX1_read_83 rfl (Nat.le_refl _) (Nat.le_refl _) (k1 _ _ _ _ (bkL_end (by simpa using h42)) H (TBs.rf _) ⟨rfl, rfl⟩)
      · -- 45
        refine aw_aload_n (pc := 45) (i := 0) dX1_read_45 rfl rfl ?_
        refine aw_swap ?_
        refine cVi (pc := 46) (As := []) (rest := []) dX1_read_46 rfl oc_X1_49 rfl rfl (Nat.le_of_ble_eq_true rfl) rfl rfl ovX1 (Nat.le_refl _) (Nat.le_refl _) (c1_line hE hB0 hB1 hB6 hBV.2.2.2.1 hT hf hC hRes h0 hp2 hNm ?_ ?_)
        · -- call
          intro s9 κT9 κB9 t9 hm9 ln9 lo9 lb9 q9 g9 b9 f9 x9
          refine ⟨_, rfl, ?_⟩
          refine ab_if_eq (pc := 49) (tgt := 68) dX1_read_49 rfl (fun h49 => absurd h49 (by decide)) (fun h49 => ?_)
          refine aw_aload_n (pc := 52) (i := 0) dX1_read_52 rfl rfl ?_
          refine pg_X1_31 (pc := 53) (v := .ref (a 13)) dX1_read_53 rfl (q9.1.trans hB0) ?_
          refine aw_bipush (pc := 56) dX1_read_56 bipush_59 ?_
          refine aw_swap ?_
          refine cVi (pc := 58) (As := [.int (nI 59)]) (rest := []) dX1_read_58 rfl oc_X1_52 rfl rfl (Nat.le_of_ble_eq_true rfl) rfl rfl ovX8 (Nat.le_refl _) (Nat.le_refl _) (c8_takeSign g9 f9 rfl ?_ ?_)
          · -- call
            intro t8 κT8 g8 b8 f8
            refine ⟨_, rfl, ?_⟩
            refine ab_if_eq (pc := 61) (tgt := 68) dX1_read_61 rfl (fun h61 => absurd h61 (by decide)) (fun h61 => ?_)
            refine aw_iconst (pc := 64) dX1_read_64 iconst_1 ?_
            refine aw_goto (pc := 65) (tgt := 69) dX1_read_65 rfl ?_
            refine aw_istore_n (pc := 69) (i := 2) dX1_read_69 rfl (Nat.le_of_ble_eq_true rfl) rfl ?_
            refine aw_aload_n (pc := 70) (i := 0) dX1_read_70 rfl rfl ?_
            refine aw_dup (pc := 71) dX1_read_71 rfl ?_
            refine aw_swap ?_
            refine pg_X1_24 (pc := 72) (v := .int (nI m)) dX1_read_72 rfl (q9.2.2.trans hB6) ?_
            refine aw_iconst (pc := 75) dX1_read_75 iconst_1 ?_
            refine an_add (pc := 76) dX1_read_76 ?_
            refine pp_X1_24 (pc := 77) dX1_read_77 rfl ?_
            refine aw_goto (pc := 80) (tgt := 22) dX1_read_80 rfl ?_
            have e1 : (bookLineF σ m).1 = true := by rw [t9]
            have e2 : (bookLineF σ m).2 = s9 := by rw [t9]
            have bv := BV_line hBV e1 (by rw [e2]; exact t8)
            rw [e2] at bv
            obtain ⟨bv, mz9⟩ := bv
            have z9 := BXF_sg (v := nI (m + 1)) t8
            have g7 : TPR ad κT8 (mI (signF s9 59).2 47 (nI (m + 1))) := g8.tI (by decide)
            have eb := bkL_on (n := n) (by simpa using h42) t9 t8
            obtain ⟨s7, hs7⟩ : ∃ x, x = mI (signF s9 59).2 47 (nI (m + 1)) := ⟨_, rfl⟩
            rw [← hs7] at bv mz9 z9 g7 eb
            rw [eb] at k1 k0
            have x7 : s7.2.1 6 = σ.2.1 6 := by rw [z9.1]; exact x9.1
            refine ih s7 (m + 1) _ _ (q9.1.trans hB0) (q9.2.1.trans hB1) (by rw [x7]; exact hC) (by rw [x7]; exact h0) (by rw [x7]; exact hp2) ⟨g7, f8, rfl, by rw [x7]; exact bv, ?_, ?_, ?_⟩ (by omega) (fun a1 a2 a3 a4 b1 b2 b3 b4 => k1 a1 a2 a3 a4 b1 b2 ((b9.tr b8).tr b3) ⟨b4.1.trans q9.1, b4.2.trans q9.2.1⟩) (fun a1 a2 a3 a4 b1 b2 b3 b4 => k0 a1 a2 a3 a4 b1 b2 ((b9.tr b8).tr b3) ⟨b4.1.trans q9.1, b4.2.trans q9.2.1⟩)
            · intro k hk; rw [z9.2.1, x9.2.1]; exact hRes k hk
            · unfold NMb N13 at *; rw [x7, z9.2.1, x9.2.1]; exact hNm
            · intro i hi
              rw [z9.1]
              by_cases ei : i = m
              · subst ei; exact ln9.to (m := i + 1) (by omega) (fun _ _ _ => rfl) (fun _ _ => rfl)
              · exact (hLn i (by omega)).to (m := m) (by omega) lb9 lo9
          · -- call
            intro t8 κT8 g8 b8
            refine ⟨_, rfl, ?_⟩
            refine ab_if_eq (pc := 61) (tgt := 68) dX1_read_61 rfl (fun h61 => ?_) (fun h61 => absurd h61 (by decide))
            refine aw_iconst (pc := 68) dX1_read_68 iconst_0 ?_
            refine aw_istore_n (pc := 69) (i := 2) dX1_read_69 rfl (Nat.le_of_ble_eq_true rfl) rfl ?_
            refine aw_aload_n (pc := 70) (i := 0) dX1_read_70 rfl rfl ?_
            refine aw_dup (pc := 71) dX1_read_71 rfl ?_
            refine aw_swap ?_
            refine pg_X1_24 (pc := 72) (v := .int (nI m)) dX1_read_72 rfl (q9.2.2.trans hB6) ?_
            refine aw_iconst (pc := 75) dX1_read_75 iconst_1 ?_
            refine an_add (pc := 76) dX1_read_76 ?_
            refine pp_X1_24 (pc := 77) dX1_read_77 rfl ?_
            refine aw_goto (pc := 80) (tgt := 22) dX1_read_80 rfl ?_
            refine aw_iload_n (pc := 22) (i := 2) dX1_read_22 rfl rfl ?_
            refine an_if_eq (pc := 23) (tgt := 83) dX1_read_23 rfl (by decide) (fun h23 => ?_) (fun h23 => absurd h23 (by decide))
            exact aw_vret (pc := 83) dX1_read_83 rfl (Nat.le_refl _) (Nat.le_refl _) (k0 _ _ _ _ (bkL_ns (by simpa using h42) t9 t8) g8 (b9.tr b8) ⟨q9.1, q9.2.1⟩)
        · -- call
          intro s9 t9 κT9 κB9 g9 b9 q9
          refine ⟨_, rfl, ?_⟩
          refine ab_if_eq (pc := 49) (tgt := 68) dX1_read_49 rfl (fun h49 => ?_) (fun h49 => absurd h49 (by decide))
          refine aw_iconst (pc := 68) dX1_read_68 iconst_0 ?_
          refine aw_istore_n (pc := 69) (i := 2) dX1_read_69 rfl (Nat.le_of_ble_eq_true rfl) rfl ?_
          refine aw_aload_n (pc := 70) (i := 0) dX1_read_70 rfl rfl ?_
          refine aw_dup (pc := 71) dX1_read_71 rfl ?_
          refine pg_X1_24 (pc := 72) (v := .int (nI m)) dX1_read_72 rfl (q9.2.2.trans hB6) ?_
          refine aw_iconst (pc := 75) dX1_read_75 iconst_1 ?_
          refine an_add (pc := 76) dX1_read_76 ?_
          refine pp_X1_24 (pc := 77) dX1_read_77 rfl ?_
          refine aw_goto (pc := 80) (tgt := 22) dX1_read_80 rfl ?_
          refine aw_iload_n (pc := 22) (i := 2) dX1_read_22 rfl rfl ?_
          refine an_if_eq (pc := 23) (tgt := 83) dX1_read_23 rfl (by decide) (fun h23 => ?_) (fun h23 => absurd h23 (by decide))
          exact aw_vret (pc := 83) dX1_read_83 rfl (Nat.le_refl _) (Nat.le_refl _) (k0 _ _ _ _ (bkL_no (by simpa using h42) t9) g9 b9 ⟨q9.1, q9.2.1⟩)
theorem bookB_s (σ : mS) (n : Nat) : (bookB σ n).1 3 = nI n ∧ (bookB σ n).1 4 = nI 0 ∧ (bookB σ n).1 5 = nI 400 ∧ (bookB σ n).2 = σ.2 ∧ (bookB σ n).1 15 = nI 0 ∧ (bookB σ n).1 47 = nI 0 := ⟨rfl, rfl, rfl, rfl, rfl, rfl⟩
set_option maxHeartbeats 1000000 in
set_option maxRecDepth 20000 in
theorem c1_read {G : xG} {d : Nat} {Q : xQ} {a ad bk c : Nat → Nat} {κT κB : kS} {R : va_W} {σ : mS} {NM : Nat → Int64} {tw ts n : Nat} (hE : EB ad tw ts G) (hNB : NB G) (hB0 : κB.1 0 = .ref (a 13)) (hT0 : TB κT (σ.2.2.1 1) n) (hv : PV (bookB σ n)) (hC : CHR G R c (σ.2.1 6) NM) (hRes : RES σ) (h0 : σ.2.1 6 0 ≤ 7) (hp2 : σ.2.1 6 2 ≤ 6) (hNm : NMb σ NM) (k1 : ∀ σ9 m9 κT9 κB9, bookR σ n = (true, σ9, m9) → BRl ad κT9 κB9 σ9 NM m9 → TBs κT κT9 → κB9.1 0 = κB.1 0 ∧ κB9.1 1 = .ref (c 13) → Q none (wBk G.2.2.1 bk κB9 ++ (wTp G.2.2.1 a κT9 ++ R))) (k0 : ∀ σ9 m9 κT9 κB9, bookR σ n = (false, σ9, m9) → FRl κT9 σ9 → TBs κT κT9 → κB9.1 0 = κB.1 0 ∧ κB9.1 1 = .ref (c 13) → Q none (wBk G.2.2.1 bk κB9 ++ (wTp G.2.2.1 a κT9 ++ R))) : MT G MX1_read (d + 5) 0 0 [.ref (bk 8), .ref (c 13)] (wBk G.2.2.1 bk κB ++ (wTp G.2.2.1 a κT ++ R)) Q := by
  refine mt_start (L := [some (.ref (bk 8)), some (.ref (c 13)), none]) rfl (Nat.le_of_ble_eq_true rfl) rfl ?_
  refine aw_aload_n (pc := 0) (i := 0) dX1_read_0 rfl rfl ?_
  refine aw_aload_n (pc := 1) (i := 1) dX1_read_1 rfl rfl ?_
  refine aw_topV (y := va_rf (some (c 13))) rfl ?_
  refine pp_X1_35 (pc := 2) dX1_read_2 rfl ?_
  refine aw_aload_n (pc := 5) (i := 0) dX1_read_5 rfl rfl ?_
  refine aw_iconst (pc := 6) dX1_read_6 iconst_0 ?_
  refine pp_X1_24 (pc := 7) dX1_read_7 rfl ?_
  refine aw_aload_n (pc := 10) (i := 0) dX1_read_10 rfl rfl ?_
  refine pg_X1_31 (pc := 11) (v := .ref (a 13)) dX1_read_11 rfl hB0 ?_
  refine aw_sipush (pc := 14) dX1_read_14 sipush_400 ?_
  refine aw_swap ?_
  refine cVv (pc := 17) (As := [.int (nI 400)]) (rest := []) dX1_read_17 rfl oc_X1_39 rfl rfl (Nat.le_of_ble_eq_true rfl) rfl rfl ovX8 (Nat.le_refl _) (Nat.le_refl _) (c8_begin hE hNB hT0 (by decide) ?_)
  intro κT8 nT p8 b8 f8 q8
  refine ⟨rfl, ?_⟩
  refine aw_iconst (pc := 20) dX1_read_20 iconst_1 ?_
  refine aw_istore_n (pc := 21) (i := 2) dX1_read_21 rfl (Nat.le_of_ble_eq_true rfl) rfl ?_
  refine aw_swap ?_
  have z := bookB_s σ n
  have ht := TPR_start z.1 hT0.2.1 z.2.1 z.2.2.1 (by decide) (show (bookB σ n).2.2.1 1 = σ.2.2.1 1 from rfl) p8
  have hL := PV_nx hv
  have hmz := mz_941 hL
  have nn := NXF_nx (bookB σ n)
  have eR : bookR σ n = bkL 2000 (nx (bookB σ n)) 0 := rfl
  have e2 : (nx (bookB σ n)).2.1 = σ.2.1 := nn.1
  obtain ⟨s1, hs1⟩ : ∃ x, x = nx (bookB σ n) := ⟨_, rfl⟩
  rw [← hs1] at ht hL hmz nn eR e2
  rw [eR] at k1 k0
  refine c1_rdLoop hE 2000 s1 0 _ _ hB0 rfl (by rw [e2]; exact hC) (by rw [e2]; exact h0) (by rw [e2]; exact hp2) ⟨ht, f8, rfl, ⟨hL, rfl, ?_, by decide, fun i hi => absurd hi (Nat.not_lt_zero _)⟩, ?_, ?_, fun i hi => absurd hi (Nat.not_lt_zero _)⟩ (by omega) (fun a1 a2 a3 a4 b1 b2 b3 b4 => k1 a1 a2 a3 a4 b1 b2 (b8.tr b3) ⟨b4.1, b4.2⟩) (fun a1 a2 a3 a4 b1 b2 b3 b4 => k0 a1 a2 a3 a4 b1 b2 (b8.tr b3) ⟨b4.1, b4.2⟩)
  · rw [nn.2.2.2 47 (by decide) (by decide) (by decide) (by decide) (by decide) (by decide)]; exact z.2.2.2.2.2
  · intro k hk; rw [nn.2.2.1]; exact hRes k hk
  · unfold NMb N13 at *; rw [e2, nn.2.2.1]; exact hNm
