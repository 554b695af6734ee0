theorem puts_ok {σ σ' : mS} {to lo hi m : Nat} (t : takesF σ lo hi = (true, σ')) (nm : numN σ = m) : putsF σ to lo hi = (true, mN σ' 7 to m) := by
  unfold putsF; rw [t, nm]; rfl
theorem puts_no {σ σ' : mS} {to lo hi : Nat} (t : takesF σ lo hi = (false, σ')) : putsF σ to lo hi = (false, σ') := by
  unfold putsF; rw [t]; rfl
theorem fresh_ok {σ : mS} {to : Nat} (q1 : isNameB σ = true) (q2 : (findW σ 13 (σ.2.1 7 0)).isSome = false) (q3 : (findW σ 20 (σ.2.1 7 2)).isSome = false) : freshF σ to = (true, nx (mL σ 9 to σ.2.2.2.1)) := by
  unfold freshF; rw [if_pos q1, if_neg (by rw [q2]; decide), if_neg (by rw [q3]; decide)]
theorem fresh_no {σ : mS} {to : Nat} (h : (freshF σ to).1 = false) : freshF σ to = (false, (freshF σ to).2) := by rw [← h]
theorem isName_11 {σ : mS} (h : isNameB σ = true) : σ.1 11 = nI 1 := by
  unfold isNameB at h; rw [Bool.and_eq_true, decide_eq_true_eq] at h; exact h.1
theorem SMl.of {c : Nat → Nat} {h u : Nat → Nat} {κ : kS} (H : SMl c h κ) (e2 : u 2 = h 2) (e : ∀ l, l < 7 → u (17 + l) = h (17 + l) ∧ u (72 + l) = h (72 + l)) (e3 : ∀ q, q < h 2 → u (79 + q) = h (79 + q) ∧ u (85 + q) = h (85 + q)) : SMl c u κ := by
  obtain ⟨a0, a1, a4, a5, hl, hq, hz⟩ := H
  refine ⟨a0, a1, a4, a5, fun l hl9 => ?_, fun q hq9 => ?_, hz⟩
  · rw [(e l hl9).1, (e l hl9).2]; exact hl l hl9
  · rw [e2] at hq9; rw [(e3 q hq9).1, (e3 q hq9).2]; exact hq q hq9
theorem NMs.land {σ X : mS} {NM : Nat → Int64} {v wd : Int64} (h : NMs σ NM) (hl : σ.2.1 7 0 < 7) (e0 : X.2.1 7 0 = σ.2.1 7 0 + 1) (e2 : X.2.1 7 2 = σ.2.1 7 2) (hn : X.2.2.2.2 9 = upN (σ.2.2.2.2 9) (13 + σ.2.1 7 0) wd) (hw : NMR wd v) : NMs X (upN NM (σ.2.1 7 0) v) := by
  refine ⟨fun k hk => ?_, fun k hk => ?_⟩
  · rw [e0] at hk
    rw [hn]
    by_cases e : k = σ.2.1 7 0
    · rw [e, upN_s, upN_s]; exact hw
    · rw [upN_n _ _ _ _ e, upN_n _ _ _ _ (by omega)]; exact h.1 k (by omega)
  · rw [e2] at hk
    rw [hn, upN_n _ _ _ _ (by omega), upN_n _ _ _ _ (by omega)]; exact h.2 k hk
theorem NMs.person {σ X : mS} {NM : Nat → Int64} {v wd : Int64} (h : NMs σ NM) (hl : σ.2.1 7 0 ≤ 7) (e0 : X.2.1 7 0 = σ.2.1 7 0) (e2 : X.2.1 7 2 = σ.2.1 7 2 + 1) (hn : X.2.2.2.2 9 = upN (σ.2.2.2.2 9) (20 + σ.2.1 7 2) wd) (hw : NMR wd v) : NMs X (upN NM (7 + σ.2.1 7 2) v) := by
  refine ⟨fun k hk => ?_, fun k hk => ?_⟩
  · rw [e0] at hk
    rw [hn, upN_n _ _ _ _ (by omega), upN_n _ _ _ _ (by omega)]; exact h.1 k (by omega)
  · rw [e2] at hk
    rw [hn]
    by_cases e : k = σ.2.1 7 2
    · rw [e, upN_s, upN_s]; exact hw
    · rw [upN_n _ _ _ _ (by omega), upN_n _ _ _ _ (by omega)]; exact h.2 k (by omega)
theorem NMs.same {σ X : mS} {NM : Nat → Int64} (h : NMs σ NM) (e0 : X.2.1 7 0 = σ.2.1 7 0) (e2 : X.2.1 7 2 = σ.2.1 7 2) (hn : X.2.2.2.2 9 = σ.2.2.2.2 9) : NMs X NM := by
  refine ⟨fun k hk => ?_, fun k hk => ?_⟩
  · rw [e0] at hk; rw [hn]; exact h.1 k hk
  · rw [e2] at hk; rw [hn]; exact h.2 k hk
theorem st_eq {σ X : mS} {κ : kS} (h : κ.1 2 = .int (nI (storedN σ))) (e : X.1 20 = σ.1 20) : κ.1 2 = .int (nI (storedN X)) := by rw [storedN_eq e]; exact h
theorem NMs.to {σ σ' : mS} {NM : Nat → Int64} (h : NMs σ NM) (n : NXF σ σ') : NMs σ' NM := by unfold NMs; rw [n.1, n.2.2.1]; exact h
set_option maxHeartbeats 1000000 in
set_option maxRecDepth 20000 in
theorem c4_readLand {G : xG} {d : Nat} {Q : xQ} {a ad b c mt : Nat → Nat} {κT κS κC κM : kS} {R : va_W} {σ : mS} {NM : Nat → Int64} {li : Nat} (hM0 : κM.1 0 = .ref (a 13)) (hM1 : κM.1 1 = .ref (b 12)) (H : MRl ad c κT κS κC κM σ NM li) (hw : σ.1 11 = nI 1) (k1 : (readLandF σ).1 = true → ∀ κT9 κS9 κC9 κM9 NM9, MRl ad c κT9 κS9 κC9 κM9 (readLandF σ).2 NM9 li → SHM κT κS κM κT9 κS9 κM9 → Q (some (.int (bI true))) (wMt G.2.2.1 mt κM9 ++ (wTp G.2.2.1 a κT9 ++ (wSt G.2.2.1 b κS9 ++ (wCh G.2.2.1 c κC9 ++ R))))) (k0 : (readLandF σ).1 = false → ∀ κT9 κS9 κC9 κM9, FRl κT9 (readLandF σ).2 → SHM κT κS κM κT9 κS9 κM9 → Q (some (.int (bI false))) (wMt G.2.2.1 mt κM9 ++ (wTp G.2.2.1 a κT9 ++ (wSt G.2.2.1 b κS9 ++ (wCh G.2.2.1 c κC9 ++ R))))) : MT G MX4_readLand (d + 2) 0 0 [.ref (mt 3)] (wMt G.2.2.1 mt κM ++ (wTp G.2.2.1 a κT ++ (wSt G.2.2.1 b κS ++ (wCh G.2.2.1 c κC ++ R)))) Q := by
  obtain ⟨hT, hf, hSm, hCr, hSt, hRes, hLV, hNm, h15, h19⟩ := id H
  obtain ⟨hPV, hMH, hS1, hS2⟩ := id hLV
  have h0 := hMH.2.1
  have h1 := hMH.2.2.1
  have h2 := hMH.2.2.2.1
  refine mt_start (L := [some (.ref (mt 3)), none, none, none, none]) rfl (Nat.le_of_ble_eq_true rfl) rfl ?_
  refine aw_aload_n (pc := 0) (i := 0) dX4_readLand_0 rfl rfl ?_
  refine pg_X4_19 (pc := 1) (v := .ref (b 12)) dX4_readLand_1 rfl hM1 ?_
  refine aw_swap3 ?_
  refine pg_X4_77 (pc := 4) (v := .ref (c 13)) dX4_readLand_4 rfl hSm.1 ?_
  refine aw_swap4 ?_
  refine pg_X4_96 (pc := 7) (v := .int (nI (σ.2.1 7 0))) dX4_readLand_7 rfl hCr.1 ?_
  refine aw_bipush (pc := 10) dX4_readLand_10 bipush_7 ?_
  refine an_icmp_lt (pc := 12) (tgt := 24) dX4_readLand_12 rfl (by omega) (by decide) (fun h12 => ?_) (fun h12 => ?_)
  · -- 24
    refine aw_aload_n (pc := 24) (i := 0) dX4_readLand_24 rfl rfl ?_
    refine aw_swap3 ?_
    refine pg_X4_15 (pc := 25) (v := .ref (a 13)) dX4_readLand_25 rfl hM0 ?_
    refine aw_swap4 ?_
    refine cVv (pc := 28) (As := []) (rest := []) dX4_readLand_28 rfl oc_X4_99 rfl rfl (Nat.le_of_ble_eq_true rfl) rfl rfl ovX8 (Nat.le_refl _) (Nat.le_refl _) (c8_stepR (σ := σ) hT (Or.inl hw) ?_)
    intro κ1 g1 b1 f1
    refine ⟨rfl, ?_⟩
    have n1 := NXF_nx σ
    obtain ⟨s1, hs1⟩ : ∃ x, x = nx σ := ⟨_, rfl⟩
    rw [← hs1] at g1 n1
    refine aw_aload_n (pc := 31) (i := 0) dX4_readLand_31 rfl rfl ?_
    refine aw_swap ?_
    refine aw_swap3 ?_
    refine aw_swap4 ?_
    refine aw_swap4 ?_
    refine aw_swap4 ?_
    refine cVi (pc := 32) (As := []) (rest := []) dX4_readLand_32 rfl oc_X4_102 rfl rfl (Nat.le_of_ble_eq_true rfl) rfl rfl ovX4 (Nat.le_refl _) (Nat.le_refl _) (c4_isNew (σ := s1) (NM := NM) (to := 13 + σ.2.1 7 0) hM0 hM1 g1 (f1.trans hf) (by rw [n1.1]; exact hSm) (by rw [n1.1]; exact hCr) (hRes.to n1) (by rw [n1.1]; exact hMH) (hNm.to n1) ?_ ?_)
    · -- call
      intro qa2 qb2 qc2
      refine ⟨_, rfl, ?_⟩
      obtain ⟨kd2, v2, r2, e82, e92, e102, hr2, hkd2, tc2⟩ := g1.view
      have hF := fresh_ok (to := 13 + σ.2.1 7 0) qa2 qb2 qc2
      refine ab_if_ne (pc := 35) (tgt := 40) dX4_readLand_35 rfl (fun h35 => ?_) (fun h35 => absurd h35 (by decide))
      refine aw_aload_n (pc := 40) (i := 0) dX4_readLand_40 rfl rfl ?_
      refine pg_X4_15 (pc := 41) (v := .ref (a 13)) dX4_readLand_41 rfl hM0 ?_
      refine aw_swap ?_
      refine pg_X4_83 (pc := 44) (v := .long v2) dX4_readLand_44 rfl e92 ?_
      refine aw_lstore_n (pc := 47) (i := 1) dX4_readLand_47 rfl (Nat.le_of_ble_eq_true rfl) rfl ?_
      refine aw_aload_n (pc := 48) (i := 0) dX4_readLand_48 rfl rfl ?_
      refine aw_swap ?_
      refine pg_X4_15 (pc := 49) (v := .ref (a 13)) dX4_readLand_49 rfl hM0 ?_
      refine aw_swap ?_
      refine cVv (pc := 52) (As := []) (rest := []) dX4_readLand_52 rfl oc_X4_99 rfl rfl (Nat.le_of_ble_eq_true rfl) rfl rfl ovX8 (Nat.le_refl _) (Nat.le_refl _) (c8_stepR (σ := (mL s1 9 (13 + σ.2.1 7 0) s1.2.2.2.1)) (g1.tL) (Or.inl (isName_11 qa2)) ?_)
      intro κ3 g3 b3 f3
      refine ⟨rfl, ?_⟩
      have n3 := NXF_nx (mL s1 9 (13 + σ.2.1 7 0) s1.2.2.2.1)
      obtain ⟨s3, hs3⟩ : ∃ x, x = nx (mL s1 9 (13 + σ.2.1 7 0) s1.2.2.2.1) := ⟨_, rfl⟩
      rw [← hs3] at g3 n3
      refine aw_aload_n (pc := 55) (i := 0) dX4_readLand_55 rfl rfl ?_
      refine aw_swap ?_
      refine pg_X4_15 (pc := 56) (v := .ref (a 13)) dX4_readLand_56 rfl hM0 ?_
      refine aw_iconst (pc := 59) dX4_readLand_59 iconst_0 ?_
      refine aw_bipush (pc := 60) dX4_readLand_60 bipush_20 ?_
      refine aw_swap ?_
      refine cVi (pc := 62) (As := [.int (nI 0), .int (nI 20)]) (rest := []) dX4_readLand_62 rfl oc_X4_105 rfl rfl (Nat.le_of_ble_eq_true rfl) rfl rfl ovX8 (Nat.le_refl _) (Nat.le_refl _) (c8_tnum (σ := s3) g3 (f3.trans (f1.trans hf)) (by decide) (by decide) ?_ ?_)
      · -- call
        intro m4 hm4 lo4 hi4 nm4 t4 κ4 g4 b4 f4
        refine ⟨_, rfl, ?_⟩
        have n4 := NXF_nx18 s3 (nI m4)
        obtain ⟨s4, hs4⟩ : ∃ x, x = nx (mI s3 18 (nI m4)) := ⟨_, rfl⟩
        rw [← hs4] at g4 n4 t4
        refine aw_istore_n (pc := 65) (i := 3) dX4_readLand_65 rfl (Nat.le_of_ble_eq_true rfl) trivial ?_
        refine aw_iload_n (pc := 66) (i := 3) dX4_readLand_66 rfl rfl ?_
        refine aw_iconst (pc := 67) dX4_readLand_67 iconst_m1 ?_
        refine aw_icmp_ne (pc := 68) (tgt := 73) dX4_readLand_68 rfl (fun h68 => ?_) (fun h68 => ?_)
        · -- 73
          refine aw_aload_n (pc := 73) (i := 0) dX4_readLand_73 rfl rfl ?_
          refine aw_swap ?_
          refine pg_X4_15 (pc := 74) (v := .ref (a 13)) dX4_readLand_74 rfl hM0 ?_
          refine aw_iconst (pc := 77) dX4_readLand_77 iconst_0 ?_
          refine aw_bipush (pc := 78) dX4_readLand_78 bipush_20 ?_
          refine aw_swap ?_
          refine cVi (pc := 80) (As := [.int (nI 0), .int (nI 20)]) (rest := []) dX4_readLand_80 rfl oc_X4_105 rfl rfl (Nat.le_of_ble_eq_true rfl) rfl rfl ovX8 (Nat.le_refl _) (Nat.le_refl _) (c8_tnum (σ := (mN s4 7 (3 + σ.2.1 7 0) m4)) (g4.tN) f4 (by decide) (by decide) ?_ ?_)
          · -- call
            intro m5 hm5 lo5 hi5 nm5 t5 κ5 g5 b5 f5
            refine ⟨_, rfl, ?_⟩
            have n5 := NXF_nx18 (mN s4 7 (3 + σ.2.1 7 0) m4) (nI m5)
            obtain ⟨s5, hs5⟩ : ∃ x, x = nx (mI (mN s4 7 (3 + σ.2.1 7 0) m4) 18 (nI m5)) := ⟨_, rfl⟩
            rw [← hs5] at g5 n5 t5
            refine aw_istore (pc := 83) (i := 4) dX4_readLand_83 (Nat.le_of_ble_eq_true rfl) rfl ?_
            refine aw_iload (pc := 85) dX4_readLand_85 rfl ?_
            refine aw_iconst (pc := 87) dX4_readLand_87 iconst_m1 ?_
            refine aw_icmp_ne (pc := 88) (tgt := 93) dX4_readLand_88 rfl (fun h88 => ?_) (fun h88 => ?_)
            · -- 93
              refine aw_aload_n (pc := 93) (i := 0) dX4_readLand_93 rfl rfl ?_
              refine aw_swap ?_
              refine pg_X4_19 (pc := 94) (v := .ref (b 12)) dX4_readLand_94 rfl hM1 ?_
              refine aw_swap3 ?_
              refine pg_X4_77 (pc := 97) (v := .ref (c 13)) dX4_readLand_97 rfl hSm.1 ?_
              refine aw_lload_n (pc := 100) (i := 1) dX4_readLand_100 rfl rfl ?_
              refine aw_iload_n (pc := 101) (i := 3) dX4_readLand_101 rfl rfl ?_
              refine aw_iload (pc := 102) dX4_readLand_102 rfl ?_
              refine aw_swap4 ?_
              refine cVv (pc := 104) (As := [.long v2, .int (nI m4), .int (nI m5)]) (rest := []) dX4_readLand_104 rfl oc_X4_109 rfl rfl (Nat.le_of_ble_eq_true rfl) rfl rfl ovX3 (Nat.le_refl _) (Nat.le_refl _) (c3_addLand hCr (by omega) h1 h2 ?_)
              intro κC9 hC9
              refine ⟨rfl, ?_⟩
              refine aw_iconst (pc := 107) dX4_readLand_107 iconst_1 ?_
              refine aw_swap ?_
              refine aw_swap4 ?_
              refine aw_swap4 ?_
              refine ab_ret1 (pc := 108) dX4_readLand_108 rfl (Nat.le_refl _) (Nat.le_refl _) ?_
              have eF : readLandF σ = (true, mN (mN s5 7 (10 + σ.2.1 7 0) m5) 7 0 (σ.2.1 7 0 + 1)) := by
                unfold readLandF
                rw [if_neg (by omega), ← hs1, hF, ← hs3]
                dsimp only
                rw [if_pos rfl, puts_ok t4 nm4]
                dsimp only
                rw [if_pos rfl, puts_ok t5 nm5]
                dsimp only
                rw [if_pos rfl]
              have hL9 := LV_readLand hLV (by rw [eF])
              refine k1 (by rw [eF]) _ _ _ _ (upN NM (σ.2.1 7 0) v2) ?_ ⟨(((((TBs.rf _).tr b1).tr b3).tr b4).tr b5), rfl, rfl, rfl⟩
              rw [eF] at hL9 ⊢
              have eh : (mN (mN s5 7 (10 + σ.2.1 7 0) m5) 7 0 (σ.2.1 7 0 + 1)).2.1 7 = upN (upN (upN (σ.2.1 7) (3 + σ.2.1 7 0) m4) (10 + σ.2.1 7 0) m5) 0 (σ.2.1 7 0 + 1) := by rw [mN_7, mN_7, n5.1, mN_7, n4.1, n3.1, mL_n, n1.1]
              have eK : ∀ k, k = 15 ∨ k = 19 ∨ k = 20 → (mN (mN s5 7 (10 + σ.2.1 7 0) m5) 7 0 (σ.2.1 7 0 + 1)).1 k = σ.1 k := by intro k hk; rw [mN_1, mN_1, n5.2.2.2 k (by omega) (by omega) (by omega) (by omega) (by omega) (by omega), mN_1, n4.2.2.2 k (by omega) (by omega) (by omega) (by omega) (by omega) (by omega), n3.2.2.2 k (by omega) (by omega) (by omega) (by omega) (by omega) (by omega), mL_1, n1.2.2.2 k (by omega) (by omega) (by omega) (by omega) (by omega) (by omega)]
              have en : (mN (mN s5 7 (10 + σ.2.1 7 0) m5) 7 0 (σ.2.1 7 0 + 1)).2.2.2.2 9 = upN (σ.2.2.2.2 9) (13 + σ.2.1 7 0) s1.2.2.2.1 := by
                show s5.2.2.2.2 9 = _
                rw [n5.2.2.1]
                show s4.2.2.2.2 9 = _
                rw [n4.2.2.1, n3.2.2.1]
                show upN (s1.2.2.2.2 9) _ _ = _
                rw [n1.2.2.1]
              refine ⟨g5.tN.tN, f5, ?_, by rw [eh]; exact hC9, st_eq hSt (eK 20 (by omega)), ((((((hRes.to n1).tL).to n3).to n4).tN).to n5).tN.tN, hL9, hNm.land (by omega) (by rw [eh]; rfl) (by rw [eh, upN_n _ _ _ _ (by omega), upN_n _ _ _ _ (by omega), upN_n _ _ _ _ (by omega)]) en (tc2.nmr ((tc2.name (hRes.to n1)).mp qa2).1).1, (eK 15 (by omega)).trans h15, (eK 19 (by omega)).trans h19⟩
              rw [eh]
              refine hSm.of (by rw [upN_n _ _ _ _ (by omega), upN_n _ _ _ _ (by omega), upN_n _ _ _ _ (by omega)]) (fun l hl => ?_) (fun q hq => ?_)
              · rw [upN_n _ _ (17 + l) _ (by omega), upN_n _ _ (17 + l) _ (by omega), upN_n _ _ (17 + l) _ (by omega), upN_n _ _ (72 + l) _ (by omega), upN_n _ _ (72 + l) _ (by omega), upN_n _ _ (72 + l) _ (by omega)]
                exact ⟨rfl, rfl⟩
              · rw [upN_n _ _ (79 + q) _ (by omega), upN_n _ _ (79 + q) _ (by omega), upN_n _ _ (79 + q) _ (by omega), upN_n _ _ (85 + q) _ (by omega), upN_n _ _ (85 + q) _ (by omega), upN_n _ _ (85 + q) _ (by omega)]
                exact ⟨rfl, rfl⟩
            · -- 91
              exact absurd h88 (nI_m1 (by omega))
          · -- call
            intro z5 t5 κ5 g5 b5
            refine ⟨_, rfl, ?_⟩
            refine aw_istore (pc := 83) (i := 4) dX4_readLand_83 (Nat.le_of_ble_eq_true rfl) rfl ?_
            refine aw_iload (pc := 85) dX4_readLand_85 rfl ?_
            refine aw_iconst (pc := 87) dX4_readLand_87 iconst_m1 ?_
            refine aw_icmp_ne (pc := 88) (tgt := 93) dX4_readLand_88 rfl (fun h88 => ?_) (fun h88 => ?_)
            · -- 93
              exact absurd rfl h88
            · -- 91
              refine aw_iconst (pc := 91) dX4_readLand_91 iconst_0 ?_
              refine aw_swap4 ?_
              refine aw_swap4 ?_
              refine aw_swap3 ?_
              refine aw_swap4 ?_
              refine ab_ret0 (pc := 92) dX4_readLand_92 rfl (Nat.le_refl _) (Nat.le_refl _) ?_
              have eF : readLandF σ = (false, z5) := by unfold readLandF; rw [if_neg (by omega), ← hs1, hF, ← hs3]; dsimp only; rw [if_pos rfl, puts_ok t4 nm4]; dsimp only; rw [if_pos rfl, puts_no t5]; rfl
              exact k0 (by rw [eF]) _ _ _ _ (by rw [eF]; exact g5) ⟨(((((TBs.rf _).tr b1).tr b3).tr b4).tr b5), rfl, rfl, rfl⟩
        · -- 71
          exact absurd h68 (nI_m1 (by omega))
      · -- call
        intro z4 t4 κ4 g4 b4
        refine ⟨_, rfl, ?_⟩
        refine aw_istore_n (pc := 65) (i := 3) dX4_readLand_65 rfl (Nat.le_of_ble_eq_true rfl) trivial ?_
        refine aw_iload_n (pc := 66) (i := 3) dX4_readLand_66 rfl rfl ?_
        refine aw_iconst (pc := 67) dX4_readLand_67 iconst_m1 ?_
        refine aw_icmp_ne (pc := 68) (tgt := 73) dX4_readLand_68 rfl (fun h68 => ?_) (fun h68 => ?_)
        · -- 73
          exact absurd rfl h68
        · -- 71
          refine aw_iconst (pc := 71) dX4_readLand_71 iconst_0 ?_
          refine aw_swap4 ?_
          refine aw_swap4 ?_
          refine aw_swap3 ?_
          refine aw_swap4 ?_
          refine ab_ret0 (pc := 72) dX4_readLand_72 rfl (Nat.le_refl _) (Nat.le_refl _) ?_
          have eF : readLandF σ = (false, z4) := by unfold readLandF; rw [if_neg (by omega), ← hs1, hF, ← hs3]; dsimp only; rw [if_pos rfl, puts_no t4]; rfl
          exact k0 (by rw [eF]) _ _ _ _ (by rw [eF]; exact g4) ⟨((((TBs.rf _).tr b1).tr b3).tr b4), rfl, rfl, rfl⟩
    · -- call
      intro t2 κ2 g2 b2
      refine ⟨_, rfl, ?_⟩
      refine ab_if_ne (pc := 35) (tgt := 40) dX4_readLand_35 rfl (fun h35 => absurd h35 (by decide)) (fun h35 => ?_)
      refine aw_iconst (pc := 38) dX4_readLand_38 iconst_0 ?_
      refine ab_ret0 (pc := 39) dX4_readLand_39 rfl (Nat.le_refl _) (Nat.le_refl _) ?_
      have eF : readLandF σ = (false, (freshF s1 (13 + σ.2.1 7 0)).2) := by unfold readLandF; rw [if_neg (by omega), ← hs1, if_neg (by rw [t2]; decide)]
      exact k0 (by rw [eF]) _ _ _ _ (by rw [eF]; exact g2) ⟨(((TBs.rf _).tr b1).tr b2), rfl, rfl, rfl⟩
  · -- 15
    refine aw_aload_n (pc := 15) (i := 0) dX4_readLand_15 rfl rfl ?_
    refine aw_swap3 ?_
    refine pg_X4_15 (pc := 16) (v := .ref (a 13)) dX4_readLand_16 rfl hM0 ?_
    refine aw_iconst (pc := 19) dX4_readLand_19 iconst_4 ?_
    refine aw_swap4 ?_
    refine cVi (pc := 20) (As := [.int (nI 4)]) (rest := []) dX4_readLand_20 rfl oc_X4_44 rfl rfl (Nat.le_of_ble_eq_true rfl) rfl rfl ovX8 (Nat.le_refl _) (Nat.le_refl _) (c8_refuse (σ := σ) hT hf ?_)
    intro κ1 g1 p1 b1
    refine ⟨_, rfl, ?_⟩
    refine aw_swap3 ?_
    refine aw_swap4 ?_
    refine aw_swap3 ?_
    refine aw_swap4 ?_
    refine ab_ret (pc := 23) dX4_readLand_23 rfl (Nat.le_refl _) (Nat.le_refl _) ?_
    have eF : readLandF σ = (false, badF σ 4) := by unfold readLandF; rw [if_pos (by omega)]
    exact k0 (by rw [eF]) _ _ _ _ (by rw [eF]; exact ⟨g1, p1⟩) ⟨((TBs.rf _).tr b1), rfl, rfl, rfl⟩
theorem SMl.store {c : Nat → Nat} {h : Nat → Nat} {κ : kS} {i m : Nat} (H : SMl c h κ) (hi : i < 7) : SMl c (upN h (17 + i) m) (kI κ 2 i (nI m)) := by
  obtain ⟨a0, a1, a4, a5, hl, hq, hz⟩ := H
  refine ⟨a0, a1, a4, a5, fun l hl9 => ?_, fun q hq9 => ?_, hz⟩
  · show upN (κ.2.1 2) i _ l = _ ∧ κ.2.1 3 l = _
    rw [upN_n _ _ (72 + l) _ (by omega)]
    refine ⟨?_, (hl l hl9).2⟩
    by_cases e : l = i
    · subst e; rw [upN_s, upN_s]
    · rw [upN_n _ _ _ _ e, upN_n _ _ _ _ (by omega)]; exact (hl l hl9).1
  · rw [upN_n _ _ _ _ (by omega)] at hq9
    rw [upN_n _ _ (79 + q) _ (by omega), upN_n _ _ (85 + q) _ (by omega)]; exact hq q hq9
theorem SMl.spare {c : Nat → Nat} {h : Nat → Nat} {κ : kS} {i m : Nat} (H : SMl c h κ) (hi : i < 7) : SMl c (upN h (72 + i) m) (kI κ 3 i (nI m)) := by
  obtain ⟨a0, a1, a4, a5, hl, hq, hz⟩ := H
  refine ⟨a0, a1, a4, a5, fun l hl9 => ?_, fun q hq9 => ?_, hz⟩
  · show κ.2.1 2 l = _ ∧ upN (κ.2.1 3) i _ l = _
    rw [upN_n _ _ (17 + l) _ (by omega)]
    refine ⟨(hl l hl9).1, ?_⟩
    by_cases e : l = i
    · subst e; rw [upN_s, upN_s]
    · rw [upN_n _ _ _ _ e, upN_n _ _ _ _ (by omega)]; exact (hl l hl9).2
  · rw [upN_n _ _ _ _ (by omega)] at hq9
    rw [upN_n _ _ (79 + q) _ (by omega), upN_n _ _ (85 + q) _ (by omega)]; exact hq q hq9
theorem SMl.person {c : Nat → Nat} {h : Nat → Nat} {κ : kS} {x y : Nat} (H : SMl c h κ) (hp : h 2 < 6) : SMl c (upN (upN (upN h (79 + h 2) x) (85 + h 2) y) 2 (h 2 + 1)) (kI (kI κ 6 (h 2) (nI x)) 7 (h 2) (nI y)) := by
  obtain ⟨a0, a1, a4, a5, hl, hq, hz⟩ := H
  refine ⟨a0, a1, a4, a5, fun l hl9 => ?_, fun q hq9 => ?_, hz⟩
  · rw [upN_n _ _ (17 + l) _ (by omega), upN_n _ _ (17 + l) _ (by omega), upN_n _ _ (17 + l) _ (by omega), upN_n _ _ (72 + l) _ (by omega), upN_n _ _ (72 + l) _ (by omega), upN_n _ _ (72 + l) _ (by omega)]
    exact hl l hl9
  · have hq9 : q < h 2 + 1 := hq9
    show upN (κ.2.1 6) (h 2) _ q = _ ∧ upN (κ.2.1 7) (h 2) _ q = _
    by_cases e : q = h 2
    · subst e
      rw [upN_s, upN_s, upN_n _ _ (79 + h 2) _ (by omega), upN_n _ _ (79 + h 2) _ (by omega), upN_s, upN_n _ _ (85 + h 2) _ (by omega), upN_s]
      exact ⟨rfl, rfl⟩
    · rw [upN_n _ _ _ _ e, upN_n _ _ _ _ e, upN_n _ _ (79 + q) _ (by omega), upN_n _ _ (79 + q) _ (by omega), upN_n _ _ (79 + q) _ (by omega), upN_n _ _ (85 + q) _ (by omega), upN_n _ _ (85 + q) _ (by omega), upN_n _ _ (85 + q) _ (by omega)]
      exact hq q (by omega)
theorem CRl.out {h : Nat → Nat} {NM : Nat → Int64} {κ : kS} {j v : Nat} (H : CRl h NM κ) (h1 : h 1 ≤ 12) (hj : (17 ≤ j ∧ j < 24 ∨ 72 ≤ j ∧ j < 79) ∧ h 0 ≤ 7 ∧ h 2 ≤ 6) : CRl (upN h j v) NM κ := by
  obtain ⟨e0, e1, e2, hl, hr, hb, hp⟩ := H
  refine ⟨by rw [upN_n _ _ _ _ (by omega)]; exact e0, by rw [upN_n _ _ _ _ (by omega)]; exact e1, by rw [upN_n _ _ _ _ (by omega)]; exact e2, fun k hk => ?_, fun r hr9 => ?_, fun i hi => ?_, fun k hk => ?_⟩
  · rw [upN_n _ _ _ _ (by omega)] at hk
    rw [upN_n _ _ (3 + k) _ (by omega), upN_n _ _ (10 + k) _ (by omega)]; exact hl k hk
  · rw [upN_n _ _ _ _ (by omega)] at hr9
    rw [upN_n _ _ (24 + r) _ (by omega), upN_n _ _ (36 + r) _ (by omega), upN_n _ _ (48 + r) _ (by omega), upN_n _ _ (60 + r) _ (by omega)]; exact hr r hr9
  · rw [betw_of (h := h) (upN_n _ _ _ _ (by omega)) h1 (fun r hr9 => ⟨upN_n _ _ _ _ (by omega), upN_n _ _ _ _ (by omega)⟩)]; exact hb i hi
  · rw [upN_n _ _ _ _ (by omega)] at hk
    rw [upN_n _ _ (79 + k) _ (by omega)]; exact hp k hk
set_option maxHeartbeats 1000000 in
set_option maxRecDepth 20000 in
theorem c4_readStore {G : xG} {d : Nat} {Q : xQ} {a ad b c mt : Nat → Nat} {κT κS κC κM : kS} {R : va_W} {σ : mS} {NM : Nat → Int64} {li : Nat} (hNB : NB G) (hM0 : κM.1 0 = .ref (a 13)) (hM1 : κM.1 1 = .ref (b 12)) (H : MRl ad c κT κS κC κM σ NM li) (hw : σ.1 11 = nI 1) (k1 : (readStoreF σ).1 = true → ∀ κT9 κS9 κC9 κM9 NM9, MRl ad c κT9 κS9 κC9 κM9 (readStoreF σ).2 NM9 li → SHM κT κS κM κT9 κS9 κM9 → Q (some (.int (bI true))) (wMt G.2.2.1 mt κM9 ++ (wTp G.2.2.1 a κT9 ++ (wSt G.2.2.1 b κS9 ++ (wCh G.2.2.1 c κC9 ++ R))))) (k0 : (readStoreF σ).1 = false → ∀ κT9 κS9 κC9 κM9, FRl κT9 (readStoreF σ).2 → SHM κT κS κM κT9 κS9 κM9 → Q (some (.int (bI false))) (wMt G.2.2.1 mt κM9 ++ (wTp G.2.2.1 a κT9 ++ (wSt G.2.2.1 b κS9 ++ (wCh G.2.2.1 c κC9 ++ R))))) : MT G MX4_readStore (d + 2) 0 0 [.ref (mt 3)] (wMt G.2.2.1 mt κM ++ (wTp G.2.2.1 a κT ++ (wSt G.2.2.1 b κS ++ (wCh G.2.2.1 c κC ++ R)))) Q := by
  obtain ⟨hT, hf, hSm, hCr, hSt, hRes, hLV, hNm, h15, h19⟩ := id H
  obtain ⟨hPV, hMH, hS1, hS2⟩ := id hLV
  have h0 := hMH.2.1
  have h1 := hMH.2.2.1
  have h2 := hMH.2.2.2.1
  refine mt_start (L := [some (.ref (mt 3)), none, none]) rfl (Nat.le_of_ble_eq_true rfl) rfl ?_
  refine aw_aload_n (pc := 0) (i := 0) dX4_readStore_0 rfl rfl ?_
  refine pg_X4_15 (pc := 1) (v := .ref (a 13)) dX4_readStore_1 rfl hM0 ?_
  refine aw_swap ?_
  refine cVv (pc := 4) (As := []) (rest := []) dX4_readStore_4 rfl oc_X4_99 rfl rfl (Nat.le_of_ble_eq_true rfl) rfl rfl ovX8 (Nat.le_refl _) (Nat.le_refl _) (c8_stepR (σ := σ) hT (Or.inl hw) ?_)
  intro κ1 g1 b1 f1
  refine ⟨rfl, ?_⟩
  have n1 := NXF_nx σ
  obtain ⟨s1, hs1⟩ : ∃ x, x = nx σ := ⟨_, rfl⟩
  rw [← hs1] at g1 n1
  refine aw_aload_n (pc := 7) (i := 0) dX4_readStore_7 rfl rfl ?_
  refine aw_swap ?_
  refine pg_X4_15 (pc := 8) (v := .ref (a 13)) dX4_readStore_8 rfl hM0 ?_
  refine aw_aload_n (pc := 11) (i := 0) dX4_readStore_11 rfl rfl ?_
  refine pg_X4_19 (pc := 12) (v := .ref (b 12)) dX4_readStore_12 rfl hM1 ?_
  refine aw_swap3 ?_
  refine pg_X4_77 (pc := 15) (v := .ref (c 13)) dX4_readStore_15 rfl hSm.1 ?_
  refine aw_swap3 ?_
  refine cVi (pc := 18) (As := [.ref (c 13)]) (rest := []) dX4_readStore_18 rfl oc_X4_113 rfl rfl (Nat.le_of_ble_eq_true rfl) rfl rfl ovX8 (Nat.le_refl _) (Nat.le_refl _) (c8_lhere (t := σ.2.1 7) (NM := NM) (fr := 13) (σ := s1) g1 (f1.trans hf) (hCr.chr h0 h1 h2 (fun x hx => by simp only [List.mem_append]; simp [hx])) (hRes.to n1) h0 (N13.to hNm.1 n1) ?_ ?_)
  · -- call
    intro i2 hi2 fw2 w2 t2
    refine ⟨_, rfl, ?_⟩
    have n2 := NXF_mI18 s1 (nI i2)
    have g2 := g1.tI (k := 18) (x := nI i2) (by decide)
    have w2 : (mI s1 18 (nI i2)).1 11 = nI 1 := (mI_o _ _ _ _ (by decide)).trans w2
    obtain ⟨s2, hs2⟩ : ∃ x, x = mI s1 18 (nI i2) := ⟨_, rfl⟩
    rw [← hs2] at g2 n2 t2 w2
    refine aw_istore_n (pc := 21) (i := 1) dX4_readStore_21 rfl (Nat.le_of_ble_eq_true rfl) rfl ?_
    refine aw_iload_n (pc := 22) (i := 1) dX4_readStore_22 rfl rfl ?_
    refine aw_iconst (pc := 23) dX4_readStore_23 iconst_m1 ?_
    refine aw_icmp_ne (pc := 24) (tgt := 29) dX4_readStore_24 rfl (fun h24 => ?_) (fun h24 => ?_)
    · -- 29
      refine aw_aload_n (pc := 29) (i := 0) dX4_readStore_29 rfl rfl ?_
      refine aw_swap3 ?_
      refine pg_X4_9 (pc := 30) (v := .int (nI (storedN σ))) dX4_readStore_30 rfl hSt ?_
      refine aw_iload_n (pc := 33) (i := 1) dX4_readStore_33 rfl rfl ?_
      refine cNi (pc := 34) (As := [.int (nI (storedN σ)), .int (nI i2)]) (rest := []) dX4_readStore_34 rfl oc_X4_117 hNB.x4 rfl rfl (Nat.le_of_ble_eq_true rfl) (Nat.le_refl _) (Nat.le_refl _) (c_hasBit (by omega) (by omega) ⟨_, rfl, ?_⟩)
      refine ab_if_eq (pc := 37) (tgt := 49) dX4_readStore_37 rfl (fun h37 => ?_) (fun h37 => ?_)
      · -- 49
        refine aw_aload_n (pc := 49) (i := 0) dX4_readStore_49 rfl rfl ?_
        refine pg_X4_15 (pc := 50) (v := .ref (a 13)) dX4_readStore_50 rfl hM0 ?_
        refine aw_swap ?_
        refine cVv (pc := 53) (As := []) (rest := []) dX4_readStore_53 rfl oc_X4_99 rfl rfl (Nat.le_of_ble_eq_true rfl) rfl rfl ovX8 (Nat.le_refl _) (Nat.le_refl _) (c8_stepR (σ := (mI s2 20 (nI (storedN σ ||| 2 ^ i2)))) (g2.tI (by decide)) (Or.inl w2) ?_)
        intro κ3 g3 b3 f3
        refine ⟨rfl, ?_⟩
        have n3 := NXF_nx (mI s2 20 (nI (storedN σ ||| 2 ^ i2)))
        obtain ⟨s3, hs3⟩ : ∃ x, x = nx (mI s2 20 (nI (storedN σ ||| 2 ^ i2))) := ⟨_, rfl⟩
        rw [← hs3] at g3 n3
        refine aw_aload_n (pc := 56) (i := 0) dX4_readStore_56 rfl rfl ?_
        refine aw_swap ?_
        refine pg_X4_15 (pc := 57) (v := .ref (a 13)) dX4_readStore_57 rfl hM0 ?_
        refine aw_iconst (pc := 60) dX4_readStore_60 iconst_0 ?_
        refine aw_bipush (pc := 61) dX4_readStore_61 bipush_99 ?_
        refine aw_swap ?_
        refine cVi (pc := 63) (As := [.int (nI 0), .int (nI 99)]) (rest := []) dX4_readStore_63 rfl oc_X4_105 rfl rfl (Nat.le_of_ble_eq_true rfl) rfl rfl ovX8 (Nat.le_refl _) (Nat.le_refl _) (c8_tnum (σ := s3) g3 (f3.trans (f1.trans hf)) (by decide) (by decide) ?_ ?_)
        · -- call
          intro m4 hm4 lo4 hi4 nm4 t4 κ4 g4 b4 f4
          refine ⟨_, rfl, ?_⟩
          have n4 := NXF_nx18 s3 (nI m4)
          obtain ⟨s4, hs4⟩ : ∃ x, x = nx (mI s3 18 (nI m4)) := ⟨_, rfl⟩
          rw [← hs4] at g4 n4 t4
          refine aw_istore_n (pc := 66) (i := 2) dX4_readStore_66 rfl (Nat.le_of_ble_eq_true rfl) rfl ?_
          refine aw_iload_n (pc := 67) (i := 2) dX4_readStore_67 rfl rfl ?_
          refine aw_iconst (pc := 68) dX4_readStore_68 iconst_m1 ?_
          refine aw_icmp_ne (pc := 69) (tgt := 74) dX4_readStore_69 rfl (fun h69 => ?_) (fun h69 => ?_)
          · -- 74
            refine aw_aload_n (pc := 74) (i := 0) dX4_readStore_74 rfl rfl ?_
            refine aw_dup (pc := 75) dX4_readStore_75 rfl ?_
            refine aw_swap ?_
            refine pg_X4_9 (pc := 76) (v := .int (nI (storedN σ))) dX4_readStore_76 rfl hSt ?_
            refine aw_iconst (pc := 79) dX4_readStore_79 iconst_1 ?_
            refine aw_iload_n (pc := 80) (i := 1) dX4_readStore_80 rfl rfl ?_
            refine aw_ishl (pc := 81) dX4_readStore_81 ?_
            refine aw_top (y := (nI (2 ^ i2))) (nI_1shl (by omega)) ?_
            refine aw_ior (pc := 82) dX4_readStore_82 ?_
            refine aw_top (y := (nI (storedN σ ||| 2 ^ i2))) (nI_or _ _ (by omega) (by have := two7 (x := i2) (by omega); omega)) ?_
            refine pp_X4_9 (pc := 83) dX4_readStore_83 rfl ?_
            refine aw_aload_n (pc := 86) (i := 0) dX4_readStore_86 rfl rfl ?_
            refine pg_X4_19 (pc := 87) (v := .ref (b 12)) dX4_readStore_87 rfl hM1 ?_
            refine aw_swap3 ?_
            refine pg_X4_121 (pc := 90) dX4_readStore_90 rfl ?_
            refine aw_iload_n (pc := 93) (i := 1) dX4_readStore_93 rfl rfl ?_
            refine aw_iload_n (pc := 94) (i := 2) dX4_readStore_94 rfl rfl ?_
            refine ps_X7_store (pc := 95) dX4_readStore_95 (by omega) ?_
            refine aw_iconst (pc := 96) dX4_readStore_96 iconst_1 ?_
            refine aw_swap4 ?_
            refine aw_swap ?_
            refine aw_swap4 ?_
            refine aw_swap4 ?_
            refine ab_ret1 (pc := 97) dX4_readStore_97 rfl (Nat.le_refl _) (Nat.le_refl _) ?_
            have eF : readStoreF σ = (true, mN s4 7 (17 + i2) m4) := by
              unfold readStoreF
              rw [← hs1, t2, fw2]
              dsimp only [Option.getD]
              rw [if_pos rfl, if_neg (by rw [h37]; decide), ← hs3]
              exact puts_ok t4 nm4
            have hL9 := LV_readStore hLV (by rw [eF])
            refine k1 (by rw [eF]) _ _ _ _ NM ?_ ⟨((((TBs.rf _).tr b1).tr b3).tr b4), rfl, rfl, rfl⟩
            rw [eF] at hL9 ⊢
            have e20 : (mN s4 7 (17 + i2) m4).1 20 = nI (storedN σ ||| 2 ^ i2) := by rw [mN_1, n4.2.2.2 20 (by decide) (by decide) (by decide) (by decide) (by decide) (by decide), n3.2.2.2 20 (by decide) (by decide) (by decide) (by decide) (by decide) (by decide), mI_k]
            have eK : ∀ k, k = 15 ∨ k = 19 → (mN s4 7 (17 + i2) m4).1 k = σ.1 k := by intro k hk; rw [mN_1, n4.2.2.2 k (by omega) (by omega) (by omega) (by omega) (by omega) (by omega), n3.2.2.2 k (by omega) (by omega) (by omega) (by omega) (by omega) (by omega), mI_o _ _ _ _ (by omega), n2.2.2.2 k (by omega) (by omega) (by omega) (by omega) (by omega) (by omega), n1.2.2.2 k (by omega) (by omega) (by omega) (by omega) (by omega) (by omega)]
            have eh : (mN s4 7 (17 + i2) m4).2.1 7 = upN (σ.2.1 7) (17 + i2) m4 := by rw [mN_7, n4.1, n3.1, mI_n, n2.1, n1.1]
            have en : (mN s4 7 (17 + i2) m4).2.2.2.2 9 = σ.2.2.2.2 9 := by
              show s4.2.2.2.2 9 = _
              rw [n4.2.2.1, n3.2.2.1]
              show s2.2.2.2.2 9 = _
              rw [n2.2.2.1, n1.2.2.1]
            have hs9 : storedN σ ||| 2 ^ i2 < 128 := Nat.or_lt_two_pow (n := 7) hS2 (two7 (by omega))
            refine ⟨g4.tN, f4, by rw [eh]; exact hSm.store (by omega), by rw [eh]; exact hCr.out (by omega) (by omega), ?_, (((((hRes.to n1).to n2).tI).to n3).to n4).tN, hL9, hNm.same (by rw [eh, upN_n _ _ _ _ (by omega)]) (by rw [eh, upN_n _ _ _ _ (by omega)]) en, (eK 15 (by omega)).trans h15, (eK 19 (by omega)).trans h19⟩
            show Value.int _ = _
            unfold storedN
            rw [e20, nI_clamp (by omega)]
            rfl
          · -- 72
            exact absurd h69 (nI_m1 (by omega))
        · -- call
          intro z4 t4 κ4 g4 b4
          refine ⟨_, rfl, ?_⟩
          refine aw_istore_n (pc := 66) (i := 2) dX4_readStore_66 rfl (Nat.le_of_ble_eq_true rfl) rfl ?_
          refine aw_iload_n (pc := 67) (i := 2) dX4_readStore_67 rfl rfl ?_
          refine aw_iconst (pc := 68) dX4_readStore_68 iconst_m1 ?_
          refine aw_icmp_ne (pc := 69) (tgt := 74) dX4_readStore_69 rfl (fun h69 => ?_) (fun h69 => ?_)
          · -- 74
            exact absurd rfl h69
          · -- 72
            refine aw_iconst (pc := 72) dX4_readStore_72 iconst_0 ?_
            refine aw_swap4 ?_
            refine aw_swap4 ?_
            refine aw_swap3 ?_
            refine aw_swap4 ?_
            refine ab_ret0 (pc := 73) dX4_readStore_73 rfl (Nat.le_refl _) (Nat.le_refl _) ?_
            have eF : readStoreF σ = (false, z4) := by unfold readStoreF; rw [← hs1, t2, fw2]; dsimp only [Option.getD]; rw [if_pos rfl, if_neg (by rw [h37]; decide), ← hs3]; exact puts_no t4
            exact k0 (by rw [eF]) _ _ _ _ (by rw [eF]; exact g4) ⟨((((TBs.rf _).tr b1).tr b3).tr b4), rfl, rfl, rfl⟩
      · -- 40
        refine aw_aload_n (pc := 40) (i := 0) dX4_readStore_40 rfl rfl ?_
        refine pg_X4_15 (pc := 41) (v := .ref (a 13)) dX4_readStore_41 rfl hM0 ?_
        refine aw_iconst (pc := 44) dX4_readStore_44 iconst_3 ?_
        refine aw_swap ?_
        refine cVi (pc := 45) (As := [.int (nI 3)]) (rest := []) dX4_readStore_45 rfl oc_X4_44 rfl rfl (Nat.le_of_ble_eq_true rfl) rfl rfl ovX8 (Nat.le_refl _) (Nat.le_refl _) (c8_refuse (σ := s2) g2 (f1.trans hf) ?_)
        intro κ3 g3 p3 b3
        refine ⟨_, rfl, ?_⟩
        refine aw_swap4 ?_
        refine aw_swap4 ?_
        refine aw_swap3 ?_
        refine aw_swap4 ?_
        refine ab_ret (pc := 48) dX4_readStore_48 rfl (Nat.le_refl _) (Nat.le_refl _) ?_
        have eF : readStoreF σ = (false, badF s2 3) := by unfold readStoreF; rw [← hs1, t2, fw2]; dsimp only [Option.getD]; rw [if_pos rfl, if_pos h37]
        exact k0 (by rw [eF]) _ _ _ _ (by rw [eF]; exact ⟨g3, p3⟩) ⟨(((TBs.rf _).tr b1).tr b3), rfl, rfl, rfl⟩
    · -- 27
      exact absurd h24 (nI_m1 (by omega))
  · -- call
    intro z2 t2 κ2 g2 b2
    refine ⟨_, rfl, ?_⟩
    refine aw_istore_n (pc := 21) (i := 1) dX4_readStore_21 rfl (Nat.le_of_ble_eq_true rfl) rfl ?_
    refine aw_iload_n (pc := 22) (i := 1) dX4_readStore_22 rfl rfl ?_
    refine aw_iconst (pc := 23) dX4_readStore_23 iconst_m1 ?_
    refine aw_icmp_ne (pc := 24) (tgt := 29) dX4_readStore_24 rfl (fun h24 => ?_) (fun h24 => ?_)
    · -- 29
      exact absurd rfl h24
    · -- 27
      refine aw_iconst (pc := 27) dX4_readStore_27 iconst_0 ?_
      refine aw_swap4 ?_
      refine aw_swap3 ?_
      refine aw_swap3 ?_
      refine aw_swap4 ?_
      refine ab_ret0 (pc := 28) dX4_readStore_28 rfl (Nat.le_refl _) (Nat.le_refl _) ?_
      have eF : readStoreF σ = (false, z2) := by unfold readStoreF; rw [← hs1, t2]; rfl
      exact k0 (by rw [eF]) _ _ _ _ (by rw [eF]; exact g2) ⟨(((TBs.rf _).tr b1).tr b2), rfl, rfl, rfl⟩
set_option maxHeartbeats 1000000 in
set_option maxRecDepth 20000 in
theorem c4_readTreaty {G : xG} {d : Nat} {Q : xQ} {a ad b c mt : Nat → Nat} {κT κS κC κM : kS} {R : va_W} {σ : mS} {NM : Nat → Int64} {li : Nat} (hNB : NB G) (hM0 : κM.1 0 = .ref (a 13)) (hM1 : κM.1 1 = .ref (b 12)) (H : MRl ad c κT κS κC κM σ NM li) (hw : σ.1 11 = nI 1) (k1 : (readTreatyF σ).1 = true → ∀ κT9 κS9 κC9 κM9 NM9, MRl ad c κT9 κS9 κC9 κM9 (readTreatyF σ).2 NM9 li → SHM κT κS κM κT9 κS9 κM9 → Q (some (.int (bI true))) (wMt G.2.2.1 mt κM9 ++ (wTp G.2.2.1 a κT9 ++ (wSt G.2.2.1 b κS9 ++ (wCh G.2.2.1 c κC9 ++ R))))) (k0 : (readTreatyF σ).1 = false → ∀ κT9 κS9 κC9 κM9, FRl κT9 (readTreatyF σ).2 → SHM κT κS κM κT9 κS9 κM9 → Q (some (.int (bI false))) (wMt G.2.2.1 mt κM9 ++ (wTp G.2.2.1 a κT9 ++ (wSt G.2.2.1 b κS9 ++ (wCh G.2.2.1 c κC9 ++ R))))) : MT G MX4_readTreaty (d + 3) 0 0 [.ref (mt 3)] (wMt G.2.2.1 mt κM ++ (wTp G.2.2.1 a κT ++ (wSt G.2.2.1 b κS ++ (wCh G.2.2.1 c κC ++ R)))) Q := by
  obtain ⟨hT, hf, hSm, hCr, hSt, hRes, hLV, hNm, h15, h19⟩ := id H
  obtain ⟨hPV, hMH, hS1, hS2⟩ := id hLV
  have h0 := hMH.2.1
  have h1 := hMH.2.2.1
  have h2 := hMH.2.2.2.1
  refine mt_start (L := [some (.ref (mt 3)), none, none]) rfl (Nat.le_of_ble_eq_true rfl) rfl ?_
  refine aw_aload_n (pc := 0) (i := 0) dX4_readTreaty_0 rfl rfl ?_
  refine pg_X4_15 (pc := 1) (v := .ref (a 13)) dX4_readTreaty_1 rfl hM0 ?_
  refine aw_swap ?_
  refine cVv (pc := 4) (As := []) (rest := []) dX4_readTreaty_4 rfl oc_X4_99 rfl rfl (Nat.le_of_ble_eq_true rfl) rfl rfl ovX8 (Nat.le_refl _) (Nat.le_refl _) (c8_stepR (σ := σ) hT (Or.inl hw) ?_)
  intro κ1 g1 b1 f1
  refine ⟨rfl, ?_⟩
  have n1 := NXF_nx σ
  obtain ⟨s1, hs1⟩ : ∃ x, x = nx σ := ⟨_, rfl⟩
  rw [← hs1] at g1 n1
  refine aw_aload_n (pc := 7) (i := 0) dX4_readTreaty_7 rfl rfl ?_
  refine aw_swap ?_
  refine pg_X4_15 (pc := 8) (v := .ref (a 13)) dX4_readTreaty_8 rfl hM0 ?_
  refine aw_aload_n (pc := 11) (i := 0) dX4_readTreaty_11 rfl rfl ?_
  refine pg_X4_19 (pc := 12) (v := .ref (b 12)) dX4_readTreaty_12 rfl hM1 ?_
  refine aw_swap3 ?_
  refine pg_X4_77 (pc := 15) (v := .ref (c 13)) dX4_readTreaty_15 rfl hSm.1 ?_
  refine aw_swap3 ?_
  refine cVi (pc := 18) (As := [.ref (c 13)]) (rest := []) dX4_readTreaty_18 rfl oc_X4_127 rfl rfl (Nat.le_of_ble_eq_true rfl) rfl rfl ovX8 (Nat.le_refl _) (Nat.le_refl _) (c8_tland (t := σ.2.1 7) (NM := NM) (fr := 13) (σ := s1) g1 (f1.trans hf) (hCr.chr h0 h1 h2 (fun x hx => by simp only [List.mem_append]; simp [hx])) (hRes.to n1) h0 (N13.to hNm.1 n1) ?_ ?_)
  · -- call
    intro i2 hi2 fw2 t2 κ2 g2 b2 f2
    refine ⟨_, rfl, ?_⟩
    have n2 := NXF_nx18 s1 (nI i2)
    obtain ⟨s2, hs2⟩ : ∃ x, x = nx (mI s1 18 (nI i2)) := ⟨_, rfl⟩
    rw [← hs2] at g2 n2 t2
    refine aw_istore_n (pc := 21) (i := 1) dX4_readTreaty_21 rfl (Nat.le_of_ble_eq_true rfl) rfl ?_
    refine aw_iload_n (pc := 22) (i := 1) dX4_readTreaty_22 rfl rfl ?_
    refine aw_iconst (pc := 23) dX4_readTreaty_23 iconst_m1 ?_
    refine aw_icmp_ne (pc := 24) (tgt := 29) dX4_readTreaty_24 rfl (fun h24 => ?_) (fun h24 => ?_)
    · -- 29
      refine aw_aload_n (pc := 29) (i := 0) dX4_readTreaty_29 rfl rfl ?_
      refine aw_swap3 ?_
      refine pg_X4_15 (pc := 30) (v := .ref (a 13)) dX4_readTreaty_30 rfl hM0 ?_
      refine aw_aload_n (pc := 33) (i := 0) dX4_readTreaty_33 rfl rfl ?_
      refine pg_X4_19 (pc := 34) (v := .ref (b 12)) dX4_readTreaty_34 rfl hM1 ?_
      refine aw_swap3 ?_
      refine pg_X4_77 (pc := 37) (v := .ref (c 13)) dX4_readTreaty_37 rfl hSm.1 ?_
      refine aw_swap3 ?_
      refine cVi (pc := 40) (As := [.ref (c 13)]) (rest := []) dX4_readTreaty_40 rfl oc_X4_113 rfl rfl (Nat.le_of_ble_eq_true rfl) rfl rfl ovX8 (Nat.le_refl _) (Nat.le_refl _) (c8_lhere (t := σ.2.1 7) (NM := NM) (fr := 13) (σ := s2) g2 f2 (hCr.chr h0 h1 h2 (fun x hx => by simp only [List.mem_append]; simp [hx])) ((hRes.to n1).to n2) h0 (N13.to (N13.to hNm.1 n1) n2) ?_ ?_)
      · -- call
        intro i3 hi3 fw3 w3 t3
        refine ⟨_, rfl, ?_⟩
        have n3 := NXF_mI18 s2 (nI i3)
        have g3 := g2.tI (k := 18) (x := nI i3) (by decide)
        have w3 : (mI s2 18 (nI i3)).1 11 = nI 1 := (mI_o _ _ _ _ (by decide)).trans w3
        obtain ⟨s3, hs3⟩ : ∃ x, x = mI s2 18 (nI i3) := ⟨_, rfl⟩
        rw [← hs3] at g3 n3 t3 w3
        refine aw_istore_n (pc := 43) (i := 2) dX4_readTreaty_43 rfl (Nat.le_of_ble_eq_true rfl) rfl ?_
        refine aw_iload_n (pc := 44) (i := 2) dX4_readTreaty_44 rfl rfl ?_
        refine aw_iconst (pc := 45) dX4_readTreaty_45 iconst_m1 ?_
        refine aw_icmp_ne (pc := 46) (tgt := 51) dX4_readTreaty_46 rfl (fun h46 => ?_) (fun h46 => ?_)
        · -- 51
          refine aw_iload_n (pc := 51) (i := 1) dX4_readTreaty_51 rfl rfl ?_
          refine aw_iload_n (pc := 52) (i := 2) dX4_readTreaty_52 rfl rfl ?_
          refine an_icmp_eq (pc := 53) (tgt := 72) dX4_readTreaty_53 rfl (by omega) (by omega) (fun h53 => ?_) (fun h53 => ?_)
          · -- 72
            refine aw_aload_n (pc := 72) (i := 0) dX4_readTreaty_72 rfl rfl ?_
            refine aw_swap3 ?_
            refine pg_X4_15 (pc := 73) (v := .ref (a 13)) dX4_readTreaty_73 rfl hM0 ?_
            refine aw_iconst (pc := 76) dX4_readTreaty_76 iconst_3 ?_
            refine aw_swap ?_
            refine cVi (pc := 77) (As := [.int (nI 3)]) (rest := []) dX4_readTreaty_77 rfl oc_X4_44 rfl rfl (Nat.le_of_ble_eq_true rfl) rfl rfl ovX8 (Nat.le_refl _) (Nat.le_refl _) (c8_refuse (σ := s3) g3 f2 ?_)
            intro κ4 g4 p4 b4
            refine ⟨_, rfl, ?_⟩
            refine aw_swap4 ?_
            refine aw_swap4 ?_
            refine aw_swap3 ?_
            refine aw_swap4 ?_
            refine ab_ret (pc := 80) dX4_readTreaty_80 rfl (Nat.le_refl _) (Nat.le_refl _) ?_
            have eF : readTreatyF σ = (false, badF s3 3) := by unfold readTreatyF; rw [← hs1, t2, fw2]; dsimp only [Option.getD]; rw [if_pos rfl, t3, fw3]; dsimp only [Option.getD]; rw [if_pos rfl, if_pos (by omega)]
            exact k0 (by rw [eF]) _ _ _ _ (by rw [eF]; exact ⟨g4, p4⟩) ⟨((((TBs.rf _).tr b1).tr b2).tr b4), rfl, rfl, rfl⟩
          · -- 56
            refine aw_aload_n (pc := 56) (i := 0) dX4_readTreaty_56 rfl rfl ?_
            refine aw_swap3 ?_
            refine pg_X4_19 (pc := 57) (v := .ref (b 12)) dX4_readTreaty_57 rfl hM1 ?_
            refine aw_swap3 ?_
            refine pg_X4_137 (pc := 60) dX4_readTreaty_60 rfl ?_
            refine aw_iload_n (pc := 63) (i := 1) dX4_readTreaty_63 rfl rfl ?_
            refine pl_X7_spares (pc := 64) (x := (nI (σ.2.1 7 (72 + i2)))) dX4_readTreaty_64 (by omega) (hSm.2.2.2.2.1 _ (by omega)).2 ?_
            refine aw_iload_n (pc := 65) (i := 2) dX4_readTreaty_65 rfl rfl ?_
            refine cNi (pc := 66) (As := [.int (nI (σ.2.1 7 (72 + i2))), .int (nI i3)]) (rest := []) dX4_readTreaty_66 rfl oc_X4_117 hNB.x4 rfl rfl (Nat.le_of_ble_eq_true rfl) (Nat.le_refl _) (Nat.le_refl _) (c_hasBit (Nat.lt_trans (hMH.1 _) (by decide)) (by omega) ⟨_, rfl, ?_⟩)
            refine ab_if_eq (pc := 69) (tgt := 81) dX4_readTreaty_69 rfl (fun h69 => ?_) (fun h69 => ?_)
            · -- 81
              refine aw_aload_n (pc := 81) (i := 0) dX4_readTreaty_81 rfl rfl ?_
              refine aw_swap ?_
              refine pg_X4_15 (pc := 82) (v := .ref (a 13)) dX4_readTreaty_82 rfl hM0 ?_
              refine aw_swap3 ?_
              refine cVv (pc := 85) (As := []) (rest := []) dX4_readTreaty_85 rfl oc_X4_99 rfl rfl (Nat.le_of_ble_eq_true rfl) rfl rfl ovX8 (Nat.le_refl _) (Nat.le_refl _) (c8_stepR (σ := (mN s3 7 (72 + i2) (σ.2.1 7 (72 + i2) ||| 2 ^ i3))) (g3.tN) (Or.inl w3) ?_)
              intro κ4 g4 b4 f4
              refine ⟨rfl, ?_⟩
              have n4 := NXF_nx (mN s3 7 (72 + i2) (σ.2.1 7 (72 + i2) ||| 2 ^ i3))
              obtain ⟨s4, hs4⟩ : ∃ x, x = nx (mN s3 7 (72 + i2) (σ.2.1 7 (72 + i2) ||| 2 ^ i3)) := ⟨_, rfl⟩
              rw [← hs4] at g4 n4
              refine aw_aload_n (pc := 88) (i := 0) dX4_readTreaty_88 rfl rfl ?_
              refine aw_swap ?_
              refine pg_X4_19 (pc := 89) (v := .ref (b 12)) dX4_readTreaty_89 rfl hM1 ?_
              refine aw_swap3 ?_
              refine pg_X4_137 (pc := 92) dX4_readTreaty_92 rfl ?_
              refine aw_iload_n (pc := 95) (i := 1) dX4_readTreaty_95 rfl rfl ?_
              refine aw_dup2 (pc := 96) dX4_readTreaty_96 rfl rfl ?_
              refine pl_X7_spares (pc := 97) (x := (nI (σ.2.1 7 (72 + i2)))) dX4_readTreaty_97 (by omega) (hSm.2.2.2.2.1 _ (by omega)).2 ?_
              refine aw_iconst (pc := 98) dX4_readTreaty_98 iconst_1 ?_
              refine aw_iload_n (pc := 99) (i := 2) dX4_readTreaty_99 rfl rfl ?_
              refine aw_ishl (pc := 100) dX4_readTreaty_100 ?_
              refine aw_top (y := (nI (2 ^ i3))) (nI_1shl (by omega)) ?_
              refine aw_ior (pc := 101) dX4_readTreaty_101 ?_
              refine aw_top (y := (nI (σ.2.1 7 (72 + i2) ||| 2 ^ i3))) (nI_or _ _ (Nat.lt_trans (hMH.1 _) (by decide)) (by have := two7 (x := i3) (by omega); omega)) ?_
              refine ps_X7_spares (pc := 102) dX4_readTreaty_102 (by omega) ?_
              refine aw_iconst (pc := 103) dX4_readTreaty_103 iconst_1 ?_
              refine aw_swap4 ?_
              refine aw_swap ?_
              refine aw_swap4 ?_
              refine aw_swap4 ?_
              refine ab_ret1 (pc := 104) dX4_readTreaty_104 rfl (Nat.le_refl _) (Nat.le_refl _) ?_
              have eF : readTreatyF σ = (true, s4) := by
                unfold readTreatyF
                rw [← hs1, t2, fw2]
                dsimp only [Option.getD]
                rw [if_pos rfl, t3, fw3]
                dsimp only [Option.getD]
                rw [if_pos rfl, if_neg (by omega), if_neg (by rw [h69]; decide), ← hs4]
              have hL9 := LV_readTreaty hLV (by rw [eF])
              refine k1 (by rw [eF]) _ _ _ _ NM ?_ ⟨((((TBs.rf _).tr b1).tr b2).tr b4), rfl, rfl, rfl⟩
              rw [eF] at hL9 ⊢
              have eK : ∀ k, k = 15 ∨ k = 19 ∨ k = 20 → s4.1 k = σ.1 k := by intro k hk; rw [n4.2.2.2 k (by omega) (by omega) (by omega) (by omega) (by omega) (by omega), mN_1, n3.2.2.2 k (by omega) (by omega) (by omega) (by omega) (by omega) (by omega), n2.2.2.2 k (by omega) (by omega) (by omega) (by omega) (by omega) (by omega), n1.2.2.2 k (by omega) (by omega) (by omega) (by omega) (by omega) (by omega)]
              have eh : s4.2.1 7 = upN (σ.2.1 7) (72 + i2) (σ.2.1 7 (72 + i2) ||| 2 ^ i3) := by rw [n4.1, mN_7, n3.1, n2.1, n1.1]
              have en : s4.2.2.2.2 9 = σ.2.2.2.2 9 := by
                rw [n4.2.2.1]
                show s3.2.2.2.2 9 = _
                rw [n3.2.2.1, n2.2.2.1, n1.2.2.1]
              exact ⟨g4, (f4.trans f2), by rw [eh]; exact hSm.spare (by omega), by rw [eh]; exact hCr.out (by omega) (by omega), st_eq hSt (eK 20 (by omega)), (((((hRes.to n1).to n2).to n3).tN).to n4), hL9, hNm.same (by rw [eh, upN_n _ _ _ _ (by omega)]) (by rw [eh, upN_n _ _ _ _ (by omega)]) en, (eK 15 (by omega)).trans h15, (eK 19 (by omega)).trans h19⟩
            · -- 72
              refine aw_aload_n (pc := 72) (i := 0) dX4_readTreaty_72 rfl rfl ?_
              refine aw_swap ?_
              refine pg_X4_15 (pc := 73) (v := .ref (a 13)) dX4_readTreaty_73 rfl hM0 ?_
              refine aw_iconst (pc := 76) dX4_readTreaty_76 iconst_3 ?_
              refine aw_swap3 ?_
              refine cVi (pc := 77) (As := [.int (nI 3)]) (rest := []) dX4_readTreaty_77 rfl oc_X4_44 rfl rfl (Nat.le_of_ble_eq_true rfl) rfl rfl ovX8 (Nat.le_refl _) (Nat.le_refl _) (c8_refuse (σ := s3) g3 f2 ?_)
              intro κ4 g4 p4 b4
              refine ⟨_, rfl, ?_⟩
              refine aw_swap4 ?_
              refine aw_swap4 ?_
              refine aw_swap3 ?_
              refine aw_swap4 ?_
              refine ab_ret (pc := 80) dX4_readTreaty_80 rfl (Nat.le_refl _) (Nat.le_refl _) ?_
              have eF : readTreatyF σ = (false, badF s3 3) := by unfold readTreatyF; rw [← hs1, t2, fw2]; dsimp only [Option.getD]; rw [if_pos rfl, t3, fw3]; dsimp only [Option.getD]; rw [if_pos rfl, if_neg (by omega), if_pos h69]
              exact k0 (by rw [eF]) _ _ _ _ (by rw [eF]; exact ⟨g4, p4⟩) ⟨((((TBs.rf _).tr b1).tr b2).tr b4), rfl, rfl, rfl⟩
        · -- 49
          exact absurd h46 (nI_m1 (by omega))
      · -- call
        intro z3 t3 κ3 g3 b3
        refine ⟨_, rfl, ?_⟩
        refine aw_istore_n (pc := 43) (i := 2) dX4_readTreaty_43 rfl (Nat.le_of_ble_eq_true rfl) rfl ?_
        refine aw_iload_n (pc := 44) (i := 2) dX4_readTreaty_44 rfl rfl ?_
        refine aw_iconst (pc := 45) dX4_readTreaty_45 iconst_m1 ?_
        refine aw_icmp_ne (pc := 46) (tgt := 51) dX4_readTreaty_46 rfl (fun h46 => ?_) (fun h46 => ?_)
        · -- 51
          exact absurd rfl h46
        · -- 49
          refine aw_iconst (pc := 49) dX4_readTreaty_49 iconst_0 ?_
          refine aw_swap4 ?_
          refine aw_swap3 ?_
          refine aw_swap3 ?_
          refine aw_swap4 ?_
          refine ab_ret0 (pc := 50) dX4_readTreaty_50 rfl (Nat.le_refl _) (Nat.le_refl _) ?_
          have eF : readTreatyF σ = (false, z3) := by unfold readTreatyF; rw [← hs1, t2]; dsimp only; rw [if_pos rfl, t3]; rfl
          exact k0 (by rw [eF]) _ _ _ _ (by rw [eF]; exact g3) ⟨((((TBs.rf _).tr b1).tr b2).tr b3), rfl, rfl, rfl⟩
    · -- 27
      exact absurd h24 (nI_m1 (by omega))
  · -- call
    intro z2 t2 κ2 g2 b2
    refine ⟨_, rfl, ?_⟩
    refine aw_istore_n (pc := 21) (i := 1) dX4_readTreaty_21 rfl (Nat.le_of_ble_eq_true rfl) rfl ?_
    refine aw_iload_n (pc := 22) (i := 1) dX4_readTreaty_22 rfl rfl ?_
    refine aw_iconst (pc := 23) dX4_readTreaty_23 iconst_m1 ?_
    refine aw_icmp_ne (pc := 24) (tgt := 29) dX4_readTreaty_24 rfl (fun h24 => ?_) (fun h24 => ?_)
    · -- 29
      exact absurd rfl h24
    · -- 27
      refine aw_iconst (pc := 27) dX4_readTreaty_27 iconst_0 ?_
      refine aw_swap4 ?_
      refine aw_swap3 ?_
      refine aw_swap3 ?_
      refine aw_swap4 ?_
      refine ab_ret0 (pc := 28) dX4_readTreaty_28 rfl (Nat.le_refl _) (Nat.le_refl _) ?_
      have eF : readTreatyF σ = (false, z2) := by unfold readTreatyF; rw [← hs1, t2]; rfl
      exact k0 (by rw [eF]) _ _ _ _ (by rw [eF]; exact g2) ⟨(((TBs.rf _).tr b1).tr b2), rfl, rfl, rfl⟩
set_option maxHeartbeats 1000000 in
set_option maxRecDepth 20000 in
theorem c4_readRoad {G : xG} {d : Nat} {Q : xQ} {a ad b c mt : Nat → Nat} {κT κS κC κM : kS} {R : va_W} {σ : mS} {NM : Nat → Int64} {li : Nat} (hM0 : κM.1 0 = .ref (a 13)) (hM1 : κM.1 1 = .ref (b 12)) (H : MRl ad c κT κS κC κM σ NM li) (hw : σ.1 11 = nI 1) (k1 : (readRoadF σ).1 = true → ∀ κT9 κS9 κC9 κM9 NM9, MRl ad c κT9 κS9 κC9 κM9 (readRoadF σ).2 NM9 li → SHM κT κS κM κT9 κS9 κM9 → Q (some (.int (bI true))) (wMt G.2.2.1 mt κM9 ++ (wTp G.2.2.1 a κT9 ++ (wSt G.2.2.1 b κS9 ++ (wCh G.2.2.1 c κC9 ++ R))))) (k0 : (readRoadF σ).1 = false → ∀ κT9 κS9 κC9 κM9, FRl κT9 (readRoadF σ).2 → SHM κT κS κM κT9 κS9 κM9 → Q (some (.int (bI false))) (wMt G.2.2.1 mt κM9 ++ (wTp G.2.2.1 a κT9 ++ (wSt G.2.2.1 b κS9 ++ (wCh G.2.2.1 c κC9 ++ R))))) : MT G MX4_readRoad (d + 3) 0 0 [.ref (mt 3)] (wMt G.2.2.1 mt κM ++ (wTp G.2.2.1 a κT ++ (wSt G.2.2.1 b κS ++ (wCh G.2.2.1 c κC ++ R)))) Q := by
  obtain ⟨hT, hf, hSm, hCr, hSt, hRes, hLV, hNm, h15, h19⟩ := id H
  obtain ⟨hPV, hMH, hS1, hS2⟩ := id hLV
  have h0 := hMH.2.1
  have h1 := hMH.2.2.1
  have h2 := hMH.2.2.2.1
  refine mt_start (L := [some (.ref (mt 3)), none, none, none, none]) rfl (Nat.le_of_ble_eq_true rfl) rfl ?_
  refine aw_aload_n (pc := 0) (i := 0) dX4_readRoad_0 rfl rfl ?_
  refine pg_X4_19 (pc := 1) (v := .ref (b 12)) dX4_readRoad_1 rfl hM1 ?_
  refine aw_swap3 ?_
  refine pg_X4_77 (pc := 4) (v := .ref (c 13)) dX4_readRoad_4 rfl hSm.1 ?_
  refine aw_swap4 ?_
  refine pg_X4_124 (pc := 7) (v := .int (nI (σ.2.1 7 1))) dX4_readRoad_7 rfl hCr.2.1 ?_
  refine aw_bipush (pc := 10) dX4_readRoad_10 bipush_12 ?_
  refine an_icmp_lt (pc := 12) (tgt := 24) dX4_readRoad_12 rfl (by omega) (by decide) (fun h12 => ?_) (fun h12 => ?_)
  · -- 24
    refine aw_aload_n (pc := 24) (i := 0) dX4_readRoad_24 rfl rfl ?_
    refine aw_swap3 ?_
    refine pg_X4_15 (pc := 25) (v := .ref (a 13)) dX4_readRoad_25 rfl hM0 ?_
    refine aw_swap4 ?_
    refine cVv (pc := 28) (As := []) (rest := []) dX4_readRoad_28 rfl oc_X4_99 rfl rfl (Nat.le_of_ble_eq_true rfl) rfl rfl ovX8 (Nat.le_refl _) (Nat.le_refl _) (c8_stepR (σ := σ) hT (Or.inl hw) ?_)
    intro κ1 g1 b1 f1
    refine ⟨rfl, ?_⟩
    have n1 := NXF_nx σ
    obtain ⟨s1, hs1⟩ : ∃ x, x = nx σ := ⟨_, rfl⟩
    rw [← hs1] at g1 n1
    refine aw_aload_n (pc := 31) (i := 0) dX4_readRoad_31 rfl rfl ?_
    refine aw_swap ?_
    refine pg_X4_15 (pc := 32) (v := .ref (a 13)) dX4_readRoad_32 rfl hM0 ?_
    refine aw_aload_n (pc := 35) (i := 0) dX4_readRoad_35 rfl rfl ?_
    refine pg_X4_19 (pc := 36) (v := .ref (b 12)) dX4_readRoad_36 rfl hM1 ?_
    refine aw_swap4 ?_
    refine pg_X4_77 (pc := 39) (v := .ref (c 13)) dX4_readRoad_39 rfl hSm.1 ?_
    refine aw_swap3 ?_
    refine cVi (pc := 42) (As := [.ref (c 13)]) (rest := []) dX4_readRoad_42 rfl oc_X4_127 rfl rfl (Nat.le_of_ble_eq_true rfl) rfl rfl ovX8 (Nat.le_refl _) (Nat.le_refl _) (c8_tland (t := σ.2.1 7) (NM := NM) (fr := 13) (σ := s1) g1 (f1.trans hf) (hCr.chr h0 h1 h2 (fun x hx => by simp only [List.mem_append]; simp [hx])) (hRes.to n1) h0 (N13.to hNm.1 n1) ?_ ?_)
    · -- call
      intro i2 hi2 fw2 t2 κ2 g2 b2 f2
      refine ⟨_, rfl, ?_⟩
      have n2 := NXF_nx18 s1 (nI i2)
      obtain ⟨s2, hs2⟩ : ∃ x, x = nx (mI s1 18 (nI i2)) := ⟨_, rfl⟩
      rw [← hs2] at g2 n2 t2
      refine aw_istore_n (pc := 45) (i := 1) dX4_readRoad_45 rfl (Nat.le_of_ble_eq_true rfl) rfl ?_
      refine aw_iload_n (pc := 46) (i := 1) dX4_readRoad_46 rfl rfl ?_
      refine aw_iconst (pc := 47) dX4_readRoad_47 iconst_m1 ?_
      refine aw_icmp_ne (pc := 48) (tgt := 53) dX4_readRoad_48 rfl (fun h48 => ?_) (fun h48 => ?_)
      · -- 53
        refine aw_aload_n (pc := 53) (i := 0) dX4_readRoad_53 rfl rfl ?_
        refine aw_swap3 ?_
        refine pg_X4_15 (pc := 54) (v := .ref (a 13)) dX4_readRoad_54 rfl hM0 ?_
        refine aw_aload_n (pc := 57) (i := 0) dX4_readRoad_57 rfl rfl ?_
        refine pg_X4_19 (pc := 58) (v := .ref (b 12)) dX4_readRoad_58 rfl hM1 ?_
        refine aw_swap3 ?_
        refine pg_X4_77 (pc := 61) (v := .ref (c 13)) dX4_readRoad_61 rfl hSm.1 ?_
        refine aw_swap3 ?_
        refine cVi (pc := 64) (As := [.ref (c 13)]) (rest := []) dX4_readRoad_64 rfl oc_X4_113 rfl rfl (Nat.le_of_ble_eq_true rfl) rfl rfl ovX8 (Nat.le_refl _) (Nat.le_refl _) (c8_lhere (t := σ.2.1 7) (NM := NM) (fr := 13) (σ := s2) g2 f2 (hCr.chr h0 h1 h2 (fun x hx => by simp only [List.mem_append]; simp [hx])) ((hRes.to n1).to n2) h0 (N13.to (N13.to hNm.1 n1) n2) ?_ ?_)
        · -- call
          intro i3 hi3 fw3 w3 t3
          refine ⟨_, rfl, ?_⟩
          have n3 := NXF_mI18 s2 (nI i3)
          have g3 := g2.tI (k := 18) (x := nI i3) (by decide)
          have w3 : (mI s2 18 (nI i3)).1 11 = nI 1 := (mI_o _ _ _ _ (by decide)).trans w3
          obtain ⟨s3, hs3⟩ : ∃ x, x = mI s2 18 (nI i3) := ⟨_, rfl⟩
          rw [← hs3] at g3 n3 t3 w3
          refine aw_istore_n (pc := 67) (i := 2) dX4_readRoad_67 rfl (Nat.le_of_ble_eq_true rfl) rfl ?_
          refine aw_iload_n (pc := 68) (i := 2) dX4_readRoad_68 rfl rfl ?_
          refine aw_iconst (pc := 69) dX4_readRoad_69 iconst_m1 ?_
          refine aw_icmp_ne (pc := 70) (tgt := 75) dX4_readRoad_70 rfl (fun h70 => ?_) (fun h70 => ?_)
          · -- 75
            refine aw_iload_n (pc := 75) (i := 1) dX4_readRoad_75 rfl rfl ?_
            refine aw_iload_n (pc := 76) (i := 2) dX4_readRoad_76 rfl rfl ?_
            refine an_icmp_eq (pc := 77) (tgt := 95) dX4_readRoad_77 rfl (by omega) (by omega) (fun h77 => ?_) (fun h77 => ?_)
            · -- 95
              refine aw_aload_n (pc := 95) (i := 0) dX4_readRoad_95 rfl rfl ?_
              refine aw_swap3 ?_
              refine pg_X4_15 (pc := 96) (v := .ref (a 13)) dX4_readRoad_96 rfl hM0 ?_
              refine aw_iconst (pc := 99) dX4_readRoad_99 iconst_3 ?_
              refine aw_swap ?_
              refine cVi (pc := 100) (As := [.int (nI 3)]) (rest := []) dX4_readRoad_100 rfl oc_X4_44 rfl rfl (Nat.le_of_ble_eq_true rfl) rfl rfl ovX8 (Nat.le_refl _) (Nat.le_refl _) (c8_refuse (σ := s3) g3 f2 ?_)
              intro κ4 g4 p4 b4
              refine ⟨_, rfl, ?_⟩
              refine aw_swap4 ?_
              refine aw_swap4 ?_
              refine aw_swap3 ?_
              refine aw_swap4 ?_
              refine ab_ret (pc := 103) dX4_readRoad_103 rfl (Nat.le_refl _) (Nat.le_refl _) ?_
              have eF : readRoadF σ = (false, badF s3 3) := by unfold readRoadF; rw [if_neg (by omega), ← hs1, t2]; dsimp only; rw [if_pos rfl, t3, fw2, fw3]; dsimp only [Option.getD]; rw [if_pos rfl, if_pos (by omega)]
              exact k0 (by rw [eF]) _ _ _ _ (by rw [eF]; exact ⟨g4, p4⟩) ⟨((((TBs.rf _).tr b1).tr b2).tr b4), rfl, rfl, rfl⟩
            · -- 80
              refine aw_aload_n (pc := 80) (i := 0) dX4_readRoad_80 rfl rfl ?_
              refine aw_swap3 ?_
              refine pg_X4_19 (pc := 81) (v := .ref (b 12)) dX4_readRoad_81 rfl hM1 ?_
              refine aw_swap3 ?_
              refine pg_X4_77 (pc := 84) (v := .ref (c 13)) dX4_readRoad_84 rfl hSm.1 ?_
              refine aw_iload_n (pc := 87) (i := 1) dX4_readRoad_87 rfl rfl ?_
              refine aw_iload_n (pc := 88) (i := 2) dX4_readRoad_88 rfl rfl ?_
              refine aw_swap4 ?_
              refine cVi (pc := 89) (As := [.int (nI i2), .int (nI i3)]) (rest := []) dX4_readRoad_89 rfl oc_X4_130 rfl rfl (Nat.le_of_ble_eq_true rfl) rfl rfl ovX3 (Nat.le_refl _) (Nat.le_refl _) (c3_roadBetween (hCr.chr h0 h1 h2 (fun x hx => by simp only [List.mem_append]; simp [hx])) (by omega) (by omega) ?_ ?_)
              · -- call
                intro hrd
                refine ⟨_, rfl, ?_⟩
                refine an_ifm_lt (pc := 92) (tgt := 104) dX4_readRoad_92 rfl ?_
                refine aw_aload_n (pc := 104) (i := 0) dX4_readRoad_104 rfl rfl ?_
                refine aw_swap3 ?_
                refine pg_X4_15 (pc := 105) (v := .ref (a 13)) dX4_readRoad_105 rfl hM0 ?_
                refine aw_swap4 ?_
                refine cVv (pc := 108) (As := []) (rest := []) dX4_readRoad_108 rfl oc_X4_99 rfl rfl (Nat.le_of_ble_eq_true rfl) rfl rfl ovX8 (Nat.le_refl _) (Nat.le_refl _) (c8_stepR (σ := (mN (mN s3 7 (24 + σ.2.1 7 1) i2) 7 (36 + σ.2.1 7 1) i3)) ((g3.tN).tN) (Or.inl w3) ?_)
                intro κ4 g4 b4 f4
                refine ⟨rfl, ?_⟩
                have n4 := NXF_nx (mN (mN s3 7 (24 + σ.2.1 7 1) i2) 7 (36 + σ.2.1 7 1) i3)
                obtain ⟨s4, hs4⟩ : ∃ x, x = nx (mN (mN s3 7 (24 + σ.2.1 7 1) i2) 7 (36 + σ.2.1 7 1) i3) := ⟨_, rfl⟩
                rw [← hs4] at g4 n4
                refine aw_aload_n (pc := 111) (i := 0) dX4_readRoad_111 rfl rfl ?_
                refine aw_swap ?_
                refine pg_X4_15 (pc := 112) (v := .ref (a 13)) dX4_readRoad_112 rfl hM0 ?_
                refine aw_iconst (pc := 115) dX4_readRoad_115 iconst_0 ?_
                refine aw_sipush (pc := 116) dX4_readRoad_116 sipush_240 ?_
                refine aw_swap ?_
                refine cVi (pc := 119) (As := [.int (nI 0), .int (nI 240)]) (rest := []) dX4_readRoad_119 rfl oc_X4_105 rfl rfl (Nat.le_of_ble_eq_true rfl) rfl rfl ovX8 (Nat.le_refl _) (Nat.le_refl _) (c8_tnum (σ := s4) g4 (f4.trans f2) (by decide) (by decide) ?_ ?_)
                · -- call
                  intro m5 hm5 lo5 hi5 nm5 t5 κ5 g5 b5 f5
                  refine ⟨_, rfl, ?_⟩
                  have n5 := NXF_nx18 s4 (nI m5)
                  obtain ⟨s5, hs5⟩ : ∃ x, x = nx (mI s4 18 (nI m5)) := ⟨_, rfl⟩
                  rw [← hs5] at g5 n5 t5
                  refine aw_istore_n (pc := 122) (i := 3) dX4_readRoad_122 rfl (Nat.le_of_ble_eq_true rfl) rfl ?_
                  refine aw_iload_n (pc := 123) (i := 3) dX4_readRoad_123 rfl rfl ?_
                  refine aw_iconst (pc := 124) dX4_readRoad_124 iconst_m1 ?_
                  refine aw_icmp_ne (pc := 125) (tgt := 130) dX4_readRoad_125 rfl (fun h125 => ?_) (fun h125 => ?_)
                  · -- 130
                    refine aw_aload_n (pc := 130) (i := 0) dX4_readRoad_130 rfl rfl ?_
                    refine aw_swap ?_
                    refine pg_X4_15 (pc := 131) (v := .ref (a 13)) dX4_readRoad_131 rfl hM0 ?_
                    refine aw_iload_n (pc := 134) (i := 3) dX4_readRoad_134 rfl rfl ?_
                    refine aw_sipush (pc := 135) dX4_readRoad_135 sipush_240 ?_
                    refine aw_swap ?_
                    refine cVi (pc := 138) (As := [.int (nI m5), .int (nI 240)]) (rest := []) dX4_readRoad_138 rfl oc_X4_105 rfl rfl (Nat.le_of_ble_eq_true rfl) rfl rfl ovX8 (Nat.le_refl _) (Nat.le_refl _) (c8_tnum (σ := (mN s5 7 (48 + σ.2.1 7 1) m5)) (g5.tN) f5 (by omega) (by decide) ?_ ?_)
                    · -- call
                      intro m6 hm6 lo6 hi6 nm6 t6 κ6 g6 b6 f6
                      refine ⟨_, rfl, ?_⟩
                      have n6 := NXF_nx18 (mN s5 7 (48 + σ.2.1 7 1) m5) (nI m6)
                      obtain ⟨s6, hs6⟩ : ∃ x, x = nx (mI (mN s5 7 (48 + σ.2.1 7 1) m5) 18 (nI m6)) := ⟨_, rfl⟩
                      rw [← hs6] at g6 n6 t6
                      refine aw_istore (pc := 141) (i := 4) dX4_readRoad_141 (Nat.le_of_ble_eq_true rfl) rfl ?_
                      refine aw_iload (pc := 143) dX4_readRoad_143 rfl ?_
                      refine aw_iconst (pc := 145) dX4_readRoad_145 iconst_m1 ?_
                      refine aw_icmp_ne (pc := 146) (tgt := 151) dX4_readRoad_146 rfl (fun h146 => ?_) (fun h146 => ?_)
                      · -- 151
                        refine aw_aload_n (pc := 151) (i := 0) dX4_readRoad_151 rfl rfl ?_
                        refine aw_swap ?_
                        refine pg_X4_19 (pc := 152) (v := .ref (b 12)) dX4_readRoad_152 rfl hM1 ?_
                        refine aw_swap4 ?_
                        refine pg_X4_77 (pc := 155) (v := .ref (c 13)) dX4_readRoad_155 rfl hSm.1 ?_
                        refine aw_iload_n (pc := 158) (i := 1) dX4_readRoad_158 rfl rfl ?_
                        refine aw_iload_n (pc := 159) (i := 2) dX4_readRoad_159 rfl rfl ?_
                        refine aw_iload_n (pc := 160) (i := 3) dX4_readRoad_160 rfl rfl ?_
                        refine aw_iload (pc := 161) dX4_readRoad_161 rfl ?_
                        refine aw_swap4 ?_
                        refine cVv (pc := 163) (As := [.int (nI i2), .int (nI i3), .int (nI m5), .int (nI m6)]) (rest := []) dX4_readRoad_163 rfl oc_X4_133 rfl rfl (Nat.le_of_ble_eq_true rfl) rfl rfl ovX3 (Nat.le_refl _) (Nat.le_refl _) (c3_addRoad hCr h0 (by omega) h2 (by omega) (by omega) h77 hrd ?_)
                        intro κC9 hC9
                        refine ⟨rfl, ?_⟩
                        refine aw_iconst (pc := 166) dX4_readRoad_166 iconst_1 ?_
                        refine aw_swap ?_
                        refine aw_swap4 ?_
                        refine aw_swap4 ?_
                        refine ab_ret1 (pc := 167) dX4_readRoad_167 rfl (Nat.le_refl _) (Nat.le_refl _) ?_
                        have e48 : (mN s5 7 (48 + σ.2.1 7 1) m5).2.1 7 (48 + σ.2.1 7 1) = m5 := by rw [mN_7, upN_s]
                        have eF : readRoadF σ = (true, mN (mN s6 7 (60 + σ.2.1 7 1) m6) 7 1 (σ.2.1 7 1 + 1)) := by unfold readRoadF; rw [if_neg (by omega), ← hs1, t2]; dsimp only; rw [if_pos rfl, t3, fw2, fw3]; dsimp only [Option.getD]; rw [if_pos rfl, if_neg (by omega), if_neg (by rw [show findF (roadP (σ.2.1 7) i2 i3) (σ.2.1 7 1) 0 = none from hrd]; decide)]; simp only [← hs4, puts_ok t5 nm5, e48, puts_ok t6 nm6, if_true, reduceIte]
                        have hL9 := LV_readRoad hLV (by rw [eF])
                        refine k1 (by rw [eF]) _ _ _ _ NM ?_ ⟨((((((TBs.rf _).tr b1).tr b2).tr b4).tr b5).tr b6), rfl, rfl, rfl⟩
                        rw [eF] at hL9 ⊢
                        have eK : ∀ k, k = 15 ∨ k = 19 ∨ k = 20 → (mN (mN s6 7 (60 + σ.2.1 7 1) m6) 7 1 (σ.2.1 7 1 + 1)).1 k = σ.1 k := by intro k hk; rw [mN_1, mN_1, n6.2.2.2 k (by omega) (by omega) (by omega) (by omega) (by omega) (by omega), mN_1, n5.2.2.2 k (by omega) (by omega) (by omega) (by omega) (by omega) (by omega), n4.2.2.2 k (by omega) (by omega) (by omega) (by omega) (by omega) (by omega), mN_1, mN_1, n3.2.2.2 k (by omega) (by omega) (by omega) (by omega) (by omega) (by omega), n2.2.2.2 k (by omega) (by omega) (by omega) (by omega) (by omega) (by omega), n1.2.2.2 k (by omega) (by omega) (by omega) (by omega) (by omega) (by omega)]
                        have eh : (mN (mN s6 7 (60 + σ.2.1 7 1) m6) 7 1 (σ.2.1 7 1 + 1)).2.1 7 = upN (upN (upN (upN (upN (σ.2.1 7) (24 + σ.2.1 7 1) i2) (36 + σ.2.1 7 1) i3) (48 + σ.2.1 7 1) m5) (60 + σ.2.1 7 1) m6) 1 (σ.2.1 7 1 + 1) := by rw [mN_7, mN_7, n6.1, mN_7, n5.1, n4.1, mN_7, mN_7, n3.1, n2.1, n1.1]
                        have en : (mN (mN s6 7 (60 + σ.2.1 7 1) m6) 7 1 (σ.2.1 7 1 + 1)).2.2.2.2 9 = σ.2.2.2.2 9 := by
                          show s6.2.2.2.2 9 = _
                          rw [n6.2.2.1]
                          show s5.2.2.2.2 9 = _
                          rw [n5.2.2.1, n4.2.2.1]
                          show s3.2.2.2.2 9 = _
                          rw [n3.2.2.1, n2.2.2.1, n1.2.2.1]
                        refine ⟨g6.tN.tN, f6, ?_, by rw [eh]; exact hC9, st_eq hSt (eK 20 (by omega)), (((((((((hRes.to n1).to n2).to n3).tN).tN).to n4).to n5).tN).to n6).tN.tN, hL9, hNm.same (by rw [eh, upN_n _ _ _ _ (by omega), upN_n _ _ _ _ (by omega), upN_n _ _ _ _ (by omega), upN_n _ _ _ _ (by omega), upN_n _ _ _ _ (by omega)]) (by rw [eh, upN_n _ _ _ _ (by omega), upN_n _ _ _ _ (by omega), upN_n _ _ _ _ (by omega), upN_n _ _ _ _ (by omega), upN_n _ _ _ _ (by omega)]) en, (eK 15 (by omega)).trans h15, (eK 19 (by omega)).trans h19⟩
                        rw [eh]
                        refine hSm.of (by rw [upN_n _ _ _ _ (by omega), upN_n _ _ _ _ (by omega), upN_n _ _ _ _ (by omega), upN_n _ _ _ _ (by omega), upN_n _ _ _ _ (by omega)]) (fun l hl => ?_) (fun q hq => ?_)
                        · rw [upN_n _ _ (17 + l) _ (by omega), upN_n _ _ (17 + l) _ (by omega), upN_n _ _ (17 + l) _ (by omega), upN_n _ _ (17 + l) _ (by omega), upN_n _ _ (17 + l) _ (by omega), upN_n _ _ (72 + l) _ (by omega), upN_n _ _ (72 + l) _ (by omega), upN_n _ _ (72 + l) _ (by omega), upN_n _ _ (72 + l) _ (by omega), upN_n _ _ (72 + l) _ (by omega)]
                          exact ⟨rfl, rfl⟩
                        · rw [upN_n _ _ (79 + q) _ (by omega), upN_n _ _ (79 + q) _ (by omega), upN_n _ _ (79 + q) _ (by omega), upN_n _ _ (79 + q) _ (by omega), upN_n _ _ (79 + q) _ (by omega), upN_n _ _ (85 + q) _ (by omega), upN_n _ _ (85 + q) _ (by omega), upN_n _ _ (85 + q) _ (by omega), upN_n _ _ (85 + q) _ (by omega), upN_n _ _ (85 + q) _ (by omega)]
                          exact ⟨rfl, rfl⟩
                      · -- 149
                        exact absurd h146 (nI_m1 (by omega))
                    · -- call
                      intro z6 t6 κ6 g6 b6
                      refine ⟨_, rfl, ?_⟩
                      refine aw_istore (pc := 141) (i := 4) dX4_readRoad_141 (Nat.le_of_ble_eq_true rfl) rfl ?_
                      refine aw_iload (pc := 143) dX4_readRoad_143 rfl ?_
                      refine aw_iconst (pc := 145) dX4_readRoad_145 iconst_m1 ?_
                      refine aw_icmp_ne (pc := 146) (tgt := 151) dX4_readRoad_146 rfl (fun h146 => ?_) (fun h146 => ?_)
                      · -- 151
                        exact absurd rfl h146
                      · -- 149
                        refine aw_iconst (pc := 149) dX4_readRoad_149 iconst_0 ?_
                        refine aw_swap3 ?_
                        refine aw_swap4 ?_
                        refine aw_swap3 ?_
                        refine aw_swap4 ?_
                        refine ab_ret0 (pc := 150) dX4_readRoad_150 rfl (Nat.le_refl _) (Nat.le_refl _) ?_
                        have eF : readRoadF σ = (false, z6) := by have e48 : (mN s5 7 (48 + σ.2.1 7 1) m5).2.1 7 (48 + σ.2.1 7 1) = m5 := (by rw [mN_7, upN_s]); unfold readRoadF; rw [if_neg (by omega), ← hs1, t2]; dsimp only; rw [if_pos rfl, t3, fw2, fw3]; dsimp only [Option.getD]; rw [if_pos rfl, if_neg (by omega), if_neg (by rw [show findF (roadP (σ.2.1 7) i2 i3) (σ.2.1 7 1) 0 = none from hrd]; decide)]; simp only [← hs4, puts_ok t5 nm5, e48, puts_no t6, Bool.false_eq_true, if_true, if_false, reduceIte]
                        exact k0 (by rw [eF]) _ _ _ _ (by rw [eF]; exact g6) ⟨((((((TBs.rf _).tr b1).tr b2).tr b4).tr b5).tr b6), rfl, rfl, rfl⟩
                  · -- 128
                    exact absurd h125 (nI_m1 (by omega))
                · -- call
                  intro z5 t5 κ5 g5 b5
                  refine ⟨_, rfl, ?_⟩
                  refine aw_istore_n (pc := 122) (i := 3) dX4_readRoad_122 rfl (Nat.le_of_ble_eq_true rfl) rfl ?_
                  refine aw_iload_n (pc := 123) (i := 3) dX4_readRoad_123 rfl rfl ?_
                  refine aw_iconst (pc := 124) dX4_readRoad_124 iconst_m1 ?_
                  refine aw_icmp_ne (pc := 125) (tgt := 130) dX4_readRoad_125 rfl (fun h125 => ?_) (fun h125 => ?_)
                  · -- 130
                    exact absurd rfl h125
                  · -- 128
                    refine aw_iconst (pc := 128) dX4_readRoad_128 iconst_0 ?_
                    refine aw_swap3 ?_
                    refine aw_swap4 ?_
                    refine aw_swap3 ?_
                    refine aw_swap4 ?_
                    refine ab_ret0 (pc := 129) dX4_readRoad_129 rfl (Nat.le_refl _) (Nat.le_refl _) ?_
                    have eF : readRoadF σ = (false, z5) := by unfold readRoadF; rw [if_neg (by omega), ← hs1, t2]; dsimp only; rw [if_pos rfl, t3, fw2, fw3]; dsimp only [Option.getD]; rw [if_pos rfl, if_neg (by omega), if_neg (by rw [show findF (roadP (σ.2.1 7) i2 i3) (σ.2.1 7 1) 0 = none from hrd]; decide)]; simp only [← hs4, puts_no t5, Bool.false_eq_true, if_false, reduceIte]
                    exact k0 (by rw [eF]) _ _ _ _ (by rw [eF]; exact g5) ⟨(((((TBs.rf _).tr b1).tr b2).tr b4).tr b5), rfl, rfl, rfl⟩
              · -- call
                intro rd hrd hrd1
                refine ⟨_, rfl, ?_⟩
                refine an_if_lt (pc := 92) (tgt := 104) dX4_readRoad_92 rfl (by omega) ?_
                refine aw_aload_n (pc := 95) (i := 0) dX4_readRoad_95 rfl rfl ?_
                refine aw_swap3 ?_
                refine pg_X4_15 (pc := 96) (v := .ref (a 13)) dX4_readRoad_96 rfl hM0 ?_
                refine aw_iconst (pc := 99) dX4_readRoad_99 iconst_3 ?_
                refine aw_swap4 ?_
                refine cVi (pc := 100) (As := [.int (nI 3)]) (rest := []) dX4_readRoad_100 rfl oc_X4_44 rfl rfl (Nat.le_of_ble_eq_true rfl) rfl rfl ovX8 (Nat.le_refl _) (Nat.le_refl _) (c8_refuse (σ := s3) g3 f2 ?_)
                intro κ4 g4 p4 b4
                refine ⟨_, rfl, ?_⟩
                refine aw_swap3 ?_
                refine aw_swap4 ?_
                refine aw_swap3 ?_
                refine aw_swap4 ?_
                refine ab_ret (pc := 103) dX4_readRoad_103 rfl (Nat.le_refl _) (Nat.le_refl _) ?_
                have eF : readRoadF σ = (false, badF s3 3) := by unfold readRoadF; rw [if_neg (by omega), ← hs1, t2]; dsimp only; rw [if_pos rfl, t3, fw2, fw3]; dsimp only [Option.getD]; rw [if_pos rfl, if_neg (by omega), if_pos (by rw [show findF (roadP (σ.2.1 7) i2 i3) (σ.2.1 7 1) 0 = some rd from hrd]; rfl)]
                exact k0 (by rw [eF]) _ _ _ _ (by rw [eF]; exact ⟨g4, p4⟩) ⟨((((TBs.rf _).tr b1).tr b2).tr b4), rfl, rfl, rfl⟩
          · -- 73
            exact absurd h70 (nI_m1 (by omega))
        · -- call
          intro z3 t3 κ3 g3 b3
          refine ⟨_, rfl, ?_⟩
          refine aw_istore_n (pc := 67) (i := 2) dX4_readRoad_67 rfl (Nat.le_of_ble_eq_true rfl) rfl ?_
          refine aw_iload_n (pc := 68) (i := 2) dX4_readRoad_68 rfl rfl ?_
          refine aw_iconst (pc := 69) dX4_readRoad_69 iconst_m1 ?_
          refine aw_icmp_ne (pc := 70) (tgt := 75) dX4_readRoad_70 rfl (fun h70 => ?_) (fun h70 => ?_)
          · -- 75
            exact absurd rfl h70
          · -- 73
            refine aw_iconst (pc := 73) dX4_readRoad_73 iconst_0 ?_
            refine aw_swap4 ?_
            refine aw_swap3 ?_
            refine aw_swap3 ?_
            refine aw_swap4 ?_
            refine ab_ret0 (pc := 74) dX4_readRoad_74 rfl (Nat.le_refl _) (Nat.le_refl _) ?_
            have eF : readRoadF σ = (false, z3) := by unfold readRoadF; rw [if_neg (by omega), ← hs1, t2]; dsimp only; rw [if_pos rfl, t3]; rfl
            exact k0 (by rw [eF]) _ _ _ _ (by rw [eF]; exact g3) ⟨((((TBs.rf _).tr b1).tr b2).tr b3), rfl, rfl, rfl⟩
      · -- 51
        exact absurd h48 (nI_m1 (by omega))
    · -- call
      intro z2 t2 κ2 g2 b2
      refine ⟨_, rfl, ?_⟩
      refine aw_istore_n (pc := 45) (i := 1) dX4_readRoad_45 rfl (Nat.le_of_ble_eq_true rfl) rfl ?_
      refine aw_iload_n (pc := 46) (i := 1) dX4_readRoad_46 rfl rfl ?_
      refine aw_iconst (pc := 47) dX4_readRoad_47 iconst_m1 ?_
      refine aw_icmp_ne (pc := 48) (tgt := 53) dX4_readRoad_48 rfl (fun h48 => ?_) (fun h48 => ?_)
      · -- 53
        exact absurd rfl h48
      · -- 51
        refine aw_iconst (pc := 51) dX4_readRoad_51 iconst_0 ?_
        refine aw_swap4 ?_
        refine aw_swap3 ?_
        refine aw_swap3 ?_
        refine aw_swap4 ?_
        refine ab_ret0 (pc := 52) dX4_readRoad_52 rfl (Nat.le_refl _) (Nat.le_refl _) ?_
        have eF : readRoadF σ = (false, z2) := by unfold readRoadF; rw [if_neg (by omega), ← hs1, t2]; rfl
        exact k0 (by rw [eF]) _ _ _ _ (by rw [eF]; exact g2) ⟨(((TBs.rf _).tr b1).tr b2), rfl, rfl, rfl⟩
  · -- 15
    refine aw_aload_n (pc := 15) (i := 0) dX4_readRoad_15 rfl rfl ?_
    refine aw_swap3 ?_
    refine pg_X4_15 (pc := 16) (v := .ref (a 13)) dX4_readRoad_16 rfl hM0 ?_
    refine aw_iconst (pc := 19) dX4_readRoad_19 iconst_4 ?_
    refine aw_swap4 ?_
    refine cVi (pc := 20) (As := [.int (nI 4)]) (rest := []) dX4_readRoad_20 rfl oc_X4_44 rfl rfl (Nat.le_of_ble_eq_true rfl) rfl rfl ovX8 (Nat.le_refl _) (Nat.le_refl _) (c8_refuse (σ := σ) hT hf ?_)
    intro κ1 g1 p1 b1
    refine ⟨_, rfl, ?_⟩
    refine aw_swap3 ?_
    refine aw_swap4 ?_
    refine aw_swap3 ?_
    refine aw_swap4 ?_
    refine ab_ret (pc := 23) dX4_readRoad_23 rfl (Nat.le_refl _) (Nat.le_refl _) ?_
    have eF : readRoadF σ = (false, badF σ 4) := by unfold readRoadF; rw [if_pos (by omega)]
    exact k0 (by rw [eF]) _ _ _ _ (by rw [eF]; exact ⟨g1, p1⟩) ⟨((TBs.rf _).tr b1), rfl, rfl, rfl⟩
set_option maxHeartbeats 1000000 in
set_option maxRecDepth 20000 in
theorem c4_readPerson {G : xG} {d : Nat} {Q : xQ} {a ad b c mt : Nat → Nat} {κT κS κC κM : kS} {R : va_W} {σ : mS} {NM : Nat → Int64} {li : Nat} (hM0 : κM.1 0 = .ref (a 13)) (hM1 : κM.1 1 = .ref (b 12)) (H : MRl ad c κT κS κC κM σ NM li) (hw : σ.1 11 = nI 1) (k1 : (readPersonF σ).1 = true → ∀ κT9 κS9 κC9 κM9 NM9, MRl ad c κT9 κS9 κC9 κM9 (readPersonF σ).2 NM9 li → SHM κT κS κM κT9 κS9 κM9 → Q (some (.int (bI true))) (wMt G.2.2.1 mt κM9 ++ (wTp G.2.2.1 a κT9 ++ (wSt G.2.2.1 b κS9 ++ (wCh G.2.2.1 c κC9 ++ R))))) (k0 : (readPersonF σ).1 = false → ∀ κT9 κS9 κC9 κM9, FRl κT9 (readPersonF σ).2 → SHM κT κS κM κT9 κS9 κM9 → Q (some (.int (bI false))) (wMt G.2.2.1 mt κM9 ++ (wTp G.2.2.1 a κT9 ++ (wSt G.2.2.1 b κS9 ++ (wCh G.2.2.1 c κC9 ++ R))))) : MT G MX4_readPerson (d + 3) 0 0 [.ref (mt 3)] (wMt G.2.2.1 mt κM ++ (wTp G.2.2.1 a κT ++ (wSt G.2.2.1 b κS ++ (wCh G.2.2.1 c κC ++ R)))) Q := by
  obtain ⟨hT, hf, hSm, hCr, hSt, hRes, hLV, hNm, h15, h19⟩ := id H
  obtain ⟨hPV, hMH, hS1, hS2⟩ := id hLV
  have h0 := hMH.2.1
  have h1 := hMH.2.2.1
  have h2 := hMH.2.2.2.1
  refine mt_start (L := [some (.ref (mt 3)), none, none, none, none, none]) rfl (Nat.le_of_ble_eq_true rfl) rfl ?_
  refine aw_aload_n (pc := 0) (i := 0) dX4_readPerson_0 rfl rfl ?_
  refine pg_X4_19 (pc := 1) (v := .ref (b 12)) dX4_readPerson_1 rfl hM1 ?_
  refine aw_swap3 ?_
  refine pg_X4_77 (pc := 4) (v := .ref (c 13)) dX4_readPerson_4 rfl hSm.1 ?_
  refine aw_swap4 ?_
  refine pg_X4_140 (pc := 7) (v := .int (nI (σ.2.1 7 2))) dX4_readPerson_7 rfl hCr.2.2.1 ?_
  refine aw_istore_n (pc := 10) (i := 1) dX4_readPerson_10 rfl (Nat.le_of_ble_eq_true rfl) rfl ?_
  refine aw_iload_n (pc := 11) (i := 1) dX4_readPerson_11 rfl rfl ?_
  refine aw_bipush (pc := 12) dX4_readPerson_12 bipush_6 ?_
  refine an_icmp_lt (pc := 14) (tgt := 26) dX4_readPerson_14 rfl (by omega) (by decide) (fun h14 => ?_) (fun h14 => ?_)
  · -- 26
    refine aw_aload_n (pc := 26) (i := 0) dX4_readPerson_26 rfl rfl ?_
    refine aw_swap3 ?_
    refine pg_X4_15 (pc := 27) (v := .ref (a 13)) dX4_readPerson_27 rfl hM0 ?_
    refine aw_swap4 ?_
    refine cVv (pc := 30) (As := []) (rest := []) dX4_readPerson_30 rfl oc_X4_99 rfl rfl (Nat.le_of_ble_eq_true rfl) rfl rfl ovX8 (Nat.le_refl _) (Nat.le_refl _) (c8_stepR (σ := σ) hT (Or.inl hw) ?_)
    intro κ1 g1 b1 f1
    refine ⟨rfl, ?_⟩
    have n1 := NXF_nx σ
    obtain ⟨s1, hs1⟩ : ∃ x, x = nx σ := ⟨_, rfl⟩
    rw [← hs1] at g1 n1
    refine aw_aload_n (pc := 33) (i := 0) dX4_readPerson_33 rfl rfl ?_
    refine aw_swap ?_
    refine aw_swap3 ?_
    refine aw_swap4 ?_
    refine aw_swap4 ?_
    refine aw_swap4 ?_
    refine cVi (pc := 34) (As := []) (rest := []) dX4_readPerson_34 rfl oc_X4_102 rfl rfl (Nat.le_of_ble_eq_true rfl) rfl rfl ovX4 (Nat.le_refl _) (Nat.le_refl _) (c4_isNew (σ := s1) (NM := NM) (to := 20 + σ.2.1 7 2) hM0 hM1 g1 (f1.trans hf) (by rw [n1.1]; exact hSm) (by rw [n1.1]; exact hCr) (hRes.to n1) (by rw [n1.1]; exact hMH) (hNm.to n1) ?_ ?_)
    · -- call
      intro qa2 qb2 qc2
      refine ⟨_, rfl, ?_⟩
      obtain ⟨kd2, v2, r2, e82, e92, e102, hr2, hkd2, tc2⟩ := g1.view
      have hF := fresh_ok (to := 20 + σ.2.1 7 2) qa2 qb2 qc2
      refine ab_if_ne (pc := 37) (tgt := 42) dX4_readPerson_37 rfl (fun h37 => ?_) (fun h37 => absurd h37 (by decide))
      refine aw_aload_n (pc := 42) (i := 0) dX4_readPerson_42 rfl rfl ?_
      refine pg_X4_15 (pc := 43) (v := .ref (a 13)) dX4_readPerson_43 rfl hM0 ?_
      refine aw_swap ?_
      refine pg_X4_83 (pc := 46) (v := .long v2) dX4_readPerson_46 rfl e92 ?_
      refine aw_lstore_n (pc := 49) (i := 2) dX4_readPerson_49 rfl (Nat.le_of_ble_eq_true rfl) rfl ?_
      refine aw_aload_n (pc := 50) (i := 0) dX4_readPerson_50 rfl rfl ?_
      refine aw_swap ?_
      refine pg_X4_15 (pc := 51) (v := .ref (a 13)) dX4_readPerson_51 rfl hM0 ?_
      refine aw_swap ?_
      refine cVv (pc := 54) (As := []) (rest := []) dX4_readPerson_54 rfl oc_X4_99 rfl rfl (Nat.le_of_ble_eq_true rfl) rfl rfl ovX8 (Nat.le_refl _) (Nat.le_refl _) (c8_stepR (σ := (mL s1 9 (20 + σ.2.1 7 2) s1.2.2.2.1)) (g1.tL) (Or.inl (isName_11 qa2)) ?_)
      intro κ3 g3 b3 f3
      refine ⟨rfl, ?_⟩
      have n3 := NXF_nx (mL s1 9 (20 + σ.2.1 7 2) s1.2.2.2.1)
      obtain ⟨s3, hs3⟩ : ∃ x, x = nx (mL s1 9 (20 + σ.2.1 7 2) s1.2.2.2.1) := ⟨_, rfl⟩
      rw [← hs3] at g3 n3
      refine aw_aload_n (pc := 57) (i := 0) dX4_readPerson_57 rfl rfl ?_
      refine aw_swap ?_
      refine pg_X4_15 (pc := 58) (v := .ref (a 13)) dX4_readPerson_58 rfl hM0 ?_
      refine aw_aload_n (pc := 61) (i := 0) dX4_readPerson_61 rfl rfl ?_
      refine pg_X4_19 (pc := 62) (v := .ref (b 12)) dX4_readPerson_62 rfl hM1 ?_
      refine aw_swap3 ?_
      refine pg_X4_77 (pc := 65) (v := .ref (c 13)) dX4_readPerson_65 rfl hSm.1 ?_
      refine aw_swap3 ?_
      refine cVi (pc := 68) (As := [.ref (c 13)]) (rest := []) dX4_readPerson_68 rfl oc_X4_127 rfl rfl (Nat.le_of_ble_eq_true rfl) rfl rfl ovX8 (Nat.le_refl _) (Nat.le_refl _) (c8_tland (t := σ.2.1 7) (NM := NM) (fr := 13) (σ := s3) g3 (f3.trans (f1.trans hf)) (hCr.chr h0 h1 h2 (fun x hx => by simp only [List.mem_append]; simp [hx])) (((hRes.to n1).tL).to n3) h0 (N13.to (N13.tL (N13.to hNm.1 n1) (by omega)) n3) ?_ ?_)
      · -- call
        intro i4 hi4 fw4 t4 κ4 g4 b4 f4
        refine ⟨_, rfl, ?_⟩
        have n4 := NXF_nx18 s3 (nI i4)
        obtain ⟨s4, hs4⟩ : ∃ x, x = nx (mI s3 18 (nI i4)) := ⟨_, rfl⟩
        rw [← hs4] at g4 n4 t4
        refine aw_istore (pc := 71) (i := 4) dX4_readPerson_71 (Nat.le_of_ble_eq_true rfl) trivial ?_
        refine aw_iload (pc := 73) dX4_readPerson_73 rfl ?_
        refine aw_iconst (pc := 75) dX4_readPerson_75 iconst_m1 ?_
        refine aw_icmp_ne (pc := 76) (tgt := 81) dX4_readPerson_76 rfl (fun h76 => ?_) (fun h76 => ?_)
        · -- 81
          refine aw_aload_n (pc := 81) (i := 0) dX4_readPerson_81 rfl rfl ?_
          refine aw_swap3 ?_
          refine pg_X4_15 (pc := 82) (v := .ref (a 13)) dX4_readPerson_82 rfl hM0 ?_
          refine aw_iconst (pc := 85) dX4_readPerson_85 iconst_1 ?_
          refine aw_sipush (pc := 86) dX4_readPerson_86 sipush_240 ?_
          refine aw_swap ?_
          refine cVi (pc := 89) (As := [.int (nI 1), .int (nI 240)]) (rest := []) dX4_readPerson_89 rfl oc_X4_105 rfl rfl (Nat.le_of_ble_eq_true rfl) rfl rfl ovX8 (Nat.le_refl _) (Nat.le_refl _) (c8_tnum (σ := (mN s4 7 (79 + σ.2.1 7 2) i4)) (g4.tN) f4 (by decide) (by decide) ?_ ?_)
          · -- call
            intro m5 hm5 lo5 hi5 nm5 t5 κ5 g5 b5 f5
            refine ⟨_, rfl, ?_⟩
            have n5 := NXF_nx18 (mN s4 7 (79 + σ.2.1 7 2) i4) (nI m5)
            obtain ⟨s5, hs5⟩ : ∃ x, x = nx (mI (mN s4 7 (79 + σ.2.1 7 2) i4) 18 (nI m5)) := ⟨_, rfl⟩
            rw [← hs5] at g5 n5 t5
            refine aw_istore (pc := 92) (i := 5) dX4_readPerson_92 (Nat.le_of_ble_eq_true rfl) rfl ?_
            refine aw_iload (pc := 94) dX4_readPerson_94 rfl ?_
            refine aw_iconst (pc := 96) dX4_readPerson_96 iconst_m1 ?_
            refine aw_icmp_ne (pc := 97) (tgt := 102) dX4_readPerson_97 rfl (fun h97 => ?_) (fun h97 => ?_)
            · -- 102
              refine aw_aload_n (pc := 102) (i := 0) dX4_readPerson_102 rfl rfl ?_
              refine aw_swap ?_
              refine pg_X4_19 (pc := 103) (v := .ref (b 12)) dX4_readPerson_103 rfl hM1 ?_
              refine aw_swap3 ?_
              refine pg_X4_77 (pc := 106) (v := .ref (c 13)) dX4_readPerson_106 rfl hSm.1 ?_
              refine aw_lload_n (pc := 109) (i := 2) dX4_readPerson_109 rfl rfl ?_
              refine aw_iload (pc := 110) dX4_readPerson_110 rfl ?_
              refine aw_swap4 ?_
              refine cVv (pc := 112) (As := [.long v2, .int (nI i4)]) (rest := []) dX4_readPerson_112 rfl oc_X4_143 rfl rfl (Nat.le_of_ble_eq_true rfl) rfl rfl ovX3 (Nat.le_refl _) (Nat.le_refl _) (c3_addPerson hCr h0 h1 (by omega) ?_)
              intro κC9 hC9
              refine ⟨rfl, ?_⟩
              refine aw_aload_n (pc := 115) (i := 0) dX4_readPerson_115 rfl rfl ?_
              refine aw_swap3 ?_
              refine pg_X4_19 (pc := 116) (v := .ref (b 12)) dX4_readPerson_116 rfl hM1 ?_
              refine aw_swap3 ?_
              refine pg_X4_147 (pc := 119) dX4_readPerson_119 rfl ?_
              refine aw_iload_n (pc := 122) (i := 1) dX4_readPerson_122 rfl rfl ?_
              refine aw_iload (pc := 123) dX4_readPerson_123 rfl ?_
              refine ps_X7_at (pc := 125) dX4_readPerson_125 (by omega) ?_
              refine aw_aload_n (pc := 126) (i := 0) dX4_readPerson_126 rfl rfl ?_
              refine aw_swap ?_
              refine pg_X4_19 (pc := 127) (v := .ref (b 12)) dX4_readPerson_127 rfl hM1 ?_
              refine aw_swap ?_
              refine pg_X4_150 (pc := 130) dX4_readPerson_130 rfl ?_
              refine aw_iload_n (pc := 133) (i := 1) dX4_readPerson_133 rfl rfl ?_
              refine aw_iload (pc := 134) dX4_readPerson_134 rfl ?_
              refine ps_X7_length (pc := 136) dX4_readPerson_136 (by omega) ?_
              refine aw_iconst (pc := 137) dX4_readPerson_137 iconst_1 ?_
              refine aw_swap3 ?_
              refine aw_swap ?_
              refine aw_swap4 ?_
              refine aw_swap4 ?_
              refine ab_ret1 (pc := 138) dX4_readPerson_138 rfl (Nat.le_refl _) (Nat.le_refl _) ?_
              have eF : readPersonF σ = (true, mN (mN s5 7 (85 + σ.2.1 7 2) m5) 7 2 (σ.2.1 7 2 + 1)) := by unfold readPersonF; rw [if_neg (by omega), ← hs1, hF, ← hs3]; dsimp only; rw [if_pos rfl, t4, fw4]; dsimp only [Option.getD]; rw [if_pos rfl]; simp only [puts_ok t5 nm5, if_true, reduceIte]
              have hL9 := LV_readPerson hLV (by rw [eF])
              refine k1 (by rw [eF]) _ _ _ _ (upN NM (7 + σ.2.1 7 2) v2) ?_ ⟨(((((TBs.rf _).tr b1).tr b3).tr b4).tr b5), rfl, rfl, rfl⟩
              rw [eF] at hL9 ⊢
              have eK : ∀ k, k = 15 ∨ k = 19 ∨ k = 20 → (mN (mN s5 7 (85 + σ.2.1 7 2) m5) 7 2 (σ.2.1 7 2 + 1)).1 k = σ.1 k := by intro k hk; rw [mN_1, mN_1, n5.2.2.2 k (by omega) (by omega) (by omega) (by omega) (by omega) (by omega), mN_1, n4.2.2.2 k (by omega) (by omega) (by omega) (by omega) (by omega) (by omega), n3.2.2.2 k (by omega) (by omega) (by omega) (by omega) (by omega) (by omega), mL_1, n1.2.2.2 k (by omega) (by omega) (by omega) (by omega) (by omega) (by omega)]
              have eh : (mN (mN s5 7 (85 + σ.2.1 7 2) m5) 7 2 (σ.2.1 7 2 + 1)).2.1 7 = upN (upN (upN (σ.2.1 7) (79 + σ.2.1 7 2) i4) (85 + σ.2.1 7 2) m5) 2 (σ.2.1 7 2 + 1) := by rw [mN_7, mN_7, n5.1, mN_7, n4.1, n3.1, mL_n, n1.1]
              have en : (mN (mN s5 7 (85 + σ.2.1 7 2) m5) 7 2 (σ.2.1 7 2 + 1)).2.2.2.2 9 = upN (σ.2.2.2.2 9) (20 + σ.2.1 7 2) s1.2.2.2.1 := by
                show s5.2.2.2.2 9 = _
                rw [n5.2.2.1]
                show s4.2.2.2.2 9 = _
                rw [n4.2.2.1, n3.2.2.1]
                show upN (s1.2.2.2.2 9) _ _ = _
                rw [n1.2.2.1]
              exact ⟨g5.tN.tN, f5, by rw [eh]; exact hSm.person (by omega), by rw [eh]; exact hC9 m5, st_eq hSt (eK 20 (by omega)), ((((((hRes.to n1).tL).to n3).to n4).tN).to n5).tN.tN, hL9, hNm.person h0 (by rw [eh, upN_n _ _ _ _ (by omega), upN_n _ _ _ _ (by omega), upN_n _ _ _ _ (by omega)]) (by rw [eh]; rfl) en (tc2.nmr ((tc2.name (hRes.to n1)).mp qa2).1).1, (eK 15 (by omega)).trans h15, (eK 19 (by omega)).trans h19⟩
            · -- 100
              exact absurd h97 (nI_m1 (by omega))
          · -- call
            intro z5 t5 κ5 g5 b5
            refine ⟨_, rfl, ?_⟩
            refine aw_istore (pc := 92) (i := 5) dX4_readPerson_92 (Nat.le_of_ble_eq_true rfl) rfl ?_
            refine aw_iload (pc := 94) dX4_readPerson_94 rfl ?_
            refine aw_iconst (pc := 96) dX4_readPerson_96 iconst_m1 ?_
            refine aw_icmp_ne (pc := 97) (tgt := 102) dX4_readPerson_97 rfl (fun h97 => ?_) (fun h97 => ?_)
            · -- 102
              exact absurd rfl h97
            · -- 100
              refine aw_iconst (pc := 100) dX4_readPerson_100 iconst_0 ?_
              refine aw_swap4 ?_
              refine aw_swap4 ?_
              refine aw_swap3 ?_
              refine aw_swap4 ?_
              refine ab_ret0 (pc := 101) dX4_readPerson_101 rfl (Nat.le_refl _) (Nat.le_refl _) ?_
              have eF : readPersonF σ = (false, z5) := by unfold readPersonF; rw [if_neg (by omega), ← hs1, hF, ← hs3]; dsimp only; rw [if_pos rfl, t4, fw4]; dsimp only [Option.getD]; rw [if_pos rfl]; simp only [puts_no t5, Bool.false_eq_true, if_false, reduceIte]
              exact k0 (by rw [eF]) _ _ _ _ (by rw [eF]; exact g5) ⟨(((((TBs.rf _).tr b1).tr b3).tr b4).tr b5), rfl, rfl, rfl⟩
        · -- 79
          exact absurd h76 (nI_m1 (by omega))
      · -- call
        intro z4 t4 κ4 g4 b4
        refine ⟨_, rfl, ?_⟩
        refine aw_istore (pc := 71) (i := 4) dX4_readPerson_71 (Nat.le_of_ble_eq_true rfl) trivial ?_
        refine aw_iload (pc := 73) dX4_readPerson_73 rfl ?_
        refine aw_iconst (pc := 75) dX4_readPerson_75 iconst_m1 ?_
        refine aw_icmp_ne (pc := 76) (tgt := 81) dX4_readPerson_76 rfl (fun h76 => ?_) (fun h76 => ?_)
        · -- 81
          exact absurd rfl h76
        · -- 79
          refine aw_iconst (pc := 79) dX4_readPerson_79 iconst_0 ?_
          refine aw_swap4 ?_
          refine aw_swap3 ?_
          refine aw_swap3 ?_
          refine aw_swap4 ?_
          refine ab_ret0 (pc := 80) dX4_readPerson_80 rfl (Nat.le_refl _) (Nat.le_refl _) ?_
          have eF : readPersonF σ = (false, z4) := by unfold readPersonF; rw [if_neg (by omega), ← hs1, hF, ← hs3]; dsimp only; rw [if_pos rfl, t4]; rfl
          exact k0 (by rw [eF]) _ _ _ _ (by rw [eF]; exact g4) ⟨((((TBs.rf _).tr b1).tr b3).tr b4), rfl, rfl, rfl⟩
    · -- call
      intro t2 κ2 g2 b2
      refine ⟨_, rfl, ?_⟩
      refine ab_if_ne (pc := 37) (tgt := 42) dX4_readPerson_37 rfl (fun h37 => absurd h37 (by decide)) (fun h37 => ?_)
      refine aw_iconst (pc := 40) dX4_readPerson_40 iconst_0 ?_
      refine ab_ret0 (pc := 41) dX4_readPerson_41 rfl (Nat.le_refl _) (Nat.le_refl _) ?_
      have eF : readPersonF σ = (false, (freshF s1 (20 + σ.2.1 7 2)).2) := by unfold readPersonF; rw [if_neg (by omega), ← hs1, if_neg (by rw [t2]; decide)]
      exact k0 (by rw [eF]) _ _ _ _ (by rw [eF]; exact g2) ⟨(((TBs.rf _).tr b1).tr b2), rfl, rfl, rfl⟩
  · -- 17
    refine aw_aload_n (pc := 17) (i := 0) dX4_readPerson_17 rfl rfl ?_
    refine aw_swap3 ?_
    refine pg_X4_15 (pc := 18) (v := .ref (a 13)) dX4_readPerson_18 rfl hM0 ?_
    refine aw_iconst (pc := 21) dX4_readPerson_21 iconst_4 ?_
    refine aw_swap4 ?_
    refine cVi (pc := 22) (As := [.int (nI 4)]) (rest := []) dX4_readPerson_22 rfl oc_X4_44 rfl rfl (Nat.le_of_ble_eq_true rfl) rfl rfl ovX8 (Nat.le_refl _) (Nat.le_refl _) (c8_refuse (σ := σ) hT hf ?_)
    intro κ1 g1 p1 b1
    refine ⟨_, rfl, ?_⟩
    refine aw_swap3 ?_
    refine aw_swap4 ?_
    refine aw_swap3 ?_
    refine aw_swap4 ?_
    refine ab_ret (pc := 25) dX4_readPerson_25 rfl (Nat.le_refl _) (Nat.le_refl _) ?_
    have eF : readPersonF σ = (false, badF σ 4) := by unfold readPersonF; rw [if_pos (by omega)]
    exact k0 (by rw [eF]) _ _ _ _ (by rw [eF]; exact ⟨g1, p1⟩) ⟨((TBs.rf _).tr b1), rfl, rfl, rfl⟩
