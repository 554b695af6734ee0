def NMb (σ : mS) (NM : Nat → Int64) : Prop := N13 σ 0 (σ.2.1 6 0) NM ∧ N13 σ 7 (σ.2.1 6 2) (fun k => NM (7 + k))
/-- what a book's reading leaves as it was -/
def BXF (σ s : mS) : Prop := s.2.1 6 = σ.2.1 6 ∧ s.2.2.2.2 = σ.2.2.2.2 ∧ s.2.2.1 = σ.2.2.1 ∧ s.1 15 = σ.1 15 ∧ s.1 47 = σ.1 47
theorem BXF.tr {a b c : mS} (h : BXF a b) (g : BXF b c) : BXF a c := ⟨g.1.trans h.1, g.2.1.trans h.2.1, g.2.2.1.trans h.2.2.1, g.2.2.2.1.trans h.2.2.2.1, g.2.2.2.2.trans h.2.2.2.2⟩
theorem NXF.bx {a b : mS} (h : NXF a b) : BXF a b := ⟨by rw [h.1], h.2.2.1, h.2.1, h.2.2.2 15 (by decide) (by decide) (by decide) (by decide) (by decide) (by decide), h.2.2.2 47 (by decide) (by decide) (by decide) (by decide) (by decide) (by decide)⟩
theorem BXF_8 (σ : mS) (i v : Nat) : BXF σ (mN σ 8 i v) := ⟨rfl, rfl, rfl, rfl, rfl⟩
theorem mN_8 (σ : mS) (i v : Nat) : (mN σ 8 i v).2.1 8 = upN (σ.2.1 8) i v := rfl
theorem mN_86 (σ : mS) (i v : Nat) : (mN σ 8 i v).2.1 6 = σ.2.1 6 := rfl
theorem NMb.to {σ s : mS} {NM : Nat → Int64} (h : NMb σ NM) (x : BXF σ s) : NMb s NM := by
  unfold NMb N13 at *
  rw [x.1, x.2.1]; exact h
theorem RES.bx {σ s : mS} (h : RES σ) (x : BXF σ s) : RES s := fun k hk => by rw [x.2.1]; exact h k hk
def BKs (κ κ9 : kS) : Prop := κ9.1 0 = κ.1 0 ∧ κ9.1 1 = κ.1 1 ∧ κ9.1 6 = κ.1 6
set_option maxHeartbeats 1000000 in
set_option maxRecDepth 20000 in
theorem c1_begin {G : xG} {d : Nat} {Q : xQ} {a ad bk : Nat → Nat} {κT κB : kS} {R : va_W} {σ : mS} {m : Nat} {k : Nat} (hB0 : κB.1 0 = .ref (a 13)) (hB6 : κB.1 6 = .int (nI m)) (hm : m ≤ 40) (hT : TPR ad κT σ) (hf : κT.1 11 = .int (nI 0)) (hw : σ.1 11 = nI 1) (k1 : m < 40 → ∀ κT9, TPR ad κT9 (nx σ) → TBs κT κT9 → κT9.1 11 = .int (nI 0) → Q (some (.int (bI true))) (wBk G.2.2.1 bk (kI κB 2 m (nI k)) ++ (wTp G.2.2.1 a κT9 ++ R))) (k0 : m = 40 → ∀ κT9, FRl κT9 (badF σ 4) → TBs κT κT9 → Q (some (.int (bI false))) (wBk G.2.2.1 bk κB ++ (wTp G.2.2.1 a κT9 ++ R))) : MT G MX1_beginLine (d + 1) 0 0 [.ref (bk 8), .int (nI k)] (wBk G.2.2.1 bk κB ++ (wTp G.2.2.1 a κT ++ R)) Q := by
  refine mt_start (L := [some (.ref (bk 8)), some (.int (nI k))]) rfl (Nat.le_of_ble_eq_true rfl) rfl ?_
  refine aw_aload_n (pc := 0) (i := 0) dX1_beginLine_0 rfl rfl ?_
  refine pg_X1_24 (pc := 1) (v := .int (nI m)) dX1_beginLine_1 rfl hB6 ?_
  refine aw_bipush (pc := 4) dX1_beginLine_4 bipush_40 ?_
  refine an_icmp_lt (pc := 6) (tgt := 18) dX1_beginLine_6 rfl (by omega) (by decide) (fun h6 => ?_) (fun h6 => ?_)
  · -- 18
    refine aw_aload_n (pc := 18) (i := 0) dX1_beginLine_18 rfl rfl ?_
    refine pg_X1_9 (pc := 19) dX1_beginLine_19 rfl ?_
    refine aw_aload_n (pc := 22) (i := 0) dX1_beginLine_22 rfl rfl ?_
    refine pg_X1_24 (pc := 23) (v := .int (nI m)) dX1_beginLine_23 rfl hB6 ?_
    refine aw_iload_n (pc := 26) (i := 1) dX1_beginLine_26 rfl rfl ?_
    refine ps_X1_act (pc := 27) dX1_beginLine_27 (by omega) ?_
    refine aw_aload_n (pc := 28) (i := 0) dX1_beginLine_28 rfl rfl ?_
    refine pg_X1_31 (pc := 29) (v := .ref (a 13)) dX1_beginLine_29 rfl hB0 ?_
    refine aw_swap ?_
    refine cVv (pc := 32) (As := []) (rest := []) dX1_beginLine_32 rfl oc_X1_92 rfl rfl (Nat.le_of_ble_eq_true rfl) rfl rfl ovX8 (Nat.le_refl _) (Nat.le_refl _) (c8_stepR hT (Or.inl hw) ?_)
    intro κ1 g1 b1 f1
    refine ⟨rfl, ?_⟩
    refine aw_iconst (pc := 35) dX1_beginLine_35 iconst_1 ?_
    refine aw_swap ?_
    exact ab_ret1 (pc := 36) dX1_beginLine_36 rfl (Nat.le_refl _) (Nat.le_refl _) (k1 (by omega) _ g1 b1 (f1.trans hf))
  · -- 9
    refine aw_aload_n (pc := 9) (i := 0) dX1_beginLine_9 rfl rfl ?_
    refine pg_X1_31 (pc := 10) (v := .ref (a 13)) dX1_beginLine_10 rfl hB0 ?_
    refine aw_iconst (pc := 13) dX1_beginLine_13 iconst_4 ?_
    refine aw_swap ?_
    refine cVi (pc := 14) (As := [.int (nI 4)]) (rest := []) dX1_beginLine_14 rfl oc_X1_66 rfl rfl (Nat.le_of_ble_eq_true rfl) rfl rfl ovX8 (Nat.le_refl _) (Nat.le_refl _) (c8_refuse (σ := σ) hT hf ?_)
    intro κ1 g1 p1 b1
    refine ⟨_, rfl, ?_⟩
    refine aw_swap ?_
    exact ab_ret (pc := 17) dX1_beginLine_17 rfl (Nat.le_refl _) (Nat.le_refl _) (k0 (by omega) _ ⟨g1, p1⟩ ((TBs.rf _).tr b1))
set_option maxHeartbeats 1000000 in
set_option maxRecDepth 20000 in
theorem c1_two {G : xG} {d : Nat} {Q : xQ} {a ad bk c : Nat → Nat} {κT κB : kS} {R : va_W} {σ : mS} {NM : Nat → Int64} {m : Nat} (hB0 : κB.1 0 = .ref (a 13)) (hB1 : κB.1 1 = .ref (c 13)) (hB6 : κB.1 6 = .int (nI m)) (hm : m < 40) (hT : TPR ad κT σ) (hf : κT.1 11 = .int (nI 0)) (hC : CHR G R c (σ.2.1 6) NM) (hRes : RES σ) (h0 : σ.2.1 6 0 ≤ 7) (hp2 : σ.2.1 6 2 ≤ 6) (hNm : NMb σ NM) (k1 : ∀ s i1 i2, blNF σ (4 * m) false = (true, s) → i1 < σ.2.1 6 0 → i2 < σ.2.1 6 0 → s.2.1 8 = upN (upN (σ.2.1 8) (4 * m + 1) i1) (4 * m + 2) i2 → ∀ κT9, TPR ad κT9 s → TBs κT κT9 → κT9.1 11 = .int (nI 0) → BXF σ s → Q (some (.int (bI true))) (wBk G.2.2.1 bk (kI (kI κB 3 m (nI i1)) 4 m (nI i2)) ++ (wTp G.2.2.1 a κT9 ++ R))) (k0 : ∀ σ9, blNF σ (4 * m) false = (false, σ9) → ∀ κT9 κB9, FRl κT9 σ9 → TBs κT κT9 → BKs κB κB9 → Q (some (.int (bI false))) (wBk G.2.2.1 bk κB9 ++ (wTp G.2.2.1 a κT9 ++ R))) : MT G MX1_readTwo (d + 3) 0 0 [.ref (bk 8)] (wBk G.2.2.1 bk κB ++ (wTp G.2.2.1 a κT ++ R)) Q := by
  refine mt_start (L := [some (.ref (bk 8)), none, none]) rfl (Nat.le_of_ble_eq_true rfl) rfl ?_
  refine aw_aload_n (pc := 0) (i := 0) dX1_readTwo_0 rfl rfl ?_
  refine pg_X1_31 (pc := 1) (v := .ref (a 13)) dX1_readTwo_1 rfl hB0 ?_
  refine aw_aload_n (pc := 4) (i := 0) dX1_readTwo_4 rfl rfl ?_
  refine pg_X1_35 (pc := 5) (v := .ref (c 13)) dX1_readTwo_5 rfl hB1 ?_
  refine aw_swap ?_
  refine cVi (pc := 8) (As := [.ref (c 13)]) (rest := []) dX1_readTwo_8 rfl oc_X1_106 rfl rfl (Nat.le_of_ble_eq_true rfl) rfl rfl ovX8 (Nat.le_refl _) (Nat.le_refl _) (c8_tland (t := σ.2.1 6) (NM := NM) (fr := 0) (σ := σ) hT hf (hC.sub (fun x hx => by simp only [List.mem_append]; simp [hx])) hRes h0 hNm.1 ?_ ?_)
  · -- call
    intro i1 hi1 fw1 t1 κ1 g1 b1 f1
    refine ⟨_, rfl, ?_⟩
    have n1 := NXF_nx18 σ (nI i1)
    obtain ⟨s1, hs1⟩ : ∃ x, x = nx (mI σ 18 (nI i1)) := ⟨_, rfl⟩
    rw [← hs1] at g1 n1 t1
    refine aw_istore_n (pc := 11) (i := 1) dX1_readTwo_11 rfl (Nat.le_of_ble_eq_true rfl) rfl ?_
    refine aw_iload_n (pc := 12) (i := 1) dX1_readTwo_12 rfl rfl ?_
    refine aw_iconst (pc := 13) dX1_readTwo_13 iconst_m1 ?_
    refine aw_icmp_ne (pc := 14) (tgt := 19) dX1_readTwo_14 rfl (fun h14 => ?_) (fun h14 => ?_)
    · -- 19
      refine aw_aload_n (pc := 19) (i := 0) dX1_readTwo_19 rfl rfl ?_
      refine aw_swap ?_
      refine pg_X1_31 (pc := 20) (v := .ref (a 13)) dX1_readTwo_20 rfl hB0 ?_
      refine aw_aload_n (pc := 23) (i := 0) dX1_readTwo_23 rfl rfl ?_
      refine pg_X1_35 (pc := 24) (v := .ref (c 13)) dX1_readTwo_24 rfl hB1 ?_
      refine aw_swap ?_
      refine cVi (pc := 27) (As := [.ref (c 13)]) (rest := []) dX1_readTwo_27 rfl oc_X1_106 rfl rfl (Nat.le_of_ble_eq_true rfl) rfl rfl ovX8 (Nat.le_refl _) (Nat.le_refl _) (c8_tland (t := σ.2.1 6) (NM := NM) (fr := 0) (σ := (mN s1 8 (4 * m + 1) i1)) (g1.tN) f1 (hC.sub (fun x hx => by simp only [List.mem_append]; simp [hx])) ((hRes.to n1).tN) h0 (N13.tN (N13.to hNm.1 n1)) ?_ ?_)
      · -- call
        intro i2 hi2 fw2 t2 κ2 g2 b2 f2
        refine ⟨_, rfl, ?_⟩
        have n2 := NXF_nx18 (mN s1 8 (4 * m + 1) i1) (nI i2)
        obtain ⟨s2, hs2⟩ : ∃ x, x = nx (mI (mN s1 8 (4 * m + 1) i1) 18 (nI i2)) := ⟨_, rfl⟩
        rw [← hs2] at g2 n2 t2
        refine aw_istore_n (pc := 30) (i := 2) dX1_readTwo_30 rfl (Nat.le_of_ble_eq_true rfl) rfl ?_
        refine aw_aload_n (pc := 31) (i := 0) dX1_readTwo_31 rfl rfl ?_
        refine aw_swap ?_
        refine pg_X1_15 (pc := 32) dX1_readTwo_32 rfl ?_
        refine aw_aload_n (pc := 35) (i := 0) dX1_readTwo_35 rfl rfl ?_
        refine pg_X1_24 (pc := 36) (v := .int (nI m)) dX1_readTwo_36 rfl hB6 ?_
        refine aw_iload_n (pc := 39) (i := 1) dX1_readTwo_39 rfl rfl ?_
        refine ps_X1_first (pc := 40) dX1_readTwo_40 (by omega) ?_
        refine aw_aload_n (pc := 41) (i := 0) dX1_readTwo_41 rfl rfl ?_
        refine pg_X1_18 (pc := 42) dX1_readTwo_42 rfl ?_
        refine aw_aload_n (pc := 45) (i := 0) dX1_readTwo_45 rfl rfl ?_
        refine pg_X1_24 (pc := 46) (v := .int (nI m)) dX1_readTwo_46 rfl hB6 ?_
        refine aw_iload_n (pc := 49) (i := 2) dX1_readTwo_49 rfl rfl ?_
        refine ps_X1_second (pc := 50) dX1_readTwo_50 (by omega) ?_
        refine aw_iload_n (pc := 51) (i := 2) dX1_readTwo_51 rfl rfl ?_
        refine aw_iconst (pc := 52) dX1_readTwo_52 iconst_m1 ?_
        refine aw_icmp_eq (pc := 53) (tgt := 60) dX1_readTwo_53 rfl (fun h53 => ?_) (fun h53 => ?_)
        · -- 60
          exact absurd h53 (nI_m1 (by omega))
        · -- 56
          refine aw_iconst (pc := 56) dX1_readTwo_56 iconst_1 ?_
          refine aw_goto (pc := 57) (tgt := 61) dX1_readTwo_57 rfl ?_
          refine ab_ret1 (pc := 61) dX1_readTwo_61 rfl (Nat.le_refl _) (Nat.le_refl _) ?_
          have eF : blNF σ (4 * m) false = (true, mN s2 8 (4 * m + 2) i2) := by unfold blNF bkT bkI; rw [t1, fw1]; dsimp only [Option.getD]; rw [if_pos rfl]; unfold bl2F bl2S bkT bkI; rw [mN_86, n1.1, t2, fw2]; rfl
          refine k1 _ i1 i2 eF hi1 hi2 ?_ _ g2.tN (((TBs.rf _).tr b1).tr b2) f2 ?_
          · rw [mN_8, n2.1, mN_8, n1.1]
          · exact ((n1.bx.tr (BXF_8 _ _ _)).tr n2.bx).tr (BXF_8 _ _ _)
      · -- call
        intro z2 t2 κ2 g2 b2
        refine ⟨_, rfl, ?_⟩
        refine aw_istore_n (pc := 30) (i := 2) dX1_readTwo_30 rfl (Nat.le_of_ble_eq_true rfl) rfl ?_
        refine aw_aload_n (pc := 31) (i := 0) dX1_readTwo_31 rfl rfl ?_
        refine aw_swap ?_
        refine pg_X1_15 (pc := 32) dX1_readTwo_32 rfl ?_
        refine aw_aload_n (pc := 35) (i := 0) dX1_readTwo_35 rfl rfl ?_
        refine pg_X1_24 (pc := 36) (v := .int (nI m)) dX1_readTwo_36 rfl hB6 ?_
        refine aw_iload_n (pc := 39) (i := 1) dX1_readTwo_39 rfl rfl ?_
        refine ps_X1_first (pc := 40) dX1_readTwo_40 (by omega) ?_
        refine aw_aload_n (pc := 41) (i := 0) dX1_readTwo_41 rfl rfl ?_
        refine pg_X1_18 (pc := 42) dX1_readTwo_42 rfl ?_
        refine aw_aload_n (pc := 45) (i := 0) dX1_readTwo_45 rfl rfl ?_
        refine pg_X1_24 (pc := 46) (v := .int (nI m)) dX1_readTwo_46 rfl hB6 ?_
        refine aw_iload_n (pc := 49) (i := 2) dX1_readTwo_49 rfl rfl ?_
        refine ps_X1_second (pc := 50) dX1_readTwo_50 (by omega) ?_
        refine aw_iload_n (pc := 51) (i := 2) dX1_readTwo_51 rfl rfl ?_
        refine aw_iconst (pc := 52) dX1_readTwo_52 iconst_m1 ?_
        refine aw_icmp_eq (pc := 53) (tgt := 60) dX1_readTwo_53 rfl (fun h53 => ?_) (fun h53 => ?_)
        · -- 60
          refine aw_iconst (pc := 60) dX1_readTwo_60 iconst_0 ?_
          refine ab_ret0 (pc := 61) dX1_readTwo_61 rfl (Nat.le_refl _) (Nat.le_refl _) ?_
          have eF : blNF σ (4 * m) false = (false, z2) := by unfold blNF bkT bkI; rw [t1, fw1]; dsimp only [Option.getD]; rw [if_pos rfl]; unfold bl2F bl2S bkT bkI; rw [mN_86, n1.1, t2]; rfl
          exact k0 _ eF _ _ g2 (((TBs.rf _).tr b1).tr b2) ⟨rfl, rfl, rfl⟩
        · -- 56
          exact absurd rfl h53
    · -- 17
      exact absurd h14 (nI_m1 (by omega))
  · -- call
    intro z1 t1 κ1 g1 b1
    refine ⟨_, rfl, ?_⟩
    refine aw_istore_n (pc := 11) (i := 1) dX1_readTwo_11 rfl (Nat.le_of_ble_eq_true rfl) rfl ?_
    refine aw_iload_n (pc := 12) (i := 1) dX1_readTwo_12 rfl rfl ?_
    refine aw_iconst (pc := 13) dX1_readTwo_13 iconst_m1 ?_
    refine aw_icmp_ne (pc := 14) (tgt := 19) dX1_readTwo_14 rfl (fun h14 => ?_) (fun h14 => ?_)
    · -- 19
      exact absurd rfl h14
    · -- 17
      refine aw_iconst (pc := 17) dX1_readTwo_17 iconst_0 ?_
      refine aw_swap ?_
      refine ab_ret0 (pc := 18) dX1_readTwo_18 rfl (Nat.le_refl _) (Nat.le_refl _) ?_
      have eF : blNF σ (4 * m) false = (false, z1) := by unfold blNF bkT; rw [t1]; rfl
      exact k0 _ eF _ _ g1 ((TBs.rf _).tr b1) ⟨rfl, rfl, rfl⟩
set_option maxHeartbeats 1000000 in
set_option maxRecDepth 20000 in
theorem c1_road {G : xG} {d : Nat} {Q : xQ} {a ad bk : Nat → Nat} {κT κB : kS} {R : va_W} {σ : mS} {m : Nat} (hB0 : κB.1 0 = .ref (a 13)) (hB6 : κB.1 6 = .int (nI m)) (hm : m < 40) (hT : TPR ad κT σ) (hf : κT.1 11 = .int (nI 0)) (k1 : ∀ s n, 0 ≤ n → n ≤ 11 → numN σ = n → takesF σ 0 11 = (true, s) → ∀ κT9, TPR ad κT9 s → TBs κT κT9 → κT9.1 11 = .int (nI 0) → NXF σ s → Q (some (.int (bI true))) (wBk G.2.2.1 bk (kI κB 3 m (nI n)) ++ (wTp G.2.2.1 a κT9 ++ R))) (k0 : ∀ σ9, takesF σ 0 11 = (false, σ9) → ∀ κT9 κB9, FRl κT9 σ9 → TBs κT κT9 → BKs κB κB9 → Q (some (.int (bI false))) (wBk G.2.2.1 bk κB9 ++ (wTp G.2.2.1 a κT9 ++ R))) : MT G MX1_readRoad (d + 2) 0 0 [.ref (bk 8)] (wBk G.2.2.1 bk κB ++ (wTp G.2.2.1 a κT ++ R)) Q := by
  refine mt_start (L := [some (.ref (bk 8)), none]) rfl (Nat.le_of_ble_eq_true rfl) rfl ?_
  refine aw_aload_n (pc := 0) (i := 0) dX1_readRoad_0 rfl rfl ?_
  refine pg_X1_31 (pc := 1) (v := .ref (a 13)) dX1_readRoad_1 rfl hB0 ?_
  refine aw_iconst (pc := 4) dX1_readRoad_4 iconst_0 ?_
  refine aw_bipush (pc := 5) dX1_readRoad_5 bipush_11 ?_
  refine aw_swap ?_
  refine cVi (pc := 7) (As := [.int (nI 0), .int (nI 11)]) (rest := []) dX1_readRoad_7 rfl oc_X1_109 rfl rfl (Nat.le_of_ble_eq_true rfl) rfl rfl ovX8 (Nat.le_refl _) (Nat.le_refl _) (c8_tnum (σ := σ) hT hf (by decide) (by decide) ?_ ?_)
  · -- call
    intro m1 hm1 lo1 hi1 nm1 t1 κ1 g1 b1 f1
    refine ⟨_, rfl, ?_⟩
    have n1 := NXF_nx18 σ (nI m1)
    obtain ⟨s1, hs1⟩ : ∃ x, x = nx (mI σ 18 (nI m1)) := ⟨_, rfl⟩
    rw [← hs1] at g1 n1 t1
    refine aw_istore_n (pc := 10) (i := 1) dX1_readRoad_10 rfl (Nat.le_of_ble_eq_true rfl) rfl ?_
    refine aw_aload_n (pc := 11) (i := 0) dX1_readRoad_11 rfl rfl ?_
    refine aw_swap ?_
    refine pg_X1_15 (pc := 12) dX1_readRoad_12 rfl ?_
    refine aw_aload_n (pc := 15) (i := 0) dX1_readRoad_15 rfl rfl ?_
    refine pg_X1_24 (pc := 16) (v := .int (nI m)) dX1_readRoad_16 rfl hB6 ?_
    refine aw_iload_n (pc := 19) (i := 1) dX1_readRoad_19 rfl rfl ?_
    refine ps_X1_first (pc := 20) dX1_readRoad_20 (by omega) ?_
    refine aw_iload_n (pc := 21) (i := 1) dX1_readRoad_21 rfl rfl ?_
    refine aw_iconst (pc := 22) dX1_readRoad_22 iconst_m1 ?_
    refine aw_icmp_eq (pc := 23) (tgt := 30) dX1_readRoad_23 rfl (fun h23 => ?_) (fun h23 => ?_)
    · -- 30
      exact absurd h23 (nI_m1 (by omega))
    · -- 26
      refine aw_iconst (pc := 26) dX1_readRoad_26 iconst_1 ?_
      refine aw_goto (pc := 27) (tgt := 31) dX1_readRoad_27 rfl ?_
      exact ab_ret1 (pc := 31) dX1_readRoad_31 rfl (Nat.le_refl _) (Nat.le_refl _) (k1 _ m1 lo1 hi1 nm1 t1 _ g1 ((TBs.rf _).tr b1) f1 n1)
  · -- call
    intro z1 t1 κ1 g1 b1
    refine ⟨_, rfl, ?_⟩
    refine aw_istore_n (pc := 10) (i := 1) dX1_readRoad_10 rfl (Nat.le_of_ble_eq_true rfl) rfl ?_
    refine aw_aload_n (pc := 11) (i := 0) dX1_readRoad_11 rfl rfl ?_
    refine aw_swap ?_
    refine pg_X1_15 (pc := 12) dX1_readRoad_12 rfl ?_
    refine aw_aload_n (pc := 15) (i := 0) dX1_readRoad_15 rfl rfl ?_
    refine pg_X1_24 (pc := 16) (v := .int (nI m)) dX1_readRoad_16 rfl hB6 ?_
    refine aw_iload_n (pc := 19) (i := 1) dX1_readRoad_19 rfl rfl ?_
    refine ps_X1_first (pc := 20) dX1_readRoad_20 (by omega) ?_
    refine aw_iload_n (pc := 21) (i := 1) dX1_readRoad_21 rfl rfl ?_
    refine aw_iconst (pc := 22) dX1_readRoad_22 iconst_m1 ?_
    refine aw_icmp_eq (pc := 23) (tgt := 30) dX1_readRoad_23 rfl (fun h23 => ?_) (fun h23 => ?_)
    · -- 30
      refine aw_iconst (pc := 30) dX1_readRoad_30 iconst_0 ?_
      exact ab_ret0 (pc := 31) dX1_readRoad_31 rfl (Nat.le_refl _) (Nat.le_refl _) (k0 _ t1 _ _ g1 ((TBs.rf _).tr b1) ⟨rfl, rfl, rfl⟩)
    · -- 26
      exact absurd rfl h23
set_option maxHeartbeats 1000000 in
set_option maxRecDepth 20000 in
theorem c1_amount {G : xG} {d : Nat} {Q : xQ} {a ad bk : Nat → Nat} {κT κB : kS} {R : va_W} {σ : mS} {m : Nat} {hi : Nat} (hB0 : κB.1 0 = .ref (a 13)) (hB6 : κB.1 6 = .int (nI m)) (hm : m < 40) (hhi : hi < 1000) (hT : TPR ad κT σ) (hf : κT.1 11 = .int (nI 0)) (k1 : ∀ s n, 1 ≤ n → n ≤ hi → numN σ = n → takesF σ 1 hi = (true, s) → ∀ κT9, TPR ad κT9 s → TBs κT κT9 → κT9.1 11 = .int (nI 0) → NXF σ s → Q (some (.int (bI true))) (wBk G.2.2.1 bk (kI κB 5 m (nI n)) ++ (wTp G.2.2.1 a κT9 ++ R))) (k0 : ∀ σ9, takesF σ 1 hi = (false, σ9) → ∀ κT9 κB9, FRl κT9 σ9 → TBs κT κT9 → BKs κB κB9 → Q (some (.int (bI false))) (wBk G.2.2.1 bk κB9 ++ (wTp G.2.2.1 a κT9 ++ R))) : MT G MX1_readAmount (d + 2) 0 0 [.ref (bk 8), .int (nI hi)] (wBk G.2.2.1 bk κB ++ (wTp G.2.2.1 a κT ++ R)) Q := by
  refine mt_start (L := [some (.ref (bk 8)), some (.int (nI hi)), none]) rfl (Nat.le_of_ble_eq_true rfl) rfl ?_
  refine aw_aload_n (pc := 0) (i := 0) dX1_readAmount_0 rfl rfl ?_
  refine pg_X1_31 (pc := 1) (v := .ref (a 13)) dX1_readAmount_1 rfl hB0 ?_
  refine aw_iconst (pc := 4) dX1_readAmount_4 iconst_1 ?_
  refine aw_iload_n (pc := 5) (i := 1) dX1_readAmount_5 rfl rfl ?_
  refine aw_swap ?_
  refine cVi (pc := 6) (As := [.int (nI 1), .int (nI hi)]) (rest := []) dX1_readAmount_6 rfl oc_X1_109 rfl rfl (Nat.le_of_ble_eq_true rfl) rfl rfl ovX8 (Nat.le_refl _) (Nat.le_refl _) (c8_tnum (σ := σ) hT hf (by decide) (by omega) ?_ ?_)
  · -- call
    intro m1 hm1 lo1 hi1 nm1 t1 κ1 g1 b1 f1
    refine ⟨_, rfl, ?_⟩
    have n1 := NXF_nx18 σ (nI m1)
    obtain ⟨s1, hs1⟩ : ∃ x, x = nx (mI σ 18 (nI m1)) := ⟨_, rfl⟩
    rw [← hs1] at g1 n1 t1
    refine aw_istore_n (pc := 9) (i := 2) dX1_readAmount_9 rfl (Nat.le_of_ble_eq_true rfl) rfl ?_
    refine aw_aload_n (pc := 10) (i := 0) dX1_readAmount_10 rfl rfl ?_
    refine aw_swap ?_
    refine pg_X1_21 (pc := 11) dX1_readAmount_11 rfl ?_
    refine aw_aload_n (pc := 14) (i := 0) dX1_readAmount_14 rfl rfl ?_
    refine pg_X1_24 (pc := 15) (v := .int (nI m)) dX1_readAmount_15 rfl hB6 ?_
    refine aw_iload_n (pc := 18) (i := 2) dX1_readAmount_18 rfl rfl ?_
    refine ps_X1_amount (pc := 19) dX1_readAmount_19 (by omega) ?_
    refine aw_iload_n (pc := 20) (i := 2) dX1_readAmount_20 rfl rfl ?_
    refine aw_iconst (pc := 21) dX1_readAmount_21 iconst_m1 ?_
    refine aw_icmp_eq (pc := 22) (tgt := 29) dX1_readAmount_22 rfl (fun h22 => ?_) (fun h22 => ?_)
    · -- 29
      exact absurd h22 (nI_m1 (by omega))
    · -- 25
      refine aw_iconst (pc := 25) dX1_readAmount_25 iconst_1 ?_
      refine aw_goto (pc := 26) (tgt := 30) dX1_readAmount_26 rfl ?_
      exact ab_ret1 (pc := 30) dX1_readAmount_30 rfl (Nat.le_refl _) (Nat.le_refl _) (k1 _ m1 lo1 hi1 nm1 t1 _ g1 ((TBs.rf _).tr b1) f1 n1)
  · -- call
    intro z1 t1 κ1 g1 b1
    refine ⟨_, rfl, ?_⟩
    refine aw_istore_n (pc := 9) (i := 2) dX1_readAmount_9 rfl (Nat.le_of_ble_eq_true rfl) rfl ?_
    refine aw_aload_n (pc := 10) (i := 0) dX1_readAmount_10 rfl rfl ?_
    refine aw_swap ?_
    refine pg_X1_21 (pc := 11) dX1_readAmount_11 rfl ?_
    refine aw_aload_n (pc := 14) (i := 0) dX1_readAmount_14 rfl rfl ?_
    refine pg_X1_24 (pc := 15) (v := .int (nI m)) dX1_readAmount_15 rfl hB6 ?_
    refine aw_iload_n (pc := 18) (i := 2) dX1_readAmount_18 rfl rfl ?_
    refine ps_X1_amount (pc := 19) dX1_readAmount_19 (by omega) ?_
    refine aw_iload_n (pc := 20) (i := 2) dX1_readAmount_20 rfl rfl ?_
    refine aw_iconst (pc := 21) dX1_readAmount_21 iconst_m1 ?_
    refine aw_icmp_eq (pc := 22) (tgt := 29) dX1_readAmount_22 rfl (fun h22 => ?_) (fun h22 => ?_)
    · -- 29
      refine aw_iconst (pc := 29) dX1_readAmount_29 iconst_0 ?_
      exact ab_ret0 (pc := 30) dX1_readAmount_30 rfl (Nat.le_refl _) (Nat.le_refl _) (k0 _ t1 _ _ g1 ((TBs.rf _).tr b1) ⟨rfl, rfl, rfl⟩)
    · -- 25
      exact absurd rfl h22
set_option maxHeartbeats 1000000 in
set_option maxRecDepth 20000 in
theorem c1_cross {G : xG} {d : Nat} {Q : xQ} {a ad bk c : Nat → Nat} {κT κB : kS} {R : va_W} {σ : mS} {NM : Nat → Int64} {m : Nat} {tw ts : Nat} (hE : EB ad tw ts G) (hB0 : κB.1 0 = .ref (a 13)) (hB1 : κB.1 1 = .ref (c 13)) (hB6 : κB.1 6 = .int (nI m)) (hm : m ≤ 40) (hT : TPR ad κT σ) (hf : κT.1 11 = .int (nI 0)) (hC : CHR G R c (σ.2.1 6) NM) (hRes : RES σ) (h0 : σ.2.1 6 0 ≤ 7) (hp2 : σ.2.1 6 2 ≤ 6) (hNm : NMb σ NM) (k1 : ∀ s i1 i2, blCF σ m = (true, s) → m < 40 → i1 < σ.2.1 6 2 → i2 < σ.2.1 6 0 → s.2.1 8 = upN (upN (upN (σ.2.1 8) (4 * m) 0) (4 * m + 1) i1) (4 * m + 2) i2 → ∀ κT9, TPR ad κT9 s → TBs κT κT9 → κT9.1 11 = .int (nI 0) → BXF σ s → Q (some (.int (bI true))) (wBk G.2.2.1 bk (kI (kI (kI κB 2 m (nI 0)) 3 m (nI i1)) 4 m (nI i2)) ++ (wTp G.2.2.1 a κT9 ++ R))) (k0 : ∀ σ9, blCF σ m = (false, σ9) → ∀ κT9 κB9, FRl κT9 σ9 → TBs κT κT9 → BKs κB κB9 → Q (some (.int (bI false))) (wBk G.2.2.1 bk κB9 ++ (wTp G.2.2.1 a κT9 ++ R))) : MT G MX1_readCrossing (d + 3) 0 0 [.ref (bk 8)] (wBk G.2.2.1 bk κB ++ (wTp G.2.2.1 a κT ++ R)) Q := by
  refine mt_start (L := [some (.ref (bk 8)), none, none]) rfl (Nat.le_of_ble_eq_true rfl) rfl ?_
  refine aw_aload_n (pc := 0) (i := 0) dX1_readCrossing_0 rfl rfl ?_
  refine pg_X1_31 (pc := 1) (v := .ref (a 13)) dX1_readCrossing_1 rfl hB0 ?_
  refine aw_aload_n (pc := 4) (i := 0) dX1_readCrossing_4 rfl rfl ?_
  refine pg_X1_35 (pc := 5) (v := .ref (c 13)) dX1_readCrossing_5 rfl hB1 ?_
  refine aw_swap ?_
  refine cVi (pc := 8) (As := [.ref (c 13)]) (rest := []) dX1_readCrossing_8 rfl oc_X1_95 rfl rfl (Nat.le_of_ble_eq_true rfl) rfl rfl ovX8 (Nat.le_refl _) (Nat.le_refl _) (c8_phere (t := σ.2.1 6) (NM := NM) (fr := 7) hT hf (hC.sub (fun x hx => by simp only [List.mem_append]; simp [hx])) hRes hp2 hNm.2 ?_ ?_)
  · -- call
    intro i1 hi1 fw1 w1 t1
    refine ⟨_, rfl, ?_⟩
    have n1 := NXF_mI18 σ (nI i1)
    have g1 := hT.tI (k := 18) (x := nI i1) (by decide)
    have w1 : (mI σ 18 (nI i1)).1 11 = nI 1 := (mI_o _ _ _ _ (by decide)).trans w1
    obtain ⟨s1, hs1⟩ : ∃ x, x = mI σ 18 (nI i1) := ⟨_, rfl⟩
    rw [← hs1] at g1 n1 t1 w1
    refine aw_istore_n (pc := 11) (i := 1) dX1_readCrossing_11 rfl (Nat.le_of_ble_eq_true rfl) rfl ?_
    refine aw_iload_n (pc := 12) (i := 1) dX1_readCrossing_12 rfl rfl ?_
    refine aw_iconst (pc := 13) dX1_readCrossing_13 iconst_m1 ?_
    refine aw_icmp_eq (pc := 14) (tgt := 38) dX1_readCrossing_14 rfl (fun h14 => ?_) (fun h14 => ?_)
    · -- 38
      exact absurd h14 (nI_m1 (by omega))
    · -- 17
      refine aw_aload_n (pc := 17) (i := 0) dX1_readCrossing_17 rfl rfl ?_
      refine aw_iconst (pc := 18) dX1_readCrossing_18 iconst_0 ?_
      refine aw_swap ?_
      refine cVi (pc := 19) (As := [.int (nI 0)]) (rest := []) dX1_readCrossing_19 rfl oc_X1_80 rfl rfl (Nat.le_of_ble_eq_true rfl) rfl rfl ovX1 (Nat.le_refl _) (Nat.le_refl _) (c1_begin (σ := s1) hB0 hB6 hm g1 hf w1 ?_ ?_)
      · -- call
        intro hm2 κ2 g2 b2 f2
        refine ⟨_, rfl, ?_⟩
        have n2 := NXF_nx s1
        obtain ⟨s2, hs2⟩ : ∃ x, x = nx s1 := ⟨_, rfl⟩
        rw [← hs2] at g2 n2
        have g2 := g2.tN (k := 8) (i := 4 * m) (v := 0)
        refine ab_if_eq (pc := 22) (tgt := 38) dX1_readCrossing_22 rfl (fun h22 => absurd h22 (by decide)) (fun h22 => ?_)
        refine aw_aload_n (pc := 25) (i := 0) dX1_readCrossing_25 rfl rfl ?_
        refine pg_X1_31 (pc := 26) (v := .ref (a 13)) dX1_readCrossing_26 rfl hB0 ?_
        refine aw_gsw (pc := 29) (i := 5) dX1_readCrossing_29 rfl hE (by decide) rfl gs_X1_99 ?_
        refine aw_swap ?_
        refine cVi (pc := 32) (As := [va_rf (Option.map ad (some 5))]) (rest := []) dX1_readCrossing_32 rfl oc_X1_102 rfl rfl (Nat.le_of_ble_eq_true rfl) rfl rfl ovX8 (Nat.le_refl _) (Nat.le_refl _) (c8_takeWord (i := 5) (σ := (mN s2 8 (4 * m) 0)) hE g2 f2 (by decide) ?_ ?_)
        · -- call
          intro t3 κ3 g3 b3 f3
          refine ⟨_, rfl, ?_⟩
          have wq : isWordB (mN s2 8 (4 * m) 0) (wC8 5) = true := by unfold wordF at t3; split at t3; assumption; cases t3
          have e3 : (wordF (mN s2 8 (4 * m) 0) 5).2 = nx (mN s2 8 (4 * m) 0) := by unfold wordF; rw [if_pos wq]
          rw [e3] at g3
          have n3 := NXF_nx (mN s2 8 (4 * m) 0)
          obtain ⟨s3, hs3⟩ : ∃ x, x = nx (mN s2 8 (4 * m) 0) := ⟨_, rfl⟩
          rw [← hs3] at g3 n3
          have x3 : BXF σ s3 := ((n1.bx.tr n2.bx).tr (BXF_8 _ _ _)).tr n3.bx
          have N3 : N13 s3 0 (σ.2.1 6 0) NM := by unfold N13; rw [x3.2.1]; exact hNm.1
          refine ab_if_ne (pc := 35) (tgt := 40) dX1_readCrossing_35 rfl (fun h35 => ?_) (fun h35 => absurd h35 (by decide))
          refine aw_aload_n (pc := 40) (i := 0) dX1_readCrossing_40 rfl rfl ?_
          refine aw_swap ?_
          refine pg_X1_31 (pc := 41) (v := .ref (a 13)) dX1_readCrossing_41 rfl hB0 ?_
          refine aw_aload_n (pc := 44) (i := 0) dX1_readCrossing_44 rfl rfl ?_
          refine pg_X1_35 (pc := 45) (v := .ref (c 13)) dX1_readCrossing_45 rfl hB1 ?_
          refine aw_swap ?_
          refine cVi (pc := 48) (As := [.ref (c 13)]) (rest := []) dX1_readCrossing_48 rfl oc_X1_106 rfl rfl (Nat.le_of_ble_eq_true rfl) rfl rfl ovX8 (Nat.le_refl _) (Nat.le_refl _) (c8_tland (t := σ.2.1 6) (NM := NM) (fr := 0) (σ := (mN s3 8 (4 * m + 1) i1)) (g3.tN) f3 (hC.sub (fun x hx => by simp only [List.mem_append]; simp [hx])) ((hRes.bx x3).tN) h0 (N13.tN N3) ?_ ?_)
          · -- call
            intro i4 hi4 fw4 t4 κ4 g4 b4 f4
            refine ⟨_, rfl, ?_⟩
            have n4 := NXF_nx18 (mN s3 8 (4 * m + 1) i1) (nI i4)
            obtain ⟨s4, hs4⟩ : ∃ x, x = nx (mI (mN s3 8 (4 * m + 1) i1) 18 (nI i4)) := ⟨_, rfl⟩
            rw [← hs4] at g4 n4 t4
            refine aw_istore_n (pc := 51) (i := 2) dX1_readCrossing_51 rfl (Nat.le_of_ble_eq_true rfl) rfl ?_
            refine aw_aload_n (pc := 52) (i := 0) dX1_readCrossing_52 rfl rfl ?_
            refine aw_swap ?_
            refine pg_X1_15 (pc := 53) dX1_readCrossing_53 rfl ?_
            refine aw_aload_n (pc := 56) (i := 0) dX1_readCrossing_56 rfl rfl ?_
            refine pg_X1_24 (pc := 57) (v := .int (nI m)) dX1_readCrossing_57 rfl hB6 ?_
            refine aw_iload_n (pc := 60) (i := 1) dX1_readCrossing_60 rfl rfl ?_
            refine ps_X1_first (pc := 61) dX1_readCrossing_61 (by omega) ?_
            refine aw_aload_n (pc := 62) (i := 0) dX1_readCrossing_62 rfl rfl ?_
            refine pg_X1_18 (pc := 63) dX1_readCrossing_63 rfl ?_
            refine aw_aload_n (pc := 66) (i := 0) dX1_readCrossing_66 rfl rfl ?_
            refine pg_X1_24 (pc := 67) (v := .int (nI m)) dX1_readCrossing_67 rfl hB6 ?_
            refine aw_iload_n (pc := 70) (i := 2) dX1_readCrossing_70 rfl rfl ?_
            refine ps_X1_second (pc := 71) dX1_readCrossing_71 (by omega) ?_
            refine aw_iload_n (pc := 72) (i := 2) dX1_readCrossing_72 rfl rfl ?_
            refine aw_iconst (pc := 73) dX1_readCrossing_73 iconst_m1 ?_
            refine aw_icmp_eq (pc := 74) (tgt := 81) dX1_readCrossing_74 rfl (fun h74 => ?_) (fun h74 => ?_)
            · -- 81
              exact absurd h74 (nI_m1 (by omega))
            · -- 77
              refine aw_iconst (pc := 77) dX1_readCrossing_77 iconst_1 ?_
              refine aw_goto (pc := 78) (tgt := 82) dX1_readCrossing_78 rfl ?_
              refine ab_ret1 (pc := 82) dX1_readCrossing_82 rfl (Nat.le_refl _) (Nat.le_refl _) ?_
              have eF : blCF σ m = (true, mN s4 8 (4 * m + 2) i4) := by unfold blCF blA blQ; rw [t1]; dsimp only; rw [if_pos rfl, if_neg (by omega), show blS s1 m 0 = mN s2 8 (4 * m) 0 by unfold blS; rw [← hs2], show (27991845698233715 : Int64) = wC8 5 from rfl, if_pos wq, ← hs3, fw1]; dsimp only [Option.getD]; unfold bl2F bl2S bkT bkI; rw [mN_86, x3.1, t4, fw4]; rfl
              refine k1 _ i1 i4 eF hm2 hi1 hi4 ?_ _ g4.tN ((b2.tr b3).tr b4) f4 ?_
              · rw [mN_8, n4.1, mN_8, n3.1, mN_8, n2.1, n1.1]
              · exact ((x3.tr (BXF_8 _ _ _)).tr n4.bx).tr (BXF_8 _ _ _)
          · -- call
            intro z4 t4 κ4 g4 b4
            refine ⟨_, rfl, ?_⟩
            refine aw_istore_n (pc := 51) (i := 2) dX1_readCrossing_51 rfl (Nat.le_of_ble_eq_true rfl) rfl ?_
            refine aw_aload_n (pc := 52) (i := 0) dX1_readCrossing_52 rfl rfl ?_
            refine aw_swap ?_
            refine pg_X1_15 (pc := 53) dX1_readCrossing_53 rfl ?_
            refine aw_aload_n (pc := 56) (i := 0) dX1_readCrossing_56 rfl rfl ?_
            refine pg_X1_24 (pc := 57) (v := .int (nI m)) dX1_readCrossing_57 rfl hB6 ?_
            refine aw_iload_n (pc := 60) (i := 1) dX1_readCrossing_60 rfl rfl ?_
            refine ps_X1_first (pc := 61) dX1_readCrossing_61 (by omega) ?_
            refine aw_aload_n (pc := 62) (i := 0) dX1_readCrossing_62 rfl rfl ?_
            refine pg_X1_18 (pc := 63) dX1_readCrossing_63 rfl ?_
            refine aw_aload_n (pc := 66) (i := 0) dX1_readCrossing_66 rfl rfl ?_
            refine pg_X1_24 (pc := 67) (v := .int (nI m)) dX1_readCrossing_67 rfl hB6 ?_
            refine aw_iload_n (pc := 70) (i := 2) dX1_readCrossing_70 rfl rfl ?_
            refine ps_X1_second (pc := 71) dX1_readCrossing_71 (by omega) ?_
            refine aw_iload_n (pc := 72) (i := 2) dX1_readCrossing_72 rfl rfl ?_
            refine aw_iconst (pc := 73) dX1_readCrossing_73 iconst_m1 ?_
            refine aw_icmp_eq (pc := 74) (tgt := 81) dX1_readCrossing_74 rfl (fun h74 => ?_) (fun h74 => ?_)
            · -- 81
              refine aw_iconst (pc := 81) dX1_readCrossing_81 iconst_0 ?_
              refine ab_ret0 (pc := 82) dX1_readCrossing_82 rfl (Nat.le_refl _) (Nat.le_refl _) ?_
              have eF : blCF σ m = (false, z4) := by unfold blCF blA blQ; rw [t1]; dsimp only; rw [if_pos rfl, if_neg (by omega), show blS s1 m 0 = mN s2 8 (4 * m) 0 by unfold blS; rw [← hs2], show (27991845698233715 : Int64) = wC8 5 from rfl, if_pos wq, ← hs3, fw1]; dsimp only [Option.getD]; unfold bl2F bl2S bkT bkI; rw [mN_86, x3.1, t4]; rfl
              exact k0 _ eF _ _ g4 ((b2.tr b3).tr b4) ⟨rfl, rfl, rfl⟩
            · -- 77
              exact absurd rfl h74
        · -- call
          intro t3 κ3 g3 b3
          refine ⟨_, rfl, ?_⟩
          refine ab_if_ne (pc := 35) (tgt := 40) dX1_readCrossing_35 rfl (fun h35 => absurd h35 (by decide)) (fun h35 => ?_)
          refine aw_iconst (pc := 38) dX1_readCrossing_38 iconst_0 ?_
          refine aw_swap ?_
          refine ab_ret0 (pc := 39) dX1_readCrossing_39 rfl (Nat.le_refl _) (Nat.le_refl _) ?_
          have wq : ¬ isWordB (mN s2 8 (4 * m) 0) (wC8 5) = true := fun e => by unfold wordF at t3; rw [if_pos e] at t3; cases t3
          have e3 : (wordF (mN s2 8 (4 * m) 0) 5).2 = badF (mN s2 8 (4 * m) 0) 1 := by unfold wordF; rw [if_neg wq]
          rw [e3] at g3
          have eF : blCF σ m = (false, badF (mN s2 8 (4 * m) 0) 1) := by unfold blCF blA blQ; rw [t1]; dsimp only; rw [if_pos rfl, if_neg (by omega), show blS s1 m 0 = mN s2 8 (4 * m) 0 by unfold blS; rw [← hs2], show (27991845698233715 : Int64) = wC8 5 from rfl, if_neg wq]
          exact k0 _ eF _ _ g3 (b2.tr b3) ⟨rfl, rfl, rfl⟩
      · -- call
        intro hm2 κ2 g2 b2
        refine ⟨_, rfl, ?_⟩
        refine ab_if_eq (pc := 22) (tgt := 38) dX1_readCrossing_22 rfl (fun h22 => ?_) (fun h22 => absurd h22 (by decide))
        refine aw_iconst (pc := 38) dX1_readCrossing_38 iconst_0 ?_
        refine ab_ret0 (pc := 39) dX1_readCrossing_39 rfl (Nat.le_refl _) (Nat.le_refl _) ?_
        have eF : blCF σ m = (false, badF s1 4) := by unfold blCF blA blQ; rw [t1]; dsimp only; rw [if_pos rfl, if_pos hm2]
        exact k0 _ eF _ _ g2 b2 ⟨rfl, rfl, rfl⟩
  · -- call
    intro z1 t1 κ1 g1 b1
    refine ⟨_, rfl, ?_⟩
    refine aw_istore_n (pc := 11) (i := 1) dX1_readCrossing_11 rfl (Nat.le_of_ble_eq_true rfl) rfl ?_
    refine aw_iload_n (pc := 12) (i := 1) dX1_readCrossing_12 rfl rfl ?_
    refine aw_iconst (pc := 13) dX1_readCrossing_13 iconst_m1 ?_
    refine aw_icmp_eq (pc := 14) (tgt := 38) dX1_readCrossing_14 rfl (fun h14 => ?_) (fun h14 => ?_)
    · -- 38
      refine aw_iconst (pc := 38) dX1_readCrossing_38 iconst_0 ?_
      refine aw_swap ?_
      refine ab_ret0 (pc := 39) dX1_readCrossing_39 rfl (Nat.le_refl _) (Nat.le_refl _) ?_
      have eF : blCF σ m = (false, z1) := by unfold blCF blA; rw [t1]; rfl
      exact k0 _ eF _ _ g1 b1 ⟨rfl, rfl, rfl⟩
    · -- 17
      exact absurd rfl h14
