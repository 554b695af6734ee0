theorem takes_n (σ : mS) (lo hi : Nat) : (takesF σ lo hi).2.2.1 = σ.2.1 := by
  unfold takesF
  split
  · split <;> rfl
  · rfl
theorem fresh_n (σ : mS) (to : Nat) : (freshF σ to).2.2.1 = σ.2.1 := by
  unfold freshF
  split
  · split
    · rfl
    · split <;> rfl
  · rfl
theorem looks_n (σ : mS) (fr mn : Nat) : (looksF σ fr mn).2.2.1 = σ.2.1 := by
  unfold looksF
  split
  · split <;> rfl
  · rfl
theorem takesName_n (σ : mS) (fr mn : Nat) : (takesNameF σ fr mn).2.2.1 = σ.2.1 := by
  unfold takesNameF
  split
  · exact looks_n σ fr mn
  · exact looks_n σ fr mn
theorem puts_n {σ : mS} {to lo hi : Nat} (h : (putsF σ to lo hi).1 = true) : (putsF σ to lo hi).2.2.1 7 = upN (σ.2.1 7) to (numN σ) := by
  unfold putsF at *
  split at h
  · rename_i h1
    rw [if_pos h1]
    show upN ((takesF σ lo hi).2.2.1 7) to (numN σ) = _
    rw [takes_n]
  · exact absurd h (by simp)
theorem looks_t {σ : mS} {fr mn : Nat} (h : (looksF σ fr mn).1 = true) : (findW σ fr mn).isSome = true ∧ isNameB σ = true ∧ (looksF σ fr mn).2 = mI σ 18 (nI ((findW σ fr mn).getD 0)) := by
  unfold looksF at *
  split at h
  · split at h
    · rename_i h1 h2
      rw [if_pos h1, if_pos h2]
      exact ⟨h2, h1, rfl⟩
    · exact absurd h (by simp)
  · exact absurd h (by simp)
theorem takesName_t {σ : mS} {fr mn : Nat} (h : (takesNameF σ fr mn).1 = true) : (looksF σ fr mn).1 = true ∧ (takesNameF σ fr mn).2 = nx (looksF σ fr mn).2 := by
  unfold takesNameF at *
  split at h
  · rename_i h1
    rw [if_pos h1]
    exact ⟨h1, rfl⟩
  · exact absurd h (by simp)
theorem looks_got {σ : mS} {fr mn : Nat} (h : (looksF σ fr mn).1 = true) : (looksF σ fr mn).2.1 18 = nI ((findW σ fr mn).getD 0) := by rw [(looks_t h).2.2]; rfl
theorem takesName_got {σ : mS} {fr mn : Nat} (h : (takesNameF σ fr mn).1 = true) : (takesNameF σ fr mn).2.1 18 = nI ((findW σ fr mn).getD 0) := by
  rw [(takesName_t h).2, nx_sc _ 18 (by decide), looks_got (takesName_t h).1]
theorem looks_lt {σ : mS} {fr mn : Nat} (h : (looksF σ fr mn).1 = true) : (findW σ fr mn).getD 0 < mn := findW_lt (looks_t h).1
theorem takesName_lt {σ : mS} {fr mn : Nat} (h : (takesNameF σ fr mn).1 = true) : (findW σ fr mn).getD 0 < mn := looks_lt (takesName_t h).1

def readLandF (σ : mS) : Bool × mS := if σ.2.1 7 0 = 7 then (false, badF σ 4) else if (freshF (nx σ) (13 + σ.2.1 7 0)).1 = true then (if (putsF (freshF (nx σ) (13 + σ.2.1 7 0)).2 (3 + σ.2.1 7 0) 0 20).1 = true then (if (putsF (putsF (freshF (nx σ) (13 + σ.2.1 7 0)).2 (3 + σ.2.1 7 0) 0 20).2 (10 + σ.2.1 7 0) 0 20).1 = true then (true, mN (putsF (putsF (freshF (nx σ) (13 + σ.2.1 7 0)).2 (3 + σ.2.1 7 0) 0 20).2 (10 + σ.2.1 7 0) 0 20).2 7 0 (σ.2.1 7 0 + 1)) else (false, (putsF (putsF (freshF (nx σ) (13 + σ.2.1 7 0)).2 (3 + σ.2.1 7 0) 0 20).2 (10 + σ.2.1 7 0) 0 20).2)) else (false, (putsF (freshF (nx σ) (13 + σ.2.1 7 0)).2 (3 + σ.2.1 7 0) 0 20).2)) else (false, (freshF (nx σ) (13 + σ.2.1 7 0)).2)
set_option maxHeartbeats 1000000 in
set_option maxRecDepth 20000 in
theorem s_readLand {G : xG} {d : Nat} {Q : xQ} {a : Nat → Nat} {σ : mS} (h : PV σ) (h7 : σ.2.1 7 0 ≤ 7) (h12 : σ.2.1 7 1 ≤ 12) (h6 : σ.2.1 7 2 ≤ 6) (kk : Q (some (.int (bI (readLandF σ).1))) (mW G.2.2.1 a (readLandF σ).2)) : MT G MX12_readLand (d + 4) 0 0 [.ref (a 60)] (mW G.2.2.1 a σ) Q := by
  refine mt_start (L := [some (.ref (a 60)), none]) rfl (Nat.le_of_ble_eq_true rfl) rfl ?_
  refine aw_aload_n (pc := 0) (i := 0) dX12_readLand_0 rfl rfl ?_
  refine mg_h (pc := 1) dX12_readLand_1 rfl ?_
  refine aw_iconst (pc := 4) dX12_readLand_4 iconst_0 ?_
  refine ml_h (pc := 5) dX12_readLand_5 (by decide) ?_
  refine aw_istore_n (pc := 6) (i := 1) dX12_readLand_6 rfl (Nat.le_of_ble_eq_true rfl) rfl ?_
  refine aw_iload_n (pc := 7) (i := 1) dX12_readLand_7 rfl rfl ?_
  refine aw_bipush (pc := 8) dX12_readLand_8 bipush_7 ?_
  refine an_icmp_ne (pc := 10) (tgt := 19) dX12_readLand_10 rfl (by omega) (by decide) (fun h10 => ?_) (fun h10 => ?_)
  · -- 19
    refine aw_aload_n (pc := 19) (i := 0) dX12_readLand_19 rfl rfl ?_
    refine mc_V (pc := 20) (As := []) (rest := []) dX12_readLand_20 rfl ok_X12_204 rfl rfl rfl (Nat.le_of_ble_eq_true rfl) (s_nx h ⟨_, rfl, rfl, ?_⟩)
    refine aw_aload_n (pc := 23) (i := 0) dX12_readLand_23 rfl rfl ?_
    refine aw_bipush (pc := 24) dX12_readLand_24 bipush_13 ?_
    refine aw_iload_n (pc := 26) (i := 1) dX12_readLand_26 rfl rfl ?_
    refine an_add (pc := 27) dX12_readLand_27 ?_
    refine mc_I (pc := 28) (As := [.int (nI (13 + (σ.2.1 7 0)))]) (rest := []) dX12_readLand_28 rfl ok_X12_248 rfl rfl rfl (Nat.le_of_ble_eq_true rfl) (s_fresh (PV_nx h) (by omega) h7 h6 ⟨_, _, rfl, rfl, ?_⟩)
    refine ab_if_eq (pc := 31) (tgt := 61) dX12_readLand_31 rfl (fun h31 => ?_) (fun h31 => ?_)
    · -- 61
      refine aw_iconst (pc := 61) dX12_readLand_61 iconst_0 ?_
      exact ab_ret0 (pc := 62) dX12_readLand_62 rfl (Nat.le_refl _) (Nat.le_refl _) (by simp only [readLandF, h10, h31, Bool.true_and, Bool.and_true, Bool.false_and, Bool.and_false, Bool.not_true, Bool.not_false, Bool.or_true, Bool.or_false, Bool.true_or, Bool.false_or, Bool.false_eq_true, Bool.true_eq_false, if_true, if_false, ite_true, ite_false, reduceIte, reduceCtorEq] at kk; exact kk)
    · -- 34
      refine aw_aload_n (pc := 34) (i := 0) dX12_readLand_34 rfl rfl ?_
      refine aw_iconst (pc := 35) dX12_readLand_35 iconst_3 ?_
      refine aw_iload_n (pc := 36) (i := 1) dX12_readLand_36 rfl rfl ?_
      refine an_add (pc := 37) dX12_readLand_37 ?_
      refine aw_iconst (pc := 38) dX12_readLand_38 iconst_0 ?_
      refine aw_bipush (pc := 39) dX12_readLand_39 bipush_20 ?_
      refine mc_I (pc := 41) (As := [.int (nI (3 + (σ.2.1 7 0))), .int (nI 0), .int (nI 20)]) (rest := []) dX12_readLand_41 rfl ok_X12_251 rfl rfl rfl (Nat.le_of_ble_eq_true rfl) (s_puts (PV_fresh (PV_nx h)) (by omega) ⟨_, _, rfl, rfl, ?_⟩)
      refine ab_if_eq (pc := 44) (tgt := 61) dX12_readLand_44 rfl (fun h44 => ?_) (fun h44 => ?_)
      · -- 61
        refine aw_iconst (pc := 61) dX12_readLand_61 iconst_0 ?_
        exact ab_ret0 (pc := 62) dX12_readLand_62 rfl (Nat.le_refl _) (Nat.le_refl _) (by simp only [readLandF, h10, h31, h44, Bool.true_and, Bool.and_true, Bool.false_and, Bool.and_false, Bool.not_true, Bool.not_false, Bool.or_true, Bool.or_false, Bool.true_or, Bool.false_or, Bool.false_eq_true, Bool.true_eq_false, if_true, if_false, ite_true, ite_false, reduceIte, reduceCtorEq] at kk; exact kk)
      · -- 47
        refine aw_aload_n (pc := 47) (i := 0) dX12_readLand_47 rfl rfl ?_
        refine aw_bipush (pc := 48) dX12_readLand_48 bipush_10 ?_
        refine aw_iload_n (pc := 50) (i := 1) dX12_readLand_50 rfl rfl ?_
        refine an_add (pc := 51) dX12_readLand_51 ?_
        refine aw_iconst (pc := 52) dX12_readLand_52 iconst_0 ?_
        refine aw_bipush (pc := 53) dX12_readLand_53 bipush_20 ?_
        refine mc_I (pc := 55) (As := [.int (nI (10 + (σ.2.1 7 0))), .int (nI 0), .int (nI 20)]) (rest := []) dX12_readLand_55 rfl ok_X12_251 rfl rfl rfl (Nat.le_of_ble_eq_true rfl) (s_puts (PV_puts (PV_fresh (PV_nx h))) (by omega) ⟨_, _, rfl, rfl, ?_⟩)
        refine ab_if_ne (pc := 58) (tgt := 63) dX12_readLand_58 rfl (fun h58 => ?_) (fun h58 => ?_)
        · -- 63
          refine aw_aload_n (pc := 63) (i := 0) dX12_readLand_63 rfl rfl ?_
          refine mg_h (pc := 64) dX12_readLand_64 rfl ?_
          refine aw_iconst (pc := 67) dX12_readLand_67 iconst_0 ?_
          refine aw_dup2 (pc := 68) dX12_readLand_68 rfl rfl ?_
          refine ml_h (pc := 69) dX12_readLand_69 (by decide) ?_
          refine aw_top (y := (nI (σ.2.1 7 0))) (congrArg nI (by rw [puts_n h58, upN_n _ _ _ _ (by omega), puts_n h44, upN_n _ _ _ _ (by omega), fresh_n]; rfl)) ?_
          refine aw_iconst (pc := 70) dX12_readLand_70 iconst_1 ?_
          refine an_add (pc := 71) dX12_readLand_71 ?_
          refine ms_h (pc := 72) dX12_readLand_72 (by decide) ?_
          refine aw_iconst (pc := 73) dX12_readLand_73 iconst_1 ?_
          exact ab_ret1 (pc := 74) dX12_readLand_74 rfl (Nat.le_refl _) (Nat.le_refl _) (by simp only [readLandF, h10, h31, h44, h58, Bool.true_and, Bool.and_true, Bool.false_and, Bool.and_false, Bool.not_true, Bool.not_false, Bool.or_true, Bool.or_false, Bool.true_or, Bool.false_or, Bool.false_eq_true, Bool.true_eq_false, if_true, if_false, ite_true, ite_false, reduceIte, reduceCtorEq] at kk; exact kk)
        · -- 61
          refine aw_iconst (pc := 61) dX12_readLand_61 iconst_0 ?_
          exact ab_ret0 (pc := 62) dX12_readLand_62 rfl (Nat.le_refl _) (Nat.le_refl _) (by simp only [readLandF, h10, h31, h44, h58, Bool.true_and, Bool.and_true, Bool.false_and, Bool.and_false, Bool.not_true, Bool.not_false, Bool.or_true, Bool.or_false, Bool.true_or, Bool.false_or, Bool.false_eq_true, Bool.true_eq_false, if_true, if_false, ite_true, ite_false, reduceIte, reduceCtorEq] at kk; exact kk)
  · -- 13
    refine aw_aload_n (pc := 13) (i := 0) dX12_readLand_13 rfl rfl ?_
    refine aw_iconst (pc := 14) dX12_readLand_14 iconst_4 ?_
    refine mc_I (pc := 15) (As := [.int (nI 4)]) (rest := []) dX12_readLand_15 rfl ok_X12_201 rfl rfl rfl (Nat.le_of_ble_eq_true rfl) (s_bad ⟨_, _, rfl, rfl, ?_⟩)
    exact ab_ret (pc := 18) dX12_readLand_18 rfl (Nat.le_refl _) (Nat.le_refl _) (by simp only [readLandF, h10, Bool.true_and, Bool.and_true, Bool.false_and, Bool.and_false, Bool.not_true, Bool.not_false, Bool.or_true, Bool.or_false, Bool.true_or, Bool.false_or, Bool.false_eq_true, Bool.true_eq_false, if_true, if_false, ite_true, ite_false, reduceIte, reduceCtorEq] at kk; exact kk)
def storedN (σ : mS) : Nat := (σ.1 20).toNatClampNeg
def readStoreF (σ : mS) : Bool × mS := if (looksF (nx σ) 13 (σ.2.1 7 0)).1 = true then (if (storedN σ).testBit ((findW (nx σ) 13 (σ.2.1 7 0)).getD 0) = true then (false, badF (looksF (nx σ) 13 (σ.2.1 7 0)).2 3) else putsF (nx (mI (looksF (nx σ) 13 (σ.2.1 7 0)).2 20 (nI (storedN σ ||| 2 ^ ((findW (nx σ) 13 (σ.2.1 7 0)).getD 0))))) (17 + ((findW (nx σ) 13 (σ.2.1 7 0)).getD 0)) 0 99) else (false, (looksF (nx σ) 13 (σ.2.1 7 0)).2)
set_option maxHeartbeats 1000000 in
set_option maxRecDepth 20000 in
theorem s_readStore {G : xG} {d : Nat} {Q : xQ} {a : Nat → Nat} {σ : mS} (h : PV σ) (h7 : σ.2.1 7 0 ≤ 7) (h12 : σ.2.1 7 1 ≤ 12) (h6 : σ.2.1 7 2 ≤ 6) (hsd : σ.1 20 = nI (storedN σ)) (hs7 : storedN σ < 128) (kk : Q (some (.int (bI (readStoreF σ).1))) (mW G.2.2.1 a (readStoreF σ).2)) : MT G MX12_readStore (d + 4) 0 0 [.ref (a 60)] (mW G.2.2.1 a σ) Q := by
  refine mt_start (L := [some (.ref (a 60)), none]) rfl (Nat.le_of_ble_eq_true rfl) rfl ?_
  refine aw_aload_n (pc := 0) (i := 0) dX12_readStore_0 rfl rfl ?_
  refine mc_V (pc := 1) (As := []) (rest := []) dX12_readStore_1 rfl ok_X12_204 rfl rfl rfl (Nat.le_of_ble_eq_true rfl) (s_nx h ⟨_, rfl, rfl, ?_⟩)
  refine aw_aload_n (pc := 4) (i := 0) dX12_readStore_4 rfl rfl ?_
  refine aw_bipush (pc := 5) dX12_readStore_5 bipush_13 ?_
  refine aw_aload_n (pc := 7) (i := 0) dX12_readStore_7 rfl rfl ?_
  refine mg_h (pc := 8) dX12_readStore_8 rfl ?_
  refine aw_iconst (pc := 11) dX12_readStore_11 iconst_0 ?_
  refine ml_h (pc := 12) dX12_readStore_12 (by decide) ?_
  refine aw_top (y := (nI (σ.2.1 7 0))) rfl ?_
  refine mc_I (pc := 13) (As := [.int (nI 13), .int (nI (σ.2.1 7 0))]) (rest := []) dX12_readStore_13 rfl ok_X12_226 rfl rfl rfl (Nat.le_of_ble_eq_true rfl) (s_looksAt (by omega) ⟨_, _, rfl, rfl, ?_⟩)
  refine ab_if_ne (pc := 16) (tgt := 21) dX12_readStore_16 rfl (fun h16 => ?_) (fun h16 => ?_)
  · -- 21
    have hlt := looks_lt h16
    refine aw_aload_n (pc := 21) (i := 0) dX12_readStore_21 rfl rfl ?_
    refine mg_got (pc := 22) dX12_readStore_22 rfl ?_
    refine aw_top (y := (nI (((findW (nx σ) 13 (σ.2.1 7 0)).getD 0)))) (looks_got h16) ?_
    refine aw_istore_n (pc := 25) (i := 1) dX12_readStore_25 rfl (Nat.le_of_ble_eq_true rfl) rfl ?_
    refine aw_aload_n (pc := 26) (i := 0) dX12_readStore_26 rfl rfl ?_
    refine mg_stored (pc := 27) dX12_readStore_27 rfl ?_
    refine aw_top (y := (nI (storedN σ))) (by rw [(looks_t h16).2.2]; exact (nx_sc σ 20 (by decide)).trans hsd) ?_
    refine aw_iload_n (pc := 30) (i := 1) dX12_readStore_30 rfl rfl ?_
    refine mt_I (pc := 31) (As := [.int (nI (storedN σ)), .int (nI (((findW (nx σ) 13 (σ.2.1 7 0)).getD 0)))]) (rest := []) dX12_readStore_31 rfl ok_X12_257 rfl rfl rfl (Nat.le_of_ble_eq_true rfl) (s_bitOf (by omega) (by omega) ⟨_, _, rfl, rfl, ?_⟩)
    refine ab_if_eq (pc := 34) (tgt := 43) dX12_readStore_34 rfl (fun h34 => ?_) (fun h34 => ?_)
    · -- 43
      refine aw_aload_n (pc := 43) (i := 0) dX12_readStore_43 rfl rfl ?_
      refine aw_dup (pc := 44) dX12_readStore_44 rfl ?_
      refine mg_stored (pc := 45) dX12_readStore_45 rfl ?_
      refine aw_top (y := (nI (storedN σ))) (by rw [(looks_t h16).2.2]; exact (nx_sc σ 20 (by decide)).trans hsd) ?_
      refine aw_iconst (pc := 48) dX12_readStore_48 iconst_1 ?_
      refine aw_iload_n (pc := 49) (i := 1) dX12_readStore_49 rfl rfl ?_
      refine aw_ishl (pc := 50) dX12_readStore_50 ?_
      refine aw_ior (pc := 51) dX12_readStore_51 ?_
      refine aw_top (y := (nI (storedN σ ||| 2 ^ ((findW (nx σ) 13 (σ.2.1 7 0)).getD 0)))) (by have := looks_lt h16; rw [nI_1shl (by omega), nI_or _ _ (by omega) (Nat.lt_trans (Nat.pow_lt_pow_right (a := 2) (by omega) (show ((findW (nx σ) 13 (σ.2.1 7 0)).getD 0) < 12 by omega)) (by decide))]) ?_
      refine mp_stored (pc := 52) dX12_readStore_52 rfl ?_
      refine aw_aload_n (pc := 55) (i := 0) dX12_readStore_55 rfl rfl ?_
      refine mc_V (pc := 56) (As := []) (rest := []) dX12_readStore_56 rfl ok_X12_204 rfl rfl rfl (Nat.le_of_ble_eq_true rfl) (s_nx (PV_mI (PV_looks (PV_nx h)) (by decide)) ⟨_, rfl, rfl, ?_⟩)
      refine aw_aload_n (pc := 59) (i := 0) dX12_readStore_59 rfl rfl ?_
      refine aw_bipush (pc := 60) dX12_readStore_60 bipush_17 ?_
      refine aw_iload_n (pc := 62) (i := 1) dX12_readStore_62 rfl rfl ?_
      refine an_add (pc := 63) dX12_readStore_63 ?_
      refine aw_iconst (pc := 64) dX12_readStore_64 iconst_0 ?_
      refine aw_bipush (pc := 65) dX12_readStore_65 bipush_99 ?_
      refine mc_I (pc := 67) (As := [.int (nI (17 + (((findW (nx σ) 13 (σ.2.1 7 0)).getD 0)))), .int (nI 0), .int (nI 99)]) (rest := []) dX12_readStore_67 rfl ok_X12_251 rfl rfl rfl (Nat.le_of_ble_eq_true rfl) (s_puts (PV_nx (PV_mI (PV_looks (PV_nx h)) (by decide))) (by omega) ⟨_, _, rfl, rfl, ?_⟩)
      exact ab_ret (pc := 70) dX12_readStore_70 rfl (Nat.le_refl _) (Nat.le_refl _) (by simp only [readStoreF, h16, h34, Bool.true_and, Bool.and_true, Bool.false_and, Bool.and_false, Bool.not_true, Bool.not_false, Bool.or_true, Bool.or_false, Bool.true_or, Bool.false_or, Bool.false_eq_true, Bool.true_eq_false, if_true, if_false, ite_true, ite_false, reduceIte, reduceCtorEq] at kk; exact kk)
    · -- 37
      refine aw_aload_n (pc := 37) (i := 0) dX12_readStore_37 rfl rfl ?_
      refine aw_iconst (pc := 38) dX12_readStore_38 iconst_3 ?_
      refine mc_I (pc := 39) (As := [.int (nI 3)]) (rest := []) dX12_readStore_39 rfl ok_X12_201 rfl rfl rfl (Nat.le_of_ble_eq_true rfl) (s_bad ⟨_, _, rfl, rfl, ?_⟩)
      exact ab_ret (pc := 42) dX12_readStore_42 rfl (Nat.le_refl _) (Nat.le_refl _) (by simp only [readStoreF, h16, h34, Bool.true_and, Bool.and_true, Bool.false_and, Bool.and_false, Bool.not_true, Bool.not_false, Bool.or_true, Bool.or_false, Bool.true_or, Bool.false_or, Bool.false_eq_true, Bool.true_eq_false, if_true, if_false, ite_true, ite_false, reduceIte, reduceCtorEq] at kk; exact kk)
  · -- 19
    refine aw_iconst (pc := 19) dX12_readStore_19 iconst_0 ?_
    exact ab_ret0 (pc := 20) dX12_readStore_20 rfl (Nat.le_refl _) (Nat.le_refl _) (by simp only [readStoreF, h16, Bool.true_and, Bool.and_true, Bool.false_and, Bool.and_false, Bool.not_true, Bool.not_false, Bool.or_true, Bool.or_false, Bool.true_or, Bool.false_or, Bool.false_eq_true, Bool.true_eq_false, if_true, if_false, ite_true, ite_false, reduceIte, reduceCtorEq] at kk; exact kk)
def readTreatyF (σ : mS) : Bool × mS := if (takesNameF (nx σ) 13 (σ.2.1 7 0)).1 = true then (if (looksF (takesNameF (nx σ) 13 (σ.2.1 7 0)).2 13 (σ.2.1 7 0)).1 = true then (if ((findW (takesNameF (nx σ) 13 (σ.2.1 7 0)).2 13 (σ.2.1 7 0)).getD 0) = ((findW (nx σ) 13 (σ.2.1 7 0)).getD 0) then (false, badF (looksF (takesNameF (nx σ) 13 (σ.2.1 7 0)).2 13 (σ.2.1 7 0)).2 3) else if (σ.2.1 7 (72 + ((findW (nx σ) 13 (σ.2.1 7 0)).getD 0))).testBit ((findW (takesNameF (nx σ) 13 (σ.2.1 7 0)).2 13 (σ.2.1 7 0)).getD 0) = true then (false, badF (looksF (takesNameF (nx σ) 13 (σ.2.1 7 0)).2 13 (σ.2.1 7 0)).2 3) else (true, nx (mN (looksF (takesNameF (nx σ) 13 (σ.2.1 7 0)).2 13 (σ.2.1 7 0)).2 7 (72 + ((findW (nx σ) 13 (σ.2.1 7 0)).getD 0)) (σ.2.1 7 (72 + ((findW (nx σ) 13 (σ.2.1 7 0)).getD 0)) ||| 2 ^ ((findW (takesNameF (nx σ) 13 (σ.2.1 7 0)).2 13 (σ.2.1 7 0)).getD 0))))) else (false, (looksF (takesNameF (nx σ) 13 (σ.2.1 7 0)).2 13 (σ.2.1 7 0)).2)) else (false, (takesNameF (nx σ) 13 (σ.2.1 7 0)).2)
set_option maxHeartbeats 1000000 in
set_option maxRecDepth 20000 in
theorem s_readTreaty {G : xG} {d : Nat} {Q : xQ} {a : Nat → Nat} {σ : mS} (h : PV σ) (h7 : σ.2.1 7 0 ≤ 7) (h12 : σ.2.1 7 1 ≤ 12) (h6 : σ.2.1 7 2 ≤ 6) (h28 : ∀ l, l < σ.2.1 7 0 → σ.2.1 7 (72 + l) < 128) (kk : Q (some (.int (bI (readTreatyF σ).1))) (mW G.2.2.1 a (readTreatyF σ).2)) : MT G MX12_readTreaty (d + 4) 0 0 [.ref (a 60)] (mW G.2.2.1 a σ) Q := by
  refine mt_start (L := [some (.ref (a 60)), none]) rfl (Nat.le_of_ble_eq_true rfl) rfl ?_
  refine aw_aload_n (pc := 0) (i := 0) dX12_readTreaty_0 rfl rfl ?_
  refine mc_V (pc := 1) (As := []) (rest := []) dX12_readTreaty_1 rfl ok_X12_204 rfl rfl rfl (Nat.le_of_ble_eq_true rfl) (s_nx h ⟨_, rfl, rfl, ?_⟩)
  refine aw_aload_n (pc := 4) (i := 0) dX12_readTreaty_4 rfl rfl ?_
  refine aw_bipush (pc := 5) dX12_readTreaty_5 bipush_13 ?_
  refine aw_aload_n (pc := 7) (i := 0) dX12_readTreaty_7 rfl rfl ?_
  refine mg_h (pc := 8) dX12_readTreaty_8 rfl ?_
  refine aw_iconst (pc := 11) dX12_readTreaty_11 iconst_0 ?_
  refine ml_h (pc := 12) dX12_readTreaty_12 (by decide) ?_
  refine aw_top (y := (nI (σ.2.1 7 0))) rfl ?_
  refine mc_I (pc := 13) (As := [.int (nI 13), .int (nI (σ.2.1 7 0))]) (rest := []) dX12_readTreaty_13 rfl ok_X12_260 rfl rfl rfl (Nat.le_of_ble_eq_true rfl) (s_takesName (PV_nx h) (by omega) ⟨_, _, rfl, rfl, ?_⟩)
  refine ab_if_ne (pc := 16) (tgt := 21) dX12_readTreaty_16 rfl (fun h16 => ?_) (fun h16 => ?_)
  · -- 21
    have hlt := takesName_lt h16
    refine aw_aload_n (pc := 21) (i := 0) dX12_readTreaty_21 rfl rfl ?_
    refine mg_got (pc := 22) dX12_readTreaty_22 rfl ?_
    refine aw_top (y := (nI (((findW (nx σ) 13 (σ.2.1 7 0)).getD 0)))) (takesName_got h16) ?_
    refine aw_istore_n (pc := 25) (i := 1) dX12_readTreaty_25 rfl (Nat.le_of_ble_eq_true rfl) rfl ?_
    refine aw_aload_n (pc := 26) (i := 0) dX12_readTreaty_26 rfl rfl ?_
    refine aw_bipush (pc := 27) dX12_readTreaty_27 bipush_13 ?_
    refine aw_aload_n (pc := 29) (i := 0) dX12_readTreaty_29 rfl rfl ?_
    refine mg_h (pc := 30) dX12_readTreaty_30 rfl ?_
    refine aw_iconst (pc := 33) dX12_readTreaty_33 iconst_0 ?_
    refine ml_h (pc := 34) dX12_readTreaty_34 (by decide) ?_
    refine aw_top (y := (nI (σ.2.1 7 0))) (congrArg nI (by rw [takesName_n]; rfl)) ?_
    refine mc_I (pc := 35) (As := [.int (nI 13), .int (nI (σ.2.1 7 0))]) (rest := []) dX12_readTreaty_35 rfl ok_X12_226 rfl rfl rfl (Nat.le_of_ble_eq_true rfl) (s_looksAt (by omega) ⟨_, _, rfl, rfl, ?_⟩)
    refine ab_if_ne (pc := 38) (tgt := 43) dX12_readTreaty_38 rfl (fun h38 => ?_) (fun h38 => ?_)
    · -- 43
      have hlt2 := looks_lt h38
      refine aw_aload_n (pc := 43) (i := 0) dX12_readTreaty_43 rfl rfl ?_
      refine mg_got (pc := 44) dX12_readTreaty_44 rfl ?_
      refine aw_top (y := (nI (((findW (takesNameF (nx σ) 13 (σ.2.1 7 0)).2 13 (σ.2.1 7 0)).getD 0)))) (looks_got h38) ?_
      refine aw_iload_n (pc := 47) (i := 1) dX12_readTreaty_47 rfl rfl ?_
      refine an_icmp_eq (pc := 48) (tgt := 70) dX12_readTreaty_48 rfl (by omega) (by omega) (fun h48 => ?_) (fun h48 => ?_)
      · -- 70
        refine aw_aload_n (pc := 70) (i := 0) dX12_readTreaty_70 rfl rfl ?_
        refine aw_iconst (pc := 71) dX12_readTreaty_71 iconst_3 ?_
        refine mc_I (pc := 72) (As := [.int (nI 3)]) (rest := []) dX12_readTreaty_72 rfl ok_X12_201 rfl rfl rfl (Nat.le_of_ble_eq_true rfl) (s_bad ⟨_, _, rfl, rfl, ?_⟩)
        exact ab_ret (pc := 75) dX12_readTreaty_75 rfl (Nat.le_refl _) (Nat.le_refl _) (by simp only [readTreatyF, h16, h38, h48, Bool.true_and, Bool.and_true, Bool.false_and, Bool.and_false, Bool.not_true, Bool.not_false, Bool.or_true, Bool.or_false, Bool.true_or, Bool.false_or, Bool.false_eq_true, Bool.true_eq_false, if_true, if_false, ite_true, ite_false, reduceIte, reduceCtorEq] at kk; exact kk)
      · -- 51
        refine aw_aload_n (pc := 51) (i := 0) dX12_readTreaty_51 rfl rfl ?_
        refine mg_h (pc := 52) dX12_readTreaty_52 rfl ?_
        refine aw_bipush (pc := 55) dX12_readTreaty_55 bipush_72 ?_
        refine aw_iload_n (pc := 57) (i := 1) dX12_readTreaty_57 rfl rfl ?_
        refine an_add (pc := 58) dX12_readTreaty_58 ?_
        refine ml_h (pc := 59) dX12_readTreaty_59 (by omega) ?_
        refine aw_top (y := (nI (σ.2.1 7 (72 + ((findW (nx σ) 13 (σ.2.1 7 0)).getD 0))))) (congrArg nI (by rw [looks_n, takesName_n]; rfl)) ?_
        refine aw_aload_n (pc := 60) (i := 0) dX12_readTreaty_60 rfl rfl ?_
        refine mg_got (pc := 61) dX12_readTreaty_61 rfl ?_
        refine aw_top (y := (nI (((findW (takesNameF (nx σ) 13 (σ.2.1 7 0)).2 13 (σ.2.1 7 0)).getD 0)))) (looks_got h38) ?_
        refine mt_I (pc := 64) (As := [.int (nI (σ.2.1 7 (72 + ((findW (nx σ) 13 (σ.2.1 7 0)).getD 0)))), .int (nI (((findW (takesNameF (nx σ) 13 (σ.2.1 7 0)).2 13 (σ.2.1 7 0)).getD 0)))]) (rest := []) dX12_readTreaty_64 rfl ok_X12_257 rfl rfl rfl (Nat.le_of_ble_eq_true rfl) (s_bitOf (by have := h28 _ (takesName_lt h16); omega) (by omega) ⟨_, _, rfl, rfl, ?_⟩)
        refine ab_if_eq (pc := 67) (tgt := 76) dX12_readTreaty_67 rfl (fun h67 => ?_) (fun h67 => ?_)
        · -- 76
          refine aw_aload_n (pc := 76) (i := 0) dX12_readTreaty_76 rfl rfl ?_
          refine mg_h (pc := 77) dX12_readTreaty_77 rfl ?_
          refine aw_bipush (pc := 80) dX12_readTreaty_80 bipush_72 ?_
          refine aw_iload_n (pc := 82) (i := 1) dX12_readTreaty_82 rfl rfl ?_
          refine an_add (pc := 83) dX12_readTreaty_83 ?_
          refine aw_dup2 (pc := 84) dX12_readTreaty_84 rfl rfl ?_
          refine ml_h (pc := 85) dX12_readTreaty_85 (by omega) ?_
          refine aw_top (y := (nI (σ.2.1 7 (72 + ((findW (nx σ) 13 (σ.2.1 7 0)).getD 0))))) (congrArg nI (by rw [looks_n, takesName_n]; rfl)) ?_
          refine aw_iconst (pc := 86) dX12_readTreaty_86 iconst_1 ?_
          refine aw_aload_n (pc := 87) (i := 0) dX12_readTreaty_87 rfl rfl ?_
          refine mg_got (pc := 88) dX12_readTreaty_88 rfl ?_
          refine aw_top (y := (nI (((findW (takesNameF (nx σ) 13 (σ.2.1 7 0)).2 13 (σ.2.1 7 0)).getD 0)))) (looks_got h38) ?_
          refine aw_ishl (pc := 91) dX12_readTreaty_91 ?_
          refine aw_ior (pc := 92) dX12_readTreaty_92 ?_
          refine aw_top (y := (nI (σ.2.1 7 (72 + ((findW (nx σ) 13 (σ.2.1 7 0)).getD 0)) ||| 2 ^ ((findW (takesNameF (nx σ) 13 (σ.2.1 7 0)).2 13 (σ.2.1 7 0)).getD 0)))) (by rw [nI_1shl (by omega), nI_or _ _ (by have := h28 _ (takesName_lt h16); omega) (Nat.lt_trans (Nat.pow_lt_pow_right (a := 2) (by omega) (show ((findW (takesNameF (nx σ) 13 (σ.2.1 7 0)).2 13 (σ.2.1 7 0)).getD 0) < 12 by omega)) (by decide))]) ?_
          refine ms_h (pc := 93) dX12_readTreaty_93 (by omega) ?_
          refine aw_aload_n (pc := 94) (i := 0) dX12_readTreaty_94 rfl rfl ?_
          refine mc_V (pc := 95) (As := []) (rest := []) dX12_readTreaty_95 rfl ok_X12_204 rfl rfl rfl (Nat.le_of_ble_eq_true rfl) (s_nx (PV_mN (PV_looks (PV_takesName (PV_nx h)))) ⟨_, rfl, rfl, ?_⟩)
          refine aw_iconst (pc := 98) dX12_readTreaty_98 iconst_1 ?_
          exact ab_ret1 (pc := 99) dX12_readTreaty_99 rfl (Nat.le_refl _) (Nat.le_refl _) (by simp only [readTreatyF, h16, h38, h48, h67, Bool.true_and, Bool.and_true, Bool.false_and, Bool.and_false, Bool.not_true, Bool.not_false, Bool.or_true, Bool.or_false, Bool.true_or, Bool.false_or, Bool.false_eq_true, Bool.true_eq_false, if_true, if_false, ite_true, ite_false, reduceIte, reduceCtorEq] at kk; exact kk)
        · -- 70
          refine aw_aload_n (pc := 70) (i := 0) dX12_readTreaty_70 rfl rfl ?_
          refine aw_iconst (pc := 71) dX12_readTreaty_71 iconst_3 ?_
          refine mc_I (pc := 72) (As := [.int (nI 3)]) (rest := []) dX12_readTreaty_72 rfl ok_X12_201 rfl rfl rfl (Nat.le_of_ble_eq_true rfl) (s_bad ⟨_, _, rfl, rfl, ?_⟩)
          exact ab_ret (pc := 75) dX12_readTreaty_75 rfl (Nat.le_refl _) (Nat.le_refl _) (by simp only [readTreatyF, h16, h38, h48, h67, Bool.true_and, Bool.and_true, Bool.false_and, Bool.and_false, Bool.not_true, Bool.not_false, Bool.or_true, Bool.or_false, Bool.true_or, Bool.false_or, Bool.false_eq_true, Bool.true_eq_false, if_true, if_false, ite_true, ite_false, reduceIte, reduceCtorEq] at kk; exact kk)
    · -- 41
      refine aw_iconst (pc := 41) dX12_readTreaty_41 iconst_0 ?_
      exact ab_ret0 (pc := 42) dX12_readTreaty_42 rfl (Nat.le_refl _) (Nat.le_refl _) (by simp only [readTreatyF, h16, h38, Bool.true_and, Bool.and_true, Bool.false_and, Bool.and_false, Bool.not_true, Bool.not_false, Bool.or_true, Bool.or_false, Bool.true_or, Bool.false_or, Bool.false_eq_true, Bool.true_eq_false, if_true, if_false, ite_true, ite_false, reduceIte, reduceCtorEq] at kk; exact kk)
  · -- 19
    refine aw_iconst (pc := 19) dX12_readTreaty_19 iconst_0 ?_
    exact ab_ret0 (pc := 20) dX12_readTreaty_20 rfl (Nat.le_refl _) (Nat.le_refl _) (by simp only [readTreatyF, h16, Bool.true_and, Bool.and_true, Bool.false_and, Bool.and_false, Bool.not_true, Bool.not_false, Bool.or_true, Bool.or_false, Bool.true_or, Bool.false_or, Bool.false_eq_true, Bool.true_eq_false, if_true, if_false, ite_true, ite_false, reduceIte, reduceCtorEq] at kk; exact kk)
def readPersonF (σ : mS) : Bool × mS := if σ.2.1 7 2 = 6 then (false, badF σ 4) else if (freshF (nx σ) (20 + σ.2.1 7 2)).1 = true then (if (takesNameF (freshF (nx σ) (20 + σ.2.1 7 2)).2 13 (σ.2.1 7 0)).1 = true then (if (putsF (mN (takesNameF (freshF (nx σ) (20 + σ.2.1 7 2)).2 13 (σ.2.1 7 0)).2 7 (79 + σ.2.1 7 2) ((findW (freshF (nx σ) (20 + σ.2.1 7 2)).2 13 (σ.2.1 7 0)).getD 0)) (85 + σ.2.1 7 2) 1 240).1 = true then (true, mN (putsF (mN (takesNameF (freshF (nx σ) (20 + σ.2.1 7 2)).2 13 (σ.2.1 7 0)).2 7 (79 + σ.2.1 7 2) ((findW (freshF (nx σ) (20 + σ.2.1 7 2)).2 13 (σ.2.1 7 0)).getD 0)) (85 + σ.2.1 7 2) 1 240).2 7 2 (σ.2.1 7 2 + 1)) else (false, (putsF (mN (takesNameF (freshF (nx σ) (20 + σ.2.1 7 2)).2 13 (σ.2.1 7 0)).2 7 (79 + σ.2.1 7 2) ((findW (freshF (nx σ) (20 + σ.2.1 7 2)).2 13 (σ.2.1 7 0)).getD 0)) (85 + σ.2.1 7 2) 1 240).2)) else (false, (takesNameF (freshF (nx σ) (20 + σ.2.1 7 2)).2 13 (σ.2.1 7 0)).2)) else (false, (freshF (nx σ) (20 + σ.2.1 7 2)).2)
set_option maxHeartbeats 1000000 in
set_option maxRecDepth 20000 in
theorem s_readPerson {G : xG} {d : Nat} {Q : xQ} {a : Nat → Nat} {σ : mS} (h : PV σ) (h7 : σ.2.1 7 0 ≤ 7) (h12 : σ.2.1 7 1 ≤ 12) (h6 : σ.2.1 7 2 ≤ 6) (kk : Q (some (.int (bI (readPersonF σ).1))) (mW G.2.2.1 a (readPersonF σ).2)) : MT G MX12_readPerson (d + 4) 0 0 [.ref (a 60)] (mW G.2.2.1 a σ) Q := by
  refine mt_start (L := [some (.ref (a 60)), none]) rfl (Nat.le_of_ble_eq_true rfl) rfl ?_
  refine aw_aload_n (pc := 0) (i := 0) dX12_readPerson_0 rfl rfl ?_
  refine mg_h (pc := 1) dX12_readPerson_1 rfl ?_
  refine aw_iconst (pc := 4) dX12_readPerson_4 iconst_2 ?_
  refine ml_h (pc := 5) dX12_readPerson_5 (by decide) ?_
  refine aw_istore_n (pc := 6) (i := 1) dX12_readPerson_6 rfl (Nat.le_of_ble_eq_true rfl) rfl ?_
  refine aw_iload_n (pc := 7) (i := 1) dX12_readPerson_7 rfl rfl ?_
  refine aw_bipush (pc := 8) dX12_readPerson_8 bipush_6 ?_
  refine an_icmp_ne (pc := 10) (tgt := 19) dX12_readPerson_10 rfl (by omega) (by decide) (fun h10 => ?_) (fun h10 => ?_)
  · -- 19
    refine aw_aload_n (pc := 19) (i := 0) dX12_readPerson_19 rfl rfl ?_
    refine mc_V (pc := 20) (As := []) (rest := []) dX12_readPerson_20 rfl ok_X12_204 rfl rfl rfl (Nat.le_of_ble_eq_true rfl) (s_nx h ⟨_, rfl, rfl, ?_⟩)
    refine aw_aload_n (pc := 23) (i := 0) dX12_readPerson_23 rfl rfl ?_
    refine aw_bipush (pc := 24) dX12_readPerson_24 bipush_20 ?_
    refine aw_iload_n (pc := 26) (i := 1) dX12_readPerson_26 rfl rfl ?_
    refine an_add (pc := 27) dX12_readPerson_27 ?_
    refine mc_I (pc := 28) (As := [.int (nI (20 + (σ.2.1 7 2)))]) (rest := []) dX12_readPerson_28 rfl ok_X12_248 rfl rfl rfl (Nat.le_of_ble_eq_true rfl) (s_fresh (PV_nx h) (by omega) h7 h6 ⟨_, _, rfl, rfl, ?_⟩)
    refine ab_if_eq (pc := 31) (tgt := 49) dX12_readPerson_31 rfl (fun h31 => ?_) (fun h31 => ?_)
    · -- 49
      refine aw_iconst (pc := 49) dX12_readPerson_49 iconst_0 ?_
      exact ab_ret0 (pc := 50) dX12_readPerson_50 rfl (Nat.le_refl _) (Nat.le_refl _) (by simp only [readPersonF, h10, h31, Bool.true_and, Bool.and_true, Bool.false_and, Bool.and_false, Bool.not_true, Bool.not_false, Bool.or_true, Bool.or_false, Bool.true_or, Bool.false_or, Bool.false_eq_true, Bool.true_eq_false, if_true, if_false, ite_true, ite_false, reduceIte, reduceCtorEq] at kk; exact kk)
    · -- 34
      refine aw_aload_n (pc := 34) (i := 0) dX12_readPerson_34 rfl rfl ?_
      refine aw_bipush (pc := 35) dX12_readPerson_35 bipush_13 ?_
      refine aw_aload_n (pc := 37) (i := 0) dX12_readPerson_37 rfl rfl ?_
      refine mg_h (pc := 38) dX12_readPerson_38 rfl ?_
      refine aw_iconst (pc := 41) dX12_readPerson_41 iconst_0 ?_
      refine ml_h (pc := 42) dX12_readPerson_42 (by decide) ?_
      refine aw_top (y := (nI (σ.2.1 7 0))) (congrArg nI (by rw [fresh_n]; rfl)) ?_
      refine mc_I (pc := 43) (As := [.int (nI 13), .int (nI (σ.2.1 7 0))]) (rest := []) dX12_readPerson_43 rfl ok_X12_260 rfl rfl rfl (Nat.le_of_ble_eq_true rfl) (s_takesName (PV_fresh (PV_nx h)) (by omega) ⟨_, _, rfl, rfl, ?_⟩)
      refine ab_if_ne (pc := 46) (tgt := 51) dX12_readPerson_46 rfl (fun h46 => ?_) (fun h46 => ?_)
      · -- 51
        refine aw_aload_n (pc := 51) (i := 0) dX12_readPerson_51 rfl rfl ?_
        refine mg_h (pc := 52) dX12_readPerson_52 rfl ?_
        refine aw_bipush (pc := 55) dX12_readPerson_55 bipush_79 ?_
        refine aw_iload_n (pc := 57) (i := 1) dX12_readPerson_57 rfl rfl ?_
        refine an_add (pc := 58) dX12_readPerson_58 ?_
        refine aw_aload_n (pc := 59) (i := 0) dX12_readPerson_59 rfl rfl ?_
        refine mg_got (pc := 60) dX12_readPerson_60 rfl ?_
        refine aw_top (y := (nI (((findW (freshF (nx σ) (20 + σ.2.1 7 2)).2 13 (σ.2.1 7 0)).getD 0)))) (takesName_got h46) ?_
        refine ms_h (pc := 63) dX12_readPerson_63 (by omega) ?_
        refine aw_aload_n (pc := 64) (i := 0) dX12_readPerson_64 rfl rfl ?_
        refine aw_bipush (pc := 65) dX12_readPerson_65 bipush_85 ?_
        refine aw_iload_n (pc := 67) (i := 1) dX12_readPerson_67 rfl rfl ?_
        refine an_add (pc := 68) dX12_readPerson_68 ?_
        refine aw_iconst (pc := 69) dX12_readPerson_69 iconst_1 ?_
        refine aw_sipush (pc := 70) dX12_readPerson_70 sipush_240 ?_
        refine mc_I (pc := 73) (As := [.int (nI (85 + (σ.2.1 7 2))), .int (nI 1), .int (nI 240)]) (rest := []) dX12_readPerson_73 rfl ok_X12_251 rfl rfl rfl (Nat.le_of_ble_eq_true rfl) (s_puts (PV_mN (PV_takesName (PV_fresh (PV_nx h)))) (by omega) ⟨_, _, rfl, rfl, ?_⟩)
        refine ab_if_ne (pc := 76) (tgt := 81) dX12_readPerson_76 rfl (fun h76 => ?_) (fun h76 => ?_)
        · -- 81
          refine aw_aload_n (pc := 81) (i := 0) dX12_readPerson_81 rfl rfl ?_
          refine mg_h (pc := 82) dX12_readPerson_82 rfl ?_
          refine aw_iconst (pc := 85) dX12_readPerson_85 iconst_2 ?_
          refine aw_dup2 (pc := 86) dX12_readPerson_86 rfl rfl ?_
          refine ml_h (pc := 87) dX12_readPerson_87 (by decide) ?_
          refine aw_top (y := (nI (σ.2.1 7 2))) (congrArg nI (by rw [puts_n h76, upN_n _ _ _ _ (by omega)]; show upN ((takesNameF (freshF (nx σ) (20 + σ.2.1 7 2)).2 13 (σ.2.1 7 0)).2.2.1 7) _ _ 2 = _; rw [upN_n _ _ _ _ (by omega), takesName_n, fresh_n]; rfl)) ?_
          refine aw_iconst (pc := 88) dX12_readPerson_88 iconst_1 ?_
          refine an_add (pc := 89) dX12_readPerson_89 ?_
          refine ms_h (pc := 90) dX12_readPerson_90 (by decide) ?_
          refine aw_iconst (pc := 91) dX12_readPerson_91 iconst_1 ?_
          exact ab_ret1 (pc := 92) dX12_readPerson_92 rfl (Nat.le_refl _) (Nat.le_refl _) (by simp only [readPersonF, h10, h31, h46, h76, Bool.true_and, Bool.and_true, Bool.false_and, Bool.and_false, Bool.not_true, Bool.not_false, Bool.or_true, Bool.or_false, Bool.true_or, Bool.false_or, Bool.false_eq_true, Bool.true_eq_false, if_true, if_false, ite_true, ite_false, reduceIte, reduceCtorEq] at kk; exact kk)
        · -- 79
          refine aw_iconst (pc := 79) dX12_readPerson_79 iconst_0 ?_
          exact ab_ret0 (pc := 80) dX12_readPerson_80 rfl (Nat.le_refl _) (Nat.le_refl _) (by simp only [readPersonF, h10, h31, h46, h76, Bool.true_and, Bool.and_true, Bool.false_and, Bool.and_false, Bool.not_true, Bool.not_false, Bool.or_true, Bool.or_false, Bool.true_or, Bool.false_or, Bool.false_eq_true, Bool.true_eq_false, if_true, if_false, ite_true, ite_false, reduceIte, reduceCtorEq] at kk; exact kk)
      · -- 49
        refine aw_iconst (pc := 49) dX12_readPerson_49 iconst_0 ?_
        exact ab_ret0 (pc := 50) dX12_readPerson_50 rfl (Nat.le_refl _) (Nat.le_refl _) (by simp only [readPersonF, h10, h31, h46, Bool.true_and, Bool.and_true, Bool.false_and, Bool.and_false, Bool.not_true, Bool.not_false, Bool.or_true, Bool.or_false, Bool.true_or, Bool.false_or, Bool.false_eq_true, Bool.true_eq_false, if_true, if_false, ite_true, ite_false, reduceIte, reduceCtorEq] at kk; exact kk)
  · -- 13
    refine aw_aload_n (pc := 13) (i := 0) dX12_readPerson_13 rfl rfl ?_
    refine aw_iconst (pc := 14) dX12_readPerson_14 iconst_4 ?_
    refine mc_I (pc := 15) (As := [.int (nI 4)]) (rest := []) dX12_readPerson_15 rfl ok_X12_201 rfl rfl rfl (Nat.le_of_ble_eq_true rfl) (s_bad ⟨_, _, rfl, rfl, ?_⟩)
    exact ab_ret (pc := 18) dX12_readPerson_18 rfl (Nat.le_refl _) (Nat.le_refl _) (by simp only [readPersonF, h10, Bool.true_and, Bool.and_true, Bool.false_and, Bool.and_false, Bool.not_true, Bool.not_false, Bool.or_true, Bool.or_false, Bool.true_or, Bool.false_or, Bool.false_eq_true, Bool.true_eq_false, if_true, if_false, ite_true, ite_false, reduceIte, reduceCtorEq] at kk; exact kk)
def readRoadF (σ : mS) : Bool × mS := if σ.2.1 7 1 = 12 then (false, badF σ 4) else if (takesNameF (nx σ) 13 (σ.2.1 7 0)).1 = true then (if (looksF (takesNameF (nx σ) 13 (σ.2.1 7 0)).2 13 (σ.2.1 7 0)).1 = true then (if ((findW (takesNameF (nx σ) 13 (σ.2.1 7 0)).2 13 (σ.2.1 7 0)).getD 0) = ((findW (nx σ) 13 (σ.2.1 7 0)).getD 0) then (false, badF (looksF (takesNameF (nx σ) 13 (σ.2.1 7 0)).2 13 (σ.2.1 7 0)).2 3) else if (findF (roadP (σ.2.1 7) ((findW (nx σ) 13 (σ.2.1 7 0)).getD 0) ((findW (takesNameF (nx σ) 13 (σ.2.1 7 0)).2 13 (σ.2.1 7 0)).getD 0)) (σ.2.1 7 1) 0).isSome = true then (false, badF (looksF (takesNameF (nx σ) 13 (σ.2.1 7 0)).2 13 (σ.2.1 7 0)).2 3) else if (putsF (nx (mN (mN (looksF (takesNameF (nx σ) 13 (σ.2.1 7 0)).2 13 (σ.2.1 7 0)).2 7 (24 + σ.2.1 7 1) ((findW (nx σ) 13 (σ.2.1 7 0)).getD 0)) 7 (36 + σ.2.1 7 1) ((findW (takesNameF (nx σ) 13 (σ.2.1 7 0)).2 13 (σ.2.1 7 0)).getD 0))) (48 + σ.2.1 7 1) 0 240).1 = true then (if (putsF (putsF (nx (mN (mN (looksF (takesNameF (nx σ) 13 (σ.2.1 7 0)).2 13 (σ.2.1 7 0)).2 7 (24 + σ.2.1 7 1) ((findW (nx σ) 13 (σ.2.1 7 0)).getD 0)) 7 (36 + σ.2.1 7 1) ((findW (takesNameF (nx σ) 13 (σ.2.1 7 0)).2 13 (σ.2.1 7 0)).getD 0))) (48 + σ.2.1 7 1) 0 240).2 (60 + σ.2.1 7 1) ((putsF (nx (mN (mN (looksF (takesNameF (nx σ) 13 (σ.2.1 7 0)).2 13 (σ.2.1 7 0)).2 7 (24 + σ.2.1 7 1) ((findW (nx σ) 13 (σ.2.1 7 0)).getD 0)) 7 (36 + σ.2.1 7 1) ((findW (takesNameF (nx σ) 13 (σ.2.1 7 0)).2 13 (σ.2.1 7 0)).getD 0))) (48 + σ.2.1 7 1) 0 240).2.2.1 7 (48 + σ.2.1 7 1)) 240).1 = true then (true, mN (putsF (putsF (nx (mN (mN (looksF (takesNameF (nx σ) 13 (σ.2.1 7 0)).2 13 (σ.2.1 7 0)).2 7 (24 + σ.2.1 7 1) ((findW (nx σ) 13 (σ.2.1 7 0)).getD 0)) 7 (36 + σ.2.1 7 1) ((findW (takesNameF (nx σ) 13 (σ.2.1 7 0)).2 13 (σ.2.1 7 0)).getD 0))) (48 + σ.2.1 7 1) 0 240).2 (60 + σ.2.1 7 1) ((putsF (nx (mN (mN (looksF (takesNameF (nx σ) 13 (σ.2.1 7 0)).2 13 (σ.2.1 7 0)).2 7 (24 + σ.2.1 7 1) ((findW (nx σ) 13 (σ.2.1 7 0)).getD 0)) 7 (36 + σ.2.1 7 1) ((findW (takesNameF (nx σ) 13 (σ.2.1 7 0)).2 13 (σ.2.1 7 0)).getD 0))) (48 + σ.2.1 7 1) 0 240).2.2.1 7 (48 + σ.2.1 7 1)) 240).2 7 1 (σ.2.1 7 1 + 1)) else (false, (putsF (putsF (nx (mN (mN (looksF (takesNameF (nx σ) 13 (σ.2.1 7 0)).2 13 (σ.2.1 7 0)).2 7 (24 + σ.2.1 7 1) ((findW (nx σ) 13 (σ.2.1 7 0)).getD 0)) 7 (36 + σ.2.1 7 1) ((findW (takesNameF (nx σ) 13 (σ.2.1 7 0)).2 13 (σ.2.1 7 0)).getD 0))) (48 + σ.2.1 7 1) 0 240).2 (60 + σ.2.1 7 1) ((putsF (nx (mN (mN (looksF (takesNameF (nx σ) 13 (σ.2.1 7 0)).2 13 (σ.2.1 7 0)).2 7 (24 + σ.2.1 7 1) ((findW (nx σ) 13 (σ.2.1 7 0)).getD 0)) 7 (36 + σ.2.1 7 1) ((findW (takesNameF (nx σ) 13 (σ.2.1 7 0)).2 13 (σ.2.1 7 0)).getD 0))) (48 + σ.2.1 7 1) 0 240).2.2.1 7 (48 + σ.2.1 7 1)) 240).2)) else (false, (putsF (nx (mN (mN (looksF (takesNameF (nx σ) 13 (σ.2.1 7 0)).2 13 (σ.2.1 7 0)).2 7 (24 + σ.2.1 7 1) ((findW (nx σ) 13 (σ.2.1 7 0)).getD 0)) 7 (36 + σ.2.1 7 1) ((findW (takesNameF (nx σ) 13 (σ.2.1 7 0)).2 13 (σ.2.1 7 0)).getD 0))) (48 + σ.2.1 7 1) 0 240).2)) else (false, (looksF (takesNameF (nx σ) 13 (σ.2.1 7 0)).2 13 (σ.2.1 7 0)).2)) else (false, (takesNameF (nx σ) 13 (σ.2.1 7 0)).2)
set_option maxHeartbeats 1000000 in
set_option maxRecDepth 20000 in
theorem road_loop {G : xG} {d : Nat} {Q : xQ} {a : Nat → Nat} {σ : mS} {k x y : Nat} (hk : k ≤ 12) (hx : x < 2 ^ 31) (hy : y < 2 ^ 31) (hb : ∀ j, σ.2.1 7 j < 2 ^ 30) (hg : σ.1 18 = nI y) (k1 : (findF (roadP (σ.2.1 7) x y) k 0).isSome = true → Q (some (.int (bI false))) (mW G.2.2.1 a (badF σ 3))) (k0 : (findF (roadP (σ.2.1 7) x y) k 0).isSome = false → AW G MX12_readRoad (d + 1) 0 0 Q 153 [some (.ref (a 60)), some (.int (nI k)), some (.int (nI x)), some (.int (nI k))] [] (mW G.2.2.1 a σ) 0 0) : ∀ (n i : Nat), i + n = k → findF (roadP (σ.2.1 7) x y) n i = findF (roadP (σ.2.1 7) x y) k 0 → AW G MX12_readRoad (d + 1) 0 0 Q 78 [some (.ref (a 60)), some (.int (nI k)), some (.int (nI x)), some (.int (nI i))] [] (mW G.2.2.1 a σ) 0 0 := by
  intro n
  induction n with
  | zero =>
    intro i hi he
    refine aw_iload_n (pc := 78) (i := 3) dX12_readRoad_78 rfl rfl ?_
    refine aw_iload_n (pc := 79) (i := 1) dX12_readRoad_79 rfl rfl ?_
    refine an_icmp_ge (pc := 80) (tgt := 153) dX12_readRoad_80 rfl (by omega) (by omega) (fun h80 => ?_) (fun h80 => ?_)
    · -- 153
      have e : i = k := by omega
      subst e
      exact k0 (by rw [← he]; rfl)
    · -- 83
      exfalso; omega
  | succ n ih =>
    intro i hi he
    refine aw_iload_n (pc := 78) (i := 3) dX12_readRoad_78 rfl rfl ?_
    refine aw_iload_n (pc := 79) (i := 1) dX12_readRoad_79 rfl rfl ?_
    refine an_icmp_ge (pc := 80) (tgt := 153) dX12_readRoad_80 rfl (by omega) (by omega) (fun h80 => ?_) (fun h80 => ?_)
    · -- 153
      exfalso; omega
    · -- 83
      refine aw_aload_n (pc := 83) (i := 0) dX12_readRoad_83 rfl rfl ?_
      refine mg_h (pc := 84) dX12_readRoad_84 rfl ?_
      refine aw_bipush (pc := 87) dX12_readRoad_87 bipush_24 ?_
      refine aw_iload_n (pc := 89) (i := 3) dX12_readRoad_89 rfl rfl ?_
      refine an_add (pc := 90) dX12_readRoad_90 ?_
      refine ml_h (pc := 91) dX12_readRoad_91 (by omega) ?_
      refine aw_iload_n (pc := 92) (i := 2) dX12_readRoad_92 rfl rfl ?_
      refine an_icmp_ne (pc := 93) (tgt := 112) dX12_readRoad_93 rfl (Nat.lt_trans (hb _) (by decide)) (by omega) (fun h93 => ?_) (fun h93 => ?_)
      · -- 112
        refine aw_aload_n (pc := 112) (i := 0) dX12_readRoad_112 rfl rfl ?_
        refine mg_h (pc := 113) dX12_readRoad_113 rfl ?_
        refine aw_bipush (pc := 116) dX12_readRoad_116 bipush_24 ?_
        refine aw_iload_n (pc := 118) (i := 3) dX12_readRoad_118 rfl rfl ?_
        refine an_add (pc := 119) dX12_readRoad_119 ?_
        refine ml_h (pc := 120) dX12_readRoad_120 (by omega) ?_
        refine aw_aload_n (pc := 121) (i := 0) dX12_readRoad_121 rfl rfl ?_
        refine mg_got (pc := 122) dX12_readRoad_122 rfl ?_
        refine aw_top (y := (nI y)) hg ?_
        refine an_icmp_ne (pc := 125) (tgt := 147) dX12_readRoad_125 rfl (Nat.lt_trans (hb _) (by decide)) (by omega) (fun h125 => ?_) (fun h125 => ?_)
        · -- 147
          refine an_inc (pc := 147) (z := 1) dX12_readRoad_147 rfl (Nat.le_of_ble_eq_true rfl) rfl ?_
          refine aw_goto (pc := 150) (tgt := 78) dX12_readRoad_150 rfl ?_
          exact ih (i + 1) (by omega) (by rw [← he, findF, if_neg (by simp [roadP]; omega)])
        · -- 128
          refine aw_aload_n (pc := 128) (i := 0) dX12_readRoad_128 rfl rfl ?_
          refine mg_h (pc := 129) dX12_readRoad_129 rfl ?_
          refine aw_bipush (pc := 132) dX12_readRoad_132 bipush_36 ?_
          refine aw_iload_n (pc := 134) (i := 3) dX12_readRoad_134 rfl rfl ?_
          refine an_add (pc := 135) dX12_readRoad_135 ?_
          refine ml_h (pc := 136) dX12_readRoad_136 (by omega) ?_
          refine aw_iload_n (pc := 137) (i := 2) dX12_readRoad_137 rfl rfl ?_
          refine an_icmp_ne (pc := 138) (tgt := 147) dX12_readRoad_138 rfl (Nat.lt_trans (hb _) (by decide)) (by omega) (fun h138 => ?_) (fun h138 => ?_)
          · -- 147
            refine an_inc (pc := 147) (z := 1) dX12_readRoad_147 rfl (Nat.le_of_ble_eq_true rfl) rfl ?_
            refine aw_goto (pc := 150) (tgt := 78) dX12_readRoad_150 rfl ?_
            exact ih (i + 1) (by omega) (by rw [← he, findF, if_neg (by simp [roadP]; omega)])
          · -- 141
            refine aw_aload_n (pc := 141) (i := 0) dX12_readRoad_141 rfl rfl ?_
            refine aw_iconst (pc := 142) dX12_readRoad_142 iconst_3 ?_
            refine mc_I (pc := 143) (As := [.int (nI 3)]) (rest := []) dX12_readRoad_143 rfl ok_X12_201 rfl rfl rfl (Nat.le_of_ble_eq_true rfl) (s_bad ⟨_, _, rfl, rfl, ?_⟩)
            exact ab_ret (pc := 146) dX12_readRoad_146 rfl (Nat.le_refl _) (Nat.le_refl _) (k1 (by rw [← he, findF, if_pos (by simp [roadP]; omega)]; rfl))
      · -- 96
        refine aw_aload_n (pc := 96) (i := 0) dX12_readRoad_96 rfl rfl ?_
        refine mg_h (pc := 97) dX12_readRoad_97 rfl ?_
        refine aw_bipush (pc := 100) dX12_readRoad_100 bipush_36 ?_
        refine aw_iload_n (pc := 102) (i := 3) dX12_readRoad_102 rfl rfl ?_
        refine an_add (pc := 103) dX12_readRoad_103 ?_
        refine ml_h (pc := 104) dX12_readRoad_104 (by omega) ?_
        refine aw_aload_n (pc := 105) (i := 0) dX12_readRoad_105 rfl rfl ?_
        refine mg_got (pc := 106) dX12_readRoad_106 rfl ?_
        refine aw_top (y := (nI y)) hg ?_
        refine an_icmp_eq (pc := 109) (tgt := 141) dX12_readRoad_109 rfl (Nat.lt_trans (hb _) (by decide)) (by omega) (fun h109 => ?_) (fun h109 => ?_)
        · -- 141
          refine aw_aload_n (pc := 141) (i := 0) dX12_readRoad_141 rfl rfl ?_
          refine aw_iconst (pc := 142) dX12_readRoad_142 iconst_3 ?_
          refine mc_I (pc := 143) (As := [.int (nI 3)]) (rest := []) dX12_readRoad_143 rfl ok_X12_201 rfl rfl rfl (Nat.le_of_ble_eq_true rfl) (s_bad ⟨_, _, rfl, rfl, ?_⟩)
          exact ab_ret (pc := 146) dX12_readRoad_146 rfl (Nat.le_refl _) (Nat.le_refl _) (k1 (by rw [← he, findF, if_pos (by simp [roadP]; omega)]; rfl))
        · -- 112
          refine aw_aload_n (pc := 112) (i := 0) dX12_readRoad_112 rfl rfl ?_
          refine mg_h (pc := 113) dX12_readRoad_113 rfl ?_
          refine aw_bipush (pc := 116) dX12_readRoad_116 bipush_24 ?_
          refine aw_iload_n (pc := 118) (i := 3) dX12_readRoad_118 rfl rfl ?_
          refine an_add (pc := 119) dX12_readRoad_119 ?_
          refine ml_h (pc := 120) dX12_readRoad_120 (by omega) ?_
          refine aw_aload_n (pc := 121) (i := 0) dX12_readRoad_121 rfl rfl ?_
          refine mg_got (pc := 122) dX12_readRoad_122 rfl ?_
          refine aw_top (y := (nI y)) hg ?_
          refine an_icmp_ne (pc := 125) (tgt := 147) dX12_readRoad_125 rfl (Nat.lt_trans (hb _) (by decide)) (by omega) (fun h125 => ?_) (fun h125 => ?_)
          · -- 147
            refine an_inc (pc := 147) (z := 1) dX12_readRoad_147 rfl (Nat.le_of_ble_eq_true rfl) rfl ?_
            refine aw_goto (pc := 150) (tgt := 78) dX12_readRoad_150 rfl ?_
            exact ih (i + 1) (by omega) (by rw [← he, findF, if_neg (by simp [roadP]; omega)])
          · -- 128
            refine aw_aload_n (pc := 128) (i := 0) dX12_readRoad_128 rfl rfl ?_
            refine mg_h (pc := 129) dX12_readRoad_129 rfl ?_
            refine aw_bipush (pc := 132) dX12_readRoad_132 bipush_36 ?_
            refine aw_iload_n (pc := 134) (i := 3) dX12_readRoad_134 rfl rfl ?_
            refine an_add (pc := 135) dX12_readRoad_135 ?_
            refine ml_h (pc := 136) dX12_readRoad_136 (by omega) ?_
            refine aw_iload_n (pc := 137) (i := 2) dX12_readRoad_137 rfl rfl ?_
            refine an_icmp_ne (pc := 138) (tgt := 147) dX12_readRoad_138 rfl (Nat.lt_trans (hb _) (by decide)) (by omega) (fun h138 => ?_) (fun h138 => ?_)
            · -- 147
              refine an_inc (pc := 147) (z := 1) dX12_readRoad_147 rfl (Nat.le_of_ble_eq_true rfl) rfl ?_
              refine aw_goto (pc := 150) (tgt := 78) dX12_readRoad_150 rfl ?_
              exact ih (i + 1) (by omega) (by rw [← he, findF, if_neg (by simp [roadP]; omega)])
            · -- 141
              refine aw_aload_n (pc := 141) (i := 0) dX12_readRoad_141 rfl rfl ?_
              refine aw_iconst (pc := 142) dX12_readRoad_142 iconst_3 ?_
              refine mc_I (pc := 143) (As := [.int (nI 3)]) (rest := []) dX12_readRoad_143 rfl ok_X12_201 rfl rfl rfl (Nat.le_of_ble_eq_true rfl) (s_bad ⟨_, _, rfl, rfl, ?_⟩)
              exact ab_ret (pc := 146) dX12_readRoad_146 rfl (Nat.le_refl _) (Nat.le_refl _) (k1 (by rw [← he, findF, if_pos (by simp [roadP]; omega)]; rfl))
set_option maxHeartbeats 1000000 in
set_option maxRecDepth 20000 in
theorem s_readRoad {G : xG} {d : Nat} {Q : xQ} {a : Nat → Nat} {σ : mS} (h : PV σ) (h7 : σ.2.1 7 0 ≤ 7) (h12 : σ.2.1 7 1 ≤ 12) (h6 : σ.2.1 7 2 ≤ 6) (hb : ∀ j, σ.2.1 7 j < 2 ^ 30) (kk : Q (some (.int (bI (readRoadF σ).1))) (mW G.2.2.1 a (readRoadF σ).2)) : MT G MX12_readRoad (d + 4) 0 0 [.ref (a 60)] (mW G.2.2.1 a σ) Q := by
  refine mt_start (L := [some (.ref (a 60)), none, none, none]) rfl (Nat.le_of_ble_eq_true rfl) rfl ?_
  refine aw_aload_n (pc := 0) (i := 0) dX12_readRoad_0 rfl rfl ?_
  refine mg_h (pc := 1) dX12_readRoad_1 rfl ?_
  refine aw_iconst (pc := 4) dX12_readRoad_4 iconst_1 ?_
  refine ml_h (pc := 5) dX12_readRoad_5 (by decide) ?_
  refine aw_istore_n (pc := 6) (i := 1) dX12_readRoad_6 rfl (Nat.le_of_ble_eq_true rfl) rfl ?_
  refine aw_iload_n (pc := 7) (i := 1) dX12_readRoad_7 rfl rfl ?_
  refine aw_bipush (pc := 8) dX12_readRoad_8 bipush_12 ?_
  refine an_icmp_ne (pc := 10) (tgt := 19) dX12_readRoad_10 rfl (by omega) (by decide) (fun h10 => ?_) (fun h10 => ?_)
  · -- 19
    refine aw_aload_n (pc := 19) (i := 0) dX12_readRoad_19 rfl rfl ?_
    refine mc_V (pc := 20) (As := []) (rest := []) dX12_readRoad_20 rfl ok_X12_204 rfl rfl rfl (Nat.le_of_ble_eq_true rfl) (s_nx h ⟨_, rfl, rfl, ?_⟩)
    refine aw_aload_n (pc := 23) (i := 0) dX12_readRoad_23 rfl rfl ?_
    refine aw_bipush (pc := 24) dX12_readRoad_24 bipush_13 ?_
    refine aw_aload_n (pc := 26) (i := 0) dX12_readRoad_26 rfl rfl ?_
    refine mg_h (pc := 27) dX12_readRoad_27 rfl ?_
    refine aw_iconst (pc := 30) dX12_readRoad_30 iconst_0 ?_
    refine ml_h (pc := 31) dX12_readRoad_31 (by decide) ?_
    refine aw_top (y := (nI (σ.2.1 7 0))) rfl ?_
    refine mc_I (pc := 32) (As := [.int (nI 13), .int (nI (σ.2.1 7 0))]) (rest := []) dX12_readRoad_32 rfl ok_X12_260 rfl rfl rfl (Nat.le_of_ble_eq_true rfl) (s_takesName (PV_nx h) (by omega) ⟨_, _, rfl, rfl, ?_⟩)
    refine ab_if_ne (pc := 35) (tgt := 40) dX12_readRoad_35 rfl (fun h35 => ?_) (fun h35 => ?_)
    · -- 40
      have hlt := takesName_lt h35
      refine aw_aload_n (pc := 40) (i := 0) dX12_readRoad_40 rfl rfl ?_
      refine mg_got (pc := 41) dX12_readRoad_41 rfl ?_
      refine aw_top (y := (nI (((findW (nx σ) 13 (σ.2.1 7 0)).getD 0)))) (takesName_got h35) ?_
      refine aw_istore_n (pc := 44) (i := 2) dX12_readRoad_44 rfl (Nat.le_of_ble_eq_true rfl) rfl ?_
      refine aw_aload_n (pc := 45) (i := 0) dX12_readRoad_45 rfl rfl ?_
      refine aw_bipush (pc := 46) dX12_readRoad_46 bipush_13 ?_
      refine aw_aload_n (pc := 48) (i := 0) dX12_readRoad_48 rfl rfl ?_
      refine mg_h (pc := 49) dX12_readRoad_49 rfl ?_
      refine aw_iconst (pc := 52) dX12_readRoad_52 iconst_0 ?_
      refine ml_h (pc := 53) dX12_readRoad_53 (by decide) ?_
      refine aw_top (y := (nI (σ.2.1 7 0))) (congrArg nI (by rw [takesName_n]; rfl)) ?_
      refine mc_I (pc := 54) (As := [.int (nI 13), .int (nI (σ.2.1 7 0))]) (rest := []) dX12_readRoad_54 rfl ok_X12_226 rfl rfl rfl (Nat.le_of_ble_eq_true rfl) (s_looksAt (by omega) ⟨_, _, rfl, rfl, ?_⟩)
      refine ab_if_ne (pc := 57) (tgt := 62) dX12_readRoad_57 rfl (fun h57 => ?_) (fun h57 => ?_)
      · -- 62
        have hlt2 := looks_lt h57
        refine aw_aload_n (pc := 62) (i := 0) dX12_readRoad_62 rfl rfl ?_
        refine mg_got (pc := 63) dX12_readRoad_63 rfl ?_
        refine aw_top (y := (nI (((findW (takesNameF (nx σ) 13 (σ.2.1 7 0)).2 13 (σ.2.1 7 0)).getD 0)))) (looks_got h57) ?_
        refine aw_iload_n (pc := 66) (i := 2) dX12_readRoad_66 rfl rfl ?_
        refine an_icmp_ne (pc := 67) (tgt := 76) dX12_readRoad_67 rfl (by omega) (by omega) (fun h67 => ?_) (fun h67 => ?_)
        · -- 76
          refine aw_iconst (pc := 76) dX12_readRoad_76 iconst_0 ?_
          refine aw_istore_n (pc := 77) (i := 3) dX12_readRoad_77 rfl (Nat.le_of_ble_eq_true rfl) rfl ?_
          refine road_loop (k := σ.2.1 7 1) (x := ((findW (nx σ) 13 (σ.2.1 7 0)).getD 0)) (y := ((findW (takesNameF (nx σ) 13 (σ.2.1 7 0)).2 13 (σ.2.1 7 0)).getD 0)) (by omega) (by omega) (by omega) (fun j => by rw [looks_n, takesName_n]; exact hb j) (looks_got h57) (fun hr => ?_) (fun hr => ?_) (σ.2.1 7 1) 0 (by omega) rfl
          · rw [looks_n, takesName_n] at hr
            simp only [readRoadF, h10, h35, h57, h67, show (findF (roadP (σ.2.1 7) ((findW (nx σ) 13 (σ.2.1 7 0)).getD 0) ((findW (takesNameF (nx σ) 13 (σ.2.1 7 0)).2 13 (σ.2.1 7 0)).getD 0)) (σ.2.1 7 1) 0).isSome = true from hr, Bool.true_and, Bool.and_true, Bool.false_and, Bool.and_false, Bool.not_true, Bool.not_false, Bool.or_true, Bool.or_false, Bool.true_or, Bool.false_or, Bool.false_eq_true, Bool.true_eq_false, if_true, if_false, ite_true, ite_false, reduceIte, reduceCtorEq] at kk
            exact kk
          · rw [looks_n, takesName_n] at hr
            refine aw_aload_n (pc := 153) (i := 0) dX12_readRoad_153 rfl rfl ?_
            refine mg_h (pc := 154) dX12_readRoad_154 rfl ?_
            refine aw_bipush (pc := 157) dX12_readRoad_157 bipush_24 ?_
            refine aw_iload_n (pc := 159) (i := 1) dX12_readRoad_159 rfl rfl ?_
            refine an_add (pc := 160) dX12_readRoad_160 ?_
            refine aw_iload_n (pc := 161) (i := 2) dX12_readRoad_161 rfl rfl ?_
            refine ms_h (pc := 162) dX12_readRoad_162 (by omega) ?_
            refine aw_aload_n (pc := 163) (i := 0) dX12_readRoad_163 rfl rfl ?_
            refine mg_h (pc := 164) dX12_readRoad_164 rfl ?_
            refine aw_bipush (pc := 167) dX12_readRoad_167 bipush_36 ?_
            refine aw_iload_n (pc := 169) (i := 1) dX12_readRoad_169 rfl rfl ?_
            refine an_add (pc := 170) dX12_readRoad_170 ?_
            refine aw_aload_n (pc := 171) (i := 0) dX12_readRoad_171 rfl rfl ?_
            refine mg_got (pc := 172) dX12_readRoad_172 rfl ?_
            refine aw_top (y := (looksF (takesNameF (nx σ) 13 (σ.2.1 7 0)).2 13 (σ.2.1 7 0)).2.1 18) rfl ?_
            refine aw_top (y := (nI (((findW (takesNameF (nx σ) 13 (σ.2.1 7 0)).2 13 (σ.2.1 7 0)).getD 0)))) (looks_got h57) ?_
            refine ms_h (pc := 175) dX12_readRoad_175 (by omega) ?_
            refine aw_aload_n (pc := 176) (i := 0) dX12_readRoad_176 rfl rfl ?_
            refine mc_V (pc := 177) (As := []) (rest := []) dX12_readRoad_177 rfl ok_X12_204 rfl rfl rfl (Nat.le_of_ble_eq_true rfl) (s_nx (PV_mN (PV_mN (PV_looks (PV_takesName (PV_nx h))))) ⟨_, rfl, rfl, ?_⟩)
            refine aw_aload_n (pc := 180) (i := 0) dX12_readRoad_180 rfl rfl ?_
            refine aw_bipush (pc := 181) dX12_readRoad_181 bipush_48 ?_
            refine aw_iload_n (pc := 183) (i := 1) dX12_readRoad_183 rfl rfl ?_
            refine an_add (pc := 184) dX12_readRoad_184 ?_
            refine aw_iconst (pc := 185) dX12_readRoad_185 iconst_0 ?_
            refine aw_sipush (pc := 186) dX12_readRoad_186 sipush_240 ?_
            refine mc_I (pc := 189) (As := [.int (nI (48 + (σ.2.1 7 1))), .int (nI 0), .int (nI 240)]) (rest := []) dX12_readRoad_189 rfl ok_X12_251 rfl rfl rfl (Nat.le_of_ble_eq_true rfl) (s_puts (PV_nx (PV_mN (PV_mN (PV_looks (PV_takesName (PV_nx h)))))) (by omega) ⟨_, _, rfl, rfl, ?_⟩)
            refine ab_if_eq (pc := 192) (tgt := 218) dX12_readRoad_192 rfl (fun h192 => ?_) (fun h192 => ?_)
            · -- 218
              refine aw_iconst (pc := 218) dX12_readRoad_218 iconst_0 ?_
              exact ab_ret0 (pc := 219) dX12_readRoad_219 rfl (Nat.le_refl _) (Nat.le_refl _) (by simp only [readRoadF, h10, h35, h57, h67, show (findF (roadP (σ.2.1 7) ((findW (nx σ) 13 (σ.2.1 7 0)).getD 0) ((findW (takesNameF (nx σ) 13 (σ.2.1 7 0)).2 13 (σ.2.1 7 0)).getD 0)) (σ.2.1 7 1) 0).isSome = false from hr, h192, Bool.true_and, Bool.and_true, Bool.false_and, Bool.and_false, Bool.not_true, Bool.not_false, Bool.or_true, Bool.or_false, Bool.true_or, Bool.false_or, Bool.false_eq_true, Bool.true_eq_false, if_true, if_false, ite_true, ite_false, reduceIte, reduceCtorEq] at kk; exact kk)
            · -- 195
              refine aw_aload_n (pc := 195) (i := 0) dX12_readRoad_195 rfl rfl ?_
              refine aw_bipush (pc := 196) dX12_readRoad_196 bipush_60 ?_
              refine aw_iload_n (pc := 198) (i := 1) dX12_readRoad_198 rfl rfl ?_
              refine an_add (pc := 199) dX12_readRoad_199 ?_
              refine aw_aload_n (pc := 200) (i := 0) dX12_readRoad_200 rfl rfl ?_
              refine mg_h (pc := 201) dX12_readRoad_201 rfl ?_
              refine aw_bipush (pc := 204) dX12_readRoad_204 bipush_48 ?_
              refine aw_iload_n (pc := 206) (i := 1) dX12_readRoad_206 rfl rfl ?_
              refine an_add (pc := 207) dX12_readRoad_207 ?_
              refine ml_h (pc := 208) dX12_readRoad_208 (by omega) ?_
              refine aw_sipush (pc := 209) dX12_readRoad_209 sipush_240 ?_
              refine mc_I (pc := 212) (As := [.int (nI (60 + (σ.2.1 7 1))), .int (nI ((putsF (nx (mN (mN (looksF (takesNameF (nx σ) 13 (σ.2.1 7 0)).2 13 (σ.2.1 7 0)).2 7 (24 + (σ.2.1 7 1)) (((findW (nx σ) 13 (σ.2.1 7 0)).getD 0))) 7 (36 + (σ.2.1 7 1)) (((findW (takesNameF (nx σ) 13 (σ.2.1 7 0)).2 13 (σ.2.1 7 0)).getD 0)))) (48 + (σ.2.1 7 1)) 0 240).2.2.1 7 (48 + (σ.2.1 7 1)))), .int (nI 240)]) (rest := []) dX12_readRoad_212 rfl ok_X12_251 rfl rfl rfl (Nat.le_of_ble_eq_true rfl) (s_puts (PV_puts (PV_nx (PV_mN (PV_mN (PV_looks (PV_takesName (PV_nx h))))))) (by omega) ⟨_, _, rfl, rfl, ?_⟩)
              refine ab_if_ne (pc := 215) (tgt := 220) dX12_readRoad_215 rfl (fun h215 => ?_) (fun h215 => ?_)
              · -- 220
                refine aw_aload_n (pc := 220) (i := 0) dX12_readRoad_220 rfl rfl ?_
                refine mg_h (pc := 221) dX12_readRoad_221 rfl ?_
                refine aw_iconst (pc := 224) dX12_readRoad_224 iconst_1 ?_
                refine aw_dup2 (pc := 225) dX12_readRoad_225 rfl rfl ?_
                refine ml_h (pc := 226) dX12_readRoad_226 (by decide) ?_
                refine aw_top (y := (nI (σ.2.1 7 1))) (congrArg nI (by rw [puts_n h215, upN_n _ _ _ _ (by omega), puts_n h192, upN_n _ _ _ _ (by omega)]; show upN (upN ((looksF (takesNameF (nx σ) 13 (σ.2.1 7 0)).2 13 (σ.2.1 7 0)).2.2.1 7) _ _) _ _ 1 = _; rw [upN_n _ _ _ _ (by omega), upN_n _ _ _ _ (by omega), looks_n, takesName_n]; rfl)) ?_
                refine aw_iconst (pc := 227) dX12_readRoad_227 iconst_1 ?_
                refine an_add (pc := 228) dX12_readRoad_228 ?_
                refine ms_h (pc := 229) dX12_readRoad_229 (by decide) ?_
                refine aw_iconst (pc := 230) dX12_readRoad_230 iconst_1 ?_
                exact ab_ret1 (pc := 231) dX12_readRoad_231 rfl (Nat.le_refl _) (Nat.le_refl _) (by simp only [readRoadF, h10, h35, h57, h67, show (findF (roadP (σ.2.1 7) ((findW (nx σ) 13 (σ.2.1 7 0)).getD 0) ((findW (takesNameF (nx σ) 13 (σ.2.1 7 0)).2 13 (σ.2.1 7 0)).getD 0)) (σ.2.1 7 1) 0).isSome = false from hr, h192, h215, Bool.true_and, Bool.and_true, Bool.false_and, Bool.and_false, Bool.not_true, Bool.not_false, Bool.or_true, Bool.or_false, Bool.true_or, Bool.false_or, Bool.false_eq_true, Bool.true_eq_false, if_true, if_false, ite_true, ite_false, reduceIte, reduceCtorEq] at kk; exact kk)
              · -- 218
                refine aw_iconst (pc := 218) dX12_readRoad_218 iconst_0 ?_
                exact ab_ret0 (pc := 219) dX12_readRoad_219 rfl (Nat.le_refl _) (Nat.le_refl _) (by simp only [readRoadF, h10, h35, h57, h67, show (findF (roadP (σ.2.1 7) ((findW (nx σ) 13 (σ.2.1 7 0)).getD 0) ((findW (takesNameF (nx σ) 13 (σ.2.1 7 0)).2 13 (σ.2.1 7 0)).getD 0)) (σ.2.1 7 1) 0).isSome = false from hr, h192, h215, Bool.true_and, Bool.and_true, Bool.false_and, Bool.and_false, Bool.not_true, Bool.not_false, Bool.or_true, Bool.or_false, Bool.true_or, Bool.false_or, Bool.false_eq_true, Bool.true_eq_false, if_true, if_false, ite_true, ite_false, reduceIte, reduceCtorEq] at kk; exact kk)
        · -- 70
          refine aw_aload_n (pc := 70) (i := 0) dX12_readRoad_70 rfl rfl ?_
          refine aw_iconst (pc := 71) dX12_readRoad_71 iconst_3 ?_
          refine mc_I (pc := 72) (As := [.int (nI 3)]) (rest := []) dX12_readRoad_72 rfl ok_X12_201 rfl rfl rfl (Nat.le_of_ble_eq_true rfl) (s_bad ⟨_, _, rfl, rfl, ?_⟩)
          exact ab_ret (pc := 75) dX12_readRoad_75 rfl (Nat.le_refl _) (Nat.le_refl _) (by simp only [readRoadF, h10, h35, h57, h67, Bool.true_and, Bool.and_true, Bool.false_and, Bool.and_false, Bool.not_true, Bool.not_false, Bool.or_true, Bool.or_false, Bool.true_or, Bool.false_or, Bool.false_eq_true, Bool.true_eq_false, if_true, if_false, ite_true, ite_false, reduceIte, reduceCtorEq] at kk; exact kk)
      · -- 60
        refine aw_iconst (pc := 60) dX12_readRoad_60 iconst_0 ?_
        exact ab_ret0 (pc := 61) dX12_readRoad_61 rfl (Nat.le_refl _) (Nat.le_refl _) (by simp only [readRoadF, h10, h35, h57, Bool.true_and, Bool.and_true, Bool.false_and, Bool.and_false, Bool.not_true, Bool.not_false, Bool.or_true, Bool.or_false, Bool.true_or, Bool.false_or, Bool.false_eq_true, Bool.true_eq_false, if_true, if_false, ite_true, ite_false, reduceIte, reduceCtorEq] at kk; exact kk)
    · -- 38
      refine aw_iconst (pc := 38) dX12_readRoad_38 iconst_0 ?_
      exact ab_ret0 (pc := 39) dX12_readRoad_39 rfl (Nat.le_refl _) (Nat.le_refl _) (by simp only [readRoadF, h10, h35, Bool.true_and, Bool.and_true, Bool.false_and, Bool.and_false, Bool.not_true, Bool.not_false, Bool.or_true, Bool.or_false, Bool.true_or, Bool.false_or, Bool.false_eq_true, Bool.true_eq_false, if_true, if_false, ite_true, ite_false, reduceIte, reduceCtorEq] at kk; exact kk)
  · -- 13
    refine aw_aload_n (pc := 13) (i := 0) dX12_readRoad_13 rfl rfl ?_
    refine aw_iconst (pc := 14) dX12_readRoad_14 iconst_4 ?_
    refine mc_I (pc := 15) (As := [.int (nI 4)]) (rest := []) dX12_readRoad_15 rfl ok_X12_201 rfl rfl rfl (Nat.le_of_ble_eq_true rfl) (s_bad ⟨_, _, rfl, rfl, ?_⟩)
    exact ab_ret (pc := 18) dX12_readRoad_18 rfl (Nat.le_refl _) (Nat.le_refl _) (by simp only [readRoadF, h10, Bool.true_and, Bool.and_true, Bool.false_and, Bool.and_false, Bool.not_true, Bool.not_false, Bool.or_true, Bool.or_false, Bool.true_or, Bool.false_or, Bool.false_eq_true, Bool.true_eq_false, if_true, if_false, ite_true, ite_false, reduceIte, reduceCtorEq] at kk; exact kk)
