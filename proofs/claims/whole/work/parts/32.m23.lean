theorem runN_dig (τ : Nat → Int32) (p : Nat) : ∀ i, i ≤ 3 → runA τ p false i = true → (∀ j, j < i → isA (chr τ (p + j)) = true) → runN τ p i < 10 ^ i := by
  intro i
  induction i with
  | zero => intro _ _ _; simp [runN]
  | succ i ih =>
    intro hi ha hA
    rw [runA, Bool.and_eq_true] at ha
    have h1 := ih (by omega) ha.1 (fun j hj => hA j (by omega))
    have h2 : isL (chr τ (p + i)) = false := by simpa using ha.2
    have h3 := hA i (by omega)
    have h4 : chr τ (p + i) ≤ 57 := by
      unfold isA at h3
      rw [h2, Bool.false_or] at h3
      unfold isD at h3
      simp at h3
      exact h3.2
    unfold runN
    rw [if_pos (by omega), Nat.pow_succ]
    omega
theorem rlen_isA (τ : Nat → Int32) : ∀ n p j, j < rlen τ n p → isA (chr τ (p + j)) = true := by
  intro n
  induction n with
  | zero => intro p j h; exact absurd h (Nat.not_lt_zero _)
  | succ n ih =>
    intro p j h
    unfold rlen at h
    split at h
    · rename_i h1
      cases j with
      | zero => exact h1
      | succ j => have := ih (p + 1) j (by omega); rw [show p + 1 + j = p + (j + 1) by omega] at this; exact this
    · exact absurd h (Nat.not_lt_zero _)
theorem tokK_lt (sm al : Bool) (r : Nat) : tokK sm al r < 2 ^ 31 := by
  have h : ∀ (c : Prop) [Decidable c] (x y : Nat), x < 2 ^ 31 → y < 2 ^ 31 → (if c then x else y) < 2 ^ 31 := fun c _ x y hx hy => by split <;> assumption
  exact h _ _ _ (by decide) (h _ _ _ (by decide) (by decide))
theorem tokK_2 {sm al : Bool} {r : Nat} (h : tokK sm al r = 2) : sm = false ∧ al = true ∧ r ≤ 3 := by
  unfold tokK at h
  cases sm <;> cases al <;> simp at h ⊢
  · omega
  · split at h <;> omega
theorem next_num {σ : mS} {s lim p : Nat} (h : (nextS σ s lim p).1 11 = nI 2) : (nextS σ s lim p).1 14 = nI ((nextS σ s lim p).1 14).toNatClampNeg ∧ ((nextS σ s lim p).1 14).toNatClampNeg < 1000 := by
  unfold nextS at *
  generalize skipF (σ.2.2.1 1) (s - p) p = q at *
  unfold nextG at *
  split at h
  · exact absurd (show nI 4 = nI 2 from h) (by decide)
  · split at h
    · exact absurd (show nI 0 = nI 2 from h) (by decide)
    · split at h
      · rename_i h1 h2 h3
        rw [if_neg h1, if_neg h2, if_pos h3]
        have e : nI (tokK (isL (chr (σ.2.2.1 1) q)) (runA (σ.2.2.1 1) q (isL (chr (σ.2.2.1 1) q)) (rlen (σ.2.2.1 1) (s - q) q)) (rlen (σ.2.2.1 1) (s - q) q)) = nI 2 := h
        show nI (runN (σ.2.2.1 1) q (rlen (σ.2.2.1 1) (s - q) q)) = nI (nI (runN (σ.2.2.1 1) q (rlen (σ.2.2.1 1) (s - q) q))).toNatClampNeg ∧ (nI (runN (σ.2.2.1 1) q (rlen (σ.2.2.1 1) (s - q) q))).toNatClampNeg < 1000
        have hm := runN_le (σ.2.2.1 1) q (rlen (σ.2.2.1 1) (s - q) q)
        rw [nI_clamp (by omega)]
        refine ⟨rfl, ?_⟩
        obtain ⟨h6, h7, h8⟩ := tokK_2 ((nI_eq (tokK_lt _ _ _) (by decide)).mp e)
        rw [h6] at h7
        have := runN_dig _ _ _ h8 h7 (rlen_isA _ _ _)
        exact Nat.lt_of_lt_of_le this (Nat.pow_le_pow_right (by decide) h8)
      · rename_i h1 h2 h3
        exfalso
        revert h
        show nI _ = nI 2 → False
        split
        · decide
        · decide
theorem nx_num {σ : mS} (h : (nx σ).1 11 = nI 2) : numN (nx σ) < 1000 := by
  rw [← nx_eq] at h ⊢
  exact (next_num h).2
theorem opN_sc {σ : mS} {k : Nat} (hk : ¬ k = 4 ∧ ¬ k = 11 ∧ ¬ k = 12 ∧ ¬ k = 13 ∧ ¬ k = 14 ∧ ¬ k = 52) : (opN σ).1 k = σ.1 k := by
  unfold opN
  rw [nx_sc _ _ ⟨hk.1, hk.2.1, hk.2.2.1, hk.2.2.2.1, hk.2.2.2.2.1⟩, mI_o _ _ _ _ hk.2.2.2.2.2]
theorem opW_sc {σ : mS} {k : Nat} (hk : ¬ k = 4 ∧ ¬ k = 11 ∧ ¬ k = 12 ∧ ¬ k = 13 ∧ ¬ k = 14 ∧ ¬ k = 52) (h5 : ¬ k = 55) : (opW σ).1 k = σ.1 k := by
  unfold opW
  rw [mI_o _ _ _ _ h5, opN_sc hk]
theorem cX_of {σ ρ : mS} (h : ρ.1 51 = σ.1 51) (hc : σ.1 51 = nI (sC σ)) : ρ.1 51 = nI (sC ρ) ∧ sC ρ = sC σ := by
  have e : sC ρ = sC σ := by unfold sC; rw [h]
  rw [e, h]
  exact ⟨hc, rfl⟩
theorem opW_C {σ : mS} (hc : σ.1 51 = nI (sC σ)) : (opW σ).1 51 = nI (sC (opW σ)) ∧ sC (opW σ) = sC σ := cX_of (opW_sc (by decide) (by decide)) hc
theorem opA_C {σ : mS} (hc : σ.1 51 = nI (sC σ)) (h : (opA σ).1 = true) : (opA σ).2.1 51 = nI (sC (opA σ).2) ∧ sC (opA σ).2 = sC σ := cX_of ((looks_sc h (by decide)).trans (opW_sc (by decide) (by decide))) hc
theorem opX_C {σ : mS} (hc : σ.1 51 = nI (sC σ)) : (nx (opW σ)).1 51 = nI (sC (nx (opW σ))) ∧ sC (nx (opW σ)) = sC σ := cX_of ((nx_sc _ 51 (by decide)).trans (opW_sc (by decide) (by decide))) hc

set_option maxHeartbeats 1000000 in
set_option maxRecDepth 20000 in
theorem s_operand {G : xG} {d : Nat} {Q : xQ} {a : Nat → Nat} {σ : mS} (h : PV σ) (hc : σ.1 51 = nI (sC σ)) (ho : σ.1 52 = nI (sO σ)) (ht : σ.1 53 = nI (sT σ)) (he : σ.1 54 = nI (sE σ)) (ho2 : sO σ ≤ 20) (hc2 : sC σ ≤ 45) (ht2 : sT σ ≤ 44) (he2 : sE σ ≤ 100) (hl : σ.2.1 6 0 ≤ 7) (kk : Q (some (.int (bI (operandF σ).1))) (mW G.2.2.1 a (operandF σ).2)) : MT G MX12_operand (d + 3) 0 0 [.ref (a 60)] (mW G.2.2.1 a σ) Q := by
  refine mt_start (L := [some (.ref (a 60)), none, none, none, none]) rfl (Nat.le_of_ble_eq_true rfl) rfl ?_
  refine aw_aload_n (pc := 0) (i := 0) dX12_operand_0 rfl rfl ?_
  refine aw_ldc2 (pc := 1) dX12_operand_1 tw_1395 ?_
  refine mc_I (pc := 4) (As := [.long ((7237492 : Int64))]) (rest := []) dX12_operand_4 rfl ok_X12_229 rfl rfl rfl (Nat.le_of_ble_eq_true rfl) (s_isWord ⟨_, _, rfl, rfl, ?_⟩)
  refine aw_istore_n (pc := 7) (i := 1) dX12_operand_7 rfl (Nat.le_of_ble_eq_true rfl) rfl ?_
  refine aw_aload_n (pc := 8) (i := 0) dX12_operand_8 rfl rfl ?_
  refine aw_bipush (pc := 9) dX12_operand_9 bipush_40 ?_
  refine mc_I (pc := 11) (As := [.int (nI 40)]) (rest := []) dX12_operand_11 rfl ok_X12_198 rfl rfl rfl (Nat.le_of_ble_eq_true rfl) (s_isSign ⟨_, _, rfl, rfl, ?_⟩)
  refine aw_istore_n (pc := 14) (i := 2) dX12_operand_14 rfl (Nat.le_of_ble_eq_true rfl) rfl ?_
  refine aw_aload_n (pc := 15) (i := 0) dX12_operand_15 rfl rfl ?_
  refine mc_I (pc := 16) (As := []) (rest := []) dX12_operand_16 rfl ok_X12_462 rfl rfl rfl (Nat.le_of_ble_eq_true rfl) (s_leafOf (fun hlf => ⟨_, _, rfl, rfl, ?_⟩) (fun hlf => ⟨_, _, rfl, rfl, ?_⟩))
  · -- call
    refine aw_istore_n (pc := 19) (i := 3) dX12_operand_19 rfl (Nat.le_of_ble_eq_true rfl) rfl ?_
    refine aw_iload_n (pc := 20) (i := 1) dX12_operand_20 rfl rfl ?_
    refine ab_if_ne (pc := 21) (tgt := 38) dX12_operand_21 rfl (fun h21 => ?_) (fun h21 => ?_)
    · -- 38
      refine aw_aload_n (pc := 38) (i := 0) dX12_operand_38 rfl rfl ?_
      refine mg_ones (pc := 39) dX12_operand_39 rfl ?_
      refine aw_top (y := (nI (sO σ))) ho ?_
      refine aw_bipush (pc := 42) dX12_operand_42 bipush_20 ?_
      refine an_icmp_eq (pc := 44) (tgt := 56) dX12_operand_44 rfl (by omega) (by decide) (fun h44 => ?_) (fun h44 => ?_)
      · -- 56
        refine aw_aload_n (pc := 56) (i := 0) dX12_operand_56 rfl rfl ?_
        refine aw_iconst (pc := 57) dX12_operand_57 iconst_4 ?_
        refine mc_I (pc := 58) (As := [.int (nI 4)]) (rest := []) dX12_operand_58 rfl ok_X12_201 rfl rfl rfl (Nat.le_of_ble_eq_true rfl) (s_bad ⟨_, _, rfl, rfl, ?_⟩)
        refine aw_ws (w9 := mW G.2.2.1 a (badF σ 4)) rfl ?_
        exact ab_ret (pc := 61) dX12_operand_61 rfl (Nat.le_refl _) (Nat.le_refl _) (by simp only [operandF, opG, opL, opB, opM, (Nat.ne_of_lt hlf), h21, h44, Bool.true_and, Bool.and_true, Bool.false_and, Bool.and_false, Bool.not_true, Bool.not_false, Bool.or_true, Bool.or_false, Bool.true_or, Bool.false_or, Bool.false_eq_true, Bool.true_eq_false, if_true, if_false, ite_true, ite_false, reduceIte, reduceCtorEq] at kk; exact kk)
      · -- 47
        refine aw_aload_n (pc := 47) (i := 0) dX12_operand_47 rfl rfl ?_
        refine mg_deep (pc := 48) dX12_operand_48 rfl ?_
        refine aw_top (y := (nI (sE σ))) he ?_
        refine aw_bipush (pc := 51) dX12_operand_51 bipush_8 ?_
        refine an_icmp_le (pc := 53) (tgt := 62) dX12_operand_53 rfl (by omega) (by decide) (fun h53 => ?_) (fun h53 => ?_)
        · -- 62
          refine aw_aload_n (pc := 62) (i := 0) dX12_operand_62 rfl rfl ?_
          refine aw_dup (pc := 63) dX12_operand_63 rfl ?_
          refine mg_ones (pc := 64) dX12_operand_64 rfl ?_
          refine aw_top (y := (nI (sO σ))) ho ?_
          refine aw_iconst (pc := 67) dX12_operand_67 iconst_1 ?_
          refine an_add (pc := 68) dX12_operand_68 ?_
          refine mp_ones (pc := 69) dX12_operand_69 rfl ?_
          refine aw_aload_n (pc := 72) (i := 0) dX12_operand_72 rfl rfl ?_
          refine mc_V (pc := 73) (As := []) (rest := []) dX12_operand_73 rfl ok_X12_204 rfl rfl rfl (Nat.le_of_ble_eq_true rfl) (s_nx (PV_mI h (by decide)) ⟨_, rfl, rfl, ?_⟩)
          refine aw_ws (w9 := mW G.2.2.1 a (opN σ)) rfl ?_
          refine aw_iload_n (pc := 76) (i := 1) dX12_operand_76 rfl rfl ?_
          refine ab_if_ne (pc := 77) (tgt := 84) dX12_operand_77 rfl (fun h77 => ?_) (fun h77 => absurd (h21.symm.trans h77) (by decide))
          refine aw_aload_n (pc := 84) (i := 0) dX12_operand_84 rfl rfl ?_
          refine mg_stack (pc := 85) dX12_operand_85 rfl ?_
          refine aw_aload_n (pc := 88) (i := 0) dX12_operand_88 rfl rfl ?_
          refine mg_top (pc := 89) dX12_operand_89 rfl ?_
          refine aw_top (y := (nI (sT σ))) ((opN_sc (by decide)).trans ht) ?_
          refine aw_iload_n (pc := 92) (i := 1) dX12_operand_92 rfl rfl ?_
          refine ab_if_eq (pc := 93) (tgt := 101) dX12_operand_93 rfl (fun h93 => absurd (h21.symm.trans h93) (by decide)) (fun h93 => ?_)
          refine aw_bipush (pc := 96) dX12_operand_96 bipush_20 ?_
          refine aw_goto (pc := 98) (tgt := 103) dX12_operand_98 rfl ?_
          refine ms_stack (pc := 103) dX12_operand_103 (by omega) ?_
          refine aw_aload_n (pc := 104) (i := 0) dX12_operand_104 rfl rfl ?_
          refine aw_dup (pc := 105) dX12_operand_105 rfl ?_
          refine mg_top (pc := 106) dX12_operand_106 rfl ?_
          refine aw_top (y := (opN σ).1 53) rfl ?_
          refine aw_top (y := (nI (sT σ))) ((opN_sc (by decide)).trans ht) ?_
          refine aw_iconst (pc := 109) dX12_operand_109 iconst_1 ?_
          refine an_add (pc := 110) dX12_operand_110 ?_
          refine mp_top (pc := 111) dX12_operand_111 rfl ?_
          refine aw_aload_n (pc := 114) (i := 0) dX12_operand_114 rfl rfl ?_
          refine aw_dup (pc := 115) dX12_operand_115 rfl ?_
          refine mg_deep (pc := 116) dX12_operand_116 rfl ?_
          refine aw_top (y := (opN σ).1 54) rfl ?_
          refine aw_top (y := (nI (sE σ))) ((opN_sc (by decide)).trans he) ?_
          refine aw_iconst (pc := 119) dX12_operand_119 iconst_1 ?_
          refine an_add (pc := 120) dX12_operand_120 ?_
          refine mp_deep (pc := 121) dX12_operand_121 rfl ?_
          refine aw_iconst (pc := 124) dX12_operand_124 iconst_1 ?_
          exact ab_ret1 (pc := 125) dX12_operand_125 rfl (Nat.le_refl _) (Nat.le_refl _) (by simp only [operandF, opG, opL, opB, opM, (Nat.ne_of_lt hlf), h21, h44, h53, (Nat.not_lt.mpr h53), Bool.true_and, Bool.and_true, Bool.false_and, Bool.and_false, Bool.not_true, Bool.not_false, Bool.or_true, Bool.or_false, Bool.true_or, Bool.false_or, Bool.false_eq_true, Bool.true_eq_false, if_true, if_false, ite_true, ite_false, reduceIte, reduceCtorEq] at kk; exact kk)
        · -- 56
          refine aw_aload_n (pc := 56) (i := 0) dX12_operand_56 rfl rfl ?_
          refine aw_iconst (pc := 57) dX12_operand_57 iconst_4 ?_
          refine mc_I (pc := 58) (As := [.int (nI 4)]) (rest := []) dX12_operand_58 rfl ok_X12_201 rfl rfl rfl (Nat.le_of_ble_eq_true rfl) (s_bad ⟨_, _, rfl, rfl, ?_⟩)
          refine aw_ws (w9 := mW G.2.2.1 a (badF σ 4)) rfl ?_
          exact ab_ret (pc := 61) dX12_operand_61 rfl (Nat.le_refl _) (Nat.le_refl _) (by simp only [operandF, opG, opL, opB, opM, (Nat.ne_of_lt hlf), h21, h44, h53, (Nat.not_le.mpr h53), Bool.true_and, Bool.and_true, Bool.false_and, Bool.and_false, Bool.not_true, Bool.not_false, Bool.or_true, Bool.or_false, Bool.true_or, Bool.false_or, Bool.false_eq_true, Bool.true_eq_false, if_true, if_false, ite_true, ite_false, reduceIte, reduceCtorEq] at kk; exact kk)
    · -- 24
      refine aw_iload_n (pc := 24) (i := 2) dX12_operand_24 rfl rfl ?_
      refine ab_if_ne (pc := 25) (tgt := 38) dX12_operand_25 rfl (fun h25 => ?_) (fun h25 => ?_)
      · -- 38
        refine aw_aload_n (pc := 38) (i := 0) dX12_operand_38 rfl rfl ?_
        refine mg_ones (pc := 39) dX12_operand_39 rfl ?_
        refine aw_top (y := (nI (sO σ))) ho ?_
        refine aw_bipush (pc := 42) dX12_operand_42 bipush_20 ?_
        refine an_icmp_eq (pc := 44) (tgt := 56) dX12_operand_44 rfl (by omega) (by decide) (fun h44 => ?_) (fun h44 => ?_)
        · -- 56
          refine aw_aload_n (pc := 56) (i := 0) dX12_operand_56 rfl rfl ?_
          refine aw_iconst (pc := 57) dX12_operand_57 iconst_4 ?_
          refine mc_I (pc := 58) (As := [.int (nI 4)]) (rest := []) dX12_operand_58 rfl ok_X12_201 rfl rfl rfl (Nat.le_of_ble_eq_true rfl) (s_bad ⟨_, _, rfl, rfl, ?_⟩)
          refine aw_ws (w9 := mW G.2.2.1 a (badF σ 4)) rfl ?_
          exact ab_ret (pc := 61) dX12_operand_61 rfl (Nat.le_refl _) (Nat.le_refl _) (by simp only [operandF, opG, opL, opB, opM, (Nat.ne_of_lt hlf), h21, h25, h44, Bool.true_and, Bool.and_true, Bool.false_and, Bool.and_false, Bool.not_true, Bool.not_false, Bool.or_true, Bool.or_false, Bool.true_or, Bool.false_or, Bool.false_eq_true, Bool.true_eq_false, if_true, if_false, ite_true, ite_false, reduceIte, reduceCtorEq] at kk; exact kk)
        · -- 47
          refine aw_aload_n (pc := 47) (i := 0) dX12_operand_47 rfl rfl ?_
          refine mg_deep (pc := 48) dX12_operand_48 rfl ?_
          refine aw_top (y := (nI (sE σ))) he ?_
          refine aw_bipush (pc := 51) dX12_operand_51 bipush_8 ?_
          refine an_icmp_le (pc := 53) (tgt := 62) dX12_operand_53 rfl (by omega) (by decide) (fun h53 => ?_) (fun h53 => ?_)
          · -- 62
            refine aw_aload_n (pc := 62) (i := 0) dX12_operand_62 rfl rfl ?_
            refine aw_dup (pc := 63) dX12_operand_63 rfl ?_
            refine mg_ones (pc := 64) dX12_operand_64 rfl ?_
            refine aw_top (y := (nI (sO σ))) ho ?_
            refine aw_iconst (pc := 67) dX12_operand_67 iconst_1 ?_
            refine an_add (pc := 68) dX12_operand_68 ?_
            refine mp_ones (pc := 69) dX12_operand_69 rfl ?_
            refine aw_aload_n (pc := 72) (i := 0) dX12_operand_72 rfl rfl ?_
            refine mc_V (pc := 73) (As := []) (rest := []) dX12_operand_73 rfl ok_X12_204 rfl rfl rfl (Nat.le_of_ble_eq_true rfl) (s_nx (PV_mI h (by decide)) ⟨_, rfl, rfl, ?_⟩)
            refine aw_ws (w9 := mW G.2.2.1 a (opN σ)) rfl ?_
            refine aw_iload_n (pc := 76) (i := 1) dX12_operand_76 rfl rfl ?_
            refine ab_if_ne (pc := 77) (tgt := 84) dX12_operand_77 rfl (fun h77 => absurd (h21.symm.trans h77) (by decide)) (fun h77 => ?_)
            refine aw_iload_n (pc := 80) (i := 2) dX12_operand_80 rfl rfl ?_
            refine ab_if_eq (pc := 81) (tgt := 126) dX12_operand_81 rfl (fun h81 => absurd (h25.symm.trans h81) (by decide)) (fun h81 => ?_)
            refine aw_aload_n (pc := 84) (i := 0) dX12_operand_84 rfl rfl ?_
            refine mg_stack (pc := 85) dX12_operand_85 rfl ?_
            refine aw_aload_n (pc := 88) (i := 0) dX12_operand_88 rfl rfl ?_
            refine mg_top (pc := 89) dX12_operand_89 rfl ?_
            refine aw_top (y := (nI (sT σ))) ((opN_sc (by decide)).trans ht) ?_
            refine aw_iload_n (pc := 92) (i := 1) dX12_operand_92 rfl rfl ?_
            refine ab_if_eq (pc := 93) (tgt := 101) dX12_operand_93 rfl (fun h93 => ?_) (fun h93 => absurd (h21.symm.trans h93) (by decide))
            refine aw_bipush (pc := 101) dX12_operand_101 bipush_23 ?_
            refine ms_stack (pc := 103) dX12_operand_103 (by omega) ?_
            refine aw_aload_n (pc := 104) (i := 0) dX12_operand_104 rfl rfl ?_
            refine aw_dup (pc := 105) dX12_operand_105 rfl ?_
            refine mg_top (pc := 106) dX12_operand_106 rfl ?_
            refine aw_top (y := (opN σ).1 53) rfl ?_
            refine aw_top (y := (nI (sT σ))) ((opN_sc (by decide)).trans ht) ?_
            refine aw_iconst (pc := 109) dX12_operand_109 iconst_1 ?_
            refine an_add (pc := 110) dX12_operand_110 ?_
            refine mp_top (pc := 111) dX12_operand_111 rfl ?_
            refine aw_aload_n (pc := 114) (i := 0) dX12_operand_114 rfl rfl ?_
            refine aw_dup (pc := 115) dX12_operand_115 rfl ?_
            refine mg_deep (pc := 116) dX12_operand_116 rfl ?_
            refine aw_top (y := (opN σ).1 54) rfl ?_
            refine aw_top (y := (nI (sE σ))) ((opN_sc (by decide)).trans he) ?_
            refine aw_iconst (pc := 119) dX12_operand_119 iconst_1 ?_
            refine an_add (pc := 120) dX12_operand_120 ?_
            refine mp_deep (pc := 121) dX12_operand_121 rfl ?_
            refine aw_iconst (pc := 124) dX12_operand_124 iconst_1 ?_
            exact ab_ret1 (pc := 125) dX12_operand_125 rfl (Nat.le_refl _) (Nat.le_refl _) (by simp only [operandF, opG, opL, opB, opM, (Nat.ne_of_lt hlf), h21, h25, h44, h53, (Nat.not_lt.mpr h53), Bool.true_and, Bool.and_true, Bool.false_and, Bool.and_false, Bool.not_true, Bool.not_false, Bool.or_true, Bool.or_false, Bool.true_or, Bool.false_or, Bool.false_eq_true, Bool.true_eq_false, if_true, if_false, ite_true, ite_false, reduceIte, reduceCtorEq] at kk; exact kk)
          · -- 56
            refine aw_aload_n (pc := 56) (i := 0) dX12_operand_56 rfl rfl ?_
            refine aw_iconst (pc := 57) dX12_operand_57 iconst_4 ?_
            refine mc_I (pc := 58) (As := [.int (nI 4)]) (rest := []) dX12_operand_58 rfl ok_X12_201 rfl rfl rfl (Nat.le_of_ble_eq_true rfl) (s_bad ⟨_, _, rfl, rfl, ?_⟩)
            refine aw_ws (w9 := mW G.2.2.1 a (badF σ 4)) rfl ?_
            exact ab_ret (pc := 61) dX12_operand_61 rfl (Nat.le_refl _) (Nat.le_refl _) (by simp only [operandF, opG, opL, opB, opM, (Nat.ne_of_lt hlf), h21, h25, h44, h53, (Nat.not_le.mpr h53), Bool.true_and, Bool.and_true, Bool.false_and, Bool.and_false, Bool.not_true, Bool.not_false, Bool.or_true, Bool.or_false, Bool.true_or, Bool.false_or, Bool.false_eq_true, Bool.true_eq_false, if_true, if_false, ite_true, ite_false, reduceIte, reduceCtorEq] at kk; exact kk)
      · -- 28
        refine aw_iload_n (pc := 28) (i := 3) dX12_operand_28 rfl rfl ?_
        refine an_if_ge (pc := 29) (tgt := 38) dX12_operand_29 rfl (by omega) ?_
        refine aw_aload_n (pc := 38) (i := 0) dX12_operand_38 rfl rfl ?_
        refine mg_ones (pc := 39) dX12_operand_39 rfl ?_
        refine aw_top (y := (nI (sO σ))) ho ?_
        refine aw_bipush (pc := 42) dX12_operand_42 bipush_20 ?_
        refine an_icmp_eq (pc := 44) (tgt := 56) dX12_operand_44 rfl (by omega) (by decide) (fun h44 => ?_) (fun h44 => ?_)
        · -- 56
          refine aw_aload_n (pc := 56) (i := 0) dX12_operand_56 rfl rfl ?_
          refine aw_iconst (pc := 57) dX12_operand_57 iconst_4 ?_
          refine mc_I (pc := 58) (As := [.int (nI 4)]) (rest := []) dX12_operand_58 rfl ok_X12_201 rfl rfl rfl (Nat.le_of_ble_eq_true rfl) (s_bad ⟨_, _, rfl, rfl, ?_⟩)
          refine aw_ws (w9 := mW G.2.2.1 a (badF σ 4)) rfl ?_
          exact ab_ret (pc := 61) dX12_operand_61 rfl (Nat.le_refl _) (Nat.le_refl _) (by simp only [operandF, opG, opL, opB, opM, (Nat.ne_of_lt hlf), h21, h25, h44, Bool.true_and, Bool.and_true, Bool.false_and, Bool.and_false, Bool.not_true, Bool.not_false, Bool.or_true, Bool.or_false, Bool.true_or, Bool.false_or, Bool.false_eq_true, Bool.true_eq_false, if_true, if_false, ite_true, ite_false, reduceIte, reduceCtorEq] at kk; exact kk)
        · -- 47
          refine aw_aload_n (pc := 47) (i := 0) dX12_operand_47 rfl rfl ?_
          refine mg_deep (pc := 48) dX12_operand_48 rfl ?_
          refine aw_top (y := (nI (sE σ))) he ?_
          refine aw_bipush (pc := 51) dX12_operand_51 bipush_8 ?_
          refine an_icmp_le (pc := 53) (tgt := 62) dX12_operand_53 rfl (by omega) (by decide) (fun h53 => ?_) (fun h53 => ?_)
          · -- 62
            refine aw_aload_n (pc := 62) (i := 0) dX12_operand_62 rfl rfl ?_
            refine aw_dup (pc := 63) dX12_operand_63 rfl ?_
            refine mg_ones (pc := 64) dX12_operand_64 rfl ?_
            refine aw_top (y := (nI (sO σ))) ho ?_
            refine aw_iconst (pc := 67) dX12_operand_67 iconst_1 ?_
            refine an_add (pc := 68) dX12_operand_68 ?_
            refine mp_ones (pc := 69) dX12_operand_69 rfl ?_
            refine aw_aload_n (pc := 72) (i := 0) dX12_operand_72 rfl rfl ?_
            refine mc_V (pc := 73) (As := []) (rest := []) dX12_operand_73 rfl ok_X12_204 rfl rfl rfl (Nat.le_of_ble_eq_true rfl) (s_nx (PV_mI h (by decide)) ⟨_, rfl, rfl, ?_⟩)
            refine aw_ws (w9 := mW G.2.2.1 a (opN σ)) rfl ?_
            refine aw_iload_n (pc := 76) (i := 1) dX12_operand_76 rfl rfl ?_
            refine ab_if_ne (pc := 77) (tgt := 84) dX12_operand_77 rfl (fun h77 => absurd (h21.symm.trans h77) (by decide)) (fun h77 => ?_)
            refine aw_iload_n (pc := 80) (i := 2) dX12_operand_80 rfl rfl ?_
            refine ab_if_eq (pc := 81) (tgt := 126) dX12_operand_81 rfl (fun h81 => ?_) (fun h81 => absurd (h25.symm.trans h81) (by decide))
            refine aw_aload_n (pc := 126) (i := 0) dX12_operand_126 rfl rfl ?_
            refine aw_iconst (pc := 127) dX12_operand_127 iconst_1 ?_
            refine mp_isWhole (pc := 128) dX12_operand_128 rfl (by decide) (by decide) ?_
            refine aw_iload_n (pc := 131) (i := 3) dX12_operand_131 rfl rfl ?_
            refine aw_iconst (pc := 132) dX12_operand_132 iconst_2 ?_
            refine an_icmp_ge (pc := 133) (tgt := 145) dX12_operand_133 rfl (by omega) (by decide) (fun h133 => ?_) (fun h133 => ?_)
            · -- 145
              refine aw_iload_n (pc := 145) (i := 3) dX12_operand_145 rfl rfl ?_
              refine aw_iconst (pc := 146) dX12_operand_146 iconst_5 ?_
              refine an_icmp_ge (pc := 147) (tgt := 182) dX12_operand_147 rfl (by omega) (by decide) (fun h147 => ?_) (fun h147 => ?_)
              · -- 182
                refine aw_aload_n (pc := 182) (i := 0) dX12_operand_182 rfl rfl ?_
                refine mg_token (pc := 183) dX12_operand_183 rfl ?_
                refine aw_top (y := (opN σ).1 11) rfl ?_
                refine aw_top (y := ((opW σ).1 11)) rfl ?_
                refine aw_iconst (pc := 186) dX12_operand_186 iconst_3 ?_
                refine aw_icmp_ne (pc := 187) (tgt := 208) dX12_operand_187 rfl (fun h187 => ?_) (fun h187 => ?_)
                · -- 208
                  refine aw_aload_n (pc := 208) (i := 0) dX12_operand_208 rfl rfl ?_
                  refine aw_iconst (pc := 209) dX12_operand_209 iconst_1 ?_
                  refine mc_I (pc := 210) (As := [.int (nI 1)]) (rest := []) dX12_operand_210 rfl ok_X12_201 rfl rfl rfl (Nat.le_of_ble_eq_true rfl) (s_bad ⟨_, _, rfl, rfl, ?_⟩)
                  refine aw_ws (w9 := mW G.2.2.1 a (badF (opW σ) 1)) rfl ?_
                  exact ab_ret (pc := 213) dX12_operand_213 rfl (Nat.le_refl _) (Nat.le_refl _) (by simp only [operandF, opG, opL, opB, opM, (Nat.ne_of_lt hlf), h21, h25, h44, h53, (Nat.not_lt.mpr h53), h133, (Nat.not_lt.mpr h133), h147, (Nat.not_lt.mpr h147), h187, Bool.true_and, Bool.and_true, Bool.false_and, Bool.and_false, Bool.not_true, Bool.not_false, Bool.or_true, Bool.or_false, Bool.true_or, Bool.false_or, Bool.false_eq_true, Bool.true_eq_false, if_true, if_false, ite_true, ite_false, reduceIte, reduceCtorEq] at kk; exact kk)
                · -- 190
                  refine aw_aload_n (pc := 190) (i := 0) dX12_operand_190 rfl rfl ?_
                  refine mg_number (pc := 191) dX12_operand_191 rfl ?_
                  refine aw_top (y := (opN σ).1 14) rfl ?_
                  refine aw_top (y := (nI (numN (opW σ)))) (numN_of (PV_opW h)).1 ?_
                  refine aw_bipush (pc := 194) dX12_operand_194 bipush_60 ?_
                  refine an_icmp_lt (pc := 196) (tgt := 208) dX12_operand_196 rfl (Nat.lt_trans (numN_of (PV_opW h)).2 (by decide)) (by decide) (fun h196 => ?_) (fun h196 => ?_)
                  · -- 208
                    refine aw_aload_n (pc := 208) (i := 0) dX12_operand_208 rfl rfl ?_
                    refine aw_iconst (pc := 209) dX12_operand_209 iconst_1 ?_
                    refine mc_I (pc := 210) (As := [.int (nI 1)]) (rest := []) dX12_operand_210 rfl ok_X12_201 rfl rfl rfl (Nat.le_of_ble_eq_true rfl) (s_bad ⟨_, _, rfl, rfl, ?_⟩)
                    refine aw_ws (w9 := mW G.2.2.1 a (badF (opW σ) 1)) rfl ?_
                    exact ab_ret (pc := 213) dX12_operand_213 rfl (Nat.le_refl _) (Nat.le_refl _) (by simp only [operandF, opG, opL, opB, opM, (Nat.ne_of_lt hlf), h21, h25, h44, h53, (Nat.not_lt.mpr h53), h133, (Nat.not_lt.mpr h133), h147, (Nat.not_lt.mpr h147), h187, h196, (Nat.not_le.mpr h196), Bool.true_and, Bool.and_true, Bool.false_and, Bool.and_false, Bool.not_true, Bool.not_false, Bool.or_true, Bool.or_false, Bool.true_or, Bool.false_or, Bool.false_eq_true, Bool.true_eq_false, if_true, if_false, ite_true, ite_false, reduceIte, reduceCtorEq] at kk; exact kk)
                  · -- 199
                    refine aw_aload_n (pc := 199) (i := 0) dX12_operand_199 rfl rfl ?_
                    refine mg_number (pc := 200) dX12_operand_200 rfl ?_
                    refine aw_top (y := (opN σ).1 14) rfl ?_
                    refine aw_top (y := (nI (numN (opW σ)))) (numN_of (PV_opW h)).1 ?_
                    refine aw_bipush (pc := 203) dX12_operand_203 bipush_62 ?_
                    refine an_icmp_le (pc := 205) (tgt := 214) dX12_operand_205 rfl (Nat.lt_trans (numN_of (PV_opW h)).2 (by decide)) (by decide) (fun h205 => ?_) (fun h205 => ?_)
                    · -- 214
                      refine aw_aload_n (pc := 214) (i := 0) dX12_operand_214 rfl rfl ?_
                      refine mg_number (pc := 215) dX12_operand_215 rfl ?_
                      refine aw_top (y := (opN σ).1 14) rfl ?_
                      refine aw_top (y := (nI (numN (opW σ)))) (numN_of (PV_opW h)).1 ?_
                      refine aw_istore (pc := 218) (i := 4) dX12_operand_218 (Nat.le_of_ble_eq_true rfl) rfl ?_
                      refine aw_aload_n (pc := 220) (i := 0) dX12_operand_220 rfl rfl ?_
                      refine mc_V (pc := 221) (As := []) (rest := []) dX12_operand_221 rfl ok_X12_204 rfl rfl rfl (Nat.le_of_ble_eq_true rfl) (s_nx (PV_opW h) ⟨_, rfl, rfl, ?_⟩)
                      refine aw_ws (w9 := mW G.2.2.1 a (nx (opW σ))) rfl ?_
                      refine aw_aload_n (pc := 224) (i := 0) dX12_operand_224 rfl rfl ?_
                      refine mg_token (pc := 225) dX12_operand_225 rfl ?_
                      refine aw_iconst (pc := 228) dX12_operand_228 iconst_2 ?_
                      refine aw_icmp_eq (pc := 229) (tgt := 238) dX12_operand_229 rfl (fun h229 => ?_) (fun h229 => ?_)
                      · -- 238
                        refine aw_aload_n (pc := 238) (i := 0) dX12_operand_238 rfl rfl ?_
                        refine aw_iload_n (pc := 239) (i := 3) dX12_operand_239 rfl rfl ?_
                        refine aw_iload (pc := 240) dX12_operand_240 rfl ?_
                        refine aw_aload_n (pc := 242) (i := 0) dX12_operand_242 rfl rfl ?_
                        refine mg_number (pc := 243) dX12_operand_243 rfl ?_
                        refine aw_top (y := (nI (numN (nx (opW σ))))) (numN_of (PV_nx (PV_opW h))).1 ?_
                        refine mc_V (pc := 246) (As := [.int (nI (leafO σ)), .int (nI (numN (opW σ))), .int (nI (numN (nx (opW σ))))]) (rest := []) dX12_operand_246 rfl ok_X12_456 rfl rfl rfl (Nat.le_of_ble_eq_true rfl) (s_code (opX_C hc).1 (by show sC (nx (opW σ)) ≤ 52; rw [(opX_C hc).2]; omega) ⟨_, rfl, rfl, ?_⟩)
                        refine aw_ws (w9 := mW G.2.2.1 a (codeF (nx (opW σ)) (leafO σ) (numN (opW σ)) (numN (nx (opW σ))))) rfl ?_
                        refine aw_aload_n (pc := 249) (i := 0) dX12_operand_249 rfl rfl ?_
                        refine mc_V (pc := 250) (As := []) (rest := []) dX12_operand_250 rfl ok_X12_204 rfl rfl rfl (Nat.le_of_ble_eq_true rfl) (s_nx (PV_code (PV_nx (PV_opW h))) ⟨_, rfl, rfl, ?_⟩)
                        refine aw_ws (w9 := mW G.2.2.1 a (nx (codeF (nx (opW σ)) (leafO σ) (numN (opW σ)) (numN (nx (opW σ)))))) rfl ?_
                        refine aw_iconst (pc := 253) dX12_operand_253 iconst_1 ?_
                        exact ab_ret1 (pc := 254) dX12_operand_254 rfl (Nat.le_refl _) (Nat.le_refl _) (by simp only [operandF, opG, opL, opB, opM, (Nat.ne_of_lt hlf), h21, h25, h44, h53, (Nat.not_lt.mpr h53), h133, (Nat.not_lt.mpr h133), h147, (Nat.not_lt.mpr h147), h187, h196, (Nat.not_lt.mpr h196), h205, (Nat.not_lt.mpr h205), h229, Bool.true_and, Bool.and_true, Bool.false_and, Bool.and_false, Bool.not_true, Bool.not_false, Bool.or_true, Bool.or_false, Bool.true_or, Bool.false_or, Bool.false_eq_true, Bool.true_eq_false, if_true, if_false, ite_true, ite_false, reduceIte, reduceCtorEq] at kk; exact kk)
                      · -- 232
                        refine aw_aload_n (pc := 232) (i := 0) dX12_operand_232 rfl rfl ?_
                        refine aw_iconst (pc := 233) dX12_operand_233 iconst_1 ?_
                        refine mc_I (pc := 234) (As := [.int (nI 1)]) (rest := []) dX12_operand_234 rfl ok_X12_201 rfl rfl rfl (Nat.le_of_ble_eq_true rfl) (s_bad ⟨_, _, rfl, rfl, ?_⟩)
                        refine aw_ws (w9 := mW G.2.2.1 a (badF (nx (opW σ)) 1)) rfl ?_
                        exact ab_ret (pc := 237) dX12_operand_237 rfl (Nat.le_refl _) (Nat.le_refl _) (by simp only [operandF, opG, opL, opB, opM, (Nat.ne_of_lt hlf), h21, h25, h44, h53, (Nat.not_lt.mpr h53), h133, (Nat.not_lt.mpr h133), h147, (Nat.not_lt.mpr h147), h187, h196, (Nat.not_lt.mpr h196), h205, (Nat.not_lt.mpr h205), h229, Bool.true_and, Bool.and_true, Bool.false_and, Bool.and_false, Bool.not_true, Bool.not_false, Bool.or_true, Bool.or_false, Bool.true_or, Bool.false_or, Bool.false_eq_true, Bool.true_eq_false, if_true, if_false, ite_true, ite_false, reduceIte, reduceCtorEq] at kk; exact kk)
                    · -- 208
                      refine aw_aload_n (pc := 208) (i := 0) dX12_operand_208 rfl rfl ?_
                      refine aw_iconst (pc := 209) dX12_operand_209 iconst_1 ?_
                      refine mc_I (pc := 210) (As := [.int (nI 1)]) (rest := []) dX12_operand_210 rfl ok_X12_201 rfl rfl rfl (Nat.le_of_ble_eq_true rfl) (s_bad ⟨_, _, rfl, rfl, ?_⟩)
                      refine aw_ws (w9 := mW G.2.2.1 a (badF (opW σ) 1)) rfl ?_
                      exact ab_ret (pc := 213) dX12_operand_213 rfl (Nat.le_refl _) (Nat.le_refl _) (by simp only [operandF, opG, opL, opB, opM, (Nat.ne_of_lt hlf), h21, h25, h44, h53, (Nat.not_lt.mpr h53), h133, (Nat.not_lt.mpr h133), h147, (Nat.not_lt.mpr h147), h187, h196, (Nat.not_lt.mpr h196), h205, (Nat.not_le.mpr h205), Bool.true_and, Bool.and_true, Bool.false_and, Bool.and_false, Bool.not_true, Bool.not_false, Bool.or_true, Bool.or_false, Bool.true_or, Bool.false_or, Bool.false_eq_true, Bool.true_eq_false, if_true, if_false, ite_true, ite_false, reduceIte, reduceCtorEq] at kk; exact kk)
              · -- 150
                refine aw_aload_n (pc := 150) (i := 0) dX12_operand_150 rfl rfl ?_
                refine aw_iconst (pc := 151) dX12_operand_151 iconst_0 ?_
                refine aw_aload_n (pc := 152) (i := 0) dX12_operand_152 rfl rfl ?_
                refine mg_s (pc := 153) dX12_operand_153 rfl ?_
                refine aw_iconst (pc := 156) dX12_operand_156 iconst_0 ?_
                refine ml_s (pc := 157) dX12_operand_157 (by decide) ?_
                refine aw_top (y := (nI ((opN σ).2.1 6 0))) rfl ?_
                refine mc_I (pc := 158) (As := [.int (nI 0), .int (nI ((opN σ).2.1 6 0))]) (rest := []) dX12_operand_158 rfl ok_X12_226 rfl rfl rfl (Nat.le_of_ble_eq_true rfl) (s_looksAt (by show 0 + σ.2.1 6 0 ≤ 26; omega) ⟨_, _, rfl, rfl, ?_⟩)
                refine aw_top (y := bI (opA σ).1) rfl ?_
                refine aw_ws (w9 := mW G.2.2.1 a (opA σ).2) rfl ?_
                refine ab_if_ne (pc := 161) (tgt := 166) dX12_operand_161 rfl (fun h161 => ?_) (fun h161 => ?_)
                · -- 166
                  refine aw_aload_n (pc := 166) (i := 0) dX12_operand_166 rfl rfl ?_
                  refine aw_iload_n (pc := 167) (i := 3) dX12_operand_167 rfl rfl ?_
                  refine aw_iconst (pc := 168) dX12_operand_168 iconst_0 ?_
                  refine aw_aload_n (pc := 169) (i := 0) dX12_operand_169 rfl rfl ?_
                  refine mg_got (pc := 170) dX12_operand_170 rfl ?_
                  refine aw_top (y := (nI (opI σ))) (looks_got h161) ?_
                  refine mc_V (pc := 173) (As := [.int (nI (leafO σ)), .int (nI 0), .int (nI (opI σ))]) (rest := []) dX12_operand_173 rfl ok_X12_456 rfl rfl rfl (Nat.le_of_ble_eq_true rfl) (s_code (opA_C hc h161).1 (by rw [(opA_C hc h161).2]; omega) ⟨_, rfl, rfl, ?_⟩)
                  refine aw_ws (w9 := mW G.2.2.1 a (codeF (opA σ).2 (leafO σ) 0 (opI σ))) rfl ?_
                  refine aw_aload_n (pc := 176) (i := 0) dX12_operand_176 rfl rfl ?_
                  refine mc_V (pc := 177) (As := []) (rest := []) dX12_operand_177 rfl ok_X12_204 rfl rfl rfl (Nat.le_of_ble_eq_true rfl) (s_nx (PV_code (PV_looks (PV_opW h))) ⟨_, rfl, rfl, ?_⟩)
                  refine aw_ws (w9 := mW G.2.2.1 a (nx (codeF (opA σ).2 (leafO σ) 0 (opI σ)))) rfl ?_
                  refine aw_iconst (pc := 180) dX12_operand_180 iconst_1 ?_
                  exact ab_ret1 (pc := 181) dX12_operand_181 rfl (Nat.le_refl _) (Nat.le_refl _) (by simp only [operandF, opG, opL, opB, opM, (Nat.ne_of_lt hlf), h21, h25, h44, h53, (Nat.not_lt.mpr h53), h133, (Nat.not_lt.mpr h133), h147, (Nat.not_le.mpr h147), h161, Bool.true_and, Bool.and_true, Bool.false_and, Bool.and_false, Bool.not_true, Bool.not_false, Bool.or_true, Bool.or_false, Bool.true_or, Bool.false_or, Bool.false_eq_true, Bool.true_eq_false, if_true, if_false, ite_true, ite_false, reduceIte, reduceCtorEq] at kk; exact kk)
                · -- 164
                  refine aw_iconst (pc := 164) dX12_operand_164 iconst_0 ?_
                  exact ab_ret0 (pc := 165) dX12_operand_165 rfl (Nat.le_refl _) (Nat.le_refl _) (by simp only [operandF, opG, opL, opB, opM, (Nat.ne_of_lt hlf), h21, h25, h44, h53, (Nat.not_lt.mpr h53), h133, (Nat.not_lt.mpr h133), h147, (Nat.not_le.mpr h147), h161, Bool.true_and, Bool.and_true, Bool.false_and, Bool.and_false, Bool.not_true, Bool.not_false, Bool.or_true, Bool.or_false, Bool.true_or, Bool.false_or, Bool.false_eq_true, Bool.true_eq_false, if_true, if_false, ite_true, ite_false, reduceIte, reduceCtorEq] at kk; exact kk)
            · -- 136
              refine aw_aload_n (pc := 136) (i := 0) dX12_operand_136 rfl rfl ?_
              refine aw_iload_n (pc := 137) (i := 3) dX12_operand_137 rfl rfl ?_
              refine aw_iconst (pc := 138) dX12_operand_138 iconst_0 ?_
              refine aw_iconst (pc := 139) dX12_operand_139 iconst_0 ?_
              refine mc_V (pc := 140) (As := [.int (nI (leafO σ)), .int (nI 0), .int (nI 0)]) (rest := []) dX12_operand_140 rfl ok_X12_456 rfl rfl rfl (Nat.le_of_ble_eq_true rfl) (s_code (opW_C hc).1 (by show sC (opW σ) ≤ 52; rw [(opW_C hc).2]; omega) ⟨_, rfl, rfl, ?_⟩)
              refine aw_ws (w9 := mW G.2.2.1 a (codeF (opW σ) (leafO σ) 0 0)) rfl ?_
              refine aw_iconst (pc := 143) dX12_operand_143 iconst_1 ?_
              exact ab_ret1 (pc := 144) dX12_operand_144 rfl (Nat.le_refl _) (Nat.le_refl _) (by simp only [operandF, opG, opL, opB, opM, (Nat.ne_of_lt hlf), h21, h25, h44, h53, (Nat.not_lt.mpr h53), h133, (Nat.not_le.mpr h133), Bool.true_and, Bool.and_true, Bool.false_and, Bool.and_false, Bool.not_true, Bool.not_false, Bool.or_true, Bool.or_false, Bool.true_or, Bool.false_or, Bool.false_eq_true, Bool.true_eq_false, if_true, if_false, ite_true, ite_false, reduceIte, reduceCtorEq] at kk; exact kk)
          · -- 56
            refine aw_aload_n (pc := 56) (i := 0) dX12_operand_56 rfl rfl ?_
            refine aw_iconst (pc := 57) dX12_operand_57 iconst_4 ?_
            refine mc_I (pc := 58) (As := [.int (nI 4)]) (rest := []) dX12_operand_58 rfl ok_X12_201 rfl rfl rfl (Nat.le_of_ble_eq_true rfl) (s_bad ⟨_, _, rfl, rfl, ?_⟩)
            refine aw_ws (w9 := mW G.2.2.1 a (badF σ 4)) rfl ?_
            exact ab_ret (pc := 61) dX12_operand_61 rfl (Nat.le_refl _) (Nat.le_refl _) (by simp only [operandF, opG, opL, opB, opM, (Nat.ne_of_lt hlf), h21, h25, h44, h53, (Nat.not_le.mpr h53), Bool.true_and, Bool.and_true, Bool.false_and, Bool.and_false, Bool.not_true, Bool.not_false, Bool.or_true, Bool.or_false, Bool.true_or, Bool.false_or, Bool.false_eq_true, Bool.true_eq_false, if_true, if_false, ite_true, ite_false, reduceIte, reduceCtorEq] at kk; exact kk)
  · -- call
    refine aw_istore_n (pc := 19) (i := 3) dX12_operand_19 rfl (Nat.le_of_ble_eq_true rfl) rfl ?_
    refine aw_iload_n (pc := 20) (i := 1) dX12_operand_20 rfl rfl ?_
    refine ab_if_ne (pc := 21) (tgt := 38) dX12_operand_21 rfl (fun h21 => ?_) (fun h21 => ?_)
    · -- 38
      refine aw_aload_n (pc := 38) (i := 0) dX12_operand_38 rfl rfl ?_
      refine mg_ones (pc := 39) dX12_operand_39 rfl ?_
      refine aw_top (y := (nI (sO σ))) ho ?_
      refine aw_bipush (pc := 42) dX12_operand_42 bipush_20 ?_
      refine an_icmp_eq (pc := 44) (tgt := 56) dX12_operand_44 rfl (by omega) (by decide) (fun h44 => ?_) (fun h44 => ?_)
      · -- 56
        refine aw_aload_n (pc := 56) (i := 0) dX12_operand_56 rfl rfl ?_
        refine aw_iconst (pc := 57) dX12_operand_57 iconst_4 ?_
        refine mc_I (pc := 58) (As := [.int (nI 4)]) (rest := []) dX12_operand_58 rfl ok_X12_201 rfl rfl rfl (Nat.le_of_ble_eq_true rfl) (s_bad ⟨_, _, rfl, rfl, ?_⟩)
        refine aw_ws (w9 := mW G.2.2.1 a (badF σ 4)) rfl ?_
        exact ab_ret (pc := 61) dX12_operand_61 rfl (Nat.le_refl _) (Nat.le_refl _) (by simp only [operandF, opG, opL, opB, opM, hlf, h21, h44, Bool.true_and, Bool.and_true, Bool.false_and, Bool.and_false, Bool.not_true, Bool.not_false, Bool.or_true, Bool.or_false, Bool.true_or, Bool.false_or, Bool.false_eq_true, Bool.true_eq_false, if_true, if_false, ite_true, ite_false, reduceIte, reduceCtorEq] at kk; exact kk)
      · -- 47
        refine aw_aload_n (pc := 47) (i := 0) dX12_operand_47 rfl rfl ?_
        refine mg_deep (pc := 48) dX12_operand_48 rfl ?_
        refine aw_top (y := (nI (sE σ))) he ?_
        refine aw_bipush (pc := 51) dX12_operand_51 bipush_8 ?_
        refine an_icmp_le (pc := 53) (tgt := 62) dX12_operand_53 rfl (by omega) (by decide) (fun h53 => ?_) (fun h53 => ?_)
        · -- 62
          refine aw_aload_n (pc := 62) (i := 0) dX12_operand_62 rfl rfl ?_
          refine aw_dup (pc := 63) dX12_operand_63 rfl ?_
          refine mg_ones (pc := 64) dX12_operand_64 rfl ?_
          refine aw_top (y := (nI (sO σ))) ho ?_
          refine aw_iconst (pc := 67) dX12_operand_67 iconst_1 ?_
          refine an_add (pc := 68) dX12_operand_68 ?_
          refine mp_ones (pc := 69) dX12_operand_69 rfl ?_
          refine aw_aload_n (pc := 72) (i := 0) dX12_operand_72 rfl rfl ?_
          refine mc_V (pc := 73) (As := []) (rest := []) dX12_operand_73 rfl ok_X12_204 rfl rfl rfl (Nat.le_of_ble_eq_true rfl) (s_nx (PV_mI h (by decide)) ⟨_, rfl, rfl, ?_⟩)
          refine aw_ws (w9 := mW G.2.2.1 a (opN σ)) rfl ?_
          refine aw_iload_n (pc := 76) (i := 1) dX12_operand_76 rfl rfl ?_
          refine ab_if_ne (pc := 77) (tgt := 84) dX12_operand_77 rfl (fun h77 => ?_) (fun h77 => absurd (h21.symm.trans h77) (by decide))
          refine aw_aload_n (pc := 84) (i := 0) dX12_operand_84 rfl rfl ?_
          refine mg_stack (pc := 85) dX12_operand_85 rfl ?_
          refine aw_aload_n (pc := 88) (i := 0) dX12_operand_88 rfl rfl ?_
          refine mg_top (pc := 89) dX12_operand_89 rfl ?_
          refine aw_top (y := (nI (sT σ))) ((opN_sc (by decide)).trans ht) ?_
          refine aw_iload_n (pc := 92) (i := 1) dX12_operand_92 rfl rfl ?_
          refine ab_if_eq (pc := 93) (tgt := 101) dX12_operand_93 rfl (fun h93 => absurd (h21.symm.trans h93) (by decide)) (fun h93 => ?_)
          refine aw_bipush (pc := 96) dX12_operand_96 bipush_20 ?_
          refine aw_goto (pc := 98) (tgt := 103) dX12_operand_98 rfl ?_
          refine ms_stack (pc := 103) dX12_operand_103 (by omega) ?_
          refine aw_aload_n (pc := 104) (i := 0) dX12_operand_104 rfl rfl ?_
          refine aw_dup (pc := 105) dX12_operand_105 rfl ?_
          refine mg_top (pc := 106) dX12_operand_106 rfl ?_
          refine aw_top (y := (opN σ).1 53) rfl ?_
          refine aw_top (y := (nI (sT σ))) ((opN_sc (by decide)).trans ht) ?_
          refine aw_iconst (pc := 109) dX12_operand_109 iconst_1 ?_
          refine an_add (pc := 110) dX12_operand_110 ?_
          refine mp_top (pc := 111) dX12_operand_111 rfl ?_
          refine aw_aload_n (pc := 114) (i := 0) dX12_operand_114 rfl rfl ?_
          refine aw_dup (pc := 115) dX12_operand_115 rfl ?_
          refine mg_deep (pc := 116) dX12_operand_116 rfl ?_
          refine aw_top (y := (opN σ).1 54) rfl ?_
          refine aw_top (y := (nI (sE σ))) ((opN_sc (by decide)).trans he) ?_
          refine aw_iconst (pc := 119) dX12_operand_119 iconst_1 ?_
          refine an_add (pc := 120) dX12_operand_120 ?_
          refine mp_deep (pc := 121) dX12_operand_121 rfl ?_
          refine aw_iconst (pc := 124) dX12_operand_124 iconst_1 ?_
          exact ab_ret1 (pc := 125) dX12_operand_125 rfl (Nat.le_refl _) (Nat.le_refl _) (by simp only [operandF, opG, opL, opB, opM, hlf, h21, h44, h53, (Nat.not_lt.mpr h53), Bool.true_and, Bool.and_true, Bool.false_and, Bool.and_false, Bool.not_true, Bool.not_false, Bool.or_true, Bool.or_false, Bool.true_or, Bool.false_or, Bool.false_eq_true, Bool.true_eq_false, if_true, if_false, ite_true, ite_false, reduceIte, reduceCtorEq] at kk; exact kk)
        · -- 56
          refine aw_aload_n (pc := 56) (i := 0) dX12_operand_56 rfl rfl ?_
          refine aw_iconst (pc := 57) dX12_operand_57 iconst_4 ?_
          refine mc_I (pc := 58) (As := [.int (nI 4)]) (rest := []) dX12_operand_58 rfl ok_X12_201 rfl rfl rfl (Nat.le_of_ble_eq_true rfl) (s_bad ⟨_, _, rfl, rfl, ?_⟩)
          refine aw_ws (w9 := mW G.2.2.1 a (badF σ 4)) rfl ?_
          exact ab_ret (pc := 61) dX12_operand_61 rfl (Nat.le_refl _) (Nat.le_refl _) (by simp only [operandF, opG, opL, opB, opM, hlf, h21, h44, h53, (Nat.not_le.mpr h53), Bool.true_and, Bool.and_true, Bool.false_and, Bool.and_false, Bool.not_true, Bool.not_false, Bool.or_true, Bool.or_false, Bool.true_or, Bool.false_or, Bool.false_eq_true, Bool.true_eq_false, if_true, if_false, ite_true, ite_false, reduceIte, reduceCtorEq] at kk; exact kk)
    · -- 24
      refine aw_iload_n (pc := 24) (i := 2) dX12_operand_24 rfl rfl ?_
      refine ab_if_ne (pc := 25) (tgt := 38) dX12_operand_25 rfl (fun h25 => ?_) (fun h25 => ?_)
      · -- 38
        refine aw_aload_n (pc := 38) (i := 0) dX12_operand_38 rfl rfl ?_
        refine mg_ones (pc := 39) dX12_operand_39 rfl ?_
        refine aw_top (y := (nI (sO σ))) ho ?_
        refine aw_bipush (pc := 42) dX12_operand_42 bipush_20 ?_
        refine an_icmp_eq (pc := 44) (tgt := 56) dX12_operand_44 rfl (by omega) (by decide) (fun h44 => ?_) (fun h44 => ?_)
        · -- 56
          refine aw_aload_n (pc := 56) (i := 0) dX12_operand_56 rfl rfl ?_
          refine aw_iconst (pc := 57) dX12_operand_57 iconst_4 ?_
          refine mc_I (pc := 58) (As := [.int (nI 4)]) (rest := []) dX12_operand_58 rfl ok_X12_201 rfl rfl rfl (Nat.le_of_ble_eq_true rfl) (s_bad ⟨_, _, rfl, rfl, ?_⟩)
          refine aw_ws (w9 := mW G.2.2.1 a (badF σ 4)) rfl ?_
          exact ab_ret (pc := 61) dX12_operand_61 rfl (Nat.le_refl _) (Nat.le_refl _) (by simp only [operandF, opG, opL, opB, opM, hlf, h21, h25, h44, Bool.true_and, Bool.and_true, Bool.false_and, Bool.and_false, Bool.not_true, Bool.not_false, Bool.or_true, Bool.or_false, Bool.true_or, Bool.false_or, Bool.false_eq_true, Bool.true_eq_false, if_true, if_false, ite_true, ite_false, reduceIte, reduceCtorEq] at kk; exact kk)
        · -- 47
          refine aw_aload_n (pc := 47) (i := 0) dX12_operand_47 rfl rfl ?_
          refine mg_deep (pc := 48) dX12_operand_48 rfl ?_
          refine aw_top (y := (nI (sE σ))) he ?_
          refine aw_bipush (pc := 51) dX12_operand_51 bipush_8 ?_
          refine an_icmp_le (pc := 53) (tgt := 62) dX12_operand_53 rfl (by omega) (by decide) (fun h53 => ?_) (fun h53 => ?_)
          · -- 62
            refine aw_aload_n (pc := 62) (i := 0) dX12_operand_62 rfl rfl ?_
            refine aw_dup (pc := 63) dX12_operand_63 rfl ?_
            refine mg_ones (pc := 64) dX12_operand_64 rfl ?_
            refine aw_top (y := (nI (sO σ))) ho ?_
            refine aw_iconst (pc := 67) dX12_operand_67 iconst_1 ?_
            refine an_add (pc := 68) dX12_operand_68 ?_
            refine mp_ones (pc := 69) dX12_operand_69 rfl ?_
            refine aw_aload_n (pc := 72) (i := 0) dX12_operand_72 rfl rfl ?_
            refine mc_V (pc := 73) (As := []) (rest := []) dX12_operand_73 rfl ok_X12_204 rfl rfl rfl (Nat.le_of_ble_eq_true rfl) (s_nx (PV_mI h (by decide)) ⟨_, rfl, rfl, ?_⟩)
            refine aw_ws (w9 := mW G.2.2.1 a (opN σ)) rfl ?_
            refine aw_iload_n (pc := 76) (i := 1) dX12_operand_76 rfl rfl ?_
            refine ab_if_ne (pc := 77) (tgt := 84) dX12_operand_77 rfl (fun h77 => absurd (h21.symm.trans h77) (by decide)) (fun h77 => ?_)
            refine aw_iload_n (pc := 80) (i := 2) dX12_operand_80 rfl rfl ?_
            refine ab_if_eq (pc := 81) (tgt := 126) dX12_operand_81 rfl (fun h81 => absurd (h25.symm.trans h81) (by decide)) (fun h81 => ?_)
            refine aw_aload_n (pc := 84) (i := 0) dX12_operand_84 rfl rfl ?_
            refine mg_stack (pc := 85) dX12_operand_85 rfl ?_
            refine aw_aload_n (pc := 88) (i := 0) dX12_operand_88 rfl rfl ?_
            refine mg_top (pc := 89) dX12_operand_89 rfl ?_
            refine aw_top (y := (nI (sT σ))) ((opN_sc (by decide)).trans ht) ?_
            refine aw_iload_n (pc := 92) (i := 1) dX12_operand_92 rfl rfl ?_
            refine ab_if_eq (pc := 93) (tgt := 101) dX12_operand_93 rfl (fun h93 => ?_) (fun h93 => absurd (h21.symm.trans h93) (by decide))
            refine aw_bipush (pc := 101) dX12_operand_101 bipush_23 ?_
            refine ms_stack (pc := 103) dX12_operand_103 (by omega) ?_
            refine aw_aload_n (pc := 104) (i := 0) dX12_operand_104 rfl rfl ?_
            refine aw_dup (pc := 105) dX12_operand_105 rfl ?_
            refine mg_top (pc := 106) dX12_operand_106 rfl ?_
            refine aw_top (y := (opN σ).1 53) rfl ?_
            refine aw_top (y := (nI (sT σ))) ((opN_sc (by decide)).trans ht) ?_
            refine aw_iconst (pc := 109) dX12_operand_109 iconst_1 ?_
            refine an_add (pc := 110) dX12_operand_110 ?_
            refine mp_top (pc := 111) dX12_operand_111 rfl ?_
            refine aw_aload_n (pc := 114) (i := 0) dX12_operand_114 rfl rfl ?_
            refine aw_dup (pc := 115) dX12_operand_115 rfl ?_
            refine mg_deep (pc := 116) dX12_operand_116 rfl ?_
            refine aw_top (y := (opN σ).1 54) rfl ?_
            refine aw_top (y := (nI (sE σ))) ((opN_sc (by decide)).trans he) ?_
            refine aw_iconst (pc := 119) dX12_operand_119 iconst_1 ?_
            refine an_add (pc := 120) dX12_operand_120 ?_
            refine mp_deep (pc := 121) dX12_operand_121 rfl ?_
            refine aw_iconst (pc := 124) dX12_operand_124 iconst_1 ?_
            exact ab_ret1 (pc := 125) dX12_operand_125 rfl (Nat.le_refl _) (Nat.le_refl _) (by simp only [operandF, opG, opL, opB, opM, hlf, h21, h25, h44, h53, (Nat.not_lt.mpr h53), Bool.true_and, Bool.and_true, Bool.false_and, Bool.and_false, Bool.not_true, Bool.not_false, Bool.or_true, Bool.or_false, Bool.true_or, Bool.false_or, Bool.false_eq_true, Bool.true_eq_false, if_true, if_false, ite_true, ite_false, reduceIte, reduceCtorEq] at kk; exact kk)
          · -- 56
            refine aw_aload_n (pc := 56) (i := 0) dX12_operand_56 rfl rfl ?_
            refine aw_iconst (pc := 57) dX12_operand_57 iconst_4 ?_
            refine mc_I (pc := 58) (As := [.int (nI 4)]) (rest := []) dX12_operand_58 rfl ok_X12_201 rfl rfl rfl (Nat.le_of_ble_eq_true rfl) (s_bad ⟨_, _, rfl, rfl, ?_⟩)
            refine aw_ws (w9 := mW G.2.2.1 a (badF σ 4)) rfl ?_
            exact ab_ret (pc := 61) dX12_operand_61 rfl (Nat.le_refl _) (Nat.le_refl _) (by simp only [operandF, opG, opL, opB, opM, hlf, h21, h25, h44, h53, (Nat.not_le.mpr h53), Bool.true_and, Bool.and_true, Bool.false_and, Bool.and_false, Bool.not_true, Bool.not_false, Bool.or_true, Bool.or_false, Bool.true_or, Bool.false_or, Bool.false_eq_true, Bool.true_eq_false, if_true, if_false, ite_true, ite_false, reduceIte, reduceCtorEq] at kk; exact kk)
      · -- 28
        refine aw_iload_n (pc := 28) (i := 3) dX12_operand_28 rfl rfl ?_
        refine an_ifm_ge (pc := 29) (tgt := 38) dX12_operand_29 rfl ?_
        refine aw_aload_n (pc := 32) (i := 0) dX12_operand_32 rfl rfl ?_
        refine aw_iconst (pc := 33) dX12_operand_33 iconst_1 ?_
        refine mc_I (pc := 34) (As := [.int (nI 1)]) (rest := []) dX12_operand_34 rfl ok_X12_201 rfl rfl rfl (Nat.le_of_ble_eq_true rfl) (s_bad ⟨_, _, rfl, rfl, ?_⟩)
        refine aw_ws (w9 := mW G.2.2.1 a (badF σ 1)) rfl ?_
        exact ab_ret (pc := 37) dX12_operand_37 rfl (Nat.le_refl _) (Nat.le_refl _) (by simp only [operandF, opG, opL, opB, opM, hlf, h21, h25, Bool.true_and, Bool.and_true, Bool.false_and, Bool.and_false, Bool.not_true, Bool.not_false, Bool.or_true, Bool.or_false, Bool.true_or, Bool.false_or, Bool.false_eq_true, Bool.true_eq_false, if_true, if_false, ite_true, ite_false, reduceIte, reduceCtorEq] at kk; exact kk)
theorem dpF_cong {f g : Nat → Nat} {b : Nat} : ∀ i, (∀ j, b ≤ j → j < b + 3 * i → f j = g j) → dpF f b i = dpF g b i := by
  intro i
  induction i with
  | zero => intro _; rfl
  | succ i ih =>
    intro h
    unfold dpF
    rw [ih (fun j h0 hj => h j h0 (by omega)), h (b + 3 * i) (by omega) (by omega), h (b + 3 * i + 2) (by omega) (by omega)]
theorem dpF_base (f g : Nat → Nat) (b c : Nat) : ∀ i, (∀ j, j < 3 * i → f (b + j) = g (c + j)) → dpF f b i = dpF g c i := by
  intro i
  induction i with
  | zero => intro _; rfl
  | succ i ih =>
    intro h
    unfold dpF
    rw [ih (fun j hj => h j (by omega)), h (3 * i) (by omega), show b + 3 * i + 2 = b + (3 * i + 2) by omega, show c + 3 * i + 2 = c + (3 * i + 2) by omega, h (3 * i + 2) (by omega)]
theorem cnO_cong {f g : Nat → Nat} : ∀ n, (∀ j, j < n → f j = g j) → cnO f n = cnO g n := by
  intro n
  induction n with
  | zero => intro _; rfl
  | succ n ih => intro h; unfold cnO; rw [ih (fun j hj => h j (by omega)), h n (by omega)]
theorem cnJ_cong {f g : Nat → Nat} : ∀ n, (∀ j, j < n → f j = g j) → cnJ f n = cnJ g n := by
  intro n
  induction n with
  | zero => intro _; rfl
  | succ n ih => intro h; unfold cnJ; rw [ih (fun j hj => h j (by omega)), h n (by omega)]
theorem code_8 (σ : mS) (x y z : Nat) : (codeF σ x y z).2.1 8 = upN (upN (upN (σ.2.1 8) (3 * sC σ) x) (3 * sC σ + 1) y) (3 * sC σ + 2) z := rfl
theorem code_o (σ : mS) (x y z k : Nat) (h : ¬ k = 8) : (codeF σ x y z).2.1 k = σ.2.1 k := by
  show upN (upN (upN σ.2.1 8 _) 8 _) 8 _ k = _
  rw [upN_n _ _ _ _ h, upN_n _ _ _ _ h, upN_n _ _ _ _ h]
theorem code_sc (σ : mS) (x y z k : Nat) (h : ¬ k = 51) : (codeF σ x y z).1 k = σ.1 k := upN_n _ _ _ _ h
theorem code_51 (σ : mS) (x y z : Nat) : (codeF σ x y z).1 51 = nI (sC σ + 1) := rfl
theorem dp_code {f : Nat → Nat} {c x y z D : Nat} (hd : dpF f 0 c = some D) : dpF (upN (upN (upN f (3 * c) x) (3 * c + 1) y) (3 * c + 2) z) 0 (c + 1) = dpS D x z := by
  have e : dpF (upN (upN (upN f (3 * c) x) (3 * c + 1) y) (3 * c + 2) z) 0 c = some D := by
    rw [← hd]
    exact dpF_cong c (fun j _ hj => by rw [upN_n _ _ _ _ (by omega), upN_n _ _ _ _ (by omega), upN_n _ _ _ _ (by omega)])
  rw [dpF, e]
  show dpS D (upN _ _ _ (0 + 3 * c)) (upN _ _ _ (0 + 3 * c + 2)) = _
  rw [Nat.zero_add, upN_s, upN_n _ _ _ _ (by omega), upN_n _ _ _ _ (by omega), upN_s]
theorem lt_code {f : Nat → Nat} {c x y z B : Nat} (h : ∀ j, j < 3 * c → f j < B) (hx : x < B) (hy : y < B) (hz : z < B) : ∀ j, j < 3 * (c + 1) → upN (upN (upN f (3 * c) x) (3 * c + 1) y) (3 * c + 2) z j < B := by
  intro j hj
  by_cases h2 : j = 3 * c + 2
  · subst h2; rw [upN_s]; exact hz
  · rw [upN_n _ _ _ _ h2]
    by_cases h1 : j = 3 * c + 1
    · subst h1; rw [upN_s]; exact hy
    · rw [upN_n _ _ _ _ h1]
      by_cases h0 : j = 3 * c
      · subst h0; rw [upN_s]; exact hx
      · rw [upN_n _ _ _ _ h0]; exact h j (by omega)
theorem SV_mk {σ : mS} {b : Bool} {c o t e : Nat} (hv : PV σ) (h51 : σ.1 51 = nI c) (h52 : σ.1 52 = nI o) (h53 : σ.1 53 = nI t) (h54 : σ.1 54 = nI e) (h55 : σ.1 55 = bI b) (ho : o ≤ 20) (hct : c + t + b1 b ≤ 2 * o) (he : e = 1 + cnO (σ.2.1 50) t) (hs : ∀ j, j < t → 20 ≤ σ.2.1 50 j ∧ σ.2.1 50 j ≤ 23) (hd : dpF (σ.2.1 8) 0 c = some (cnJ (σ.2.1 50) t + b1 b)) (h8 : ∀ j, j < 3 * c → σ.2.1 8 j < 1024) : SV σ b := by
  have hcn := cnO_le (σ.2.1 50) t
  have ec : sC σ = c := sX_of h51 (by omega)
  have eo : sO σ = o := sX_of h52 (by omega)
  have et : sT σ = t := sX_of h53 (by omega)
  have ee : sE σ = e := sX_of h54 (by omega)
  unfold SV
  rw [ec, eo, et, ee]
  exact ⟨hv, h51, h52, h53, h54, h55, ho, hct, he, hs, hd, h8⟩
theorem SV_pop20 {σ : mS} {n : Nat} (H : SV σ true) (ht : sT σ = n + 1) (h20 : σ.2.1 50 n = 20) : SV (codeF (mI (mI σ 53 (nI n)) 54 (nI (sE σ - 1))) 20 0 0) true := by
  obtain ⟨hv, h51, h52, h53, h54, h55, ho, hct, he, hs, hd, h8⟩ := H
  rw [ht] at hct he hs hd
  have c1 : cnO (σ.2.1 50) (n + 1) = cnO (σ.2.1 50) n + 1 := by rw [cnO, if_pos (Or.inl h20)]
  have c2 : cnJ (σ.2.1 50) (n + 1) = cnJ (σ.2.1 50) n := by rw [cnJ, if_neg (by omega)]; rfl
  have b : b1 true = 1 := rfl
  rw [c1] at he
  rw [c2] at hd
  refine SV_mk (c := sC σ + 1) (o := sO σ) (t := n) (e := sE σ - 1) (PV_code (PV_mI (PV_mI hv (by decide)) (by decide))) (code_51 _ _ _ _) (by rw [code_sc _ _ _ _ _ (by decide)]; exact h52) (by rw [code_sc _ _ _ _ _ (by decide)]; rfl) (by rw [code_sc _ _ _ _ _ (by decide)]; rfl) (by rw [code_sc _ _ _ _ _ (by decide)]; exact h55) ho (by omega) (by rw [code_o _ _ _ _ _ (by decide)]; show sE σ - 1 = 1 + cnO (σ.2.1 50) n; omega) (fun j hj => by rw [code_o _ _ _ _ _ (by decide)]; exact hs j (by omega)) ?_ ?_
  · rw [code_8, code_o _ _ _ _ _ (by decide)]
    refine (dp_code (c := sC σ) hd).trans ?_
    show dpS (cnJ (σ.2.1 50) n + 1) 20 0 = some (cnJ (σ.2.1 50) n + 1)
    unfold dpS
    rw [if_pos rfl, if_pos (by omega)]
  · rw [code_8]
    exact lt_code (f := σ.2.1 8) (c := sC σ) h8 (by decide) (by decide) (by decide)
theorem SV_popJ {σ : mS} {n x : Nat} (H : SV σ true) (ht : sT σ = n + 1) (hx : σ.2.1 50 n = x) (h2 : x = 21 ∨ x = 22) : SV (codeF (mI σ 53 (nI n)) x 0 0) true := by
  obtain ⟨hv, h51, h52, h53, h54, h55, ho, hct, he, hs, hd, h8⟩ := H
  rw [ht] at hct he hs hd
  have c1 : cnO (σ.2.1 50) (n + 1) = cnO (σ.2.1 50) n := by rw [cnO, if_neg (by omega)]; rfl
  have c2 : cnJ (σ.2.1 50) (n + 1) = cnJ (σ.2.1 50) n + 1 := by rw [cnJ, if_pos (by omega)]
  have b : b1 true = 1 := rfl
  rw [c1] at he
  rw [c2] at hd
  refine SV_mk (c := sC σ + 1) (o := sO σ) (t := n) (e := sE σ) (PV_code (PV_mI hv (by decide))) (code_51 _ _ _ _) (by rw [code_sc _ _ _ _ _ (by decide)]; exact h52) (by rw [code_sc _ _ _ _ _ (by decide)]; rfl) (by rw [code_sc _ _ _ _ _ (by decide)]; exact h54) (by rw [code_sc _ _ _ _ _ (by decide)]; exact h55) ho (by omega) (by rw [code_o _ _ _ _ _ (by decide)]; exact he) (fun j hj => by rw [code_o _ _ _ _ _ (by decide)]; exact hs j (by omega)) ?_ ?_
  · rw [code_8, code_o _ _ _ _ _ (by decide)]
    refine (dp_code (c := sC σ) hd).trans ?_
    show dpS (cnJ (σ.2.1 50) n + 1 + 1) x 0 = some (cnJ (σ.2.1 50) n + 1)
    unfold dpS
    rw [if_neg (by omega), if_pos h2, if_pos (by omega)]
    rfl
  · rw [code_8]
    exact lt_code (f := σ.2.1 8) (c := sC σ) h8 (by omega) (by decide) (by decide)
/-- what nots and joins leave -/
def SF (σ σ' : mS) : Prop := (∀ k, ¬ k = 51 → ¬ k = 53 → ¬ k = 54 → σ'.1 k = σ.1 k) ∧ (∀ k, ¬ k = 8 → σ'.2.1 k = σ.2.1 k) ∧ σ'.2.2 = σ.2.2
theorem SF_rf (σ : mS) : SF σ σ := ⟨fun _ _ _ _ => rfl, fun _ _ => rfl, rfl⟩
theorem SF_tr {σ ρ κ : mS} (h1 : SF σ ρ) (h2 : SF ρ κ) : SF σ κ := ⟨fun k a b c => (h2.1 k a b c).trans (h1.1 k a b c), fun k a => (h2.2.1 k a).trans (h1.2.1 k a), h2.2.2.trans h1.2.2⟩
theorem SF_mI {σ : mS} {k : Nat} {x : Int32} (hk : k = 51 ∨ k = 53 ∨ k = 54) : SF σ (mI σ k x) := ⟨fun j a b c => mI_o _ _ _ _ (by omega), fun _ _ => rfl, rfl⟩
theorem SF_code (σ : mS) (x y z : Nat) : SF σ (codeF σ x y z) := ⟨fun k a _ _ => code_sc σ x y z k a, fun k a => code_o σ x y z k a, rfl⟩
theorem SV_nots : ∀ (n : Nat) (σ : mS), SV σ true → sT σ = n → SV (notsF n σ) true ∧ (∀ m, sT (notsF n σ) = m + 1 → ¬ (notsF n σ).2.1 50 m = 20) ∧ SF σ (notsF n σ) := by
  intro n
  induction n with
  | zero => intro σ H ht; exact ⟨H, fun m hm => by rw [notsF, ht] at hm; omega, SF_rf σ⟩
  | succ n ih =>
    intro σ H ht
    rw [notsF]
    split
    · rename_i h
      have hn : n < 2 ^ 31 := by have h1 := H.2.2.2.2.2.2.1; have h2 := H.2.2.2.2.2.2.2.1; rw [ht] at h2; omega
      obtain ⟨a, b, c⟩ := ih _ (SV_pop20 H ht h) (sX_of (by rw [code_sc _ _ _ _ _ (by decide)]; rfl) hn)
      exact ⟨a, b, SF_tr (SF_tr (SF_tr (SF_mI (by omega)) (SF_mI (by omega))) (SF_code _ _ _ _)) c⟩
    · rename_i h
      refine ⟨H, fun m hm => ?_, SF_rf σ⟩
      rw [ht] at hm
      rw [show m = n by omega]
      exact h
theorem SV_joins (o : Bool) : ∀ (n : Nat) (σ : mS), SV σ true → sT σ = n → SV (joinsF n o σ) true ∧ (∀ m, sT (joinsF n o σ) = m + 1 → ¬ (joinsF n o σ).2.1 50 m = 21 ∧ (o = true → ¬ (joinsF n o σ).2.1 50 m = 22)) ∧ SF σ (joinsF n o σ) := by
  intro n
  induction n with
  | zero => intro σ H ht; exact ⟨H, fun m hm => by rw [joinsF, ht] at hm; omega, SF_rf σ⟩
  | succ n ih =>
    intro σ H ht
    have hn : n < 2 ^ 31 := by have h1 := H.2.2.2.2.2.2.1; have h2 := H.2.2.2.2.2.2.2.1; rw [ht] at h2; omega
    rw [joinsF]
    split
    · rename_i h
      obtain ⟨a, b, c⟩ := ih _ (SV_popJ H ht rfl (Or.inl h)) (sX_of (by rw [code_sc _ _ _ _ _ (by decide)]; rfl) hn)
      exact ⟨a, b, SF_tr (SF_tr (SF_mI (by omega)) (SF_code _ _ _ _)) c⟩
    · rename_i h
      split
      · rename_i h2
        split
        · obtain ⟨a, b, c⟩ := ih _ (SV_popJ H ht rfl (Or.inr h2)) (sX_of (by rw [code_sc _ _ _ _ _ (by decide)]; rfl) hn)
          exact ⟨a, b, SF_tr (SF_tr (SF_mI (by omega)) (SF_code _ _ _ _)) c⟩
        · rename_i h3
          refine ⟨H, fun m hm => ?_, SF_rf σ⟩
          rw [ht] at hm
          rw [show m = n by omega]
          exact ⟨h, fun h9 => absurd h9 h3⟩
      · rename_i h2
        refine ⟨H, fun m hm => ?_, SF_rf σ⟩
        rw [ht] at hm
        rw [show m = n by omega]
        exact ⟨h, fun _ => h2⟩
theorem SV_bhN {σ : mS} (H : SV σ true) : SV (bhN σ) true ∧ SF σ (bhN σ) := ⟨(SV_nots _ σ H rfl).1, (SV_nots _ σ H rfl).2.2⟩
theorem SV_bhJ {σ : mS} (o : Bool) (H : SV σ true) : SV (bhJ σ o) true ∧ (∀ m, sT (bhJ σ o) = m + 1 → ¬ (bhJ σ o).2.1 50 m = 21 ∧ (o = true → ¬ (bhJ σ o).2.1 50 m = 22)) ∧ SF (bhN σ) (bhJ σ o) := SV_joins o _ (bhN σ) (SV_bhN H).1 rfl
theorem SF_word {σ σ' : mS} (h : SF σ σ') (x : Int64) : isWordB σ' x = isWordB σ x := by
  unfold isWordB
  rw [h.1 11 (by decide) (by decide) (by decide), h.2.2]
theorem SF_sign {σ σ' : mS} (h : SF σ σ') (c : Nat) : isSignB σ' c = isSignB σ c := by
  unfold isSignB
  rw [h.1 11 (by decide) (by decide) (by decide), h.1 14 (by decide) (by decide) (by decide)]

set_option maxHeartbeats 1000000 in
set_option maxRecDepth 20000 in
theorem s_behind {G : xG} {d : Nat} {Q : xQ} {a : Nat → Nat} {σ : mS} (H : SV σ true) (kk : Q (some (.int (bI (behindF σ).1))) (mW G.2.2.1 a (behindF σ).2)) : MT G MX12_behind (d + 2) 0 0 [.ref (a 60)] (mW G.2.2.1 a σ) Q := by
  have H1 := (SV_bhN H).1
  refine mt_start (L := [some (.ref (a 60))]) rfl (Nat.le_of_ble_eq_true rfl) rfl ?_
  refine aw_aload_n (pc := 0) (i := 0) dX12_behind_0 rfl rfl ?_
  refine mc_V (pc := 1) (As := []) (rest := []) dX12_behind_1 rfl ok_X12_471 rfl rfl rfl (Nat.le_of_ble_eq_true rfl) (s_nots H.2.2.2.1 H.2.1 (by have := H.2.2.2.2.2.2.1; have := H.2.2.2.2.2.2.2.1; omega) H.2.2.2.2.1 (Nat.le_of_eq H.2.2.2.2.2.2.2.2.1.symm) (by have := H.2.2.2.2.2.2.1; have := H.2.2.2.2.2.2.2.1; have := H.2.2.2.2.2.2.2.2.1; have := cnO_le (σ.2.1 50) (sT σ); omega) (fun j hj => (H.2.2.2.2.2.2.2.2.2.1 j hj).2) ⟨_, rfl, rfl, ?_⟩)
  refine aw_ws (w9 := mW G.2.2.1 a (bhN σ)) rfl ?_
  refine aw_aload_n (pc := 4) (i := 0) dX12_behind_4 rfl rfl ?_
  refine aw_ldc2 (pc := 5) dX12_behind_5 tw_1394 ?_
  refine mc_I (pc := 8) (As := [.long ((6385252 : Int64))]) (rest := []) dX12_behind_8 rfl ok_X12_229 rfl rfl rfl (Nat.le_of_ble_eq_true rfl) (s_isWord ⟨_, _, rfl, rfl, ?_⟩)
  refine ab_if_ne (pc := 11) (tgt := 24) dX12_behind_11 rfl (fun h11 => ?_) (fun h11 => ?_)
  · -- 24
    refine aw_aload_n (pc := 24) (i := 0) dX12_behind_24 rfl rfl ?_
    refine aw_aload_n (pc := 25) (i := 0) dX12_behind_25 rfl rfl ?_
    refine aw_ldc2 (pc := 26) dX12_behind_26 tw_1394 ?_
    refine mc_I (pc := 29) (As := [.long ((6385252 : Int64))]) (rest := [.ref (a 60)]) dX12_behind_29 rfl ok_X12_229 rfl rfl rfl (Nat.le_of_ble_eq_true rfl) (s_isWord ⟨_, _, rfl, rfl, ?_⟩)
    refine ab_if_eq (pc := 32) (tgt := 40) dX12_behind_32 rfl (fun h32 => absurd (h11.symm.trans h32) (by decide)) (fun h32 => ?_)
    refine aw_bipush (pc := 35) dX12_behind_35 bipush_21 ?_
    refine aw_goto (pc := 37) (tgt := 42) dX12_behind_37 rfl ?_
    refine mc_V (pc := 42) (As := [.int (nI 21)]) (rest := []) dX12_behind_42 rfl ok_X12_474 rfl rfl rfl (Nat.le_of_ble_eq_true rfl) (s_joins_false H1.2.2.2.1 H1.2.1 (by have := H1.2.2.2.2.2.2.1; have := H1.2.2.2.2.2.2.2.1; omega) (fun j hj => (H1.2.2.2.2.2.2.2.2.2.1 j hj).2) ⟨_, rfl, rfl, ?_⟩)
    refine aw_ws (w9 := mW G.2.2.1 a (bhJ σ false)) rfl ?_
    have H2 := (SV_bhJ false H).1
    refine aw_aload_n (pc := 45) (i := 0) dX12_behind_45 rfl rfl ?_
    refine mg_stack (pc := 46) dX12_behind_46 rfl ?_
    refine aw_aload_n (pc := 49) (i := 0) dX12_behind_49 rfl rfl ?_
    refine mg_top (pc := 50) dX12_behind_50 rfl ?_
    refine aw_top (y := (nI (sT (bhJ σ false)))) H2.2.2.2.1 ?_
    refine aw_aload_n (pc := 53) (i := 0) dX12_behind_53 rfl rfl ?_
    refine aw_ldc2 (pc := 54) dX12_behind_54 tw_1394 ?_
    refine mc_I (pc := 57) (As := [.long ((6385252 : Int64))]) (rest := [.int (nI (sT (bhJ σ false))), .ref (a 50)]) dX12_behind_57 rfl ok_X12_229 rfl rfl rfl (Nat.le_of_ble_eq_true rfl) (s_isWord ⟨_, _, rfl, rfl, ?_⟩)
    refine aw_top (y := bI (isWordB (bhN σ) ((6385252 : Int64)))) (congrArg bI (SF_word (SV_bhJ false H).2.2 _)) ?_
    refine ab_if_eq (pc := 60) (tgt := 68) dX12_behind_60 rfl (fun h60 => absurd (h11.symm.trans h60) (by decide)) (fun h60 => ?_)
    refine aw_bipush (pc := 63) dX12_behind_63 bipush_21 ?_
    refine aw_goto (pc := 65) (tgt := 70) dX12_behind_65 rfl ?_
    refine ms_stack (pc := 70) dX12_behind_70 (by have := H2.2.2.2.2.2.2.1; have := H2.2.2.2.2.2.2.2.1; omega) ?_
    refine aw_aload_n (pc := 71) (i := 0) dX12_behind_71 rfl rfl ?_
    refine aw_dup (pc := 72) dX12_behind_72 rfl ?_
    refine mg_top (pc := 73) dX12_behind_73 rfl ?_
    refine aw_top (y := (bhJ σ false).1 53) rfl ?_
    refine aw_top (y := (nI (sT (bhJ σ false)))) H2.2.2.2.1 ?_
    refine aw_iconst (pc := 76) dX12_behind_76 iconst_1 ?_
    refine an_add (pc := 77) dX12_behind_77 ?_
    refine mp_top (pc := 78) dX12_behind_78 rfl ?_
    refine aw_aload_n (pc := 81) (i := 0) dX12_behind_81 rfl rfl ?_
    refine aw_iconst (pc := 82) dX12_behind_82 iconst_0 ?_
    refine mp_isWhole (pc := 83) dX12_behind_83 rfl (by decide) (by decide) ?_
    refine aw_aload_n (pc := 86) (i := 0) dX12_behind_86 rfl rfl ?_
    refine mc_V (pc := 87) (As := []) (rest := []) dX12_behind_87 rfl ok_X12_204 rfl rfl rfl (Nat.le_of_ble_eq_true rfl) (s_nx (PV_mI (PV_mI (PV_mN H2.1) (by decide)) (by decide)) ⟨_, rfl, rfl, ?_⟩)
    refine aw_ws (w9 := mW G.2.2.1 a (bhP (bhJ σ false) 21)) rfl ?_
    refine aw_iconst (pc := 90) dX12_behind_90 iconst_1 ?_
    exact ab_ret1 (pc := 91) dX12_behind_91 rfl (Nat.le_refl _) (Nat.le_refl _) (by simp only [behindF, h11, Bool.true_and, Bool.and_true, Bool.false_and, Bool.and_false, Bool.not_true, Bool.not_false, Bool.or_true, Bool.or_false, Bool.true_or, Bool.false_or, Bool.false_eq_true, Bool.true_eq_false, if_true, if_false, ite_true, ite_false, reduceIte, reduceCtorEq] at kk; exact kk)
  · -- 14
    refine aw_aload_n (pc := 14) (i := 0) dX12_behind_14 rfl rfl ?_
    refine aw_ldc2 (pc := 15) dX12_behind_15 tw_1393 ?_
    refine mc_I (pc := 18) (As := [.long ((28530 : Int64))]) (rest := []) dX12_behind_18 rfl ok_X12_229 rfl rfl rfl (Nat.le_of_ble_eq_true rfl) (s_isWord ⟨_, _, rfl, rfl, ?_⟩)
    refine ab_if_eq (pc := 21) (tgt := 92) dX12_behind_21 rfl (fun h21 => ?_) (fun h21 => ?_)
    · -- 92
      refine aw_aload_n (pc := 92) (i := 0) dX12_behind_92 rfl rfl ?_
      refine aw_bipush (pc := 93) dX12_behind_93 bipush_22 ?_
      refine mc_V (pc := 95) (As := [.int (nI 22)]) (rest := []) dX12_behind_95 rfl ok_X12_474 rfl rfl rfl (Nat.le_of_ble_eq_true rfl) (s_joins_true H1.2.2.2.1 H1.2.1 (by have := H1.2.2.2.2.2.2.1; have := H1.2.2.2.2.2.2.2.1; omega) (fun j hj => (H1.2.2.2.2.2.2.2.2.2.1 j hj).2) ⟨_, rfl, rfl, ?_⟩)
      refine aw_ws (w9 := mW G.2.2.1 a (bhJ σ true)) rfl ?_
      have H2 := (SV_bhJ true H).1
      refine aw_aload_n (pc := 98) (i := 0) dX12_behind_98 rfl rfl ?_
      refine aw_bipush (pc := 99) dX12_behind_99 bipush_41 ?_
      refine mc_I (pc := 101) (As := [.int (nI 41)]) (rest := []) dX12_behind_101 rfl ok_X12_198 rfl rfl rfl (Nat.le_of_ble_eq_true rfl) (s_isSign ⟨_, _, rfl, rfl, ?_⟩)
      refine ab_if_eq (pc := 104) (tgt := 114) dX12_behind_104 rfl (fun h104 => ?_) (fun h104 => ?_)
      · -- 114
        refine aw_aload_n (pc := 114) (i := 0) dX12_behind_114 rfl rfl ?_
        refine aw_iconst (pc := 115) dX12_behind_115 iconst_1 ?_
        refine mc_I (pc := 116) (As := [.int (nI 1)]) (rest := []) dX12_behind_116 rfl ok_X12_201 rfl rfl rfl (Nat.le_of_ble_eq_true rfl) (s_bad ⟨_, _, rfl, rfl, ?_⟩)
        exact ab_ret (pc := 119) dX12_behind_119 rfl (Nat.le_refl _) (Nat.le_refl _) (by simp only [behindF, h11, h21, h104, Bool.true_and, Bool.and_true, Bool.false_and, Bool.and_false, Bool.not_true, Bool.not_false, Bool.or_true, Bool.or_false, Bool.true_or, Bool.false_or, Bool.false_eq_true, Bool.true_eq_false, if_true, if_false, ite_true, ite_false, reduceIte, reduceCtorEq] at kk; exact kk)
      · -- 107
        refine aw_aload_n (pc := 107) (i := 0) dX12_behind_107 rfl rfl ?_
        refine mg_top (pc := 108) dX12_behind_108 rfl ?_
        refine aw_top (y := (nI (sT (bhJ σ true)))) H2.2.2.2.1 ?_
        refine an_if_ne (pc := 111) (tgt := 120) dX12_behind_111 rfl (by have := H2.2.2.2.2.2.2.1; have := H2.2.2.2.2.2.2.2.1; omega) (fun h111 => ?_) (fun h111 => ?_)
        · -- 120
          refine aw_aload_n (pc := 120) (i := 0) dX12_behind_120 rfl rfl ?_
          refine aw_dup (pc := 121) dX12_behind_121 rfl ?_
          refine mg_top (pc := 122) dX12_behind_122 rfl ?_
          refine aw_top (y := (nI (sT (bhJ σ true)))) H2.2.2.2.1 ?_
          refine aw_iconst (pc := 125) dX12_behind_125 iconst_1 ?_
          refine an_sub (pc := 126) dX12_behind_126 (by have := H2.2.2.2.2.2.2.2.2.1; omega) ?_
          refine mp_top (pc := 127) dX12_behind_127 rfl ?_
          refine aw_aload_n (pc := 130) (i := 0) dX12_behind_130 rfl rfl ?_
          refine aw_dup (pc := 131) dX12_behind_131 rfl ?_
          refine mg_deep (pc := 132) dX12_behind_132 rfl ?_
          refine aw_top (y := (bhJ σ true).1 54) rfl ?_
          refine aw_top (y := (nI (sE (bhJ σ true)))) H2.2.2.2.2.1 ?_
          refine aw_iconst (pc := 135) dX12_behind_135 iconst_1 ?_
          refine an_sub (pc := 136) dX12_behind_136 (by have := H2.2.2.2.2.2.2.2.2.1; omega) ?_
          refine mp_deep (pc := 137) dX12_behind_137 rfl ?_
          refine aw_aload_n (pc := 140) (i := 0) dX12_behind_140 rfl rfl ?_
          refine mc_V (pc := 141) (As := []) (rest := []) dX12_behind_141 rfl ok_X12_204 rfl rfl rfl (Nat.le_of_ble_eq_true rfl) (s_nx (PV_mI (PV_mI H2.1 (by decide)) (by decide)) ⟨_, rfl, rfl, ?_⟩)
          refine aw_iconst (pc := 144) dX12_behind_144 iconst_1 ?_
          exact ab_ret1 (pc := 145) dX12_behind_145 rfl (Nat.le_refl _) (Nat.le_refl _) (by simp only [behindF, h11, h21, h104, h111, (Nat.ne_of_gt h111), Bool.true_and, Bool.and_true, Bool.false_and, Bool.and_false, Bool.not_true, Bool.not_false, Bool.or_true, Bool.or_false, Bool.true_or, Bool.false_or, Bool.false_eq_true, Bool.true_eq_false, if_true, if_false, ite_true, ite_false, reduceIte, reduceCtorEq] at kk; exact kk)
        · -- 114
          refine aw_aload_n (pc := 114) (i := 0) dX12_behind_114 rfl rfl ?_
          refine aw_iconst (pc := 115) dX12_behind_115 iconst_1 ?_
          refine mc_I (pc := 116) (As := [.int (nI 1)]) (rest := []) dX12_behind_116 rfl ok_X12_201 rfl rfl rfl (Nat.le_of_ble_eq_true rfl) (s_bad ⟨_, _, rfl, rfl, ?_⟩)
          exact ab_ret (pc := 119) dX12_behind_119 rfl (Nat.le_refl _) (Nat.le_refl _) (by simp only [behindF, h11, h21, h104, h111, Bool.true_and, Bool.and_true, Bool.false_and, Bool.and_false, Bool.not_true, Bool.not_false, Bool.or_true, Bool.or_false, Bool.true_or, Bool.false_or, Bool.false_eq_true, Bool.true_eq_false, if_true, if_false, ite_true, ite_false, reduceIte, reduceCtorEq] at kk; exact kk)
    · -- 24
      refine aw_aload_n (pc := 24) (i := 0) dX12_behind_24 rfl rfl ?_
      refine aw_aload_n (pc := 25) (i := 0) dX12_behind_25 rfl rfl ?_
      refine aw_ldc2 (pc := 26) dX12_behind_26 tw_1394 ?_
      refine mc_I (pc := 29) (As := [.long ((6385252 : Int64))]) (rest := [.ref (a 60)]) dX12_behind_29 rfl ok_X12_229 rfl rfl rfl (Nat.le_of_ble_eq_true rfl) (s_isWord ⟨_, _, rfl, rfl, ?_⟩)
      refine ab_if_eq (pc := 32) (tgt := 40) dX12_behind_32 rfl (fun h32 => ?_) (fun h32 => absurd (h11.symm.trans h32) (by decide))
      refine aw_bipush (pc := 40) dX12_behind_40 bipush_22 ?_
      refine mc_V (pc := 42) (As := [.int (nI 22)]) (rest := []) dX12_behind_42 rfl ok_X12_474 rfl rfl rfl (Nat.le_of_ble_eq_true rfl) (s_joins_true H1.2.2.2.1 H1.2.1 (by have := H1.2.2.2.2.2.2.1; have := H1.2.2.2.2.2.2.2.1; omega) (fun j hj => (H1.2.2.2.2.2.2.2.2.2.1 j hj).2) ⟨_, rfl, rfl, ?_⟩)
      refine aw_ws (w9 := mW G.2.2.1 a (bhJ σ true)) rfl ?_
      have H2 := (SV_bhJ true H).1
      refine aw_aload_n (pc := 45) (i := 0) dX12_behind_45 rfl rfl ?_
      refine mg_stack (pc := 46) dX12_behind_46 rfl ?_
      refine aw_aload_n (pc := 49) (i := 0) dX12_behind_49 rfl rfl ?_
      refine mg_top (pc := 50) dX12_behind_50 rfl ?_
      refine aw_top (y := (nI (sT (bhJ σ true)))) H2.2.2.2.1 ?_
      refine aw_aload_n (pc := 53) (i := 0) dX12_behind_53 rfl rfl ?_
      refine aw_ldc2 (pc := 54) dX12_behind_54 tw_1394 ?_
      refine mc_I (pc := 57) (As := [.long ((6385252 : Int64))]) (rest := [.int (nI (sT (bhJ σ true))), .ref (a 50)]) dX12_behind_57 rfl ok_X12_229 rfl rfl rfl (Nat.le_of_ble_eq_true rfl) (s_isWord ⟨_, _, rfl, rfl, ?_⟩)
      refine aw_top (y := bI (isWordB (bhN σ) ((6385252 : Int64)))) (congrArg bI (SF_word (SV_bhJ true H).2.2 _)) ?_
      refine ab_if_eq (pc := 60) (tgt := 68) dX12_behind_60 rfl (fun h60 => ?_) (fun h60 => absurd (h11.symm.trans h60) (by decide))
      refine aw_bipush (pc := 68) dX12_behind_68 bipush_22 ?_
      refine ms_stack (pc := 70) dX12_behind_70 (by have := H2.2.2.2.2.2.2.1; have := H2.2.2.2.2.2.2.2.1; omega) ?_
      refine aw_aload_n (pc := 71) (i := 0) dX12_behind_71 rfl rfl ?_
      refine aw_dup (pc := 72) dX12_behind_72 rfl ?_
      refine mg_top (pc := 73) dX12_behind_73 rfl ?_
      refine aw_top (y := (bhJ σ true).1 53) rfl ?_
      refine aw_top (y := (nI (sT (bhJ σ true)))) H2.2.2.2.1 ?_
      refine aw_iconst (pc := 76) dX12_behind_76 iconst_1 ?_
      refine an_add (pc := 77) dX12_behind_77 ?_
      refine mp_top (pc := 78) dX12_behind_78 rfl ?_
      refine aw_aload_n (pc := 81) (i := 0) dX12_behind_81 rfl rfl ?_
      refine aw_iconst (pc := 82) dX12_behind_82 iconst_0 ?_
      refine mp_isWhole (pc := 83) dX12_behind_83 rfl (by decide) (by decide) ?_
      refine aw_aload_n (pc := 86) (i := 0) dX12_behind_86 rfl rfl ?_
      refine mc_V (pc := 87) (As := []) (rest := []) dX12_behind_87 rfl ok_X12_204 rfl rfl rfl (Nat.le_of_ble_eq_true rfl) (s_nx (PV_mI (PV_mI (PV_mN H2.1) (by decide)) (by decide)) ⟨_, rfl, rfl, ?_⟩)
      refine aw_ws (w9 := mW G.2.2.1 a (bhP (bhJ σ true) 22)) rfl ?_
      refine aw_iconst (pc := 90) dX12_behind_90 iconst_1 ?_
      exact ab_ret1 (pc := 91) dX12_behind_91 rfl (Nat.le_refl _) (Nat.le_refl _) (by simp only [behindF, h11, h21, Bool.true_and, Bool.and_true, Bool.false_and, Bool.and_false, Bool.not_true, Bool.not_false, Bool.or_true, Bool.or_false, Bool.true_or, Bool.false_or, Bool.false_eq_true, Bool.true_eq_false, if_true, if_false, ite_true, ite_false, reduceIte, reduceCtorEq] at kk; exact kk)
