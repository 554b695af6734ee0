def whyPactF (t : Nat → Nat) (x y : Nat) : Nat := if x = y then 1 else if (t (101 + x)).testBit y = true then 2 else 0
def whyTurnF (t : Nat → Nat) (r : Nat) (c : Bool) : Nat := if t 1 ≤ r then 1 else if (t 93).testBit r = c then 2 else 0
def whyLendF (t : Nat → Nat) (x y n : Nat) : Nat := if x = y then 1 else if t (94 + x) < n then 2 else 0
def lendF (t : Nat → Nat) (x y n : Nat) : Nat → Nat := upN (upN t (94 + x) (t (94 + x) - n)) (94 + y) (t (94 + y) + n)
theorem whyPactF_lt (t : Nat → Nat) (x y : Nat) : whyPactF t x y < 2 ^ 31 := by unfold whyPactF; split; omega; split <;> omega
theorem whyTurnF_lt (t : Nat → Nat) (r : Nat) (c : Bool) : whyTurnF t r c < 2 ^ 31 := by unfold whyTurnF; split; omega; split <;> omega
theorem whyLendF_lt (t : Nat → Nat) (x y n : Nat) : whyLendF t x y n < 2 ^ 31 := by unfold whyLendF; split; omega; split <;> omega
set_option maxHeartbeats 1000000 in
set_option maxRecDepth 20000 in
theorem s_whyPact {G : xG} {d : Nat} {Q : xQ} {a : Nat → Nat} {σ : mS} {x y : Nat} (hb : ∀ j, σ.2.1 6 j < 2 ^ 30) (hx : x < 7) (hy : y < 7) (kk : Q (some (.int (nI (whyPactF (σ.2.1 6) x y)))) (mW G.2.2.1 a σ)) : MT G MX12_whyPact (d + 1) 0 0 [.ref (a 60), .int (nI x), .int (nI y)] (mW G.2.2.1 a σ) Q := by
  refine mt_start (L := [some (.ref (a 60)), some (.int (nI x)), some (.int (nI y))]) rfl (Nat.le_of_ble_eq_true rfl) rfl ?_
  refine aw_iload_n (pc := 0) (i := 1) dX12_whyPact_0 rfl rfl ?_
  refine aw_iload_n (pc := 1) (i := 2) dX12_whyPact_1 rfl rfl ?_
  refine an_icmp_ne (pc := 2) (tgt := 9) dX12_whyPact_2 rfl (by omega) (by omega) (fun h2 => ?_) (fun h2 => ?_)
  · -- 9
    refine aw_aload_n (pc := 9) (i := 0) dX12_whyPact_9 rfl rfl ?_
    refine mg_s (pc := 10) dX12_whyPact_10 rfl ?_
    refine aw_bipush (pc := 13) dX12_whyPact_13 bipush_101 ?_
    refine aw_iload_n (pc := 15) (i := 1) dX12_whyPact_15 rfl rfl ?_
    refine an_add (pc := 16) dX12_whyPact_16 ?_
    refine ml_s (pc := 17) dX12_whyPact_17 (by omega) ?_
    refine aw_iload_n (pc := 18) (i := 2) dX12_whyPact_18 rfl rfl ?_
    refine mt_I (pc := 19) (As := [.int (nI (σ.2.1 6 (101 + x))), .int (nI y)]) (rest := []) dX12_whyPact_19 rfl ok_X12_257 rfl rfl rfl (Nat.le_of_ble_eq_true rfl) (s_bitOf (Nat.lt_trans (hb _) (by decide)) (by omega) ⟨_, _, rfl, rfl, ?_⟩)
    refine ab_if_eq (pc := 22) (tgt := 29) dX12_whyPact_22 rfl (fun h22 => ?_) (fun h22 => ?_)
    · -- 29
      refine aw_iconst (pc := 29) dX12_whyPact_29 iconst_0 ?_
      exact aw_iret (pc := 30) dX12_whyPact_30 rfl (Nat.le_refl _) (Nat.le_refl _) (by simp only [whyPactF, h2, h22, Bool.true_and, Bool.and_true, Bool.false_and, Bool.and_false, Bool.not_true, Bool.not_false, Bool.or_true, Bool.or_false, Bool.true_or, Bool.false_or, Bool.false_eq_true, Bool.true_eq_false, if_true, if_false, ite_true, ite_false, reduceIte, reduceCtorEq] at kk; exact kk)
    · -- 25
      refine aw_iconst (pc := 25) dX12_whyPact_25 iconst_2 ?_
      refine aw_goto (pc := 26) (tgt := 30) dX12_whyPact_26 rfl ?_
      exact aw_iret (pc := 30) dX12_whyPact_30 rfl (Nat.le_refl _) (Nat.le_refl _) (by simp only [whyPactF, h2, h22, Bool.true_and, Bool.and_true, Bool.false_and, Bool.and_false, Bool.not_true, Bool.not_false, Bool.or_true, Bool.or_false, Bool.true_or, Bool.false_or, Bool.false_eq_true, Bool.true_eq_false, if_true, if_false, ite_true, ite_false, reduceIte, reduceCtorEq] at kk; exact kk)
  · -- 5
    refine aw_iconst (pc := 5) dX12_whyPact_5 iconst_1 ?_
    refine aw_goto (pc := 6) (tgt := 30) dX12_whyPact_6 rfl ?_
    exact aw_iret (pc := 30) dX12_whyPact_30 rfl (Nat.le_refl _) (Nat.le_refl _) (by simp only [whyPactF, h2, Bool.true_and, Bool.and_true, Bool.false_and, Bool.and_false, Bool.not_true, Bool.not_false, Bool.or_true, Bool.or_false, Bool.true_or, Bool.false_or, Bool.false_eq_true, Bool.true_eq_false, if_true, if_false, ite_true, ite_false, reduceIte, reduceCtorEq] at kk; exact kk)
section ABC
variable {G : xG} {μ : xM} {d mc ms : Nat} {Q : xQ} {pc : Nat} {L : List (Option Value)} {st : List Value} {ws : va_W} {n k : Nat}
theorem ab_icmp_eq {x y : Bool} {off : Int} {tgt : Nat} (hd : decode μ.2.1 pc = .ok (.if_icmp .eq off, 3)) (ht : (pc : Int) + off = (tgt : Int)) (kt : x = y → AW G μ d mc ms Q tgt L st ws n k) (kf : ¬ x = y → AW G μ d mc ms Q (pc + 3) L st ws n k) : AW G μ d mc ms Q pc L (.int (bI y) :: .int (bI x) :: st) ws n k := aw_icmp_eq hd ht (fun h => kt (bI_inj.mp h)) (fun h => kf (fun e => h (bI_inj.mpr e)))
theorem ab_icmp_ne {x y : Bool} {off : Int} {tgt : Nat} (hd : decode μ.2.1 pc = .ok (.if_icmp .ne off, 3)) (ht : (pc : Int) + off = (tgt : Int)) (kt : ¬ x = y → AW G μ d mc ms Q tgt L st ws n k) (kf : x = y → AW G μ d mc ms Q (pc + 3) L st ws n k) : AW G μ d mc ms Q pc L (.int (bI y) :: .int (bI x) :: st) ws n k := aw_icmp_ne hd ht (fun h => kt (fun e => h (bI_inj.mpr e))) (fun h => kf (bI_inj.mp h))
end ABC
set_option maxHeartbeats 1000000 in
set_option maxRecDepth 20000 in
theorem s_whyTurn {G : xG} {d : Nat} {Q : xQ} {a : Nat → Nat} {σ : mS} {r : Nat} {c : Bool} (hb : ∀ j, σ.2.1 6 j < 2 ^ 30) (hr : r < 12) (kk : Q (some (.int (nI (whyTurnF (σ.2.1 6) r c)))) (mW G.2.2.1 a σ)) : MT G MX12_whyTurn (d + 2) 0 0 [.ref (a 60), .int (nI r), .int (bI c)] (mW G.2.2.1 a σ) Q := by
  refine mt_start (L := [some (.ref (a 60)), some (.int (nI r)), some (.int (bI c))]) rfl (Nat.le_of_ble_eq_true rfl) rfl ?_
  refine aw_iload_n (pc := 0) (i := 1) dX12_whyTurn_0 rfl rfl ?_
  refine aw_aload_n (pc := 1) (i := 0) dX12_whyTurn_1 rfl rfl ?_
  refine mg_s (pc := 2) dX12_whyTurn_2 rfl ?_
  refine aw_iconst (pc := 5) dX12_whyTurn_5 iconst_1 ?_
  refine ml_s (pc := 6) dX12_whyTurn_6 (by decide) ?_
  refine an_icmp_lt (pc := 7) (tgt := 14) dX12_whyTurn_7 rfl (by omega) (Nat.lt_trans (hb _) (by decide)) (fun h7 => ?_) (fun h7 => ?_)
  · -- 14
    refine aw_aload_n (pc := 14) (i := 0) dX12_whyTurn_14 rfl rfl ?_
    refine aw_iload_n (pc := 15) (i := 1) dX12_whyTurn_15 rfl rfl ?_
    refine mc_I (pc := 16) (As := [.int (nI r)]) (rest := []) dX12_whyTurn_16 rfl ok_X12_281 rfl rfl rfl (Nat.le_of_ble_eq_true rfl) (s_isOpen hb (by omega) ⟨_, _, rfl, rfl, ?_⟩)
    refine aw_iload_n (pc := 19) (i := 2) dX12_whyTurn_19 rfl rfl ?_
    refine ab_icmp_eq (pc := 20) (tgt := 27) dX12_whyTurn_20 rfl (fun h20 => ?_) (fun h20 => ?_)
    · -- 27
      refine aw_iconst (pc := 27) dX12_whyTurn_27 iconst_0 ?_
      exact aw_iret (pc := 28) dX12_whyTurn_28 rfl (Nat.le_refl _) (Nat.le_refl _) (by rw [show whyTurnF (σ.2.1 6) r c = 0 by unfold whyTurnF; first | rw [if_pos (by omega)] | (rw [if_neg (by omega)]; cases c <;> cases hx : (σ.2.1 6 93).testBit r <;> simp_all)] at kk; exact kk)
    · -- 23
      refine aw_iconst (pc := 23) dX12_whyTurn_23 iconst_2 ?_
      refine aw_goto (pc := 24) (tgt := 28) dX12_whyTurn_24 rfl ?_
      exact aw_iret (pc := 28) dX12_whyTurn_28 rfl (Nat.le_refl _) (Nat.le_refl _) (by rw [show whyTurnF (σ.2.1 6) r c = 2 by unfold whyTurnF; first | rw [if_pos (by omega)] | (rw [if_neg (by omega)]; cases c <;> cases hx : (σ.2.1 6 93).testBit r <;> simp_all)] at kk; exact kk)
  · -- 10
    refine aw_iconst (pc := 10) dX12_whyTurn_10 iconst_1 ?_
    refine aw_goto (pc := 11) (tgt := 28) dX12_whyTurn_11 rfl ?_
    exact aw_iret (pc := 28) dX12_whyTurn_28 rfl (Nat.le_refl _) (Nat.le_refl _) (by rw [show whyTurnF (σ.2.1 6) r c = 1 by unfold whyTurnF; first | rw [if_pos (by omega)] | (rw [if_neg (by omega)]; cases c <;> cases hx : (σ.2.1 6 93).testBit r <;> simp_all)] at kk; exact kk)
set_option maxHeartbeats 1000000 in
set_option maxRecDepth 20000 in
theorem s_whyLend {G : xG} {d : Nat} {Q : xQ} {a : Nat → Nat} {σ : mS} {x y n : Nat} (hb : ∀ j, σ.2.1 6 j < 2 ^ 30) (hx : x < 7) (hy : y < 7) (hn : n < 2 ^ 31) (kk : Q (some (.int (nI (whyLendF (σ.2.1 6) x y n)))) (mW G.2.2.1 a σ)) : MT G MX12_whyLend (d) 0 0 [.ref (a 60), .int (nI x), .int (nI y), .int (nI n)] (mW G.2.2.1 a σ) Q := by
  refine mt_start (L := [some (.ref (a 60)), some (.int (nI x)), some (.int (nI y)), some (.int (nI n))]) rfl (Nat.le_of_ble_eq_true rfl) rfl ?_
  refine aw_iload_n (pc := 0) (i := 1) dX12_whyLend_0 rfl rfl ?_
  refine aw_iload_n (pc := 1) (i := 2) dX12_whyLend_1 rfl rfl ?_
  refine an_icmp_ne (pc := 2) (tgt := 9) dX12_whyLend_2 rfl (by omega) (by omega) (fun h2 => ?_) (fun h2 => ?_)
  · -- 9
    refine aw_aload_n (pc := 9) (i := 0) dX12_whyLend_9 rfl rfl ?_
    refine mg_s (pc := 10) dX12_whyLend_10 rfl ?_
    refine aw_bipush (pc := 13) dX12_whyLend_13 bipush_94 ?_
    refine aw_iload_n (pc := 15) (i := 1) dX12_whyLend_15 rfl rfl ?_
    refine an_add (pc := 16) dX12_whyLend_16 ?_
    refine ml_s (pc := 17) dX12_whyLend_17 (by omega) ?_
    refine aw_iload_n (pc := 18) (i := 3) dX12_whyLend_18 rfl rfl ?_
    refine an_icmp_ge (pc := 19) (tgt := 26) dX12_whyLend_19 rfl (Nat.lt_trans (hb _) (by decide)) (by omega) (fun h19 => ?_) (fun h19 => ?_)
    · -- 26
      refine aw_iconst (pc := 26) dX12_whyLend_26 iconst_0 ?_
      exact aw_iret (pc := 27) dX12_whyLend_27 rfl (Nat.le_refl _) (Nat.le_refl _) (by rw [show whyLendF (σ.2.1 6) x y n = 0 by unfold whyLendF; (repeat' split) <;> omega] at kk; exact kk)
    · -- 22
      refine aw_iconst (pc := 22) dX12_whyLend_22 iconst_2 ?_
      refine aw_goto (pc := 23) (tgt := 27) dX12_whyLend_23 rfl ?_
      exact aw_iret (pc := 27) dX12_whyLend_27 rfl (Nat.le_refl _) (Nat.le_refl _) (by rw [show whyLendF (σ.2.1 6) x y n = 2 by unfold whyLendF; (repeat' split) <;> omega] at kk; exact kk)
  · -- 5
    refine aw_iconst (pc := 5) dX12_whyLend_5 iconst_1 ?_
    refine aw_goto (pc := 6) (tgt := 27) dX12_whyLend_6 rfl ?_
    exact aw_iret (pc := 27) dX12_whyLend_27 rfl (Nat.le_refl _) (Nat.le_refl _) (by rw [show whyLendF (σ.2.1 6) x y n = 1 by unfold whyLendF; (repeat' split) <;> omega] at kk; exact kk)
set_option maxHeartbeats 1000000 in
set_option maxRecDepth 20000 in
theorem s_lends {G : xG} {d : Nat} {Q : xQ} {a : Nat → Nat} {σ : mS} {x y n : Nat} (hx : x < 7) (hy : y < 7) (hxy : ¬ x = y) (hle : n ≤ σ.2.1 6 (94 + x)) (kk : Q none (mW G.2.2.1 a (sN σ 6 (lendF (σ.2.1 6) x y n)))) : MT G MX12_lends (d) 0 0 [.ref (a 60), .int (nI x), .int (nI y), .int (nI n)] (mW G.2.2.1 a σ) Q := by
  refine mt_start (L := [some (.ref (a 60)), some (.int (nI x)), some (.int (nI y)), some (.int (nI n))]) rfl (Nat.le_of_ble_eq_true rfl) rfl ?_
  refine aw_aload_n (pc := 0) (i := 0) dX12_lends_0 rfl rfl ?_
  refine mg_s (pc := 1) dX12_lends_1 rfl ?_
  refine aw_bipush (pc := 4) dX12_lends_4 bipush_94 ?_
  refine aw_iload_n (pc := 6) (i := 1) dX12_lends_6 rfl rfl ?_
  refine an_add (pc := 7) dX12_lends_7 ?_
  refine aw_dup2 (pc := 8) dX12_lends_8 rfl rfl ?_
  refine ml_s (pc := 9) dX12_lends_9 (by omega) ?_
  refine aw_iload_n (pc := 10) (i := 3) dX12_lends_10 rfl rfl ?_
  refine an_sub (pc := 11) dX12_lends_11 hle ?_
  refine ms_s (pc := 12) dX12_lends_12 (by omega) ?_
  refine aw_aload_n (pc := 13) (i := 0) dX12_lends_13 rfl rfl ?_
  refine mg_s (pc := 14) dX12_lends_14 rfl ?_
  refine aw_bipush (pc := 17) dX12_lends_17 bipush_94 ?_
  refine aw_iload_n (pc := 19) (i := 2) dX12_lends_19 rfl rfl ?_
  refine an_add (pc := 20) dX12_lends_20 ?_
  refine aw_dup2 (pc := 21) dX12_lends_21 rfl rfl ?_
  refine ml_s (pc := 22) dX12_lends_22 (by omega) ?_
  refine aw_top (y := (nI (σ.2.1 6 (94 + y)))) (congrArg nI (upN_n _ _ _ _ (by omega))) ?_
  refine aw_iload_n (pc := 23) (i := 3) dX12_lends_23 rfl rfl ?_
  refine an_add (pc := 24) dX12_lends_24 ?_
  refine ms_s (pc := 25) dX12_lends_25 (by omega) ?_
  exact aw_vret (pc := 26) dX12_lends_26 rfl (Nat.le_refl _) (Nat.le_refl _) (kk)
/-- cross(q, l): its answer, its state -/
def crossA (t : Nat → Nat) (q l : Int32) : Int32 := if (inB (t 2) q && inB (t 0) l) = true then nI (whyX t q.toNatClampNeg l.toNatClampNeg) else -1
def crossS (σ : mS) (m : Nat) (q l : Int32) : mS := if (inB (σ.2.1 6 2) q && inB (σ.2.1 6 0) l) = true then (if whyX (σ.2.1 6) q.toNatClampNeg l.toNatClampNeg = 0 then sN (keepS (mI σ 0 (nI 0)) m) 6 (crossF (σ.2.1 6) q.toNatClampNeg l.toNatClampNeg) else mI σ 0 (nI 0)) else mI σ 0 (nI 0)
theorem whyX_0 {t : Nat → Nat} {q l : Nat} (h : whyX t q l = 0) : (sparedF t q).testBit l = true ∨ t (3 + l) ≤ t (114 + q) := by
  unfold whyX whyBy at h
  split at h
  · omega
  · repeat' split at h
    all_goals first | omega | skip
    rename_i h5
    cases hs : (sparedF t q).testBit l
    · exact Or.inr (by simp only [hs, true_and] at h5; omega)
    · exact Or.inl rfl
set_option maxHeartbeats 1000000 in
set_option maxRecDepth 20000 in
theorem s_cross {G : xG} {d : Nat} {Q : xQ} {a : Nat → Nat} {σ : mS} {m : Nat} {q : Int32} {l : Int32} (hw : WT (σ.2.1 6)) (hb9 : ∀ j, σ.2.1 6 j < 2 ^ 29) (hm : σ.1 23 = nI m) (hm8 : m ≤ 8) (kk : Q (some (.int (crossA (σ.2.1 6) q l))) (mW G.2.2.1 a (crossS σ m q l))) : MT G MX12_cross (d + 4) 0 0 [.ref (a 60), .int q, .int l] (mW G.2.2.1 a σ) Q := by
  obtain ⟨hb, h0, h1, h2, hR, hP, hD, hC, hT⟩ := id hw
  refine mt_start (L := [some (.ref (a 60)), some (.int q), some (.int l), none]) rfl (Nat.le_of_ble_eq_true rfl) rfl ?_
  refine aw_aload_n (pc := 0) (i := 0) dX12_cross_0 rfl rfl ?_
  refine aw_iconst (pc := 1) dX12_cross_1 iconst_0 ?_
  refine mp_thrown (pc := 2) dX12_cross_2 rfl ?_
  refine aw_aload_n (pc := 5) (i := 0) dX12_cross_5 rfl rfl ?_
  refine aw_iload_n (pc := 6) (i := 1) dX12_cross_6 rfl rfl ?_
  refine mc_I (pc := 7) (As := [.int q]) (rest := []) dX12_cross_7 rfl ok_X12_302 rfl rfl rfl (Nat.le_of_ble_eq_true rfl) (s_isPerson ⟨_, _, rfl, rfl, ?_⟩)
  refine aw_top (y := bI (inB (σ.2.1 6 2) q)) rfl ?_
  refine ab_if_eq (pc := 10) (tgt := 21) dX12_cross_10 rfl (fun h10 => ?_) (fun h10 => ?_)
  · -- 21
    refine aw_iconst (pc := 21) dX12_cross_21 iconst_m1 ?_
    exact aw_iret (pc := 22) dX12_cross_22 rfl (Nat.le_refl _) (Nat.le_refl _) (by simp only [crossA, crossS, h10, Bool.true_and, Bool.and_true, Bool.false_and, Bool.and_false, Bool.not_true, Bool.not_false, Bool.or_true, Bool.or_false, Bool.true_or, Bool.false_or, Bool.false_eq_true, Bool.true_eq_false, if_true, if_false, ite_true, ite_false, reduceIte, reduceCtorEq] at kk; exact kk)
  · -- 13
    obtain ⟨qn, b_qn, rfl⟩ := inB_t (by omega) h10
    have e_qn := nI_clamp (n := qn) (by omega)
    refine aw_aload_n (pc := 13) (i := 0) dX12_cross_13 rfl rfl ?_
    refine aw_iload_n (pc := 14) (i := 2) dX12_cross_14 rfl rfl ?_
    refine mc_I (pc := 15) (As := [.int l]) (rest := []) dX12_cross_15 rfl ok_X12_312 rfl rfl rfl (Nat.le_of_ble_eq_true rfl) (s_isLand ⟨_, _, rfl, rfl, ?_⟩)
    refine aw_top (y := bI (inB (σ.2.1 6 0) l)) rfl ?_
    refine ab_if_ne (pc := 18) (tgt := 23) dX12_cross_18 rfl (fun h18 => ?_) (fun h18 => ?_)
    · -- 23
      obtain ⟨ln, b_ln, rfl⟩ := inB_t (by omega) h18
      have e_ln := nI_clamp (n := ln) (by omega)
      refine aw_aload_n (pc := 23) (i := 0) dX12_cross_23 rfl rfl ?_
      refine aw_iload_n (pc := 24) (i := 1) dX12_cross_24 rfl rfl ?_
      refine aw_iload_n (pc := 25) (i := 2) dX12_cross_25 rfl rfl ?_
      refine mc_I (pc := 26) (As := [.int (nI qn), .int (nI ln)]) (rest := []) dX12_cross_26 rfl ok_X12_292 rfl rfl rfl (Nat.le_of_ble_eq_true rfl) (s_whyCross hb h1 (by omega) (by have := hP qn (by assumption); show σ.2.1 6 (79 + qn) < 7; omega) (by omega) ⟨_, _, rfl, rfl, ?_⟩)
      refine aw_top (y := nI (whyX (σ.2.1 6) qn ln)) rfl ?_
      refine aw_istore_n (pc := 29) (i := 3) dX12_cross_29 rfl (Nat.le_of_ble_eq_true rfl) rfl ?_
      refine aw_iload_n (pc := 30) (i := 3) dX12_cross_30 rfl rfl ?_
      refine an_if_le (pc := 31) (tgt := 36) dX12_cross_31 rfl (whyX_lt _ _ _) (fun h31 => ?_) (fun h31 => ?_)
      · -- 36
        refine aw_aload_n (pc := 36) (i := 0) dX12_cross_36 rfl rfl ?_
        refine mc_V (pc := 37) (As := []) (rest := []) dX12_cross_37 rfl ok_X12_327 rfl rfl rfl (Nat.le_of_ble_eq_true rfl) (s_keep hm hm8 ⟨_, rfl, rfl, ?_⟩)
        refine aw_aload_n (pc := 40) (i := 0) dX12_cross_40 rfl rfl ?_
        refine aw_iload_n (pc := 41) (i := 1) dX12_cross_41 rfl rfl ?_
        refine aw_iload_n (pc := 42) (i := 2) dX12_cross_42 rfl rfl ?_
        refine mc_V (pc := 43) (As := [.int (nI qn), .int (nI ln)]) (rest := []) dX12_cross_43 rfl ok_X12_330 rfl rfl rfl (Nat.le_of_ble_eq_true rfl) (s_crosses hb9 (by omega) (by omega) (by have := hP qn (by assumption); show σ.2.1 6 (79 + qn) < 7; omega) (by have := hP qn (by assumption); show σ.2.1 6 (114 + qn) ≤ 240; omega) (Or.inr (whyX_0 (by assumption))) ⟨_, rfl, rfl, ?_⟩)
        refine aw_iconst (pc := 46) dX12_cross_46 iconst_0 ?_
        exact aw_iret (pc := 47) dX12_cross_47 rfl (Nat.le_refl _) (Nat.le_refl _) (by simp only [crossA, crossS, h10, e_qn, h18, e_ln, h31, Bool.true_and, Bool.and_true, Bool.false_and, Bool.and_false, Bool.not_true, Bool.not_false, Bool.or_true, Bool.or_false, Bool.true_or, Bool.false_or, Bool.false_eq_true, Bool.true_eq_false, if_true, if_false, ite_true, ite_false, reduceIte, reduceCtorEq] at kk; exact kk)
      · -- 34
        refine aw_iload_n (pc := 34) (i := 3) dX12_cross_34 rfl rfl ?_
        exact aw_iret (pc := 35) dX12_cross_35 rfl (Nat.le_refl _) (Nat.le_refl _) (by simp only [crossA, crossS, h10, e_qn, h18, e_ln, h31, (Nat.ne_of_gt h31), Bool.true_and, Bool.and_true, Bool.false_and, Bool.and_false, Bool.not_true, Bool.not_false, Bool.or_true, Bool.or_false, Bool.true_or, Bool.false_or, Bool.false_eq_true, Bool.true_eq_false, if_true, if_false, ite_true, ite_false, reduceIte, reduceCtorEq] at kk; exact kk)
    · -- 21
      refine aw_iconst (pc := 21) dX12_cross_21 iconst_m1 ?_
      exact aw_iret (pc := 22) dX12_cross_22 rfl (Nat.le_refl _) (Nat.le_refl _) (by simp only [crossA, crossS, h10, e_qn, h18, Bool.true_and, Bool.and_true, Bool.false_and, Bool.and_false, Bool.not_true, Bool.not_false, Bool.or_true, Bool.or_false, Bool.true_or, Bool.false_or, Bool.false_eq_true, Bool.true_eq_false, if_true, if_false, ite_true, ite_false, reduceIte, reduceCtorEq] at kk; exact kk)
def pactA (t : Nat → Nat) (x y : Int32) : Int32 := if (inB (t 0) x && inB (t 0) y) = true then nI (whyPactF t x.toNatClampNeg y.toNatClampNeg) else -1
def pactS (σ : mS) (m : Nat) (x y : Int32) : mS := if (inB (σ.2.1 6 0) x && inB (σ.2.1 6 0) y) = true then (if whyPactF (σ.2.1 6) x.toNatClampNeg y.toNatClampNeg = 0 then sN (keepS (mI σ 0 (nI 0)) m) 6 (upN (σ.2.1 6) (101 + x.toNatClampNeg) (σ.2.1 6 (101 + x.toNatClampNeg) ||| 2 ^ y.toNatClampNeg)) else mI σ 0 (nI 0)) else mI σ 0 (nI 0)
def breaksA (t : Nat → Nat) (x y : Int32) : Int32 := if (inB (t 0) x && inB (t 0) y) = true then (if (t (101 + x.toNatClampNeg)).testBit y.toNatClampNeg = true then nI 0 else nI 1) else -1
def breaksS (σ : mS) (m : Nat) (x y : Int32) : mS := if (inB (σ.2.1 6 0) x && inB (σ.2.1 6 0) y) = true then (if (σ.2.1 6 (101 + x.toNatClampNeg)).testBit y.toNatClampNeg = true then sN (keepS (mI σ 0 (nI 0)) m) 6 (upN (σ.2.1 6) (101 + x.toNatClampNeg) (σ.2.1 6 (101 + x.toNatClampNeg) ^^^ 2 ^ y.toNatClampNeg)) else mI σ 0 (nI 0)) else mI σ 0 (nI 0)
def turnsA (t : Nat → Nat) (r : Int32) (c : Bool) : Int32 := if inB 12 r = true then nI (whyTurnF t r.toNatClampNeg c) else -1
def turnsS (σ : mS) (m : Nat) (r : Int32) (c : Bool) : mS := if inB 12 r = true then (if whyTurnF (σ.2.1 6) r.toNatClampNeg c = 0 then sN (keepS (mI σ 0 (nI 0)) m) 6 (upN (σ.2.1 6) 93 (σ.2.1 6 93 ^^^ 2 ^ r.toNatClampNeg)) else mI σ 0 (nI 0)) else mI σ 0 (nI 0)
def inC (lo hi x : Int32) : Bool := decide (lo ≤ x) && decide (x ≤ hi)
theorem inC_t {lo hi : Nat} (hh : hi < 2 ^ 30) (hl : lo < 2 ^ 30) {x : Int32} (h : inC (nI lo) (nI hi) x = true) : ∃ j, (lo ≤ j ∧ j ≤ hi) ∧ x = nI j := by
  simp only [inC, Bool.and_eq_true, decide_eq_true_eq, Int32.le_iff_toInt_le] at h
  rw [nI_toInt (n := lo) (by omega), nI_toInt (n := hi) (by omega)] at h
  obtain ⟨j, hj, rfl⟩ := nI_of (x := x) (by rw [Int32.lt_iff_toInt_lt, show (0 : Int32).toInt = 0 from rfl]; omega)
  rw [nI_toInt hj] at h
  exact ⟨j, by omega, rfl⟩
def lendA (t : Nat → Nat) (x y n : Int32) : Int32 := if (inB (t 0) x && inB (t 0) y && inC (nI 1) (nI 99) n) = true then nI (whyLendF t x.toNatClampNeg y.toNatClampNeg n.toNatClampNeg) else -1
def lendS (σ : mS) (m : Nat) (x y n : Int32) : mS := if (inB (σ.2.1 6 0) x && inB (σ.2.1 6 0) y && inC (nI 1) (nI 99) n) = true then (if whyLendF (σ.2.1 6) x.toNatClampNeg y.toNatClampNeg n.toNatClampNeg = 0 then sN (keepS (mI σ 0 (nI 0)) m) 6 (lendF (σ.2.1 6) x.toNatClampNeg y.toNatClampNeg n.toNatClampNeg) else mI σ 0 (nI 0)) else mI σ 0 (nI 0)
def daysA (t : Nat → Nat) (n : Int32) : Int32 := if inC (nI 1) (nI 60) n = true then (if t 91 = 400 then nI 0 else nI (goG n.toNatClampNeg t).1) else -1
def daysS (σ : mS) (m : Nat) (n : Int32) : mS := if inC (nI 1) (nI 60) n = true then (if σ.2.1 6 91 = 400 then mI σ 0 (nI 0) else sN (keepS (mI σ 0 (nI 0)) m) 6 (goG n.toNatClampNeg (σ.2.1 6)).2) else mI σ 0 (nI 0)
set_option maxHeartbeats 1000000 in
set_option maxRecDepth 20000 in
theorem s_pact {G : xG} {d : Nat} {Q : xQ} {a : Nat → Nat} {σ : mS} {m : Nat} {x : Int32} {y : Int32} (hw : WT (σ.2.1 6)) (hb9 : ∀ j, σ.2.1 6 j < 2 ^ 29) (hm : σ.1 23 = nI m) (hm8 : m ≤ 8) (kk : Q (some (.int (pactA (σ.2.1 6) x y))) (mW G.2.2.1 a (pactS σ m x y))) : MT G MX12_pact (d + 2) 0 0 [.ref (a 60), .int x, .int y] (mW G.2.2.1 a σ) Q := by
  obtain ⟨hb, h0, h1, h2, hR, hP, hD, hC, hT⟩ := id hw
  refine mt_start (L := [some (.ref (a 60)), some (.int x), some (.int y), none]) rfl (Nat.le_of_ble_eq_true rfl) rfl ?_
  refine aw_aload_n (pc := 0) (i := 0) dX12_pact_0 rfl rfl ?_
  refine aw_iconst (pc := 1) dX12_pact_1 iconst_0 ?_
  refine mp_thrown (pc := 2) dX12_pact_2 rfl ?_
  refine aw_aload_n (pc := 5) (i := 0) dX12_pact_5 rfl rfl ?_
  refine aw_iload_n (pc := 6) (i := 1) dX12_pact_6 rfl rfl ?_
  refine mc_I (pc := 7) (As := [.int x]) (rest := []) dX12_pact_7 rfl ok_X12_312 rfl rfl rfl (Nat.le_of_ble_eq_true rfl) (s_isLand ⟨_, _, rfl, rfl, ?_⟩)
  refine aw_top (y := bI (inB (σ.2.1 6 0) x)) rfl ?_
  refine ab_if_eq (pc := 10) (tgt := 21) dX12_pact_10 rfl (fun h10 => ?_) (fun h10 => ?_)
  · -- 21
    refine aw_iconst (pc := 21) dX12_pact_21 iconst_m1 ?_
    exact aw_iret (pc := 22) dX12_pact_22 rfl (Nat.le_refl _) (Nat.le_refl _) (by simp only [pactA, pactS, h10, Bool.true_and, Bool.and_true, Bool.false_and, Bool.and_false, Bool.not_true, Bool.not_false, Bool.or_true, Bool.or_false, Bool.true_or, Bool.false_or, Bool.false_eq_true, Bool.true_eq_false, if_true, if_false, ite_true, ite_false, reduceIte, reduceCtorEq] at kk; exact kk)
  · -- 13
    obtain ⟨xn, b_xn, rfl⟩ := inB_t (by omega) h10
    have e_xn := nI_clamp (n := xn) (by omega)
    refine aw_aload_n (pc := 13) (i := 0) dX12_pact_13 rfl rfl ?_
    refine aw_iload_n (pc := 14) (i := 2) dX12_pact_14 rfl rfl ?_
    refine mc_I (pc := 15) (As := [.int y]) (rest := []) dX12_pact_15 rfl ok_X12_312 rfl rfl rfl (Nat.le_of_ble_eq_true rfl) (s_isLand ⟨_, _, rfl, rfl, ?_⟩)
    refine aw_top (y := bI (inB (σ.2.1 6 0) y)) rfl ?_
    refine ab_if_ne (pc := 18) (tgt := 23) dX12_pact_18 rfl (fun h18 => ?_) (fun h18 => ?_)
    · -- 23
      obtain ⟨yn, b_yn, rfl⟩ := inB_t (by omega) h18
      have e_yn := nI_clamp (n := yn) (by omega)
      refine aw_aload_n (pc := 23) (i := 0) dX12_pact_23 rfl rfl ?_
      refine aw_iload_n (pc := 24) (i := 1) dX12_pact_24 rfl rfl ?_
      refine aw_iload_n (pc := 25) (i := 2) dX12_pact_25 rfl rfl ?_
      refine mc_I (pc := 26) (As := [.int (nI xn), .int (nI yn)]) (rest := []) dX12_pact_26 rfl ok_X12_334 rfl rfl rfl (Nat.le_of_ble_eq_true rfl) (s_whyPact hb (by omega) (by omega) ⟨_, _, rfl, rfl, ?_⟩)
      refine aw_top (y := nI (whyPactF (σ.2.1 6) xn yn)) rfl ?_
      refine aw_istore_n (pc := 29) (i := 3) dX12_pact_29 rfl (Nat.le_of_ble_eq_true rfl) rfl ?_
      refine aw_iload_n (pc := 30) (i := 3) dX12_pact_30 rfl rfl ?_
      refine an_if_le (pc := 31) (tgt := 36) dX12_pact_31 rfl (whyPactF_lt _ _ _) (fun h31 => ?_) (fun h31 => ?_)
      · -- 36
        refine aw_aload_n (pc := 36) (i := 0) dX12_pact_36 rfl rfl ?_
        refine mc_V (pc := 37) (As := []) (rest := []) dX12_pact_37 rfl ok_X12_327 rfl rfl rfl (Nat.le_of_ble_eq_true rfl) (s_keep hm hm8 ⟨_, rfl, rfl, ?_⟩)
        refine aw_aload_n (pc := 40) (i := 0) dX12_pact_40 rfl rfl ?_
        refine mg_s (pc := 41) dX12_pact_41 rfl ?_
        refine aw_bipush (pc := 44) dX12_pact_44 bipush_101 ?_
        refine aw_iload_n (pc := 46) (i := 1) dX12_pact_46 rfl rfl ?_
        refine an_add (pc := 47) dX12_pact_47 ?_
        refine aw_dup2 (pc := 48) dX12_pact_48 rfl rfl ?_
        refine ml_s (pc := 49) dX12_pact_49 (by omega) ?_
        refine aw_top (y := (nI (σ.2.1 6 (101 + xn)))) rfl ?_
        refine aw_iconst (pc := 50) dX12_pact_50 iconst_1 ?_
        refine aw_iload_n (pc := 51) (i := 2) dX12_pact_51 rfl rfl ?_
        refine aw_ishl (pc := 52) dX12_pact_52 ?_
        refine aw_ior (pc := 53) dX12_pact_53 ?_
        refine aw_top (y := (nI (σ.2.1 6 (101 + xn) ||| 2 ^ yn))) (by rw [nI_1shl (by omega), nI_or _ _ (Nat.lt_trans (hb _) (by decide)) (Nat.lt_trans (Nat.pow_lt_pow_right (a := 2) (by omega) (show yn < 12 by omega)) (by decide))]) ?_
        refine ms_s (pc := 54) dX12_pact_54 (by omega) ?_
        refine aw_iconst (pc := 55) dX12_pact_55 iconst_0 ?_
        exact aw_iret (pc := 56) dX12_pact_56 rfl (Nat.le_refl _) (Nat.le_refl _) (by simp only [pactA, pactS, h10, e_xn, h18, e_yn, h31, Bool.true_and, Bool.and_true, Bool.false_and, Bool.and_false, Bool.not_true, Bool.not_false, Bool.or_true, Bool.or_false, Bool.true_or, Bool.false_or, Bool.false_eq_true, Bool.true_eq_false, if_true, if_false, ite_true, ite_false, reduceIte, reduceCtorEq] at kk; exact kk)
      · -- 34
        refine aw_iload_n (pc := 34) (i := 3) dX12_pact_34 rfl rfl ?_
        exact aw_iret (pc := 35) dX12_pact_35 rfl (Nat.le_refl _) (Nat.le_refl _) (by simp only [pactA, pactS, h10, e_xn, h18, e_yn, h31, (Nat.ne_of_gt h31), Bool.true_and, Bool.and_true, Bool.false_and, Bool.and_false, Bool.not_true, Bool.not_false, Bool.or_true, Bool.or_false, Bool.true_or, Bool.false_or, Bool.false_eq_true, Bool.true_eq_false, if_true, if_false, ite_true, ite_false, reduceIte, reduceCtorEq] at kk; exact kk)
    · -- 21
      refine aw_iconst (pc := 21) dX12_pact_21 iconst_m1 ?_
      exact aw_iret (pc := 22) dX12_pact_22 rfl (Nat.le_refl _) (Nat.le_refl _) (by simp only [pactA, pactS, h10, e_xn, h18, Bool.true_and, Bool.and_true, Bool.false_and, Bool.and_false, Bool.not_true, Bool.not_false, Bool.or_true, Bool.or_false, Bool.true_or, Bool.false_or, Bool.false_eq_true, Bool.true_eq_false, if_true, if_false, ite_true, ite_false, reduceIte, reduceCtorEq] at kk; exact kk)
set_option maxHeartbeats 1000000 in
set_option maxRecDepth 20000 in
theorem s_breaks {G : xG} {d : Nat} {Q : xQ} {a : Nat → Nat} {σ : mS} {m : Nat} {x : Int32} {y : Int32} (hw : WT (σ.2.1 6)) (hb9 : ∀ j, σ.2.1 6 j < 2 ^ 29) (hm : σ.1 23 = nI m) (hm8 : m ≤ 8) (kk : Q (some (.int (breaksA (σ.2.1 6) x y))) (mW G.2.2.1 a (breaksS σ m x y))) : MT G MX12_breaks (d + 2) 0 0 [.ref (a 60), .int x, .int y] (mW G.2.2.1 a σ) Q := by
  obtain ⟨hb, h0, h1, h2, hR, hP, hD, hC, hT⟩ := id hw
  refine mt_start (L := [some (.ref (a 60)), some (.int x), some (.int y)]) rfl (Nat.le_of_ble_eq_true rfl) rfl ?_
  refine aw_aload_n (pc := 0) (i := 0) dX12_breaks_0 rfl rfl ?_
  refine aw_iconst (pc := 1) dX12_breaks_1 iconst_0 ?_
  refine mp_thrown (pc := 2) dX12_breaks_2 rfl ?_
  refine aw_aload_n (pc := 5) (i := 0) dX12_breaks_5 rfl rfl ?_
  refine aw_iload_n (pc := 6) (i := 1) dX12_breaks_6 rfl rfl ?_
  refine mc_I (pc := 7) (As := [.int x]) (rest := []) dX12_breaks_7 rfl ok_X12_312 rfl rfl rfl (Nat.le_of_ble_eq_true rfl) (s_isLand ⟨_, _, rfl, rfl, ?_⟩)
  refine aw_top (y := bI (inB (σ.2.1 6 0) x)) rfl ?_
  refine ab_if_eq (pc := 10) (tgt := 21) dX12_breaks_10 rfl (fun h10 => ?_) (fun h10 => ?_)
  · -- 21
    refine aw_iconst (pc := 21) dX12_breaks_21 iconst_m1 ?_
    exact aw_iret (pc := 22) dX12_breaks_22 rfl (Nat.le_refl _) (Nat.le_refl _) (by simp only [breaksA, breaksS, h10, Bool.true_and, Bool.and_true, Bool.false_and, Bool.and_false, Bool.not_true, Bool.not_false, Bool.or_true, Bool.or_false, Bool.true_or, Bool.false_or, Bool.false_eq_true, Bool.true_eq_false, if_true, if_false, ite_true, ite_false, reduceIte, reduceCtorEq] at kk; exact kk)
  · -- 13
    obtain ⟨xn, b_xn, rfl⟩ := inB_t (by omega) h10
    have e_xn := nI_clamp (n := xn) (by omega)
    refine aw_aload_n (pc := 13) (i := 0) dX12_breaks_13 rfl rfl ?_
    refine aw_iload_n (pc := 14) (i := 2) dX12_breaks_14 rfl rfl ?_
    refine mc_I (pc := 15) (As := [.int y]) (rest := []) dX12_breaks_15 rfl ok_X12_312 rfl rfl rfl (Nat.le_of_ble_eq_true rfl) (s_isLand ⟨_, _, rfl, rfl, ?_⟩)
    refine aw_top (y := bI (inB (σ.2.1 6 0) y)) rfl ?_
    refine ab_if_ne (pc := 18) (tgt := 23) dX12_breaks_18 rfl (fun h18 => ?_) (fun h18 => ?_)
    · -- 23
      obtain ⟨yn, b_yn, rfl⟩ := inB_t (by omega) h18
      have e_yn := nI_clamp (n := yn) (by omega)
      refine aw_aload_n (pc := 23) (i := 0) dX12_breaks_23 rfl rfl ?_
      refine mg_s (pc := 24) dX12_breaks_24 rfl ?_
      refine aw_bipush (pc := 27) dX12_breaks_27 bipush_101 ?_
      refine aw_iload_n (pc := 29) (i := 1) dX12_breaks_29 rfl rfl ?_
      refine an_add (pc := 30) dX12_breaks_30 ?_
      refine ml_s (pc := 31) dX12_breaks_31 (by omega) ?_
      refine aw_top (y := (nI (σ.2.1 6 (101 + xn)))) rfl ?_
      refine aw_iload_n (pc := 32) (i := 2) dX12_breaks_32 rfl rfl ?_
      refine mt_I (pc := 33) (As := [.int (nI (σ.2.1 6 (101 + xn))), .int (nI yn)]) (rest := []) dX12_breaks_33 rfl ok_X12_257 rfl rfl rfl (Nat.le_of_ble_eq_true rfl) (s_bitOf (Nat.lt_trans (hb _) (by decide)) (by omega) ⟨_, _, rfl, rfl, ?_⟩)
      refine ab_if_ne (pc := 36) (tgt := 41) dX12_breaks_36 rfl (fun h36 => ?_) (fun h36 => ?_)
      · -- 41
        refine aw_aload_n (pc := 41) (i := 0) dX12_breaks_41 rfl rfl ?_
        refine mc_V (pc := 42) (As := []) (rest := []) dX12_breaks_42 rfl ok_X12_327 rfl rfl rfl (Nat.le_of_ble_eq_true rfl) (s_keep hm hm8 ⟨_, rfl, rfl, ?_⟩)
        refine aw_aload_n (pc := 45) (i := 0) dX12_breaks_45 rfl rfl ?_
        refine mg_s (pc := 46) dX12_breaks_46 rfl ?_
        refine aw_bipush (pc := 49) dX12_breaks_49 bipush_101 ?_
        refine aw_iload_n (pc := 51) (i := 1) dX12_breaks_51 rfl rfl ?_
        refine an_add (pc := 52) dX12_breaks_52 ?_
        refine aw_dup2 (pc := 53) dX12_breaks_53 rfl rfl ?_
        refine ml_s (pc := 54) dX12_breaks_54 (by omega) ?_
        refine aw_top (y := (nI (σ.2.1 6 (101 + xn)))) rfl ?_
        refine aw_iconst (pc := 55) dX12_breaks_55 iconst_1 ?_
        refine aw_iload_n (pc := 56) (i := 2) dX12_breaks_56 rfl rfl ?_
        refine aw_ishl (pc := 57) dX12_breaks_57 ?_
        refine aw_ixor (pc := 58) dX12_breaks_58 ?_
        refine aw_top (y := (nI (σ.2.1 6 (101 + xn) ^^^ 2 ^ yn))) (by rw [nI_1shl (by omega), nI_xor _ _ (Nat.lt_trans (hb _) (by decide)) (Nat.lt_trans (Nat.pow_lt_pow_right (a := 2) (by omega) (show yn < 12 by omega)) (by decide))]) ?_
        refine ms_s (pc := 59) dX12_breaks_59 (by omega) ?_
        refine aw_iconst (pc := 60) dX12_breaks_60 iconst_0 ?_
        exact aw_iret (pc := 61) dX12_breaks_61 rfl (Nat.le_refl _) (Nat.le_refl _) (by simp only [breaksA, breaksS, h10, e_xn, h18, e_yn, h36, Bool.true_and, Bool.and_true, Bool.false_and, Bool.and_false, Bool.not_true, Bool.not_false, Bool.or_true, Bool.or_false, Bool.true_or, Bool.false_or, Bool.false_eq_true, Bool.true_eq_false, if_true, if_false, ite_true, ite_false, reduceIte, reduceCtorEq] at kk; exact kk)
      · -- 39
        refine aw_iconst (pc := 39) dX12_breaks_39 iconst_1 ?_
        exact aw_iret (pc := 40) dX12_breaks_40 rfl (Nat.le_refl _) (Nat.le_refl _) (by simp only [breaksA, breaksS, h10, e_xn, h18, e_yn, h36, Bool.true_and, Bool.and_true, Bool.false_and, Bool.and_false, Bool.not_true, Bool.not_false, Bool.or_true, Bool.or_false, Bool.true_or, Bool.false_or, Bool.false_eq_true, Bool.true_eq_false, if_true, if_false, ite_true, ite_false, reduceIte, reduceCtorEq] at kk; exact kk)
    · -- 21
      refine aw_iconst (pc := 21) dX12_breaks_21 iconst_m1 ?_
      exact aw_iret (pc := 22) dX12_breaks_22 rfl (Nat.le_refl _) (Nat.le_refl _) (by simp only [breaksA, breaksS, h10, e_xn, h18, Bool.true_and, Bool.and_true, Bool.false_and, Bool.and_false, Bool.not_true, Bool.not_false, Bool.or_true, Bool.or_false, Bool.true_or, Bool.false_or, Bool.false_eq_true, Bool.true_eq_false, if_true, if_false, ite_true, ite_false, reduceIte, reduceCtorEq] at kk; exact kk)
set_option maxHeartbeats 1000000 in
set_option maxRecDepth 20000 in
theorem s_turns {G : xG} {d : Nat} {Q : xQ} {a : Nat → Nat} {σ : mS} {m : Nat} {c : Bool} {r : Int32} (hw : WT (σ.2.1 6)) (hb9 : ∀ j, σ.2.1 6 j < 2 ^ 29) (hm : σ.1 23 = nI m) (hm8 : m ≤ 8) (kk : Q (some (.int (turnsA (σ.2.1 6) r c))) (mW G.2.2.1 a (turnsS σ m r c))) : MT G MX12_turns (d + 3) 0 0 [.ref (a 60), .int r, .int (bI c)] (mW G.2.2.1 a σ) Q := by
  obtain ⟨hb, h0, h1, h2, hR, hP, hD, hC, hT⟩ := id hw
  refine mt_start (L := [some (.ref (a 60)), some (.int r), some (.int (bI c)), none]) rfl (Nat.le_of_ble_eq_true rfl) rfl ?_
  refine aw_aload_n (pc := 0) (i := 0) dX12_turns_0 rfl rfl ?_
  refine aw_iconst (pc := 1) dX12_turns_1 iconst_0 ?_
  refine mp_thrown (pc := 2) dX12_turns_2 rfl ?_
  refine aw_iload_n (pc := 5) (i := 1) dX12_turns_5 rfl rfl ?_
  refine aw_iconst (pc := 6) dX12_turns_6 iconst_0 ?_
  refine aw_bipush (pc := 7) dX12_turns_7 bipush_11 ?_
  refine mt_I (pc := 9) (As := [.int r, .int (nI 0), .int (nI 11)]) (rest := []) dX12_turns_9 rfl ok_X12_207 rfl rfl rfl (Nat.le_of_ble_eq_true rfl) (s_isIn ⟨_, _, rfl, rfl, ?_⟩)
  refine aw_top (y := bI (inB 12 r)) rfl ?_
  refine ab_if_ne (pc := 12) (tgt := 17) dX12_turns_12 rfl (fun h12 => ?_) (fun h12 => ?_)
  · -- 17
    obtain ⟨rn, b_rn, rfl⟩ := inB_t (by omega) h12
    have e_rn := nI_clamp (n := rn) (by omega)
    refine aw_aload_n (pc := 17) (i := 0) dX12_turns_17 rfl rfl ?_
    refine aw_iload_n (pc := 18) (i := 1) dX12_turns_18 rfl rfl ?_
    refine aw_iload_n (pc := 19) (i := 2) dX12_turns_19 rfl rfl ?_
    refine mc_I (pc := 20) (As := [.int (nI rn), .int (bI c)]) (rest := []) dX12_turns_20 rfl ok_X12_337 rfl rfl rfl (Nat.le_of_ble_eq_true rfl) (s_whyTurn hb (by omega) ⟨_, _, rfl, rfl, ?_⟩)
    refine aw_top (y := nI (whyTurnF (σ.2.1 6) rn c)) rfl ?_
    refine aw_istore_n (pc := 23) (i := 3) dX12_turns_23 rfl (Nat.le_of_ble_eq_true rfl) rfl ?_
    refine aw_iload_n (pc := 24) (i := 3) dX12_turns_24 rfl rfl ?_
    refine an_if_le (pc := 25) (tgt := 30) dX12_turns_25 rfl (whyTurnF_lt _ _ _) (fun h25 => ?_) (fun h25 => ?_)
    · -- 30
      refine aw_aload_n (pc := 30) (i := 0) dX12_turns_30 rfl rfl ?_
      refine mc_V (pc := 31) (As := []) (rest := []) dX12_turns_31 rfl ok_X12_327 rfl rfl rfl (Nat.le_of_ble_eq_true rfl) (s_keep hm hm8 ⟨_, rfl, rfl, ?_⟩)
      refine aw_aload_n (pc := 34) (i := 0) dX12_turns_34 rfl rfl ?_
      refine mg_s (pc := 35) dX12_turns_35 rfl ?_
      refine aw_bipush (pc := 38) dX12_turns_38 bipush_93 ?_
      refine aw_dup2 (pc := 40) dX12_turns_40 rfl rfl ?_
      refine ml_s (pc := 41) dX12_turns_41 (by decide) ?_
      refine aw_top (y := (nI (σ.2.1 6 93))) rfl ?_
      refine aw_iconst (pc := 42) dX12_turns_42 iconst_1 ?_
      refine aw_iload_n (pc := 43) (i := 1) dX12_turns_43 rfl rfl ?_
      refine aw_ishl (pc := 44) dX12_turns_44 ?_
      refine aw_ixor (pc := 45) dX12_turns_45 ?_
      refine aw_top (y := (nI (σ.2.1 6 93 ^^^ 2 ^ rn))) (by rw [nI_1shl (by omega), nI_xor _ _ (Nat.lt_trans (hb _) (by decide)) (Nat.lt_trans (Nat.pow_lt_pow_right (a := 2) (by omega) (show rn < 12 by omega)) (by decide))]) ?_
      refine ms_s (pc := 46) dX12_turns_46 (by decide) ?_
      refine aw_iconst (pc := 47) dX12_turns_47 iconst_0 ?_
      exact aw_iret (pc := 48) dX12_turns_48 rfl (Nat.le_refl _) (Nat.le_refl _) (by simp only [turnsA, turnsS, h12, e_rn, h25, Bool.true_and, Bool.and_true, Bool.false_and, Bool.and_false, Bool.not_true, Bool.not_false, Bool.or_true, Bool.or_false, Bool.true_or, Bool.false_or, Bool.false_eq_true, Bool.true_eq_false, if_true, if_false, ite_true, ite_false, reduceIte, reduceCtorEq] at kk; exact kk)
    · -- 28
      refine aw_iload_n (pc := 28) (i := 3) dX12_turns_28 rfl rfl ?_
      exact aw_iret (pc := 29) dX12_turns_29 rfl (Nat.le_refl _) (Nat.le_refl _) (by simp only [turnsA, turnsS, h12, e_rn, h25, (Nat.ne_of_gt h25), Bool.true_and, Bool.and_true, Bool.false_and, Bool.and_false, Bool.not_true, Bool.not_false, Bool.or_true, Bool.or_false, Bool.true_or, Bool.false_or, Bool.false_eq_true, Bool.true_eq_false, if_true, if_false, ite_true, ite_false, reduceIte, reduceCtorEq] at kk; exact kk)
  · -- 15
    refine aw_iconst (pc := 15) dX12_turns_15 iconst_m1 ?_
    exact aw_iret (pc := 16) dX12_turns_16 rfl (Nat.le_refl _) (Nat.le_refl _) (by simp only [turnsA, turnsS, h12, Bool.true_and, Bool.and_true, Bool.false_and, Bool.and_false, Bool.not_true, Bool.not_false, Bool.or_true, Bool.or_false, Bool.true_or, Bool.false_or, Bool.false_eq_true, Bool.true_eq_false, if_true, if_false, ite_true, ite_false, reduceIte, reduceCtorEq] at kk; exact kk)
set_option maxHeartbeats 1000000 in
set_option maxRecDepth 20000 in
theorem s_close {G : xG} {d : Nat} {Q : xQ} {a : Nat → Nat} {σ : mS} {m : Nat} {r : Int32} (hw : WT (σ.2.1 6)) (hb9 : ∀ j, σ.2.1 6 j < 2 ^ 29) (hm : σ.1 23 = nI m) (hm8 : m ≤ 8) (kk : Q (some (.int (turnsA (σ.2.1 6) r true))) (mW G.2.2.1 a (turnsS σ m r true))) : MT G MX12_close (d + 4) 0 0 [.ref (a 60), .int r] (mW G.2.2.1 a σ) Q := by
  obtain ⟨hb, h0, h1, h2, hR, hP, hD, hC, hT⟩ := id hw
  refine mt_start (L := [some (.ref (a 60)), some (.int r)]) rfl (Nat.le_of_ble_eq_true rfl) rfl ?_
  refine aw_aload_n (pc := 0) (i := 0) dX12_close_0 rfl rfl ?_
  refine aw_iload_n (pc := 1) (i := 1) dX12_close_1 rfl rfl ?_
  refine aw_iconst (pc := 2) dX12_close_2 iconst_1 ?_
  refine mc_I (pc := 3) (As := [.int r, .int (nI 1)]) (rest := []) dX12_close_3 rfl ok_X12_341 rfl rfl rfl (Nat.le_of_ble_eq_true rfl) (s_turns (c := true) hw hb9 hm hm8 ⟨_, _, rfl, rfl, ?_⟩)
  exact aw_iret (pc := 6) dX12_close_6 rfl (Nat.le_refl _) (Nat.le_refl _) (kk)
set_option maxHeartbeats 1000000 in
set_option maxRecDepth 20000 in
theorem s_open {G : xG} {d : Nat} {Q : xQ} {a : Nat → Nat} {σ : mS} {m : Nat} {r : Int32} (hw : WT (σ.2.1 6)) (hb9 : ∀ j, σ.2.1 6 j < 2 ^ 29) (hm : σ.1 23 = nI m) (hm8 : m ≤ 8) (kk : Q (some (.int (turnsA (σ.2.1 6) r false))) (mW G.2.2.1 a (turnsS σ m r false))) : MT G MX12_open (d + 4) 0 0 [.ref (a 60), .int r] (mW G.2.2.1 a σ) Q := by
  obtain ⟨hb, h0, h1, h2, hR, hP, hD, hC, hT⟩ := id hw
  refine mt_start (L := [some (.ref (a 60)), some (.int r)]) rfl (Nat.le_of_ble_eq_true rfl) rfl ?_
  refine aw_aload_n (pc := 0) (i := 0) dX12_open_0 rfl rfl ?_
  refine aw_iload_n (pc := 1) (i := 1) dX12_open_1 rfl rfl ?_
  refine aw_iconst (pc := 2) dX12_open_2 iconst_0 ?_
  refine mc_I (pc := 3) (As := [.int r, .int (nI 0)]) (rest := []) dX12_open_3 rfl ok_X12_341 rfl rfl rfl (Nat.le_of_ble_eq_true rfl) (s_turns (c := false) hw hb9 hm hm8 ⟨_, _, rfl, rfl, ?_⟩)
  exact aw_iret (pc := 6) dX12_open_6 rfl (Nat.le_refl _) (Nat.le_refl _) (kk)
set_option maxHeartbeats 1000000 in
set_option maxRecDepth 20000 in
theorem s_lend {G : xG} {d : Nat} {Q : xQ} {a : Nat → Nat} {σ : mS} {m : Nat} {x : Int32} {y : Int32} {n : Int32} (hw : WT (σ.2.1 6)) (hb9 : ∀ j, σ.2.1 6 j < 2 ^ 29) (hm : σ.1 23 = nI m) (hm8 : m ≤ 8) (kk : Q (some (.int (lendA (σ.2.1 6) x y n))) (mW G.2.2.1 a (lendS σ m x y n))) : MT G MX12_lend (d + 2) 0 0 [.ref (a 60), .int x, .int y, .int n] (mW G.2.2.1 a σ) Q := by
  obtain ⟨hb, h0, h1, h2, hR, hP, hD, hC, hT⟩ := id hw
  refine mt_start (L := [some (.ref (a 60)), some (.int x), some (.int y), some (.int n), none]) rfl (Nat.le_of_ble_eq_true rfl) rfl ?_
  refine aw_aload_n (pc := 0) (i := 0) dX12_lend_0 rfl rfl ?_
  refine aw_iconst (pc := 1) dX12_lend_1 iconst_0 ?_
  refine mp_thrown (pc := 2) dX12_lend_2 rfl ?_
  refine aw_aload_n (pc := 5) (i := 0) dX12_lend_5 rfl rfl ?_
  refine aw_iload_n (pc := 6) (i := 1) dX12_lend_6 rfl rfl ?_
  refine mc_I (pc := 7) (As := [.int x]) (rest := []) dX12_lend_7 rfl ok_X12_312 rfl rfl rfl (Nat.le_of_ble_eq_true rfl) (s_isLand ⟨_, _, rfl, rfl, ?_⟩)
  refine aw_top (y := bI (inB (σ.2.1 6 0) x)) rfl ?_
  refine ab_if_eq (pc := 10) (tgt := 31) dX12_lend_10 rfl (fun h10 => ?_) (fun h10 => ?_)
  · -- 31
    refine aw_iconst (pc := 31) dX12_lend_31 iconst_m1 ?_
    exact aw_iret (pc := 32) dX12_lend_32 rfl (Nat.le_refl _) (Nat.le_refl _) (by simp only [lendA, lendS, h10, Bool.true_and, Bool.and_true, Bool.false_and, Bool.and_false, Bool.not_true, Bool.not_false, Bool.or_true, Bool.or_false, Bool.true_or, Bool.false_or, Bool.false_eq_true, Bool.true_eq_false, if_true, if_false, ite_true, ite_false, reduceIte, reduceCtorEq] at kk; exact kk)
  · -- 13
    obtain ⟨xn, b_xn, rfl⟩ := inB_t (by omega) h10
    have e_xn := nI_clamp (n := xn) (by omega)
    refine aw_aload_n (pc := 13) (i := 0) dX12_lend_13 rfl rfl ?_
    refine aw_iload_n (pc := 14) (i := 2) dX12_lend_14 rfl rfl ?_
    refine mc_I (pc := 15) (As := [.int y]) (rest := []) dX12_lend_15 rfl ok_X12_312 rfl rfl rfl (Nat.le_of_ble_eq_true rfl) (s_isLand ⟨_, _, rfl, rfl, ?_⟩)
    refine aw_top (y := bI (inB (σ.2.1 6 0) y)) rfl ?_
    refine ab_if_eq (pc := 18) (tgt := 31) dX12_lend_18 rfl (fun h18 => ?_) (fun h18 => ?_)
    · -- 31
      refine aw_iconst (pc := 31) dX12_lend_31 iconst_m1 ?_
      exact aw_iret (pc := 32) dX12_lend_32 rfl (Nat.le_refl _) (Nat.le_refl _) (by simp only [lendA, lendS, h10, e_xn, h18, Bool.true_and, Bool.and_true, Bool.false_and, Bool.and_false, Bool.not_true, Bool.not_false, Bool.or_true, Bool.or_false, Bool.true_or, Bool.false_or, Bool.false_eq_true, Bool.true_eq_false, if_true, if_false, ite_true, ite_false, reduceIte, reduceCtorEq] at kk; exact kk)
    · -- 21
      obtain ⟨yn, b_yn, rfl⟩ := inB_t (by omega) h18
      have e_yn := nI_clamp (n := yn) (by omega)
      refine aw_iload_n (pc := 21) (i := 3) dX12_lend_21 rfl rfl ?_
      refine aw_iconst (pc := 22) dX12_lend_22 iconst_1 ?_
      refine aw_bipush (pc := 23) dX12_lend_23 bipush_99 ?_
      refine mt_I (pc := 25) (As := [.int n, .int (nI 1), .int (nI 99)]) (rest := []) dX12_lend_25 rfl ok_X12_207 rfl rfl rfl (Nat.le_of_ble_eq_true rfl) (s_isIn ⟨_, _, rfl, rfl, ?_⟩)
      refine aw_top (y := bI (inC (nI 1) (nI 99) n)) rfl ?_
      refine ab_if_ne (pc := 28) (tgt := 33) dX12_lend_28 rfl (fun h28 => ?_) (fun h28 => ?_)
      · -- 33
        obtain ⟨nn, b_nn, rfl⟩ := inC_t (by decide) (by decide) h28
        have e_nn := nI_clamp (n := nn) (by omega)
        refine aw_aload_n (pc := 33) (i := 0) dX12_lend_33 rfl rfl ?_
        refine aw_iload_n (pc := 34) (i := 1) dX12_lend_34 rfl rfl ?_
        refine aw_iload_n (pc := 35) (i := 2) dX12_lend_35 rfl rfl ?_
        refine aw_iload_n (pc := 36) (i := 3) dX12_lend_36 rfl rfl ?_
        refine mc_I (pc := 37) (As := [.int (nI xn), .int (nI yn), .int (nI nn)]) (rest := []) dX12_lend_37 rfl ok_X12_344 rfl rfl rfl (Nat.le_of_ble_eq_true rfl) (s_whyLend hb (by omega) (by omega) (by omega) ⟨_, _, rfl, rfl, ?_⟩)
        refine aw_top (y := nI (whyLendF (σ.2.1 6) xn yn nn)) rfl ?_
        refine aw_istore (pc := 40) (i := 4) dX12_lend_40 (Nat.le_of_ble_eq_true rfl) rfl ?_
        refine aw_iload (pc := 42) dX12_lend_42 rfl ?_
        refine an_if_le (pc := 44) (tgt := 50) dX12_lend_44 rfl (whyLendF_lt _ _ _ _) (fun h44 => ?_) (fun h44 => ?_)
        · -- 50
          refine aw_aload_n (pc := 50) (i := 0) dX12_lend_50 rfl rfl ?_
          refine mc_V (pc := 51) (As := []) (rest := []) dX12_lend_51 rfl ok_X12_327 rfl rfl rfl (Nat.le_of_ble_eq_true rfl) (s_keep hm hm8 ⟨_, rfl, rfl, ?_⟩)
          refine aw_aload_n (pc := 54) (i := 0) dX12_lend_54 rfl rfl ?_
          refine aw_iload_n (pc := 55) (i := 1) dX12_lend_55 rfl rfl ?_
          refine aw_iload_n (pc := 56) (i := 2) dX12_lend_56 rfl rfl ?_
          refine aw_iload_n (pc := 57) (i := 3) dX12_lend_57 rfl rfl ?_
          refine mc_V (pc := 58) (As := [.int (nI xn), .int (nI yn), .int (nI nn)]) (rest := []) dX12_lend_58 rfl ok_X12_347 rfl rfl rfl (Nat.le_of_ble_eq_true rfl) (s_lends (by omega) (by omega) (by intro e; simp [whyLendF, e] at h44) (by show nn ≤ σ.2.1 6 (94 + xn); unfold whyLendF at h44; split at h44; omega; split at h44 <;> omega) ⟨_, rfl, rfl, ?_⟩)
          refine aw_iconst (pc := 61) dX12_lend_61 iconst_0 ?_
          exact aw_iret (pc := 62) dX12_lend_62 rfl (Nat.le_refl _) (Nat.le_refl _) (by simp only [lendA, lendS, h10, e_xn, h18, e_yn, h28, e_nn, h44, Bool.true_and, Bool.and_true, Bool.false_and, Bool.and_false, Bool.not_true, Bool.not_false, Bool.or_true, Bool.or_false, Bool.true_or, Bool.false_or, Bool.false_eq_true, Bool.true_eq_false, if_true, if_false, ite_true, ite_false, reduceIte, reduceCtorEq] at kk; exact kk)
        · -- 47
          refine aw_iload (pc := 47) dX12_lend_47 rfl ?_
          exact aw_iret (pc := 49) dX12_lend_49 rfl (Nat.le_refl _) (Nat.le_refl _) (by simp only [lendA, lendS, h10, e_xn, h18, e_yn, h28, e_nn, h44, (Nat.ne_of_gt h44), Bool.true_and, Bool.and_true, Bool.false_and, Bool.and_false, Bool.not_true, Bool.not_false, Bool.or_true, Bool.or_false, Bool.true_or, Bool.false_or, Bool.false_eq_true, Bool.true_eq_false, if_true, if_false, ite_true, ite_false, reduceIte, reduceCtorEq] at kk; exact kk)
      · -- 31
        refine aw_iconst (pc := 31) dX12_lend_31 iconst_m1 ?_
        exact aw_iret (pc := 32) dX12_lend_32 rfl (Nat.le_refl _) (Nat.le_refl _) (by simp only [lendA, lendS, h10, e_xn, h18, e_yn, h28, Bool.true_and, Bool.and_true, Bool.false_and, Bool.and_false, Bool.not_true, Bool.not_false, Bool.or_true, Bool.or_false, Bool.true_or, Bool.false_or, Bool.false_eq_true, Bool.true_eq_false, if_true, if_false, ite_true, ite_false, reduceIte, reduceCtorEq] at kk; exact kk)
set_option maxHeartbeats 1000000 in
set_option maxRecDepth 20000 in
theorem s_days {G : xG} {d : Nat} {Q : xQ} {a : Nat → Nat} {σ : mS} {m : Nat} {n : Int32} (hw : WT (σ.2.1 6)) (hb9 : ∀ j, σ.2.1 6 j < 2 ^ 29) (hm : σ.1 23 = nI m) (hm8 : m ≤ 8) (kk : Q (some (.int (daysA (σ.2.1 6) n))) (mW G.2.2.1 a (daysS σ m n))) : MT G MX12_days (d + 3) 0 0 [.ref (a 60), .int n] (mW G.2.2.1 a σ) Q := by
  obtain ⟨hb, h0, h1, h2, hR, hP, hD, hC, hT⟩ := id hw
  refine mt_start (L := [some (.ref (a 60)), some (.int n)]) rfl (Nat.le_of_ble_eq_true rfl) rfl ?_
  refine aw_aload_n (pc := 0) (i := 0) dX12_days_0 rfl rfl ?_
  refine aw_iconst (pc := 1) dX12_days_1 iconst_0 ?_
  refine mp_thrown (pc := 2) dX12_days_2 rfl ?_
  refine aw_iload_n (pc := 5) (i := 1) dX12_days_5 rfl rfl ?_
  refine aw_iconst (pc := 6) dX12_days_6 iconst_1 ?_
  refine aw_bipush (pc := 7) dX12_days_7 bipush_60 ?_
  refine mt_I (pc := 9) (As := [.int n, .int (nI 1), .int (nI 60)]) (rest := []) dX12_days_9 rfl ok_X12_207 rfl rfl rfl (Nat.le_of_ble_eq_true rfl) (s_isIn ⟨_, _, rfl, rfl, ?_⟩)
  refine aw_top (y := bI (inC (nI 1) (nI 60) n)) rfl ?_
  refine ab_if_ne (pc := 12) (tgt := 17) dX12_days_12 rfl (fun h12 => ?_) (fun h12 => ?_)
  · -- 17
    obtain ⟨nn, b_nn, rfl⟩ := inC_t (by decide) (by decide) h12
    have e_nn := nI_clamp (n := nn) (by omega)
    refine aw_aload_n (pc := 17) (i := 0) dX12_days_17 rfl rfl ?_
    refine mg_s (pc := 18) dX12_days_18 rfl ?_
    refine aw_bipush (pc := 21) dX12_days_21 bipush_91 ?_
    refine ml_s (pc := 23) dX12_days_23 (by decide) ?_
    refine aw_top (y := (nI (σ.2.1 6 91))) rfl ?_
    refine aw_sipush (pc := 24) dX12_days_24 sipush_400 ?_
    refine an_icmp_ne (pc := 27) (tgt := 32) dX12_days_27 rfl (Nat.lt_trans (hb _) (by decide)) (by decide) (fun h27 => ?_) (fun h27 => ?_)
    · -- 32
      refine aw_aload_n (pc := 32) (i := 0) dX12_days_32 rfl rfl ?_
      refine mc_V (pc := 33) (As := []) (rest := []) dX12_days_33 rfl ok_X12_327 rfl rfl rfl (Nat.le_of_ble_eq_true rfl) (s_keep hm hm8 ⟨_, rfl, rfl, ?_⟩)
      refine aw_aload_n (pc := 36) (i := 0) dX12_days_36 rfl rfl ?_
      refine aw_iload_n (pc := 37) (i := 1) dX12_days_37 rfl rfl ?_
      refine mc_I (pc := 38) (As := [.int (nI nn)]) (rest := []) dX12_days_38 rfl ok_X12_351 rfl rfl rfl (Nat.le_of_ble_eq_true rfl) (s_goesOn ⟨hb, h2, fun q hq => by have := hP q hq; show σ.2.1 6 (79 + q) < 7; omega⟩ (by omega) ⟨_, _, rfl, rfl, ?_⟩)
      refine aw_top (y := nI (goG nn (σ.2.1 6)).1) rfl ?_
      exact aw_iret (pc := 41) dX12_days_41 rfl (Nat.le_refl _) (Nat.le_refl _) (by simp only [daysA, daysS, h12, e_nn, h27, Bool.true_and, Bool.and_true, Bool.false_and, Bool.and_false, Bool.not_true, Bool.not_false, Bool.or_true, Bool.or_false, Bool.true_or, Bool.false_or, Bool.false_eq_true, Bool.true_eq_false, if_true, if_false, ite_true, ite_false, reduceIte, reduceCtorEq] at kk; exact kk)
    · -- 30
      refine aw_iconst (pc := 30) dX12_days_30 iconst_0 ?_
      exact aw_iret (pc := 31) dX12_days_31 rfl (Nat.le_refl _) (Nat.le_refl _) (by simp only [daysA, daysS, h12, e_nn, h27, Bool.true_and, Bool.and_true, Bool.false_and, Bool.and_false, Bool.not_true, Bool.not_false, Bool.or_true, Bool.or_false, Bool.true_or, Bool.false_or, Bool.false_eq_true, Bool.true_eq_false, if_true, if_false, ite_true, ite_false, reduceIte, reduceCtorEq] at kk; exact kk)
  · -- 15
    refine aw_iconst (pc := 15) dX12_days_15 iconst_m1 ?_
    exact aw_iret (pc := 16) dX12_days_16 rfl (Nat.le_refl _) (Nat.le_refl _) (by simp only [daysA, daysS, h12, Bool.true_and, Bool.and_true, Bool.false_and, Bool.and_false, Bool.not_true, Bool.not_false, Bool.or_true, Bool.or_false, Bool.true_or, Bool.false_or, Bool.false_eq_true, Bool.true_eq_false, if_true, if_false, ite_true, ite_false, reduceIte, reduceCtorEq] at kk; exact kk)
