/-- a row of at most N that was told last, m of it; none before -/
def rowA (m : Int32) (row : Nat → Nat) (x : Int32) : Int32 := if inC (nI 0) (m - nI 1) x = true then nI (row x.toNatClampNeg) else -1
def rowM (m : Int32) (N : Nat) : Prop := m = -1 ∨ ∃ j, j ≤ N ∧ m = nI j
theorem rowM_lt {m x : Int32} {N : Nat} (hN : N < 2 ^ 29) (hm : rowM m N) (h : inC (nI 0) (m - nI 1) x = true) : ∃ i, i < N ∧ x = nI i := by
  simp only [inC, Bool.and_eq_true, decide_eq_true_eq, Int32.le_iff_toInt_le] at h
  have e0 : (nI 0).toInt = 0 := by decide
  rw [e0] at h
  obtain ⟨i, hi, rfl⟩ := nI_of (x := x) (by rw [Int32.lt_iff_toInt_lt, show (0 : Int32).toInt = 0 from rfl]; omega)
  rw [nI_toInt hi] at h
  rcases hm with rfl | ⟨j, hj, rfl⟩
  · have : ((-1 : Int32) - nI 1).toInt = -2 := by decide
    omega
  · have e := pk_sub_toInt (a := j) (b := 1) (by omega) (by decide)
    rw [e] at h
    exact ⟨i, by omega, rfl⟩
def restB (t : Nat → Nat) : Nat → Bool
  | 0 => true
  | n + 1 => restB t n && !growsF t n
def restsG : Nat → (Nat → Nat) → Nat × (Nat → Nat)
  | 0, t => (0, t)
  | f + 1, t => if t 91 < 400 then (if restB t (t 2) = true then (0, t) else ((restsG f (dayF t)).1 + 1, (restsG f (dayF t)).2)) else (0, t)
def restsA (t : Nat → Nat) : Int32 := if (restsG 401 t).2 91 < 400 then nI (restsG 401 t).1 else -1
def triesS (σ : mS) : mS := sN σ 22 (cpF (σ.2.1 22) (σ.2.1 6) 0 91 47)
theorem cp_cp (x y : Nat → Nat) (b o n : Nat) : cpF x y b o n = cpF (cpF x y b o n) y b o n := by
  funext j
  by_cases hj : b ≤ j ∧ j < b + n
  · rw [cpF_in hj, cpF_in hj]
  · rw [cpF_out hj, cpF_out hj, cpF_out hj]
theorem back_id {t u b : Nat → Nat} (h : ∀ j, ¬ (91 ≤ j ∧ j < 138) → u j = t j) : cpF u (cpF b t 0 91 47) 91 0 47 = t := by
  funext j
  by_cases hj : 91 ≤ j ∧ j < 138
  · rw [cpF_in (by omega), cpF_in (by omega)]
    congr 1
    omega
  · rw [cpF_out (by omega)]
    exact h j hj
theorem dayF_keep {t : Nat → Nat} (h : DK t) {j : Nat} (hj : ¬ (91 ≤ j ∧ j < 138)) : dayF t j = t j := by
  unfold dayF
  rw [upN_n _ _ _ _ (by omega)]
  exact dayG_keep _ h.2.1 h.2.2 j (by omega) (by omega)
theorem dayF_91 {t : Nat → Nat} (h : DK t) : dayF t 91 = t 91 + 1 := by
  unfold dayF
  rw [upN_s, dayG_91 h]

set_option maxHeartbeats 1000000 in
set_option maxRecDepth 20000 in
theorem s_wayAt {G : xG} {d : Nat} {Q : xQ} {a : Nat → Nat} {σ : mS} {x : Int32} (hm : rowM (σ.1 34) 5) (kk : Q (some (.int (rowA (σ.1 34) (σ.2.1 31) x))) (mW G.2.2.1 a (mI σ 0 (nI 0)))) : MT G MX12_wayAt (d + 1) 0 0 [.ref (a 60), .int x] (mW G.2.2.1 a σ) Q := by
  refine mt_start (L := [some (.ref (a 60)), some (.int x)]) rfl (Nat.le_of_ble_eq_true rfl) rfl ?_
  refine aw_aload_n (pc := 0) (i := 0) dX12_wayAt_0 rfl rfl ?_
  refine aw_iconst (pc := 1) dX12_wayAt_1 iconst_0 ?_
  refine mp_thrown (pc := 2) dX12_wayAt_2 rfl ?_
  refine aw_iload_n (pc := 5) (i := 1) dX12_wayAt_5 rfl rfl ?_
  refine aw_iconst (pc := 6) dX12_wayAt_6 iconst_0 ?_
  refine aw_aload_n (pc := 7) (i := 0) dX12_wayAt_7 rfl rfl ?_
  refine mg_wayMany (pc := 8) dX12_wayAt_8 rfl ?_
  refine aw_top (y := σ.1 34) rfl ?_
  refine aw_iconst (pc := 11) dX12_wayAt_11 iconst_1 ?_
  refine aw_isub (pc := 12) dX12_wayAt_12 ?_
  refine mt_I (pc := 13) (As := [.int x, .int (nI 0), .int ((σ.1 34) - (nI 1))]) (rest := []) dX12_wayAt_13 rfl ok_X12_207 rfl rfl rfl (Nat.le_of_ble_eq_true rfl) (s_isIn ⟨_, _, rfl, rfl, ?_⟩)
  refine aw_top (y := bI (inC (nI 0) ((σ.1 34) - (nI 1)) x)) rfl ?_
  refine ab_if_eq (pc := 16) (tgt := 28) dX12_wayAt_16 rfl (fun h16 => ?_) (fun h16 => ?_)
  · -- 28
    refine aw_iconst (pc := 28) dX12_wayAt_28 iconst_m1 ?_
    exact aw_iret (pc := 29) dX12_wayAt_29 rfl (Nat.le_refl _) (Nat.le_refl _) (by simp only [rowA, h16, Bool.true_and, Bool.and_true, Bool.false_and, Bool.and_false, Bool.not_true, Bool.not_false, Bool.or_true, Bool.or_false, Bool.true_or, Bool.false_or, Bool.false_eq_true, Bool.true_eq_false, if_true, if_false, ite_true, ite_false, reduceIte, reduceCtorEq] at kk; exact kk)
  · -- 19
    obtain ⟨xn, b_xn, rfl⟩ := rowM_lt (by decide) hm h16
    have e_xn := nI_clamp (n := xn) (by omega)
    refine aw_aload_n (pc := 19) (i := 0) dX12_wayAt_19 rfl rfl ?_
    refine mg_wayRow (pc := 20) dX12_wayAt_20 rfl ?_
    refine aw_iload_n (pc := 23) (i := 1) dX12_wayAt_23 rfl rfl ?_
    refine ml_wayRow (pc := 24) dX12_wayAt_24 (by omega) ?_
    refine aw_top (y := (nI (σ.2.1 31 xn))) rfl ?_
    refine aw_goto (pc := 25) (tgt := 29) dX12_wayAt_25 rfl ?_
    exact aw_iret (pc := 29) dX12_wayAt_29 rfl (Nat.le_refl _) (Nat.le_refl _) (by simp only [rowA, h16, e_xn, Bool.true_and, Bool.and_true, Bool.false_and, Bool.and_false, Bool.not_true, Bool.not_false, Bool.or_true, Bool.or_false, Bool.true_or, Bool.false_or, Bool.false_eq_true, Bool.true_eq_false, if_true, if_false, ite_true, ite_false, reduceIte, reduceCtorEq] at kk; exact kk)
set_option maxHeartbeats 1000000 in
set_option maxRecDepth 20000 in
theorem s_madeAt {G : xG} {d : Nat} {Q : xQ} {a : Nat → Nat} {σ : mS} {x : Int32} (hm : rowM (σ.1 35) 4) (kk : Q (some (.int (rowA (σ.1 35) (σ.2.1 32) x))) (mW G.2.2.1 a (mI σ 0 (nI 0)))) : MT G MX12_madeAt (d + 1) 0 0 [.ref (a 60), .int x] (mW G.2.2.1 a σ) Q := by
  refine mt_start (L := [some (.ref (a 60)), some (.int x)]) rfl (Nat.le_of_ble_eq_true rfl) rfl ?_
  refine aw_aload_n (pc := 0) (i := 0) dX12_madeAt_0 rfl rfl ?_
  refine aw_iconst (pc := 1) dX12_madeAt_1 iconst_0 ?_
  refine mp_thrown (pc := 2) dX12_madeAt_2 rfl ?_
  refine aw_iload_n (pc := 5) (i := 1) dX12_madeAt_5 rfl rfl ?_
  refine aw_iconst (pc := 6) dX12_madeAt_6 iconst_0 ?_
  refine aw_aload_n (pc := 7) (i := 0) dX12_madeAt_7 rfl rfl ?_
  refine mg_madeMany (pc := 8) dX12_madeAt_8 rfl ?_
  refine aw_top (y := σ.1 35) rfl ?_
  refine aw_iconst (pc := 11) dX12_madeAt_11 iconst_1 ?_
  refine aw_isub (pc := 12) dX12_madeAt_12 ?_
  refine mt_I (pc := 13) (As := [.int x, .int (nI 0), .int ((σ.1 35) - (nI 1))]) (rest := []) dX12_madeAt_13 rfl ok_X12_207 rfl rfl rfl (Nat.le_of_ble_eq_true rfl) (s_isIn ⟨_, _, rfl, rfl, ?_⟩)
  refine aw_top (y := bI (inC (nI 0) ((σ.1 35) - (nI 1)) x)) rfl ?_
  refine ab_if_eq (pc := 16) (tgt := 28) dX12_madeAt_16 rfl (fun h16 => ?_) (fun h16 => ?_)
  · -- 28
    refine aw_iconst (pc := 28) dX12_madeAt_28 iconst_m1 ?_
    exact aw_iret (pc := 29) dX12_madeAt_29 rfl (Nat.le_refl _) (Nat.le_refl _) (by simp only [rowA, h16, Bool.true_and, Bool.and_true, Bool.false_and, Bool.and_false, Bool.not_true, Bool.not_false, Bool.or_true, Bool.or_false, Bool.true_or, Bool.false_or, Bool.false_eq_true, Bool.true_eq_false, if_true, if_false, ite_true, ite_false, reduceIte, reduceCtorEq] at kk; exact kk)
  · -- 19
    obtain ⟨xn, b_xn, rfl⟩ := rowM_lt (by decide) hm h16
    have e_xn := nI_clamp (n := xn) (by omega)
    refine aw_aload_n (pc := 19) (i := 0) dX12_madeAt_19 rfl rfl ?_
    refine mg_madeRow (pc := 20) dX12_madeAt_20 rfl ?_
    refine aw_iload_n (pc := 23) (i := 1) dX12_madeAt_23 rfl rfl ?_
    refine ml_madeRow (pc := 24) dX12_madeAt_24 (by omega) ?_
    refine aw_top (y := (nI (σ.2.1 32 xn))) rfl ?_
    refine aw_goto (pc := 25) (tgt := 29) dX12_madeAt_25 rfl ?_
    exact aw_iret (pc := 29) dX12_madeAt_29 rfl (Nat.le_refl _) (Nat.le_refl _) (by simp only [rowA, h16, e_xn, Bool.true_and, Bool.and_true, Bool.false_and, Bool.and_false, Bool.not_true, Bool.not_false, Bool.or_true, Bool.or_false, Bool.true_or, Bool.false_or, Bool.false_eq_true, Bool.true_eq_false, if_true, if_false, ite_true, ite_false, reduceIte, reduceCtorEq] at kk; exact kk)
set_option maxHeartbeats 1000000 in
set_option maxRecDepth 20000 in
theorem s_caravanAt {G : xG} {d : Nat} {Q : xQ} {a : Nat → Nat} {σ : mS} {x : Int32} (hm : rowM (σ.1 41) 6) (kk : Q (some (.int (rowA (σ.1 41) (σ.2.1 40) x))) (mW G.2.2.1 a (mI σ 0 (nI 0)))) : MT G MX12_caravanAt (d + 1) 0 0 [.ref (a 60), .int x] (mW G.2.2.1 a σ) Q := by
  refine mt_start (L := [some (.ref (a 60)), some (.int x)]) rfl (Nat.le_of_ble_eq_true rfl) rfl ?_
  refine aw_aload_n (pc := 0) (i := 0) dX12_caravanAt_0 rfl rfl ?_
  refine aw_iconst (pc := 1) dX12_caravanAt_1 iconst_0 ?_
  refine mp_thrown (pc := 2) dX12_caravanAt_2 rfl ?_
  refine aw_iload_n (pc := 5) (i := 1) dX12_caravanAt_5 rfl rfl ?_
  refine aw_iconst (pc := 6) dX12_caravanAt_6 iconst_0 ?_
  refine aw_aload_n (pc := 7) (i := 0) dX12_caravanAt_7 rfl rfl ?_
  refine mg_caravanMany (pc := 8) dX12_caravanAt_8 rfl ?_
  refine aw_top (y := σ.1 41) rfl ?_
  refine aw_iconst (pc := 11) dX12_caravanAt_11 iconst_1 ?_
  refine aw_isub (pc := 12) dX12_caravanAt_12 ?_
  refine mt_I (pc := 13) (As := [.int x, .int (nI 0), .int ((σ.1 41) - (nI 1))]) (rest := []) dX12_caravanAt_13 rfl ok_X12_207 rfl rfl rfl (Nat.le_of_ble_eq_true rfl) (s_isIn ⟨_, _, rfl, rfl, ?_⟩)
  refine aw_top (y := bI (inC (nI 0) ((σ.1 41) - (nI 1)) x)) rfl ?_
  refine ab_if_eq (pc := 16) (tgt := 28) dX12_caravanAt_16 rfl (fun h16 => ?_) (fun h16 => ?_)
  · -- 28
    refine aw_iconst (pc := 28) dX12_caravanAt_28 iconst_m1 ?_
    exact aw_iret (pc := 29) dX12_caravanAt_29 rfl (Nat.le_refl _) (Nat.le_refl _) (by simp only [rowA, h16, Bool.true_and, Bool.and_true, Bool.false_and, Bool.and_false, Bool.not_true, Bool.not_false, Bool.or_true, Bool.or_false, Bool.true_or, Bool.false_or, Bool.false_eq_true, Bool.true_eq_false, if_true, if_false, ite_true, ite_false, reduceIte, reduceCtorEq] at kk; exact kk)
  · -- 19
    obtain ⟨xn, b_xn, rfl⟩ := rowM_lt (by decide) hm h16
    have e_xn := nI_clamp (n := xn) (by omega)
    refine aw_aload_n (pc := 19) (i := 0) dX12_caravanAt_19 rfl rfl ?_
    refine mg_caravanRow (pc := 20) dX12_caravanAt_20 rfl ?_
    refine aw_iload_n (pc := 23) (i := 1) dX12_caravanAt_23 rfl rfl ?_
    refine ml_caravanRow (pc := 24) dX12_caravanAt_24 (by omega) ?_
    refine aw_top (y := (nI (σ.2.1 40 xn))) rfl ?_
    refine aw_goto (pc := 25) (tgt := 29) dX12_caravanAt_25 rfl ?_
    exact aw_iret (pc := 29) dX12_caravanAt_29 rfl (Nat.le_refl _) (Nat.le_refl _) (by simp only [rowA, h16, e_xn, Bool.true_and, Bool.and_true, Bool.false_and, Bool.and_false, Bool.not_true, Bool.not_false, Bool.or_true, Bool.or_false, Bool.true_or, Bool.false_or, Bool.false_eq_true, Bool.true_eq_false, if_true, if_false, ite_true, ite_false, reduceIte, reduceCtorEq] at kk; exact kk)
set_option maxHeartbeats 1000000 in
set_option maxRecDepth 20000 in
theorem s_byteAt {G : xG} {d : Nat} {Q : xQ} {a : Nat → Nat} {σ : mS} {x : Int32} (hm : rowM (σ.1 45) 40) (kk : Q (some (.int (rowA (σ.1 45) (σ.2.1 44) x))) (mW G.2.2.1 a (mI σ 0 (nI 0)))) : MT G MX12_byteAt (d + 1) 0 0 [.ref (a 60), .int x] (mW G.2.2.1 a σ) Q := by
  refine mt_start (L := [some (.ref (a 60)), some (.int x)]) rfl (Nat.le_of_ble_eq_true rfl) rfl ?_
  refine aw_aload_n (pc := 0) (i := 0) dX12_byteAt_0 rfl rfl ?_
  refine aw_iconst (pc := 1) dX12_byteAt_1 iconst_0 ?_
  refine mp_thrown (pc := 2) dX12_byteAt_2 rfl ?_
  refine aw_iload_n (pc := 5) (i := 1) dX12_byteAt_5 rfl rfl ?_
  refine aw_iconst (pc := 6) dX12_byteAt_6 iconst_0 ?_
  refine aw_aload_n (pc := 7) (i := 0) dX12_byteAt_7 rfl rfl ?_
  refine mg_textMany (pc := 8) dX12_byteAt_8 rfl ?_
  refine aw_top (y := σ.1 45) rfl ?_
  refine aw_iconst (pc := 11) dX12_byteAt_11 iconst_1 ?_
  refine aw_isub (pc := 12) dX12_byteAt_12 ?_
  refine mt_I (pc := 13) (As := [.int x, .int (nI 0), .int ((σ.1 45) - (nI 1))]) (rest := []) dX12_byteAt_13 rfl ok_X12_207 rfl rfl rfl (Nat.le_of_ble_eq_true rfl) (s_isIn ⟨_, _, rfl, rfl, ?_⟩)
  refine aw_top (y := bI (inC (nI 0) ((σ.1 45) - (nI 1)) x)) rfl ?_
  refine ab_if_eq (pc := 16) (tgt := 28) dX12_byteAt_16 rfl (fun h16 => ?_) (fun h16 => ?_)
  · -- 28
    refine aw_iconst (pc := 28) dX12_byteAt_28 iconst_m1 ?_
    exact aw_iret (pc := 29) dX12_byteAt_29 rfl (Nat.le_refl _) (Nat.le_refl _) (by simp only [rowA, h16, Bool.true_and, Bool.and_true, Bool.false_and, Bool.and_false, Bool.not_true, Bool.not_false, Bool.or_true, Bool.or_false, Bool.true_or, Bool.false_or, Bool.false_eq_true, Bool.true_eq_false, if_true, if_false, ite_true, ite_false, reduceIte, reduceCtorEq] at kk; exact kk)
  · -- 19
    obtain ⟨xn, b_xn, rfl⟩ := rowM_lt (by decide) hm h16
    have e_xn := nI_clamp (n := xn) (by omega)
    refine aw_aload_n (pc := 19) (i := 0) dX12_byteAt_19 rfl rfl ?_
    refine mg_text (pc := 20) dX12_byteAt_20 rfl ?_
    refine aw_iload_n (pc := 23) (i := 1) dX12_byteAt_23 rfl rfl ?_
    refine ml_text (pc := 24) dX12_byteAt_24 (by omega) ?_
    refine aw_top (y := (nI (σ.2.1 44 xn))) rfl ?_
    refine aw_goto (pc := 25) (tgt := 29) dX12_byteAt_25 rfl ?_
    exact aw_iret (pc := 29) dX12_byteAt_29 rfl (Nat.le_refl _) (Nat.le_refl _) (by simp only [rowA, h16, e_xn, Bool.true_and, Bool.and_true, Bool.false_and, Bool.and_false, Bool.not_true, Bool.not_false, Bool.or_true, Bool.or_false, Bool.true_or, Bool.false_or, Bool.false_eq_true, Bool.true_eq_false, if_true, if_false, ite_true, ite_false, reduceIte, reduceCtorEq] at kk; exact kk)
def hasA (c : Bool) (x : Int32) : Int32 := if c = true then x else -1
set_option maxHeartbeats 1000000 in
set_option maxRecDepth 20000 in
theorem s_spared {G : xG} {d : Nat} {Q : xQ} {a : Nat → Nat} {σ : mS} {c : Bool} (hc : σ.1 38 = bI c) (kk : Q (some (.int (hasA c (σ.1 37)))) (mW G.2.2.1 a (mI σ 0 (nI 0)))) : MT G MX12_spared (d) 0 0 [.ref (a 60)] (mW G.2.2.1 a σ) Q := by
  refine mt_start (L := [some (.ref (a 60))]) rfl (Nat.le_of_ble_eq_true rfl) rfl ?_
  refine aw_aload_n (pc := 0) (i := 0) dX12_spared_0 rfl rfl ?_
  refine aw_iconst (pc := 1) dX12_spared_1 iconst_0 ?_
  refine mp_thrown (pc := 2) dX12_spared_2 rfl ?_
  refine aw_aload_n (pc := 5) (i := 0) dX12_spared_5 rfl rfl ?_
  refine mg_hasSpared (pc := 6) dX12_spared_6 rfl ?_
  refine aw_top (y := σ.1 38) rfl ?_
  refine aw_top (y := (bI c)) hc ?_
  refine ab_if_eq (pc := 9) (tgt := 19) dX12_spared_9 rfl (fun h9 => ?_) (fun h9 => ?_)
  · -- 19
    refine aw_iconst (pc := 19) dX12_spared_19 iconst_m1 ?_
    exact aw_iret (pc := 20) dX12_spared_20 rfl (Nat.le_refl _) (Nat.le_refl _) (by simp only [hasA, h9, Bool.true_and, Bool.and_true, Bool.false_and, Bool.and_false, Bool.not_true, Bool.not_false, Bool.or_true, Bool.or_false, Bool.true_or, Bool.false_or, Bool.false_eq_true, Bool.true_eq_false, if_true, if_false, ite_true, ite_false, reduceIte, reduceCtorEq] at kk; exact kk)
  · -- 12
    refine aw_aload_n (pc := 12) (i := 0) dX12_spared_12 rfl rfl ?_
    refine mg_sparedSet (pc := 13) dX12_spared_13 rfl ?_
    refine aw_top (y := σ.1 37) rfl ?_
    refine aw_goto (pc := 16) (tgt := 20) dX12_spared_16 rfl ?_
    exact aw_iret (pc := 20) dX12_spared_20 rfl (Nat.le_refl _) (Nat.le_refl _) (by simp only [hasA, h9, Bool.true_and, Bool.and_true, Bool.false_and, Bool.and_false, Bool.not_true, Bool.not_false, Bool.or_true, Bool.or_false, Bool.true_or, Bool.false_or, Bool.false_eq_true, Bool.true_eq_false, if_true, if_false, ite_true, ite_false, reduceIte, reduceCtorEq] at kk; exact kk)
set_option maxHeartbeats 1000000 in
set_option maxRecDepth 20000 in
theorem s_parting {G : xG} {d : Nat} {Q : xQ} {a : Nat → Nat} {σ : mS} {c : Bool} (hc : σ.1 43 = bI c) (kk : Q (some (.int (hasA c (σ.1 42)))) (mW G.2.2.1 a (mI σ 0 (nI 0)))) : MT G MX12_parting (d) 0 0 [.ref (a 60)] (mW G.2.2.1 a σ) Q := by
  refine mt_start (L := [some (.ref (a 60))]) rfl (Nat.le_of_ble_eq_true rfl) rfl ?_
  refine aw_aload_n (pc := 0) (i := 0) dX12_parting_0 rfl rfl ?_
  refine aw_iconst (pc := 1) dX12_parting_1 iconst_0 ?_
  refine mp_thrown (pc := 2) dX12_parting_2 rfl ?_
  refine aw_aload_n (pc := 5) (i := 0) dX12_parting_5 rfl rfl ?_
  refine mg_hasPart (pc := 6) dX12_parting_6 rfl ?_
  refine aw_top (y := σ.1 43) rfl ?_
  refine aw_top (y := (bI c)) hc ?_
  refine ab_if_eq (pc := 9) (tgt := 19) dX12_parting_9 rfl (fun h9 => ?_) (fun h9 => ?_)
  · -- 19
    refine aw_iconst (pc := 19) dX12_parting_19 iconst_m1 ?_
    exact aw_iret (pc := 20) dX12_parting_20 rfl (Nat.le_refl _) (Nat.le_refl _) (by simp only [hasA, h9, Bool.true_and, Bool.and_true, Bool.false_and, Bool.and_false, Bool.not_true, Bool.not_false, Bool.or_true, Bool.or_false, Bool.true_or, Bool.false_or, Bool.false_eq_true, Bool.true_eq_false, if_true, if_false, ite_true, ite_false, reduceIte, reduceCtorEq] at kk; exact kk)
  · -- 12
    refine aw_aload_n (pc := 12) (i := 0) dX12_parting_12 rfl rfl ?_
    refine mg_partSet (pc := 13) dX12_parting_13 rfl ?_
    refine aw_top (y := σ.1 42) rfl ?_
    refine aw_goto (pc := 16) (tgt := 20) dX12_parting_16 rfl ?_
    exact aw_iret (pc := 20) dX12_parting_20 rfl (Nat.le_refl _) (Nat.le_refl _) (by simp only [hasA, h9, Bool.true_and, Bool.and_true, Bool.false_and, Bool.and_false, Bool.not_true, Bool.not_false, Bool.or_true, Bool.or_false, Bool.true_or, Bool.false_or, Bool.false_eq_true, Bool.true_eq_false, if_true, if_false, ite_true, ite_false, reduceIte, reduceCtorEq] at kk; exact kk)
def likelyA (m x : Int32) : Int32 := if m ≤ 0 then -1 else x
set_option maxHeartbeats 1000000 in
set_option maxRecDepth 20000 in
theorem s_likely {G : xG} {d : Nat} {Q : xQ} {a : Nat → Nat} {σ : mS} (kk : Q (some (.int (likelyA (σ.1 35) (σ.1 36)))) (mW G.2.2.1 a (mI σ 0 (nI 0)))) : MT G MX12_likely (d) 0 0 [.ref (a 60)] (mW G.2.2.1 a σ) Q := by
  refine mt_start (L := [some (.ref (a 60))]) rfl (Nat.le_of_ble_eq_true rfl) rfl ?_
  refine aw_aload_n (pc := 0) (i := 0) dX12_likely_0 rfl rfl ?_
  refine aw_iconst (pc := 1) dX12_likely_1 iconst_0 ?_
  refine mp_thrown (pc := 2) dX12_likely_2 rfl ?_
  refine aw_aload_n (pc := 5) (i := 0) dX12_likely_5 rfl rfl ?_
  refine mg_madeMany (pc := 6) dX12_likely_6 rfl ?_
  refine aw_top (y := σ.1 35) rfl ?_
  refine aw_if_le (pc := 9) (tgt := 19) dX12_likely_9 rfl (fun h9 => ?_) (fun h9 => ?_)
  · -- 19
    refine aw_iconst (pc := 19) dX12_likely_19 iconst_m1 ?_
    exact aw_iret (pc := 20) dX12_likely_20 rfl (Nat.le_refl _) (Nat.le_refl _) (by rw [likelyA, if_pos h9] at kk; exact kk)
  · -- 12
    refine aw_aload_n (pc := 12) (i := 0) dX12_likely_12 rfl rfl ?_
    refine mg_likelyLand (pc := 13) dX12_likely_13 rfl ?_
    refine aw_top (y := σ.1 36) rfl ?_
    refine aw_goto (pc := 16) (tgt := 20) dX12_likely_16 rfl ?_
    exact aw_iret (pc := 20) dX12_likely_20 rfl (Nat.le_refl _) (Nat.le_refl _) (by rw [likelyA, if_neg h9] at kk; exact kk)
def toldA (c : Bool) (row : Nat → Nat) (x : Int32) : Int32 := if c = true then (if inC (nI 0) (nI 3) x = true then nI (row x.toNatClampNeg) else -1) else -1
set_option maxHeartbeats 1000000 in
set_option maxRecDepth 20000 in
theorem s_told {G : xG} {d : Nat} {Q : xQ} {a : Nat → Nat} {σ : mS} {c : Bool} {x : Int32} (hc : σ.1 49 = bI c) (kk : Q (some (.int (toldA c (σ.2.1 48) x))) (mW G.2.2.1 a (mI σ 0 (nI 0)))) : MT G MX12_told (d + 1) 0 0 [.ref (a 60), .int x] (mW G.2.2.1 a σ) Q := by
  refine mt_start (L := [some (.ref (a 60)), some (.int x)]) rfl (Nat.le_of_ble_eq_true rfl) rfl ?_
  refine aw_aload_n (pc := 0) (i := 0) dX12_told_0 rfl rfl ?_
  refine aw_iconst (pc := 1) dX12_told_1 iconst_0 ?_
  refine mp_thrown (pc := 2) dX12_told_2 rfl ?_
  refine aw_aload_n (pc := 5) (i := 0) dX12_told_5 rfl rfl ?_
  refine mg_hasTold (pc := 6) dX12_told_6 rfl ?_
  refine aw_top (y := σ.1 49) rfl ?_
  refine aw_top (y := (bI c)) hc ?_
  refine ab_if_eq (pc := 9) (tgt := 30) dX12_told_9 rfl (fun h9 => ?_) (fun h9 => ?_)
  · -- 30
    refine aw_iconst (pc := 30) dX12_told_30 iconst_m1 ?_
    exact aw_iret (pc := 31) dX12_told_31 rfl (Nat.le_refl _) (Nat.le_refl _) (by simp only [toldA, h9, Bool.true_and, Bool.and_true, Bool.false_and, Bool.and_false, Bool.not_true, Bool.not_false, Bool.or_true, Bool.or_false, Bool.true_or, Bool.false_or, Bool.false_eq_true, Bool.true_eq_false, if_true, if_false, ite_true, ite_false, reduceIte, reduceCtorEq] at kk; exact kk)
  · -- 12
    refine aw_iload_n (pc := 12) (i := 1) dX12_told_12 rfl rfl ?_
    refine aw_iconst (pc := 13) dX12_told_13 iconst_0 ?_
    refine aw_iconst (pc := 14) dX12_told_14 iconst_3 ?_
    refine mt_I (pc := 15) (As := [.int x, .int (nI 0), .int (nI 3)]) (rest := []) dX12_told_15 rfl ok_X12_207 rfl rfl rfl (Nat.le_of_ble_eq_true rfl) (s_isIn ⟨_, _, rfl, rfl, ?_⟩)
    refine aw_top (y := bI (inC (nI 0) (nI 3) x)) rfl ?_
    refine ab_if_eq (pc := 18) (tgt := 30) dX12_told_18 rfl (fun h18 => ?_) (fun h18 => ?_)
    · -- 30
      refine aw_iconst (pc := 30) dX12_told_30 iconst_m1 ?_
      exact aw_iret (pc := 31) dX12_told_31 rfl (Nat.le_refl _) (Nat.le_refl _) (by simp only [toldA, h9, h18, Bool.true_and, Bool.and_true, Bool.false_and, Bool.and_false, Bool.not_true, Bool.not_false, Bool.or_true, Bool.or_false, Bool.true_or, Bool.false_or, Bool.false_eq_true, Bool.true_eq_false, if_true, if_false, ite_true, ite_false, reduceIte, reduceCtorEq] at kk; exact kk)
    · -- 21
      obtain ⟨xn, b_xn, rfl⟩ := inC_t (by decide) (by decide) h18
      have e_xn := nI_clamp (n := xn) (by omega)
      refine aw_aload_n (pc := 21) (i := 0) dX12_told_21 rfl rfl ?_
      refine mg_toldAt (pc := 22) dX12_told_22 rfl ?_
      refine aw_iload_n (pc := 25) (i := 1) dX12_told_25 rfl rfl ?_
      refine ml_toldAt (pc := 26) dX12_told_26 (by omega) ?_
      refine aw_top (y := (nI (σ.2.1 48 xn))) rfl ?_
      refine aw_goto (pc := 27) (tgt := 31) dX12_told_27 rfl ?_
      exact aw_iret (pc := 31) dX12_told_31 rfl (Nat.le_refl _) (Nat.le_refl _) (by simp only [toldA, h9, h18, e_xn, Bool.true_and, Bool.and_true, Bool.false_and, Bool.and_false, Bool.not_true, Bool.not_false, Bool.or_true, Bool.or_false, Bool.true_or, Bool.false_or, Bool.false_eq_true, Bool.true_eq_false, if_true, if_false, ite_true, ite_false, reduceIte, reduceCtorEq] at kk; exact kk)
set_option maxHeartbeats 1000000 in
set_option maxRecDepth 20000 in
theorem isRest_loop {G : xG} {d : Nat} {Q : xQ} {a : Nat → Nat} {σ : mS} (hk : DK (σ.2.1 6)) (kk : Q (some (.int (bI (restB (σ.2.1 6) (σ.2.1 6 2))))) (mW G.2.2.1 a σ)) : ∀ (n i : Nat), i + n = σ.2.1 6 2 → AW G MX12_isRest (d + 1) 0 0 Q 4 [some (.ref (a 60)), some (.int (bI (restB (σ.2.1 6) i))), some (.int (nI i))] [] (mW G.2.2.1 a σ) 0 0 := by
  intro n
  induction n with
  | zero =>
    intro i hi
    have h2 := hk.2.1
    refine aw_iload_n (pc := 4) (i := 2) dX12_isRest_4 rfl rfl ?_
    refine aw_aload_n (pc := 5) (i := 0) dX12_isRest_5 rfl rfl ?_
    refine mg_s (pc := 6) dX12_isRest_6 rfl ?_
    refine aw_iconst (pc := 9) dX12_isRest_9 iconst_2 ?_
    refine ml_s (pc := 10) dX12_isRest_10 (by decide) ?_
    refine an_icmp_ge (pc := 11) (tgt := 38) dX12_isRest_11 rfl (by omega) (Nat.lt_trans (hk.1 _) (by decide)) (fun h11 => ?_) (fun h11 => ?_)
    · -- 38
      refine aw_iload_n (pc := 38) (i := 1) dX12_isRest_38 rfl rfl ?_
      exact ab_ret (pc := 39) dX12_isRest_39 rfl (Nat.le_refl _) (Nat.le_refl _) (by have e : i = σ.2.1 6 2 := (by omega); subst e; exact kk)
    · -- 14
      exfalso; omega
  | succ n ih =>
    intro i hi
    have h2 := hk.2.1
    refine aw_iload_n (pc := 4) (i := 2) dX12_isRest_4 rfl rfl ?_
    refine aw_aload_n (pc := 5) (i := 0) dX12_isRest_5 rfl rfl ?_
    refine mg_s (pc := 6) dX12_isRest_6 rfl ?_
    refine aw_iconst (pc := 9) dX12_isRest_9 iconst_2 ?_
    refine ml_s (pc := 10) dX12_isRest_10 (by decide) ?_
    refine an_icmp_ge (pc := 11) (tgt := 38) dX12_isRest_11 rfl (by omega) (Nat.lt_trans (hk.1 _) (by decide)) (fun h11 => ?_) (fun h11 => ?_)
    · -- 38
      exfalso; omega
    · -- 14
      refine aw_iload_n (pc := 14) (i := 1) dX12_isRest_14 rfl rfl ?_
      refine ab_if_eq (pc := 15) (tgt := 30) dX12_isRest_15 rfl (fun h15 => ?_) (fun h15 => ?_)
      · -- 30
        refine aw_iconst (pc := 30) dX12_isRest_30 iconst_0 ?_
        refine aw_istore_n (pc := 31) (i := 1) dX12_isRest_31 rfl (Nat.le_of_ble_eq_true rfl) rfl ?_
        refine an_inc (pc := 32) (z := 1) dX12_isRest_32 rfl (Nat.le_of_ble_eq_true rfl) rfl ?_
        refine aw_goto (pc := 35) (tgt := 4) dX12_isRest_35 rfl ?_
        refine aw_L (L9 := [some (.ref (a 60)), some (.int (bI (restB (σ.2.1 6) (i + 1)))), some (.int (nI (i + 1)))]) (by rw [show restB (σ.2.1 6) (i + 1) = false by rw [restB]; simp [*]]; rfl) ?_
        exact ih (i + 1) (by omega)
      · -- 18
        refine aw_aload_n (pc := 18) (i := 0) dX12_isRest_18 rfl rfl ?_
        refine aw_iload_n (pc := 19) (i := 2) dX12_isRest_19 rfl rfl ?_
        refine mc_I (pc := 20) (As := [.int (nI i)]) (rest := []) dX12_isRest_20 rfl ok_X12_321 rfl rfl rfl (Nat.le_of_ble_eq_true rfl) (s_grows hk.1 (by omega) (hk.2.2 i (by omega)) ⟨_, _, rfl, rfl, ?_⟩)
        refine ab_if_ne (pc := 23) (tgt := 30) dX12_isRest_23 rfl (fun h23 => ?_) (fun h23 => ?_)
        · -- 30
          refine aw_iconst (pc := 30) dX12_isRest_30 iconst_0 ?_
          refine aw_istore_n (pc := 31) (i := 1) dX12_isRest_31 rfl (Nat.le_of_ble_eq_true rfl) rfl ?_
          refine an_inc (pc := 32) (z := 1) dX12_isRest_32 rfl (Nat.le_of_ble_eq_true rfl) rfl ?_
          refine aw_goto (pc := 35) (tgt := 4) dX12_isRest_35 rfl ?_
          refine aw_L (L9 := [some (.ref (a 60)), some (.int (bI (restB (σ.2.1 6) (i + 1)))), some (.int (nI (i + 1)))]) (by rw [show restB (σ.2.1 6) (i + 1) = false by rw [restB]; simp [*]]; rfl) ?_
          exact ih (i + 1) (by omega)
        · -- 26
          refine aw_iconst (pc := 26) dX12_isRest_26 iconst_1 ?_
          refine aw_goto (pc := 27) (tgt := 31) dX12_isRest_27 rfl ?_
          refine aw_istore_n (pc := 31) (i := 1) dX12_isRest_31 rfl (Nat.le_of_ble_eq_true rfl) rfl ?_
          refine an_inc (pc := 32) (z := 1) dX12_isRest_32 rfl (Nat.le_of_ble_eq_true rfl) rfl ?_
          refine aw_goto (pc := 35) (tgt := 4) dX12_isRest_35 rfl ?_
          refine aw_L (L9 := [some (.ref (a 60)), some (.int (bI (restB (σ.2.1 6) (i + 1)))), some (.int (nI (i + 1)))]) (by rw [show restB (σ.2.1 6) (i + 1) = true by rw [restB]; simp [*]]; rfl) ?_
          exact ih (i + 1) (by omega)
set_option maxHeartbeats 1000000 in
set_option maxRecDepth 20000 in
theorem s_isRest {G : xG} {d : Nat} {Q : xQ} {a : Nat → Nat} {σ : mS} (hk : DK (σ.2.1 6)) (kk : Q (some (.int (bI (restB (σ.2.1 6) (σ.2.1 6 2))))) (mW G.2.2.1 a σ)) : MT G MX12_isRest (d + 1) 0 0 [.ref (a 60)] (mW G.2.2.1 a σ) Q := by
  refine mt_start (L := [some (.ref (a 60)), none, none]) rfl (Nat.le_of_ble_eq_true rfl) rfl ?_
  refine aw_iconst (pc := 0) dX12_isRest_0 iconst_1 ?_
  refine aw_istore_n (pc := 1) (i := 1) dX12_isRest_1 rfl (Nat.le_of_ble_eq_true rfl) rfl ?_
  refine aw_iconst (pc := 2) dX12_isRest_2 iconst_0 ?_
  refine aw_istore_n (pc := 3) (i := 2) dX12_isRest_3 rfl (Nat.le_of_ble_eq_true rfl) rfl ?_
  exact isRest_loop hk kk (σ.2.1 6 2) 0 (by omega)
set_option maxHeartbeats 1000000 in
set_option maxRecDepth 20000 in
theorem rests_loop {G : xG} {d : Nat} {Q : xQ} {a : Nat → Nat} {σ : mS} {t : Nat → Nat} (hb : σ.2.1 22 = cpF (σ.2.1 22) t 0 91 47) : ∀ (f i : Nat) (u : Nat → Nat), DK u → 400 - u 91 < f → (∀ j, ¬ (91 ≤ j ∧ j < 138) → u j = t j) → i + f ≤ 500 → Q (some (.int (if (restsG f u).2 91 < 400 then nI (i + (restsG f u).1) else -1))) (mW G.2.2.1 a (sN σ 6 t)) → AW G MX12_rests (d + 3) 0 0 Q 11 [some (.ref (a 60)), some (.int (nI i)), none] [] (mW G.2.2.1 a (sN σ 6 u)) 0 0 := by
  intro f
  induction f with
  | zero => intro i u _ h; exact absurd h (Nat.not_lt_zero _)
  | succ f ih =>
    intro i u hu hf hj hi kk
    refine aw_aload_n (pc := 11) (i := 0) dX12_rests_11 rfl rfl ?_
    refine mg_s (pc := 12) dX12_rests_12 rfl ?_
    refine aw_bipush (pc := 15) dX12_rests_15 bipush_91 ?_
    refine ml_s (pc := 17) dX12_rests_17 (by decide) ?_
    refine aw_top (y := (nI (u 91))) rfl ?_
    refine aw_sipush (pc := 18) dX12_rests_18 sipush_400 ?_
    refine an_icmp_ge (pc := 21) (tgt := 41) dX12_rests_21 rfl (Nat.lt_trans (hu.1 _) (by decide)) (by decide) (fun h21 => ?_) (fun h21 => ?_)
    · -- 41
      refine aw_aload_n (pc := 41) (i := 0) dX12_rests_41 rfl rfl ?_
      refine mg_s (pc := 42) dX12_rests_42 rfl ?_
      refine aw_bipush (pc := 45) dX12_rests_45 bipush_91 ?_
      refine ml_s (pc := 47) dX12_rests_47 (by decide) ?_
      refine aw_top (y := (nI (u 91))) rfl ?_
      refine aw_sipush (pc := 48) dX12_rests_48 sipush_400 ?_
      refine an_icmp_ge (pc := 51) (tgt := 58) dX12_rests_51 rfl (Nat.lt_trans (hu.1 _) (by decide)) (by decide) (fun h51 => ?_) (fun h51 => ?_)
      · -- 58
        refine aw_iconst (pc := 58) dX12_rests_58 iconst_0 ?_
        refine aw_istore_n (pc := 59) (i := 2) dX12_rests_59 rfl (Nat.le_of_ble_eq_true rfl) rfl ?_
        refine aw_aload_n (pc := 60) (i := 0) dX12_rests_60 rfl rfl ?_
        refine mc_V (pc := 61) (As := []) (rest := []) dX12_rests_61 rfl ok_X12_395 rfl rfl rfl (Nat.le_of_ble_eq_true rfl) (s_back ⟨_, rfl, rfl, ?_⟩)
        refine aw_ws (w9 := mW G.2.2.1 a (sN σ 6 t)) (congrArg (fun z => mW G.2.2.1 a (sN σ 6 z)) (show cpF u (σ.2.1 22) 91 0 47 = t by rw [hb]; exact back_id hj)) ?_
        refine aw_iload_n (pc := 64) (i := 2) dX12_rests_64 rfl rfl ?_
        refine an_if_eq (pc := 65) (tgt := 72) dX12_rests_65 rfl (by decide) (fun h65 => ?_) (fun h65 => ?_)
        · -- 72
          refine aw_iconst (pc := 72) dX12_rests_72 iconst_m1 ?_
          exact aw_iret (pc := 73) dX12_rests_73 rfl (Nat.le_refl _) (Nat.le_refl _) (by first | (simp only [restsG, if_pos h21, if_pos h28, Nat.add_zero] at kk; exact kk) | (simp only [restsG, if_neg (show ¬ u 91 < 400 by omega)] at kk; exact kk) | (exfalso; omega))
        · -- 68
          refine aw_iload_n (pc := 68) (i := 1) dX12_rests_68 rfl rfl ?_
          refine aw_goto (pc := 69) (tgt := 73) dX12_rests_69 rfl ?_
          exact aw_iret (pc := 73) dX12_rests_73 rfl (Nat.le_refl _) (Nat.le_refl _) (by first | (simp only [restsG, if_pos h21, if_pos h28, Nat.add_zero] at kk; exact kk) | (simp only [restsG, if_neg (show ¬ u 91 < 400 by omega)] at kk; exact kk) | (exfalso; omega))
      · -- 54
        refine aw_iconst (pc := 54) dX12_rests_54 iconst_1 ?_
        refine aw_goto (pc := 55) (tgt := 59) dX12_rests_55 rfl ?_
        refine aw_istore_n (pc := 59) (i := 2) dX12_rests_59 rfl (Nat.le_of_ble_eq_true rfl) rfl ?_
        refine aw_aload_n (pc := 60) (i := 0) dX12_rests_60 rfl rfl ?_
        refine mc_V (pc := 61) (As := []) (rest := []) dX12_rests_61 rfl ok_X12_395 rfl rfl rfl (Nat.le_of_ble_eq_true rfl) (s_back ⟨_, rfl, rfl, ?_⟩)
        refine aw_ws (w9 := mW G.2.2.1 a (sN σ 6 t)) (congrArg (fun z => mW G.2.2.1 a (sN σ 6 z)) (show cpF u (σ.2.1 22) 91 0 47 = t by rw [hb]; exact back_id hj)) ?_
        refine aw_iload_n (pc := 64) (i := 2) dX12_rests_64 rfl rfl ?_
        refine an_if_eq (pc := 65) (tgt := 72) dX12_rests_65 rfl (by decide) (fun h65 => ?_) (fun h65 => ?_)
        · -- 72
          refine aw_iconst (pc := 72) dX12_rests_72 iconst_m1 ?_
          exact aw_iret (pc := 73) dX12_rests_73 rfl (Nat.le_refl _) (Nat.le_refl _) (by first | (simp only [restsG, if_pos h21, if_pos h28, Nat.add_zero] at kk; exact kk) | (simp only [restsG, if_neg (show ¬ u 91 < 400 by omega)] at kk; exact kk) | (exfalso; omega))
        · -- 68
          refine aw_iload_n (pc := 68) (i := 1) dX12_rests_68 rfl rfl ?_
          refine aw_goto (pc := 69) (tgt := 73) dX12_rests_69 rfl ?_
          exact aw_iret (pc := 73) dX12_rests_73 rfl (Nat.le_refl _) (Nat.le_refl _) (by first | (simp only [restsG, if_pos h21, if_pos h28, Nat.add_zero] at kk; exact kk) | (simp only [restsG, if_neg (show ¬ u 91 < 400 by omega)] at kk; exact kk) | (exfalso; omega))
    · -- 24
      refine aw_aload_n (pc := 24) (i := 0) dX12_rests_24 rfl rfl ?_
      refine mc_I (pc := 25) (As := []) (rest := []) dX12_rests_25 rfl ok_X12_410 rfl rfl rfl (Nat.le_of_ble_eq_true rfl) (s_isRest hu ⟨_, _, rfl, rfl, ?_⟩)
      refine aw_top (y := bI (restB u (u 2))) rfl ?_
      refine ab_if_ne (pc := 28) (tgt := 41) dX12_rests_28 rfl (fun h28 => ?_) (fun h28 => ?_)
      · -- 41
        refine aw_aload_n (pc := 41) (i := 0) dX12_rests_41 rfl rfl ?_
        refine mg_s (pc := 42) dX12_rests_42 rfl ?_
        refine aw_bipush (pc := 45) dX12_rests_45 bipush_91 ?_
        refine ml_s (pc := 47) dX12_rests_47 (by decide) ?_
        refine aw_top (y := (nI (u 91))) rfl ?_
        refine aw_sipush (pc := 48) dX12_rests_48 sipush_400 ?_
        refine an_icmp_ge (pc := 51) (tgt := 58) dX12_rests_51 rfl (Nat.lt_trans (hu.1 _) (by decide)) (by decide) (fun h51 => ?_) (fun h51 => ?_)
        · -- 58
          refine aw_iconst (pc := 58) dX12_rests_58 iconst_0 ?_
          refine aw_istore_n (pc := 59) (i := 2) dX12_rests_59 rfl (Nat.le_of_ble_eq_true rfl) rfl ?_
          refine aw_aload_n (pc := 60) (i := 0) dX12_rests_60 rfl rfl ?_
          refine mc_V (pc := 61) (As := []) (rest := []) dX12_rests_61 rfl ok_X12_395 rfl rfl rfl (Nat.le_of_ble_eq_true rfl) (s_back ⟨_, rfl, rfl, ?_⟩)
          refine aw_ws (w9 := mW G.2.2.1 a (sN σ 6 t)) (congrArg (fun z => mW G.2.2.1 a (sN σ 6 z)) (show cpF u (σ.2.1 22) 91 0 47 = t by rw [hb]; exact back_id hj)) ?_
          refine aw_iload_n (pc := 64) (i := 2) dX12_rests_64 rfl rfl ?_
          refine an_if_eq (pc := 65) (tgt := 72) dX12_rests_65 rfl (by decide) (fun h65 => ?_) (fun h65 => ?_)
          · -- 72
            refine aw_iconst (pc := 72) dX12_rests_72 iconst_m1 ?_
            exact aw_iret (pc := 73) dX12_rests_73 rfl (Nat.le_refl _) (Nat.le_refl _) (by first | (simp only [restsG, if_pos h21, if_pos h28, Nat.add_zero] at kk; exact kk) | (simp only [restsG, if_neg (show ¬ u 91 < 400 by omega)] at kk; exact kk) | (exfalso; omega))
          · -- 68
            refine aw_iload_n (pc := 68) (i := 1) dX12_rests_68 rfl rfl ?_
            refine aw_goto (pc := 69) (tgt := 73) dX12_rests_69 rfl ?_
            exact aw_iret (pc := 73) dX12_rests_73 rfl (Nat.le_refl _) (Nat.le_refl _) (by first | (simp only [restsG, if_pos h21, if_pos h28, Nat.add_zero] at kk; exact kk) | (simp only [restsG, if_neg (show ¬ u 91 < 400 by omega)] at kk; exact kk) | (exfalso; omega))
        · -- 54
          refine aw_iconst (pc := 54) dX12_rests_54 iconst_1 ?_
          refine aw_goto (pc := 55) (tgt := 59) dX12_rests_55 rfl ?_
          refine aw_istore_n (pc := 59) (i := 2) dX12_rests_59 rfl (Nat.le_of_ble_eq_true rfl) rfl ?_
          refine aw_aload_n (pc := 60) (i := 0) dX12_rests_60 rfl rfl ?_
          refine mc_V (pc := 61) (As := []) (rest := []) dX12_rests_61 rfl ok_X12_395 rfl rfl rfl (Nat.le_of_ble_eq_true rfl) (s_back ⟨_, rfl, rfl, ?_⟩)
          refine aw_ws (w9 := mW G.2.2.1 a (sN σ 6 t)) (congrArg (fun z => mW G.2.2.1 a (sN σ 6 z)) (show cpF u (σ.2.1 22) 91 0 47 = t by rw [hb]; exact back_id hj)) ?_
          refine aw_iload_n (pc := 64) (i := 2) dX12_rests_64 rfl rfl ?_
          refine an_if_eq (pc := 65) (tgt := 72) dX12_rests_65 rfl (by decide) (fun h65 => ?_) (fun h65 => ?_)
          · -- 72
            refine aw_iconst (pc := 72) dX12_rests_72 iconst_m1 ?_
            exact aw_iret (pc := 73) dX12_rests_73 rfl (Nat.le_refl _) (Nat.le_refl _) (by first | (simp only [restsG, if_pos h21, if_pos h28, Nat.add_zero] at kk; exact kk) | (simp only [restsG, if_neg (show ¬ u 91 < 400 by omega)] at kk; exact kk) | (exfalso; omega))
          · -- 68
            refine aw_iload_n (pc := 68) (i := 1) dX12_rests_68 rfl rfl ?_
            refine aw_goto (pc := 69) (tgt := 73) dX12_rests_69 rfl ?_
            exact aw_iret (pc := 73) dX12_rests_73 rfl (Nat.le_refl _) (Nat.le_refl _) (by first | (simp only [restsG, if_pos h21, if_pos h28, Nat.add_zero] at kk; exact kk) | (simp only [restsG, if_neg (show ¬ u 91 < 400 by omega)] at kk; exact kk) | (exfalso; omega))
      · -- 31
        refine aw_aload_n (pc := 31) (i := 0) dX12_rests_31 rfl rfl ?_
        refine mc_V (pc := 32) (As := []) (rest := []) dX12_rests_32 rfl ok_X12_324 rfl rfl rfl (Nat.le_of_ble_eq_true rfl) (s_day hu ⟨_, rfl, rfl, ?_⟩)
        refine an_inc (pc := 35) (z := 1) dX12_rests_35 rfl (Nat.le_of_ble_eq_true rfl) rfl ?_
        refine aw_goto (pc := 38) (tgt := 11) dX12_rests_38 rfl ?_
        simp only [restsG, if_pos h21, if_neg (show ¬ restB u (u 2) = true by rw [h28]; decide)] at kk
        exact ih (i + 1) (dayF u) (DK_dayF hu h21) (by rw [dayF_91 hu]; omega) (fun j h => by rw [dayF_keep hu h]; exact hj j h) (by omega) (by rw [show i + 1 + (restsG f (dayF u)).1 = i + ((restsG f (dayF u)).1 + 1) by omega]; exact kk)
set_option maxHeartbeats 1000000 in
set_option maxRecDepth 20000 in
theorem s_rests {G : xG} {d : Nat} {Q : xQ} {a : Nat → Nat} {σ : mS} (hk : DK (σ.2.1 6)) (kk : Q (some (.int (restsA (σ.2.1 6)))) (mW G.2.2.1 a (triesS (mI σ 0 (nI 0))))) : MT G MX12_rests (d + 3) 0 0 [.ref (a 60)] (mW G.2.2.1 a σ) Q := by
  refine mt_start (L := [some (.ref (a 60)), none, none]) rfl (Nat.le_of_ble_eq_true rfl) rfl ?_
  refine aw_aload_n (pc := 0) (i := 0) dX12_rests_0 rfl rfl ?_
  refine aw_iconst (pc := 1) dX12_rests_1 iconst_0 ?_
  refine mp_thrown (pc := 2) dX12_rests_2 rfl ?_
  refine aw_aload_n (pc := 5) (i := 0) dX12_rests_5 rfl rfl ?_
  refine mc_V (pc := 6) (As := []) (rest := []) dX12_rests_6 rfl ok_X12_392 rfl rfl rfl (Nat.le_of_ble_eq_true rfl) (s_tries ⟨_, rfl, rfl, ?_⟩)
  refine aw_iconst (pc := 9) dX12_rests_9 iconst_0 ?_
  refine aw_istore_n (pc := 10) (i := 1) dX12_rests_10 rfl (Nat.le_of_ble_eq_true rfl) rfl ?_
  refine aw_ws (w9 := mW G.2.2.1 a (sN (triesS (mI σ 0 (nI 0))) 6 (σ.2.1 6))) rfl ?_
  exact rests_loop (t := σ.2.1 6) (cp_cp _ _ _ _ _) 401 0 (σ.2.1 6) hk (by omega) (fun _ _ => rfl) (by omega) (by rw [Nat.zero_add]; exact kk)
