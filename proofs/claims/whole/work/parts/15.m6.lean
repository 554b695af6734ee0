theorem sw_in {n : Nat} (hn : n < 2 ^ 30) (x : Int32) : ((∀ k, k ≤ n → ¬ x = nI k) ∧ (x.toInt < 0 ∨ (n : Int) < x.toInt)) ∨ ∃ k, k ≤ n ∧ x = nI k := by
  by_cases h : x.toInt < 0 ∨ (n : Int) < x.toInt
  · refine Or.inl ⟨fun k hk e => ?_, h⟩
    rw [e, nI_toInt (by omega)] at h
    omega
  · obtain ⟨j, hj, rfl⟩ := nI_of (x := x) (by rw [Int32.lt_iff_toInt_lt, show (0 : Int32).toInt = 0 from rfl]; omega)
    rw [nI_toInt hj] at h
    exact Or.inr ⟨j, by omega, rfl⟩
def personF (t : Nat → Nat) (q : Nat) (x : Int32) : Int32 := if x = nI 0 then nI (t (79 + q)) else if x = nI 1 then nI (t (108 + q)) else if x = nI 2 then nI (t (114 + q)) else if x = nI 3 then nI (t (120 + q)) else if x = nI 4 then nI (t (126 + q)) else if x = nI 5 then nI (t (132 + q)) else nI (couldF t q)
def personOK (t : Nat → Nat) (q x : Int32) : Bool := inB (t 2) q && inC (nI 0) (nI 6) x
def personA (t : Nat → Nat) (q x : Int32) : Int32 := if personOK t q x = true then personF t q.toNatClampNeg x else nI 0
def hereF (t : Nat → Nat) (l : Nat) : Nat := orF (fun q => decide (t (108 + q) = l)) (t 2)
def landF (t : Nat → Nat) (l : Nat) (x : Int32) : Int32 := if x = nI 0 then nI (t (3 + l)) else if x = nI 1 then nI (t (10 + l)) else if x = nI 2 then nI (t (94 + l)) else if x = nI 3 then nI (t (101 + l)) else if x = nI 4 then nI (hereF t l) else -1
def landA (t : Nat → Nat) (l x : Int32) : Int32 := if inB (t 0) l = true then landF t l.toNatClampNeg x else -1
def roadFn (t : Nat → Nat) (r : Nat) (x : Int32) : Int32 := if x = nI 0 then nI (t (24 + r)) else if x = nI 1 then nI (t (36 + r)) else if x = nI 2 then nI (t (48 + r)) else if x = nI 3 then nI (t (60 + r)) else if x = nI 4 then (if (!(t 93).testBit r) = true then nI 0 else nI 1) else -1
def roadA (t : Nat → Nat) (r x : Int32) : Int32 := if inB (t 1) r = true then roadFn t r.toNatClampNeg x else -1
def homeF (t : Nat → Nat) : Nat := orF (fun q => decide (t (108 + q) = t (79 + q))) (t 2)
def stuckF (t : Nat → Nat) : Nat := orF (fun q => decide (couldF t q = 0)) (t 2)
def storesF (t : Nat → Nat) : Nat := sumF (fun l => t (94 + l)) (t 0)
def treatiesF (t : Nat → Nat) : Nat := sumF (fun l => bitsN (t (101 + l))) (t 0)
def nowA (t : Nat → Nat) (x : Int32) : Int32 := if x = nI 0 then nI (t 91) else if x = nI 1 then nI (allLongF t) else if x = nI 2 then nI (storesF t) else if x = nI 3 then nI (t 92) else if x = nI 4 then nI (t 93) else if x = nI 5 then nI (homeF t) else if x = nI 6 then nI (stuckF t) else if x = nI 7 then nI (treatiesF t) else -1
def countA (t : Nat → Nat) (len x : Int32) : Int32 := if x = nI 3 then len else if inC (nI 0) (nI 2) x = true then nI (t x.toNatClampNeg) else -1
set_option maxHeartbeats 1000000 in
set_option maxRecDepth 20000 in
theorem s_thrown {G : xG} {d : Nat} {Q : xQ} {a : Nat → Nat} {σ : mS} (kk : Q (some (.int (σ.1 0))) (mW G.2.2.1 a σ)) : MT G MX12_thrown (d) 0 0 [.ref (a 60)] (mW G.2.2.1 a σ) Q := by
  refine mt_start (L := [some (.ref (a 60))]) rfl (Nat.le_of_ble_eq_true rfl) rfl ?_
  refine aw_aload_n (pc := 0) (i := 0) dX12_thrown_0 rfl rfl ?_
  refine mg_thrown (pc := 1) dX12_thrown_1 rfl ?_
  exact aw_iret (pc := 4) dX12_thrown_4 rfl (Nat.le_refl _) (Nat.le_refl _) (kk)
set_option maxHeartbeats 1000000 in
set_option maxRecDepth 20000 in
theorem s_fault {G : xG} {d : Nat} {Q : xQ} {a : Nat → Nat} {σ : mS} (kk : Q (some (.int (σ.1 15))) (mW G.2.2.1 a (mI σ 0 (nI 0)))) : MT G MX12_fault (d) 0 0 [.ref (a 60)] (mW G.2.2.1 a σ) Q := by
  refine mt_start (L := [some (.ref (a 60))]) rfl (Nat.le_of_ble_eq_true rfl) rfl ?_
  refine aw_aload_n (pc := 0) (i := 0) dX12_fault_0 rfl rfl ?_
  refine aw_iconst (pc := 1) dX12_fault_1 iconst_0 ?_
  refine mp_thrown (pc := 2) dX12_fault_2 rfl ?_
  refine aw_aload_n (pc := 5) (i := 0) dX12_fault_5 rfl rfl ?_
  refine mg_fault (pc := 6) dX12_fault_6 rfl ?_
  refine aw_top (y := σ.1 15) rfl ?_
  exact aw_iret (pc := 9) dX12_fault_9 rfl (Nat.le_refl _) (Nat.le_refl _) (kk)
set_option maxHeartbeats 1000000 in
set_option maxRecDepth 20000 in
theorem s_throwsIf {G : xG} {d : Nat} {Q : xQ} {a : Nat → Nat} {σ : mS} {c : Bool} (kk : Q (some (.int (bI c))) (mW G.2.2.1 a (mI σ 0 (bI c)))) : MT G MX12_throwsIf (d) 0 0 [.ref (a 60), .int (bI c)] (mW G.2.2.1 a σ) Q := by
  refine mt_start (L := [some (.ref (a 60)), some (.int (bI c))]) rfl (Nat.le_of_ble_eq_true rfl) rfl ?_
  refine aw_aload_n (pc := 0) (i := 0) dX12_throwsIf_0 rfl rfl ?_
  refine aw_iload_n (pc := 1) (i := 1) dX12_throwsIf_1 rfl rfl ?_
  refine ab_if_eq (pc := 2) (tgt := 9) dX12_throwsIf_2 rfl (fun h2 => ?_) (fun h2 => ?_)
  · -- 9
    refine aw_iconst (pc := 9) dX12_throwsIf_9 iconst_0 ?_
    refine mp_thrown (pc := 10) dX12_throwsIf_10 rfl ?_
    refine aw_iload_n (pc := 13) (i := 1) dX12_throwsIf_13 rfl rfl ?_
    exact ab_ret (pc := 14) dX12_throwsIf_14 rfl (Nat.le_refl _) (Nat.le_refl _) (by subst h2; exact kk)
  · -- 5
    refine aw_iconst (pc := 5) dX12_throwsIf_5 iconst_1 ?_
    refine aw_goto (pc := 6) (tgt := 10) dX12_throwsIf_6 rfl ?_
    refine mp_thrown (pc := 10) dX12_throwsIf_10 rfl ?_
    refine aw_iload_n (pc := 13) (i := 1) dX12_throwsIf_13 rfl rfl ?_
    exact ab_ret (pc := 14) dX12_throwsIf_14 rfl (Nat.le_refl _) (Nat.le_refl _) (by subst h2; exact kk)
set_option maxHeartbeats 1000000 in
set_option maxRecDepth 20000 in
theorem s_person {G : xG} {d : Nat} {Q : xQ} {a : Nat → Nat} {σ : mS}  {q : Int32} {x : Int32} (hw : WT (σ.2.1 6)) (kk : Q (some (.int (personA (σ.2.1 6) q x))) (mW G.2.2.1 a (mI σ 0 (bI (!personOK (σ.2.1 6) q x))))) : MT G MX12_person (d + 5) 0 0 [.ref (a 60), .int q, .int x] (mW G.2.2.1 a σ) Q := by
  obtain ⟨hb, h0, h1, h2, hR, hP, hD, hC, hT⟩ := id hw
  refine mt_start (L := [some (.ref (a 60)), some (.int q), some (.int x)]) rfl (Nat.le_of_ble_eq_true rfl) rfl ?_
  refine aw_aload_n (pc := 0) (i := 0) dX12_person_0 rfl rfl ?_
  refine aw_aload_n (pc := 1) (i := 0) dX12_person_1 rfl rfl ?_
  refine aw_iload_n (pc := 2) (i := 1) dX12_person_2 rfl rfl ?_
  refine mc_I (pc := 3) (As := [.int q]) (rest := [.ref (a 60)]) dX12_person_3 rfl ok_X12_302 rfl rfl rfl (Nat.le_of_ble_eq_true rfl) (s_isPerson ⟨_, _, rfl, rfl, ?_⟩)
  refine aw_top (y := bI (inB (σ.2.1 6 2) q)) rfl ?_
  refine ab_if_eq (pc := 6) (tgt := 19) dX12_person_6 rfl (fun h6 => ?_) (fun h6 => ?_)
  · -- 19
    refine aw_iconst (pc := 19) dX12_person_19 iconst_1 ?_
    refine aw_goto (pc := 20) (tgt := 24) dX12_person_20 rfl ?_
    refine mc_I (pc := 24) (As := [.int (nI 1)]) (rest := []) dX12_person_24 rfl ok_X12_305 rfl rfl rfl (Nat.le_of_ble_eq_true rfl) (s_throwsIf (c := true) ⟨_, _, rfl, rfl, ?_⟩)
    refine ab_if_eq (pc := 27) (tgt := 32) dX12_person_27 rfl (fun h27 => absurd h27 (by decide)) (fun h27 => ?_)
    refine aw_iconst (pc := 30) dX12_person_30 iconst_0 ?_
    exact aw_iret (pc := 31) dX12_person_31 rfl (Nat.le_refl _) (Nat.le_refl _) (by simp only [personA, personOK, personF, h6, Bool.true_and, Bool.and_true, Bool.false_and, Bool.and_false, Bool.not_true, Bool.not_false, Bool.or_true, Bool.or_false, Bool.true_or, Bool.false_or, Bool.false_eq_true, Bool.true_eq_false, if_true, if_false, ite_true, ite_false, reduceIte, reduceCtorEq] at kk; exact kk)
  · -- 9
    obtain ⟨qn, b_qn, rfl⟩ := inB_t (by omega) h6
    have e_qn := nI_clamp (n := qn) (by omega)
    refine aw_iload_n (pc := 9) (i := 2) dX12_person_9 rfl rfl ?_
    refine aw_iconst (pc := 10) dX12_person_10 iconst_0 ?_
    refine aw_bipush (pc := 11) dX12_person_11 bipush_6 ?_
    refine mt_I (pc := 13) (As := [.int x, .int (nI 0), .int (nI 6)]) (rest := [.ref (a 60)]) dX12_person_13 rfl ok_X12_207 rfl rfl rfl (Nat.le_of_ble_eq_true rfl) (s_isIn ⟨_, _, rfl, rfl, ?_⟩)
    refine aw_top (y := bI (inC (nI 0) (nI 6) x)) rfl ?_
    refine ab_if_ne (pc := 16) (tgt := 23) dX12_person_16 rfl (fun h16 => ?_) (fun h16 => ?_)
    · -- 23
      obtain ⟨xn, b_xn, rfl⟩ := inC_t (by decide) (by decide) h16
      have e_xn := nI_clamp (n := xn) (by omega)
      refine aw_iconst (pc := 23) dX12_person_23 iconst_0 ?_
      refine mc_I (pc := 24) (As := [.int (nI 0)]) (rest := []) dX12_person_24 rfl ok_X12_305 rfl rfl rfl (Nat.le_of_ble_eq_true rfl) (s_throwsIf (c := false) ⟨_, _, rfl, rfl, ?_⟩)
      refine ab_if_eq (pc := 27) (tgt := 32) dX12_person_27 rfl (fun h27 => ?_) (fun h27 => absurd h27 (by decide))
      refine aw_iload_n (pc := 32) (i := 2) dX12_person_32 rfl rfl ?_
      rcases (show xn = 0 ∨ xn = 1 ∨ xn = 2 ∨ xn = 3 ∨ xn = 4 ∨ xn = 5 ∨ xn = 6 by omega) with rfl | rfl | rfl | rfl | rfl | rfl | rfl
      · -- case 0
        refine aw_tabIn (pc := 33) (tgt := 72) dX12_person_33 (by decide) (by decide) rfl rfl ?_
        refine aw_aload_n (pc := 72) (i := 0) dX12_person_72 rfl rfl ?_
        refine mg_s (pc := 73) dX12_person_73 rfl ?_
        refine aw_bipush (pc := 76) dX12_person_76 bipush_79 ?_
        refine aw_iload_n (pc := 78) (i := 1) dX12_person_78 rfl rfl ?_
        refine an_add (pc := 79) dX12_person_79 ?_
        refine ml_s (pc := 80) dX12_person_80 (by omega) ?_
        refine aw_top (y := (nI (σ.2.1 6 (79 + qn)))) rfl ?_
        exact aw_iret (pc := 81) dX12_person_81 rfl (Nat.le_refl _) (Nat.le_refl _) (by simp only [personA, personOK, personF, h6, e_qn, h16, e_xn, (show ¬ nI 0 = nI 1 by decide), (show ¬ nI 0 = nI 2 by decide), (show ¬ nI 0 = nI 3 by decide), (show ¬ nI 0 = nI 4 by decide), (show ¬ nI 0 = nI 5 by decide), (show ¬ nI 0 = nI 6 by decide), Bool.true_and, Bool.and_true, Bool.false_and, Bool.and_false, Bool.not_true, Bool.not_false, Bool.or_true, Bool.or_false, Bool.true_or, Bool.false_or, Bool.false_eq_true, Bool.true_eq_false, if_true, if_false, ite_true, ite_false, reduceIte, reduceCtorEq] at kk; exact kk)
      · -- case 1
        refine aw_tabIn (pc := 33) (tgt := 82) dX12_person_33 (by decide) (by decide) rfl rfl ?_
        refine aw_aload_n (pc := 82) (i := 0) dX12_person_82 rfl rfl ?_
        refine mg_s (pc := 83) dX12_person_83 rfl ?_
        refine aw_bipush (pc := 86) dX12_person_86 bipush_108 ?_
        refine aw_iload_n (pc := 88) (i := 1) dX12_person_88 rfl rfl ?_
        refine an_add (pc := 89) dX12_person_89 ?_
        refine ml_s (pc := 90) dX12_person_90 (by omega) ?_
        refine aw_top (y := (nI (σ.2.1 6 (108 + qn)))) rfl ?_
        exact aw_iret (pc := 91) dX12_person_91 rfl (Nat.le_refl _) (Nat.le_refl _) (by simp only [personA, personOK, personF, h6, e_qn, h16, e_xn, (show ¬ nI 1 = nI 0 by decide), (show ¬ nI 1 = nI 2 by decide), (show ¬ nI 1 = nI 3 by decide), (show ¬ nI 1 = nI 4 by decide), (show ¬ nI 1 = nI 5 by decide), (show ¬ nI 1 = nI 6 by decide), Bool.true_and, Bool.and_true, Bool.false_and, Bool.and_false, Bool.not_true, Bool.not_false, Bool.or_true, Bool.or_false, Bool.true_or, Bool.false_or, Bool.false_eq_true, Bool.true_eq_false, if_true, if_false, ite_true, ite_false, reduceIte, reduceCtorEq] at kk; exact kk)
      · -- case 2
        refine aw_tabIn (pc := 33) (tgt := 92) dX12_person_33 (by decide) (by decide) rfl rfl ?_
        refine aw_aload_n (pc := 92) (i := 0) dX12_person_92 rfl rfl ?_
        refine mg_s (pc := 93) dX12_person_93 rfl ?_
        refine aw_bipush (pc := 96) dX12_person_96 bipush_114 ?_
        refine aw_iload_n (pc := 98) (i := 1) dX12_person_98 rfl rfl ?_
        refine an_add (pc := 99) dX12_person_99 ?_
        refine ml_s (pc := 100) dX12_person_100 (by omega) ?_
        refine aw_top (y := (nI (σ.2.1 6 (114 + qn)))) rfl ?_
        exact aw_iret (pc := 101) dX12_person_101 rfl (Nat.le_refl _) (Nat.le_refl _) (by simp only [personA, personOK, personF, h6, e_qn, h16, e_xn, (show ¬ nI 2 = nI 0 by decide), (show ¬ nI 2 = nI 1 by decide), (show ¬ nI 2 = nI 3 by decide), (show ¬ nI 2 = nI 4 by decide), (show ¬ nI 2 = nI 5 by decide), (show ¬ nI 2 = nI 6 by decide), Bool.true_and, Bool.and_true, Bool.false_and, Bool.and_false, Bool.not_true, Bool.not_false, Bool.or_true, Bool.or_false, Bool.true_or, Bool.false_or, Bool.false_eq_true, Bool.true_eq_false, if_true, if_false, ite_true, ite_false, reduceIte, reduceCtorEq] at kk; exact kk)
      · -- case 3
        refine aw_tabIn (pc := 33) (tgt := 102) dX12_person_33 (by decide) (by decide) rfl rfl ?_
        refine aw_aload_n (pc := 102) (i := 0) dX12_person_102 rfl rfl ?_
        refine mg_s (pc := 103) dX12_person_103 rfl ?_
        refine aw_bipush (pc := 106) dX12_person_106 bipush_120 ?_
        refine aw_iload_n (pc := 108) (i := 1) dX12_person_108 rfl rfl ?_
        refine an_add (pc := 109) dX12_person_109 ?_
        refine ml_s (pc := 110) dX12_person_110 (by omega) ?_
        refine aw_top (y := (nI (σ.2.1 6 (120 + qn)))) rfl ?_
        exact aw_iret (pc := 111) dX12_person_111 rfl (Nat.le_refl _) (Nat.le_refl _) (by simp only [personA, personOK, personF, h6, e_qn, h16, e_xn, (show ¬ nI 3 = nI 0 by decide), (show ¬ nI 3 = nI 1 by decide), (show ¬ nI 3 = nI 2 by decide), (show ¬ nI 3 = nI 4 by decide), (show ¬ nI 3 = nI 5 by decide), (show ¬ nI 3 = nI 6 by decide), Bool.true_and, Bool.and_true, Bool.false_and, Bool.and_false, Bool.not_true, Bool.not_false, Bool.or_true, Bool.or_false, Bool.true_or, Bool.false_or, Bool.false_eq_true, Bool.true_eq_false, if_true, if_false, ite_true, ite_false, reduceIte, reduceCtorEq] at kk; exact kk)
      · -- case 4
        refine aw_tabIn (pc := 33) (tgt := 112) dX12_person_33 (by decide) (by decide) rfl rfl ?_
        refine aw_aload_n (pc := 112) (i := 0) dX12_person_112 rfl rfl ?_
        refine mg_s (pc := 113) dX12_person_113 rfl ?_
        refine aw_bipush (pc := 116) dX12_person_116 bipush_126 ?_
        refine aw_iload_n (pc := 118) (i := 1) dX12_person_118 rfl rfl ?_
        refine an_add (pc := 119) dX12_person_119 ?_
        refine ml_s (pc := 120) dX12_person_120 (by omega) ?_
        refine aw_top (y := (nI (σ.2.1 6 (126 + qn)))) rfl ?_
        exact aw_iret (pc := 121) dX12_person_121 rfl (Nat.le_refl _) (Nat.le_refl _) (by simp only [personA, personOK, personF, h6, e_qn, h16, e_xn, (show ¬ nI 4 = nI 0 by decide), (show ¬ nI 4 = nI 1 by decide), (show ¬ nI 4 = nI 2 by decide), (show ¬ nI 4 = nI 3 by decide), (show ¬ nI 4 = nI 5 by decide), (show ¬ nI 4 = nI 6 by decide), Bool.true_and, Bool.and_true, Bool.false_and, Bool.and_false, Bool.not_true, Bool.not_false, Bool.or_true, Bool.or_false, Bool.true_or, Bool.false_or, Bool.false_eq_true, Bool.true_eq_false, if_true, if_false, ite_true, ite_false, reduceIte, reduceCtorEq] at kk; exact kk)
      · -- case 5
        refine aw_tabIn (pc := 33) (tgt := 122) dX12_person_33 (by decide) (by decide) rfl rfl ?_
        refine aw_aload_n (pc := 122) (i := 0) dX12_person_122 rfl rfl ?_
        refine mg_s (pc := 123) dX12_person_123 rfl ?_
        refine aw_sipush (pc := 126) dX12_person_126 sipush_132 ?_
        refine aw_iload_n (pc := 129) (i := 1) dX12_person_129 rfl rfl ?_
        refine an_add (pc := 130) dX12_person_130 ?_
        refine ml_s (pc := 131) dX12_person_131 (by omega) ?_
        refine aw_top (y := (nI (σ.2.1 6 (132 + qn)))) rfl ?_
        exact aw_iret (pc := 132) dX12_person_132 rfl (Nat.le_refl _) (Nat.le_refl _) (by simp only [personA, personOK, personF, h6, e_qn, h16, e_xn, (show ¬ nI 5 = nI 0 by decide), (show ¬ nI 5 = nI 1 by decide), (show ¬ nI 5 = nI 2 by decide), (show ¬ nI 5 = nI 3 by decide), (show ¬ nI 5 = nI 4 by decide), (show ¬ nI 5 = nI 6 by decide), Bool.true_and, Bool.and_true, Bool.false_and, Bool.and_false, Bool.not_true, Bool.not_false, Bool.or_true, Bool.or_false, Bool.true_or, Bool.false_or, Bool.false_eq_true, Bool.true_eq_false, if_true, if_false, ite_true, ite_false, reduceIte, reduceCtorEq] at kk; exact kk)
      · -- case 6
        refine aw_tabOut (pc := 33) (tgt := 133) dX12_person_33 (by decide) rfl ?_
        refine aw_aload_n (pc := 133) (i := 0) dX12_person_133 rfl rfl ?_
        refine aw_iload_n (pc := 134) (i := 1) dX12_person_134 rfl rfl ?_
        refine mc_I (pc := 135) (As := [.int (nI qn)]) (rest := []) dX12_person_135 rfl ok_X12_309 rfl rfl rfl (Nat.le_of_ble_eq_true rfl) (s_couldOf hb h0 h1 (by omega) (by have := hP qn (by assumption); show σ.2.1 6 (79 + qn) < 7; omega) ⟨_, _, rfl, rfl, ?_⟩)
        refine aw_top (y := nI (couldF (σ.2.1 6) qn)) rfl ?_
        exact aw_iret (pc := 138) dX12_person_138 rfl (Nat.le_refl _) (Nat.le_refl _) (by simp only [personA, personOK, personF, h6, e_qn, h16, e_xn, (show ¬ nI 6 = nI 0 by decide), (show ¬ nI 6 = nI 1 by decide), (show ¬ nI 6 = nI 2 by decide), (show ¬ nI 6 = nI 3 by decide), (show ¬ nI 6 = nI 4 by decide), (show ¬ nI 6 = nI 5 by decide), Bool.true_and, Bool.and_true, Bool.false_and, Bool.and_false, Bool.not_true, Bool.not_false, Bool.or_true, Bool.or_false, Bool.true_or, Bool.false_or, Bool.false_eq_true, Bool.true_eq_false, if_true, if_false, ite_true, ite_false, reduceIte, reduceCtorEq] at kk; exact kk)
    · -- 19
      refine aw_iconst (pc := 19) dX12_person_19 iconst_1 ?_
      refine aw_goto (pc := 20) (tgt := 24) dX12_person_20 rfl ?_
      refine mc_I (pc := 24) (As := [.int (nI 1)]) (rest := []) dX12_person_24 rfl ok_X12_305 rfl rfl rfl (Nat.le_of_ble_eq_true rfl) (s_throwsIf (c := true) ⟨_, _, rfl, rfl, ?_⟩)
      refine ab_if_eq (pc := 27) (tgt := 32) dX12_person_27 rfl (fun h27 => absurd h27 (by decide)) (fun h27 => ?_)
      refine aw_iconst (pc := 30) dX12_person_30 iconst_0 ?_
      exact aw_iret (pc := 31) dX12_person_31 rfl (Nat.le_refl _) (Nat.le_refl _) (by simp only [personA, personOK, personF, h6, e_qn, h16, Bool.true_and, Bool.and_true, Bool.false_and, Bool.and_false, Bool.not_true, Bool.not_false, Bool.or_true, Bool.or_false, Bool.true_or, Bool.false_or, Bool.false_eq_true, Bool.true_eq_false, if_true, if_false, ite_true, ite_false, reduceIte, reduceCtorEq] at kk; exact kk)
set_option maxHeartbeats 1000000 in
set_option maxRecDepth 20000 in
theorem s_road {G : xG} {d : Nat} {Q : xQ} {a : Nat → Nat} {σ : mS}  {r : Int32} {x : Int32} (hw : WT (σ.2.1 6)) (kk : Q (some (.int (roadA (σ.2.1 6) r x))) (mW G.2.2.1 a (mI σ 0 (nI 0)))) : MT G MX12_road (d + 2) 0 0 [.ref (a 60), .int r, .int x] (mW G.2.2.1 a σ) Q := by
  obtain ⟨hb, h0, h1, h2, hR, hP, hD, hC, hT⟩ := id hw
  refine mt_start (L := [some (.ref (a 60)), some (.int r), some (.int x)]) rfl (Nat.le_of_ble_eq_true rfl) rfl ?_
  refine aw_aload_n (pc := 0) (i := 0) dX12_road_0 rfl rfl ?_
  refine aw_iconst (pc := 1) dX12_road_1 iconst_0 ?_
  refine mp_thrown (pc := 2) dX12_road_2 rfl ?_
  refine aw_iload_n (pc := 5) (i := 1) dX12_road_5 rfl rfl ?_
  refine aw_iconst (pc := 6) dX12_road_6 iconst_0 ?_
  refine aw_aload_n (pc := 7) (i := 0) dX12_road_7 rfl rfl ?_
  refine mg_s (pc := 8) dX12_road_8 rfl ?_
  refine aw_iconst (pc := 11) dX12_road_11 iconst_1 ?_
  refine ml_s (pc := 12) dX12_road_12 (by decide) ?_
  refine aw_top (y := (nI (σ.2.1 6 1))) rfl ?_
  refine aw_iconst (pc := 13) dX12_road_13 iconst_1 ?_
  refine aw_isub (pc := 14) dX12_road_14 ?_
  refine mt_I (pc := 15) (As := [.int r, .int (nI 0), .int ((nI (σ.2.1 6 1)) - (nI 1))]) (rest := []) dX12_road_15 rfl ok_X12_207 rfl rfl rfl (Nat.le_of_ble_eq_true rfl) (s_isIn ⟨_, _, rfl, rfl, ?_⟩)
  refine aw_top (y := bI (inB (σ.2.1 6 1) r)) rfl ?_
  refine ab_if_ne (pc := 18) (tgt := 23) dX12_road_18 rfl (fun h18 => ?_) (fun h18 => ?_)
  · -- 23
    obtain ⟨rn, b_rn, rfl⟩ := inB_t (by omega) h18
    have e_rn := nI_clamp (n := rn) (by omega)
    refine aw_iload_n (pc := 23) (i := 2) dX12_road_23 rfl rfl ?_
    rcases sw_in (n := 4) (by decide) x with ⟨hne24, hsw24⟩ | ⟨k24, hk24, rfl⟩
    · refine aw_tabOut (pc := 24) (tgt := 114) dX12_road_24 hsw24 rfl ?_
      refine aw_iconst (pc := 114) dX12_road_114 iconst_m1 ?_
      exact aw_iret (pc := 115) dX12_road_115 rfl (Nat.le_refl _) (Nat.le_refl _) (by simp only [roadA, roadFn, h18, e_rn, (hne24 0 (by decide)), (hne24 1 (by decide)), (hne24 2 (by decide)), (hne24 3 (by decide)), (hne24 4 (by decide)), Bool.true_and, Bool.and_true, Bool.false_and, Bool.and_false, Bool.not_true, Bool.not_false, Bool.or_true, Bool.or_false, Bool.true_or, Bool.false_or, Bool.false_eq_true, Bool.true_eq_false, if_true, if_false, ite_true, ite_false, reduceIte, reduceCtorEq] at kk; exact kk)
    · rcases (show k24 = 0 ∨ k24 = 1 ∨ k24 = 2 ∨ k24 = 3 ∨ k24 = 4 by omega) with rfl | rfl | rfl | rfl | rfl
      · -- case 0
        refine aw_tabIn (pc := 24) (tgt := 60) dX12_road_24 (by decide) (by decide) rfl rfl ?_
        refine aw_aload_n (pc := 60) (i := 0) dX12_road_60 rfl rfl ?_
        refine mg_s (pc := 61) dX12_road_61 rfl ?_
        refine aw_bipush (pc := 64) dX12_road_64 bipush_24 ?_
        refine aw_iload_n (pc := 66) (i := 1) dX12_road_66 rfl rfl ?_
        refine an_add (pc := 67) dX12_road_67 ?_
        refine ml_s (pc := 68) dX12_road_68 (by omega) ?_
        refine aw_top (y := (nI (σ.2.1 6 (24 + rn)))) rfl ?_
        exact aw_iret (pc := 69) dX12_road_69 rfl (Nat.le_refl _) (Nat.le_refl _) (by simp only [roadA, roadFn, h18, e_rn, (show ¬ nI 0 = nI 1 by decide), (show ¬ nI 0 = nI 2 by decide), (show ¬ nI 0 = nI 3 by decide), (show ¬ nI 0 = nI 4 by decide), (show ¬ nI 0 = nI 5 by decide), Bool.true_and, Bool.and_true, Bool.false_and, Bool.and_false, Bool.not_true, Bool.not_false, Bool.or_true, Bool.or_false, Bool.true_or, Bool.false_or, Bool.false_eq_true, Bool.true_eq_false, if_true, if_false, ite_true, ite_false, reduceIte, reduceCtorEq] at kk; exact kk)
      · -- case 1
        refine aw_tabIn (pc := 24) (tgt := 70) dX12_road_24 (by decide) (by decide) rfl rfl ?_
        refine aw_aload_n (pc := 70) (i := 0) dX12_road_70 rfl rfl ?_
        refine mg_s (pc := 71) dX12_road_71 rfl ?_
        refine aw_bipush (pc := 74) dX12_road_74 bipush_36 ?_
        refine aw_iload_n (pc := 76) (i := 1) dX12_road_76 rfl rfl ?_
        refine an_add (pc := 77) dX12_road_77 ?_
        refine ml_s (pc := 78) dX12_road_78 (by omega) ?_
        refine aw_top (y := (nI (σ.2.1 6 (36 + rn)))) rfl ?_
        exact aw_iret (pc := 79) dX12_road_79 rfl (Nat.le_refl _) (Nat.le_refl _) (by simp only [roadA, roadFn, h18, e_rn, (show ¬ nI 1 = nI 0 by decide), (show ¬ nI 1 = nI 2 by decide), (show ¬ nI 1 = nI 3 by decide), (show ¬ nI 1 = nI 4 by decide), (show ¬ nI 1 = nI 5 by decide), Bool.true_and, Bool.and_true, Bool.false_and, Bool.and_false, Bool.not_true, Bool.not_false, Bool.or_true, Bool.or_false, Bool.true_or, Bool.false_or, Bool.false_eq_true, Bool.true_eq_false, if_true, if_false, ite_true, ite_false, reduceIte, reduceCtorEq] at kk; exact kk)
      · -- case 2
        refine aw_tabIn (pc := 24) (tgt := 80) dX12_road_24 (by decide) (by decide) rfl rfl ?_
        refine aw_aload_n (pc := 80) (i := 0) dX12_road_80 rfl rfl ?_
        refine mg_s (pc := 81) dX12_road_81 rfl ?_
        refine aw_bipush (pc := 84) dX12_road_84 bipush_48 ?_
        refine aw_iload_n (pc := 86) (i := 1) dX12_road_86 rfl rfl ?_
        refine an_add (pc := 87) dX12_road_87 ?_
        refine ml_s (pc := 88) dX12_road_88 (by omega) ?_
        refine aw_top (y := (nI (σ.2.1 6 (48 + rn)))) rfl ?_
        exact aw_iret (pc := 89) dX12_road_89 rfl (Nat.le_refl _) (Nat.le_refl _) (by simp only [roadA, roadFn, h18, e_rn, (show ¬ nI 2 = nI 0 by decide), (show ¬ nI 2 = nI 1 by decide), (show ¬ nI 2 = nI 3 by decide), (show ¬ nI 2 = nI 4 by decide), (show ¬ nI 2 = nI 5 by decide), Bool.true_and, Bool.and_true, Bool.false_and, Bool.and_false, Bool.not_true, Bool.not_false, Bool.or_true, Bool.or_false, Bool.true_or, Bool.false_or, Bool.false_eq_true, Bool.true_eq_false, if_true, if_false, ite_true, ite_false, reduceIte, reduceCtorEq] at kk; exact kk)
      · -- case 3
        refine aw_tabIn (pc := 24) (tgt := 90) dX12_road_24 (by decide) (by decide) rfl rfl ?_
        refine aw_aload_n (pc := 90) (i := 0) dX12_road_90 rfl rfl ?_
        refine mg_s (pc := 91) dX12_road_91 rfl ?_
        refine aw_bipush (pc := 94) dX12_road_94 bipush_60 ?_
        refine aw_iload_n (pc := 96) (i := 1) dX12_road_96 rfl rfl ?_
        refine an_add (pc := 97) dX12_road_97 ?_
        refine ml_s (pc := 98) dX12_road_98 (by omega) ?_
        refine aw_top (y := (nI (σ.2.1 6 (60 + rn)))) rfl ?_
        exact aw_iret (pc := 99) dX12_road_99 rfl (Nat.le_refl _) (Nat.le_refl _) (by simp only [roadA, roadFn, h18, e_rn, (show ¬ nI 3 = nI 0 by decide), (show ¬ nI 3 = nI 1 by decide), (show ¬ nI 3 = nI 2 by decide), (show ¬ nI 3 = nI 4 by decide), (show ¬ nI 3 = nI 5 by decide), Bool.true_and, Bool.and_true, Bool.false_and, Bool.and_false, Bool.not_true, Bool.not_false, Bool.or_true, Bool.or_false, Bool.true_or, Bool.false_or, Bool.false_eq_true, Bool.true_eq_false, if_true, if_false, ite_true, ite_false, reduceIte, reduceCtorEq] at kk; exact kk)
      · -- case 4
        refine aw_tabIn (pc := 24) (tgt := 100) dX12_road_24 (by decide) (by decide) rfl rfl ?_
        refine aw_aload_n (pc := 100) (i := 0) dX12_road_100 rfl rfl ?_
        refine aw_iload_n (pc := 101) (i := 1) dX12_road_101 rfl rfl ?_
        refine mc_I (pc := 102) (As := [.int (nI rn)]) (rest := []) dX12_road_102 rfl ok_X12_281 rfl rfl rfl (Nat.le_of_ble_eq_true rfl) (s_isOpen hb (by omega) ⟨_, _, rfl, rfl, ?_⟩)
        refine aw_top (y := bI (!(σ.2.1 6 93).testBit rn)) rfl ?_
        refine ab_if_eq (pc := 105) (tgt := 112) dX12_road_105 rfl (fun h105 => ?_) (fun h105 => ?_)
        · -- 112
          refine aw_iconst (pc := 112) dX12_road_112 iconst_1 ?_
          exact aw_iret (pc := 113) dX12_road_113 rfl (Nat.le_refl _) (Nat.le_refl _) (by simp only [roadA, roadFn, h18, e_rn, (show ¬ nI 4 = nI 0 by decide), (show ¬ nI 4 = nI 1 by decide), (show ¬ nI 4 = nI 2 by decide), (show ¬ nI 4 = nI 3 by decide), (show ¬ nI 4 = nI 5 by decide), h105, Bool.true_and, Bool.and_true, Bool.false_and, Bool.and_false, Bool.not_true, Bool.not_false, Bool.or_true, Bool.or_false, Bool.true_or, Bool.false_or, Bool.false_eq_true, Bool.true_eq_false, if_true, if_false, ite_true, ite_false, reduceIte, reduceCtorEq] at kk; exact kk)
        · -- 108
          refine aw_iconst (pc := 108) dX12_road_108 iconst_0 ?_
          refine aw_goto (pc := 109) (tgt := 113) dX12_road_109 rfl ?_
          exact aw_iret (pc := 113) dX12_road_113 rfl (Nat.le_refl _) (Nat.le_refl _) (by simp only [roadA, roadFn, h18, e_rn, (show ¬ nI 4 = nI 0 by decide), (show ¬ nI 4 = nI 1 by decide), (show ¬ nI 4 = nI 2 by decide), (show ¬ nI 4 = nI 3 by decide), (show ¬ nI 4 = nI 5 by decide), h105, Bool.true_and, Bool.and_true, Bool.false_and, Bool.and_false, Bool.not_true, Bool.not_false, Bool.or_true, Bool.or_false, Bool.true_or, Bool.false_or, Bool.false_eq_true, Bool.true_eq_false, if_true, if_false, ite_true, ite_false, reduceIte, reduceCtorEq] at kk; exact kk)
  · -- 21
    refine aw_iconst (pc := 21) dX12_road_21 iconst_m1 ?_
    exact aw_iret (pc := 22) dX12_road_22 rfl (Nat.le_refl _) (Nat.le_refl _) (by simp only [roadA, roadFn, h18, Bool.true_and, Bool.and_true, Bool.false_and, Bool.and_false, Bool.not_true, Bool.not_false, Bool.or_true, Bool.or_false, Bool.true_or, Bool.false_or, Bool.false_eq_true, Bool.true_eq_false, if_true, if_false, ite_true, ite_false, reduceIte, reduceCtorEq] at kk; exact kk)
set_option maxHeartbeats 1000000 in
set_option maxRecDepth 20000 in
theorem s_count {G : xG} {d : Nat} {Q : xQ} {a : Nat → Nat} {σ : mS}  {x : Int32} (kk : Q (some (.int (countA (σ.2.1 6) (σ.1 2) x))) (mW G.2.2.1 a (mI σ 0 (nI 0)))) : MT G MX12_count (d + 1) 0 0 [.ref (a 60), .int x] (mW G.2.2.1 a σ) Q := by
  refine mt_start (L := [some (.ref (a 60)), some (.int x)]) rfl (Nat.le_of_ble_eq_true rfl) rfl ?_
  refine aw_aload_n (pc := 0) (i := 0) dX12_count_0 rfl rfl ?_
  refine aw_iconst (pc := 1) dX12_count_1 iconst_0 ?_
  refine mp_thrown (pc := 2) dX12_count_2 rfl ?_
  refine aw_iload_n (pc := 5) (i := 1) dX12_count_5 rfl rfl ?_
  refine aw_iconst (pc := 6) dX12_count_6 iconst_3 ?_
  refine aw_icmp_ne (pc := 7) (tgt := 17) dX12_count_7 rfl (fun h7 => ?_) (fun h7 => ?_)
  · -- 17
    refine aw_iload_n (pc := 17) (i := 1) dX12_count_17 rfl rfl ?_
    refine aw_iconst (pc := 18) dX12_count_18 iconst_0 ?_
    refine aw_iconst (pc := 19) dX12_count_19 iconst_2 ?_
    refine mt_I (pc := 20) (As := [.int x, .int (nI 0), .int (nI 2)]) (rest := []) dX12_count_20 rfl ok_X12_207 rfl rfl rfl (Nat.le_of_ble_eq_true rfl) (s_isIn ⟨_, _, rfl, rfl, ?_⟩)
    refine aw_top (y := bI (inC (nI 0) (nI 2) x)) rfl ?_
    refine ab_if_eq (pc := 23) (tgt := 35) dX12_count_23 rfl (fun h23 => ?_) (fun h23 => ?_)
    · -- 35
      refine aw_iconst (pc := 35) dX12_count_35 iconst_m1 ?_
      exact aw_iret (pc := 36) dX12_count_36 rfl (Nat.le_refl _) (Nat.le_refl _) (by simp only [countA, h7, h23, Bool.true_and, Bool.and_true, Bool.false_and, Bool.and_false, Bool.not_true, Bool.not_false, Bool.or_true, Bool.or_false, Bool.true_or, Bool.false_or, Bool.false_eq_true, Bool.true_eq_false, if_true, if_false, ite_true, ite_false, reduceIte, reduceCtorEq] at kk; exact kk)
    · -- 26
      obtain ⟨xn, b_xn, rfl⟩ := inC_t (by decide) (by decide) h23
      have e_xn := nI_clamp (n := xn) (by omega)
      refine aw_aload_n (pc := 26) (i := 0) dX12_count_26 rfl rfl ?_
      refine mg_s (pc := 27) dX12_count_27 rfl ?_
      refine aw_iload_n (pc := 30) (i := 1) dX12_count_30 rfl rfl ?_
      refine ml_s (pc := 31) dX12_count_31 (by omega) ?_
      refine aw_top (y := (nI (σ.2.1 6 xn))) rfl ?_
      refine aw_goto (pc := 32) (tgt := 36) dX12_count_32 rfl ?_
      exact aw_iret (pc := 36) dX12_count_36 rfl (Nat.le_refl _) (Nat.le_refl _) (by simp only [countA, h7, h23, e_xn, Bool.true_and, Bool.and_true, Bool.false_and, Bool.and_false, Bool.not_true, Bool.not_false, Bool.or_true, Bool.or_false, Bool.true_or, Bool.false_or, Bool.false_eq_true, Bool.true_eq_false, if_true, if_false, ite_true, ite_false, reduceIte, reduceCtorEq] at kk; exact kk)
  · -- 10
    refine aw_aload_n (pc := 10) (i := 0) dX12_count_10 rfl rfl ?_
    refine mg_length (pc := 11) dX12_count_11 rfl ?_
    refine aw_top (y := σ.1 2) rfl ?_
    refine aw_goto (pc := 14) (tgt := 36) dX12_count_14 rfl ?_
    exact aw_iret (pc := 36) dX12_count_36 rfl (Nat.le_refl _) (Nat.le_refl _) (by simp only [countA, h7, Bool.true_and, Bool.and_true, Bool.false_and, Bool.and_false, Bool.not_true, Bool.not_false, Bool.or_true, Bool.or_false, Bool.true_or, Bool.false_or, Bool.false_eq_true, Bool.true_eq_false, if_true, if_false, ite_true, ite_false, reduceIte, reduceCtorEq] at kk; exact kk)
set_option maxHeartbeats 1000000 in
set_option maxRecDepth 20000 in
theorem land_loop {G : xG} {d : Nat} {Q : xQ} {a : Nat → Nat} {σ : mS} {l : Nat} {x : Int32} (hb : ∀ j, σ.2.1 6 j < 2 ^ 30) (h2 : σ.2.1 6 2 ≤ 6) (hl : l < 7) (kk : Q (some (.int (landF (σ.2.1 6) l x))) (mW G.2.2.1 a σ)) : ∀ (n i : Nat), i + n = σ.2.1 6 2 → AW G MX12_land (d) 0 0 Q 20 [some (.ref (a 60)), some (.int (nI l)), some (.int x), some (.int (nI (orF (fun q => decide (σ.2.1 6 (108 + q) = l)) i))), some (.int (nI i))] [] (mW G.2.2.1 a σ) 0 0 := by
  intro n
  induction n with
  | zero =>
    intro i hi
    have hi9 : i = σ.2.1 6 2 := by omega
    refine aw_iload (pc := 20) dX12_land_20 rfl ?_
    refine aw_aload_n (pc := 22) (i := 0) dX12_land_22 rfl rfl ?_
    refine mg_s (pc := 23) dX12_land_23 rfl ?_
    refine aw_iconst (pc := 26) dX12_land_26 iconst_2 ?_
    refine ml_s (pc := 27) dX12_land_27 (by decide) ?_
    refine an_icmp_ge (pc := 28) (tgt := 62) dX12_land_28 rfl (by omega) (Nat.lt_trans (hb _) (by decide)) (fun h28 => ?_) (fun h28 => ?_)
    · -- 62
      refine aw_iload_n (pc := 62) (i := 2) dX12_land_62 rfl rfl ?_
      rcases sw_in (n := 4) (by decide) x with ⟨hne63, hsw63⟩ | ⟨k63, hk63, rfl⟩
      · refine aw_tabOut (pc := 63) (tgt := 137) dX12_land_63 hsw63 rfl ?_
        refine aw_iconst (pc := 137) dX12_land_137 iconst_m1 ?_
        exact aw_iret (pc := 138) dX12_land_138 rfl (Nat.le_refl _) (Nat.le_refl _) (by subst hi9; simp only [landF, hereF, h28, (hne63 0 (by decide)), (hne63 1 (by decide)), (hne63 2 (by decide)), (hne63 3 (by decide)), (hne63 4 (by decide)), Bool.true_and, Bool.and_true, Bool.false_and, Bool.and_false, Bool.not_true, Bool.not_false, Bool.or_true, Bool.or_false, Bool.true_or, Bool.false_or, Bool.false_eq_true, Bool.true_eq_false, if_true, if_false, ite_true, ite_false, reduceIte, reduceCtorEq] at kk; exact kk)
      · rcases (show k63 = 0 ∨ k63 = 1 ∨ k63 = 2 ∨ k63 = 3 ∨ k63 = 4 by omega) with rfl | rfl | rfl | rfl | rfl
        · -- case 0
          refine aw_tabIn (pc := 63) (tgt := 96) dX12_land_63 (by decide) (by decide) rfl rfl ?_
          refine aw_aload_n (pc := 96) (i := 0) dX12_land_96 rfl rfl ?_
          refine mg_s (pc := 97) dX12_land_97 rfl ?_
          refine aw_iconst (pc := 100) dX12_land_100 iconst_3 ?_
          refine aw_iload_n (pc := 101) (i := 1) dX12_land_101 rfl rfl ?_
          refine an_add (pc := 102) dX12_land_102 ?_
          refine ml_s (pc := 103) dX12_land_103 (by omega) ?_
          exact aw_iret (pc := 104) dX12_land_104 rfl (Nat.le_refl _) (Nat.le_refl _) (by subst hi9; simp only [landF, hereF, h28, (show ¬ nI 0 = nI 1 by decide), (show ¬ nI 0 = nI 2 by decide), (show ¬ nI 0 = nI 3 by decide), (show ¬ nI 0 = nI 4 by decide), (show ¬ nI 0 = nI 5 by decide), Bool.true_and, Bool.and_true, Bool.false_and, Bool.and_false, Bool.not_true, Bool.not_false, Bool.or_true, Bool.or_false, Bool.true_or, Bool.false_or, Bool.false_eq_true, Bool.true_eq_false, if_true, if_false, ite_true, ite_false, reduceIte, reduceCtorEq] at kk; exact kk)
        · -- case 1
          refine aw_tabIn (pc := 63) (tgt := 105) dX12_land_63 (by decide) (by decide) rfl rfl ?_
          refine aw_aload_n (pc := 105) (i := 0) dX12_land_105 rfl rfl ?_
          refine mg_s (pc := 106) dX12_land_106 rfl ?_
          refine aw_bipush (pc := 109) dX12_land_109 bipush_10 ?_
          refine aw_iload_n (pc := 111) (i := 1) dX12_land_111 rfl rfl ?_
          refine an_add (pc := 112) dX12_land_112 ?_
          refine ml_s (pc := 113) dX12_land_113 (by omega) ?_
          exact aw_iret (pc := 114) dX12_land_114 rfl (Nat.le_refl _) (Nat.le_refl _) (by subst hi9; simp only [landF, hereF, h28, (show ¬ nI 1 = nI 0 by decide), (show ¬ nI 1 = nI 2 by decide), (show ¬ nI 1 = nI 3 by decide), (show ¬ nI 1 = nI 4 by decide), (show ¬ nI 1 = nI 5 by decide), Bool.true_and, Bool.and_true, Bool.false_and, Bool.and_false, Bool.not_true, Bool.not_false, Bool.or_true, Bool.or_false, Bool.true_or, Bool.false_or, Bool.false_eq_true, Bool.true_eq_false, if_true, if_false, ite_true, ite_false, reduceIte, reduceCtorEq] at kk; exact kk)
        · -- case 2
          refine aw_tabIn (pc := 63) (tgt := 115) dX12_land_63 (by decide) (by decide) rfl rfl ?_
          refine aw_aload_n (pc := 115) (i := 0) dX12_land_115 rfl rfl ?_
          refine mg_s (pc := 116) dX12_land_116 rfl ?_
          refine aw_bipush (pc := 119) dX12_land_119 bipush_94 ?_
          refine aw_iload_n (pc := 121) (i := 1) dX12_land_121 rfl rfl ?_
          refine an_add (pc := 122) dX12_land_122 ?_
          refine ml_s (pc := 123) dX12_land_123 (by omega) ?_
          exact aw_iret (pc := 124) dX12_land_124 rfl (Nat.le_refl _) (Nat.le_refl _) (by subst hi9; simp only [landF, hereF, h28, (show ¬ nI 2 = nI 0 by decide), (show ¬ nI 2 = nI 1 by decide), (show ¬ nI 2 = nI 3 by decide), (show ¬ nI 2 = nI 4 by decide), (show ¬ nI 2 = nI 5 by decide), Bool.true_and, Bool.and_true, Bool.false_and, Bool.and_false, Bool.not_true, Bool.not_false, Bool.or_true, Bool.or_false, Bool.true_or, Bool.false_or, Bool.false_eq_true, Bool.true_eq_false, if_true, if_false, ite_true, ite_false, reduceIte, reduceCtorEq] at kk; exact kk)
        · -- case 3
          refine aw_tabIn (pc := 63) (tgt := 125) dX12_land_63 (by decide) (by decide) rfl rfl ?_
          refine aw_aload_n (pc := 125) (i := 0) dX12_land_125 rfl rfl ?_
          refine mg_s (pc := 126) dX12_land_126 rfl ?_
          refine aw_bipush (pc := 129) dX12_land_129 bipush_101 ?_
          refine aw_iload_n (pc := 131) (i := 1) dX12_land_131 rfl rfl ?_
          refine an_add (pc := 132) dX12_land_132 ?_
          refine ml_s (pc := 133) dX12_land_133 (by omega) ?_
          exact aw_iret (pc := 134) dX12_land_134 rfl (Nat.le_refl _) (Nat.le_refl _) (by subst hi9; simp only [landF, hereF, h28, (show ¬ nI 3 = nI 0 by decide), (show ¬ nI 3 = nI 1 by decide), (show ¬ nI 3 = nI 2 by decide), (show ¬ nI 3 = nI 4 by decide), (show ¬ nI 3 = nI 5 by decide), Bool.true_and, Bool.and_true, Bool.false_and, Bool.and_false, Bool.not_true, Bool.not_false, Bool.or_true, Bool.or_false, Bool.true_or, Bool.false_or, Bool.false_eq_true, Bool.true_eq_false, if_true, if_false, ite_true, ite_false, reduceIte, reduceCtorEq] at kk; exact kk)
        · -- case 4
          refine aw_tabIn (pc := 63) (tgt := 135) dX12_land_63 (by decide) (by decide) rfl rfl ?_
          refine aw_iload_n (pc := 135) (i := 3) dX12_land_135 rfl rfl ?_
          exact aw_iret (pc := 136) dX12_land_136 rfl (Nat.le_refl _) (Nat.le_refl _) (by subst hi9; simp only [landF, hereF, h28, (show ¬ nI 4 = nI 0 by decide), (show ¬ nI 4 = nI 1 by decide), (show ¬ nI 4 = nI 2 by decide), (show ¬ nI 4 = nI 3 by decide), (show ¬ nI 4 = nI 5 by decide), Bool.true_and, Bool.and_true, Bool.false_and, Bool.and_false, Bool.not_true, Bool.not_false, Bool.or_true, Bool.or_false, Bool.true_or, Bool.false_or, Bool.false_eq_true, Bool.true_eq_false, if_true, if_false, ite_true, ite_false, reduceIte, reduceCtorEq] at kk; exact kk)
    · -- 31
      exfalso; omega
  | succ n ih =>
    intro i hi
    refine aw_iload (pc := 20) dX12_land_20 rfl ?_
    refine aw_aload_n (pc := 22) (i := 0) dX12_land_22 rfl rfl ?_
    refine mg_s (pc := 23) dX12_land_23 rfl ?_
    refine aw_iconst (pc := 26) dX12_land_26 iconst_2 ?_
    refine ml_s (pc := 27) dX12_land_27 (by decide) ?_
    refine an_icmp_ge (pc := 28) (tgt := 62) dX12_land_28 rfl (by omega) (Nat.lt_trans (hb _) (by decide)) (fun h28 => ?_) (fun h28 => ?_)
    · -- 62
      exfalso; omega
    · -- 31
      refine aw_iload_n (pc := 31) (i := 3) dX12_land_31 rfl rfl ?_
      refine aw_aload_n (pc := 32) (i := 0) dX12_land_32 rfl rfl ?_
      refine mg_s (pc := 33) dX12_land_33 rfl ?_
      refine aw_bipush (pc := 36) dX12_land_36 bipush_108 ?_
      refine aw_iload (pc := 38) dX12_land_38 rfl ?_
      refine an_add (pc := 40) dX12_land_40 ?_
      refine ml_s (pc := 41) dX12_land_41 (by omega) ?_
      refine aw_iload_n (pc := 42) (i := 1) dX12_land_42 rfl rfl ?_
      refine an_icmp_ne (pc := 43) (tgt := 53) dX12_land_43 rfl (Nat.lt_trans (hb _) (by decide)) (by omega) (fun h43 => ?_) (fun h43 => ?_)
      · -- 53
        refine aw_iconst (pc := 53) dX12_land_53 iconst_0 ?_
        refine aw_ior (pc := 54) dX12_land_54 ?_
        refine aw_istore_n (pc := 55) (i := 3) dX12_land_55 rfl (Nat.le_of_ble_eq_true rfl) rfl ?_
        refine an_inc (pc := 56) (z := 1) dX12_land_56 rfl (Nat.le_of_ble_eq_true rfl) rfl ?_
        refine aw_goto (pc := 59) (tgt := 20) dX12_land_59 rfl ?_
        refine aw_L (L9 := [some (.ref (a 60)), some (.int (nI l)), some (.int x), some (.int (nI (orF (fun q => decide (σ.2.1 6 (108 + q) = l)) (i + 1)))), some (.int (nI (i + 1)))]) (by rw [nI_or _ _ (Nat.lt_trans (orF_lt (fun q => decide (σ.2.1 6 (108 + q) = l)) i) (Nat.lt_trans (Nat.pow_lt_pow_right (a := 2) (by omega) (show i < 12 by omega)) (by decide))) (by decide), Nat.or_zero, orF, if_neg (by simp; omega)]; rfl) ?_
        exact ih (i + 1) (by omega)
      · -- 46
        refine aw_iconst (pc := 46) dX12_land_46 iconst_1 ?_
        refine aw_iload (pc := 47) dX12_land_47 rfl ?_
        refine aw_ishl (pc := 49) dX12_land_49 ?_
        refine aw_goto (pc := 50) (tgt := 54) dX12_land_50 rfl ?_
        refine aw_ior (pc := 54) dX12_land_54 ?_
        refine aw_istore_n (pc := 55) (i := 3) dX12_land_55 rfl (Nat.le_of_ble_eq_true rfl) rfl ?_
        refine an_inc (pc := 56) (z := 1) dX12_land_56 rfl (Nat.le_of_ble_eq_true rfl) rfl ?_
        refine aw_goto (pc := 59) (tgt := 20) dX12_land_59 rfl ?_
        refine aw_L (L9 := [some (.ref (a 60)), some (.int (nI l)), some (.int x), some (.int (nI (orF (fun q => decide (σ.2.1 6 (108 + q) = l)) (i + 1)))), some (.int (nI (i + 1)))]) (by rw [nI_1shl (by omega), nI_or _ _ (Nat.lt_trans (orF_lt (fun q => decide (σ.2.1 6 (108 + q) = l)) i) (Nat.lt_trans (Nat.pow_lt_pow_right (a := 2) (by omega) (show i < 12 by omega)) (by decide))) (Nat.lt_trans (Nat.pow_lt_pow_right (a := 2) (by omega) (show i < 12 by omega)) (by decide)), orF, if_pos (by simp [h43])]; rfl) ?_
        exact ih (i + 1) (by omega)
set_option maxHeartbeats 1000000 in
set_option maxRecDepth 20000 in
theorem s_land {G : xG} {d : Nat} {Q : xQ} {a : Nat → Nat} {σ : mS}  {l : Int32} {x : Int32} (hw : WT (σ.2.1 6)) (kk : Q (some (.int (landA (σ.2.1 6) l x))) (mW G.2.2.1 a (mI σ 0 (nI 0)))) : MT G MX12_land (d + 2) 0 0 [.ref (a 60), .int l, .int x] (mW G.2.2.1 a σ) Q := by
  obtain ⟨hb, h0, h1, h2, hR, hP, hD, hC, hT⟩ := id hw
  refine mt_start (L := [some (.ref (a 60)), some (.int l), some (.int x), none, none]) rfl (Nat.le_of_ble_eq_true rfl) rfl ?_
  refine aw_aload_n (pc := 0) (i := 0) dX12_land_0 rfl rfl ?_
  refine aw_iconst (pc := 1) dX12_land_1 iconst_0 ?_
  refine mp_thrown (pc := 2) dX12_land_2 rfl ?_
  refine aw_aload_n (pc := 5) (i := 0) dX12_land_5 rfl rfl ?_
  refine aw_iload_n (pc := 6) (i := 1) dX12_land_6 rfl rfl ?_
  refine mc_I (pc := 7) (As := [.int l]) (rest := []) dX12_land_7 rfl ok_X12_312 rfl rfl rfl (Nat.le_of_ble_eq_true rfl) (s_isLand ⟨_, _, rfl, rfl, ?_⟩)
  refine aw_top (y := bI (inB (σ.2.1 6 0) l)) rfl ?_
  refine ab_if_ne (pc := 10) (tgt := 15) dX12_land_10 rfl (fun h10 => ?_) (fun h10 => ?_)
  · -- 15
    obtain ⟨ln, b_ln, rfl⟩ := inB_t (by omega) h10
    have e_ln := nI_clamp (n := ln) (by omega)
    refine aw_iconst (pc := 15) dX12_land_15 iconst_0 ?_
    refine aw_istore_n (pc := 16) (i := 3) dX12_land_16 rfl (Nat.le_of_ble_eq_true rfl) rfl ?_
    refine aw_iconst (pc := 17) dX12_land_17 iconst_0 ?_
    refine aw_istore (pc := 18) (i := 4) dX12_land_18 (Nat.le_of_ble_eq_true rfl) rfl ?_
    simp only [landA, h10, e_ln, Bool.true_and, Bool.and_true, Bool.false_and, Bool.and_false, Bool.not_true, Bool.not_false, Bool.or_true, Bool.or_false, Bool.true_or, Bool.false_or, Bool.false_eq_true, Bool.true_eq_false, if_true, if_false, ite_true, ite_false, reduceIte, reduceCtorEq] at kk
    have kk2 : Q (some (.int (landF ((mI σ 0 (nI 0)).2.1 6) ln x))) (mW G.2.2.1 a (mI σ 0 (nI 0))) := kk
    have h7 : ln < 7 := by omega
    refine aw_L (L9 := [some (.ref (a 60)), some (.int (nI ln)), some (.int x), some (.int (nI (orF (fun q => decide ((mI σ 0 (nI 0)).2.1 6 (108 + q) = ln)) 0))), some (.int (nI 0))]) rfl ?_
    exact land_loop (σ := mI σ 0 (nI 0)) (l := ln) (x := x) hb h2 h7 kk2 (σ.2.1 6 2) 0 (by show 0 + σ.2.1 6 2 = σ.2.1 6 2; omega)
  · -- 13
    refine aw_iconst (pc := 13) dX12_land_13 iconst_m1 ?_
    exact aw_iret (pc := 14) dX12_land_14 rfl (Nat.le_refl _) (Nat.le_refl _) (by simp only [landA, h10, Bool.true_and, Bool.and_true, Bool.false_and, Bool.and_false, Bool.not_true, Bool.not_false, Bool.or_true, Bool.or_false, Bool.true_or, Bool.false_or, Bool.false_eq_true, Bool.true_eq_false, if_true, if_false, ite_true, ite_false, reduceIte, reduceCtorEq] at kk; exact kk)
set_option maxHeartbeats 1000000 in
set_option maxRecDepth 20000 in
theorem now_loop2 {G : xG} {d : Nat} {Q : xQ} {a : Nat → Nat} {σ : mS} {x : Int32} (hw : WT (σ.2.1 6)) (kk : Q (some (.int (nowA (σ.2.1 6) x))) (mW G.2.2.1 a σ)) : ∀ (n i : Nat), i + n = σ.2.1 6 0 → AW G MX12_now (d + 5) 0 0 Q 92 [some (.ref (a 60)), some (.int x), some (.int (nI (homeF (σ.2.1 6)))), some (.int (nI (stuckF (σ.2.1 6)))), some (.int (nI (sumF (fun l => σ.2.1 6 (94 + l)) i))), some (.int (nI (sumF (fun l => bitsN (σ.2.1 6 (101 + l))) i))), some (.int (nI i))] [] (mW G.2.2.1 a σ) 0 0 := by
  intro n
  induction n with
  | zero =>
    intro i hi
    obtain ⟨hb, h0, h1, h2, hR, hP, hD, hC, hT⟩ := id hw
    have hi9 : i = σ.2.1 6 0 := by omega
    refine aw_iload (pc := 92) dX12_now_92 rfl ?_
    refine aw_aload_n (pc := 94) (i := 0) dX12_now_94 rfl rfl ?_
    refine mg_s (pc := 95) dX12_now_95 rfl ?_
    refine aw_iconst (pc := 98) dX12_now_98 iconst_0 ?_
    refine ml_s (pc := 99) dX12_now_99 (by decide) ?_
    refine an_icmp_ge (pc := 100) (tgt := 142) dX12_now_100 rfl (by omega) (Nat.lt_trans (hb _) (by decide)) (fun h100 => ?_) (fun h100 => ?_)
    · -- 142
      refine aw_iload_n (pc := 142) (i := 1) dX12_now_142 rfl rfl ?_
      rcases sw_in (n := 7) (by decide) x with ⟨hne143, hsw143⟩ | ⟨k143, hk143, rfl⟩
      · refine aw_tabOut (pc := 143) (tgt := 227) dX12_now_143 hsw143 rfl ?_
        refine aw_iconst (pc := 227) dX12_now_227 iconst_m1 ?_
        exact aw_iret (pc := 228) dX12_now_228 rfl (Nat.le_refl _) (Nat.le_refl _) (by subst hi9; simp only [nowA, storesF, treatiesF, h100, (hne143 0 (by decide)), (hne143 1 (by decide)), (hne143 2 (by decide)), (hne143 3 (by decide)), (hne143 4 (by decide)), (hne143 5 (by decide)), (hne143 6 (by decide)), (hne143 7 (by decide)), Bool.true_and, Bool.and_true, Bool.false_and, Bool.and_false, Bool.not_true, Bool.not_false, Bool.or_true, Bool.or_false, Bool.true_or, Bool.false_or, Bool.false_eq_true, Bool.true_eq_false, if_true, if_false, ite_true, ite_false, reduceIte, reduceCtorEq] at kk; exact kk)
      · rcases (show k143 = 0 ∨ k143 = 1 ∨ k143 = 2 ∨ k143 = 3 ∨ k143 = 4 ∨ k143 = 5 ∨ k143 = 6 ∨ k143 = 7 by omega) with rfl | rfl | rfl | rfl | rfl | rfl | rfl | rfl
        · -- case 0
          refine aw_tabIn (pc := 143) (tgt := 188) dX12_now_143 (by decide) (by decide) rfl rfl ?_
          refine aw_aload_n (pc := 188) (i := 0) dX12_now_188 rfl rfl ?_
          refine mg_s (pc := 189) dX12_now_189 rfl ?_
          refine aw_bipush (pc := 192) dX12_now_192 bipush_91 ?_
          refine ml_s (pc := 194) dX12_now_194 (by decide) ?_
          exact aw_iret (pc := 195) dX12_now_195 rfl (Nat.le_refl _) (Nat.le_refl _) (by subst hi9; simp only [nowA, storesF, treatiesF, h100, (show ¬ nI 0 = nI 1 by decide), (show ¬ nI 0 = nI 2 by decide), (show ¬ nI 0 = nI 3 by decide), (show ¬ nI 0 = nI 4 by decide), (show ¬ nI 0 = nI 5 by decide), (show ¬ nI 0 = nI 6 by decide), (show ¬ nI 0 = nI 7 by decide), (show ¬ nI 0 = nI 8 by decide), Bool.true_and, Bool.and_true, Bool.false_and, Bool.and_false, Bool.not_true, Bool.not_false, Bool.or_true, Bool.or_false, Bool.true_or, Bool.false_or, Bool.false_eq_true, Bool.true_eq_false, if_true, if_false, ite_true, ite_false, reduceIte, reduceCtorEq] at kk; exact kk)
        · -- case 1
          refine aw_tabIn (pc := 143) (tgt := 196) dX12_now_143 (by decide) (by decide) rfl rfl ?_
          refine aw_aload_n (pc := 196) (i := 0) dX12_now_196 rfl rfl ?_
          refine mc_I (pc := 197) (As := []) (rest := []) dX12_now_197 rfl ok_X12_318 rfl rfl rfl (Nat.le_of_ble_eq_true rfl) (s_allLong h2 ⟨_, _, rfl, rfl, ?_⟩)
          exact aw_iret (pc := 200) dX12_now_200 rfl (Nat.le_refl _) (Nat.le_refl _) (by subst hi9; simp only [nowA, storesF, treatiesF, h100, (show ¬ nI 1 = nI 0 by decide), (show ¬ nI 1 = nI 2 by decide), (show ¬ nI 1 = nI 3 by decide), (show ¬ nI 1 = nI 4 by decide), (show ¬ nI 1 = nI 5 by decide), (show ¬ nI 1 = nI 6 by decide), (show ¬ nI 1 = nI 7 by decide), (show ¬ nI 1 = nI 8 by decide), Bool.true_and, Bool.and_true, Bool.false_and, Bool.and_false, Bool.not_true, Bool.not_false, Bool.or_true, Bool.or_false, Bool.true_or, Bool.false_or, Bool.false_eq_true, Bool.true_eq_false, if_true, if_false, ite_true, ite_false, reduceIte, reduceCtorEq] at kk; exact kk)
        · -- case 2
          refine aw_tabIn (pc := 143) (tgt := 201) dX12_now_143 (by decide) (by decide) rfl rfl ?_
          refine aw_iload (pc := 201) dX12_now_201 rfl ?_
          exact aw_iret (pc := 203) dX12_now_203 rfl (Nat.le_refl _) (Nat.le_refl _) (by subst hi9; simp only [nowA, storesF, treatiesF, h100, (show ¬ nI 2 = nI 0 by decide), (show ¬ nI 2 = nI 1 by decide), (show ¬ nI 2 = nI 3 by decide), (show ¬ nI 2 = nI 4 by decide), (show ¬ nI 2 = nI 5 by decide), (show ¬ nI 2 = nI 6 by decide), (show ¬ nI 2 = nI 7 by decide), (show ¬ nI 2 = nI 8 by decide), Bool.true_and, Bool.and_true, Bool.false_and, Bool.and_false, Bool.not_true, Bool.not_false, Bool.or_true, Bool.or_false, Bool.true_or, Bool.false_or, Bool.false_eq_true, Bool.true_eq_false, if_true, if_false, ite_true, ite_false, reduceIte, reduceCtorEq] at kk; exact kk)
        · -- case 3
          refine aw_tabIn (pc := 143) (tgt := 204) dX12_now_143 (by decide) (by decide) rfl rfl ?_
          refine aw_aload_n (pc := 204) (i := 0) dX12_now_204 rfl rfl ?_
          refine mg_s (pc := 205) dX12_now_205 rfl ?_
          refine aw_bipush (pc := 208) dX12_now_208 bipush_92 ?_
          refine ml_s (pc := 210) dX12_now_210 (by decide) ?_
          exact aw_iret (pc := 211) dX12_now_211 rfl (Nat.le_refl _) (Nat.le_refl _) (by subst hi9; simp only [nowA, storesF, treatiesF, h100, (show ¬ nI 3 = nI 0 by decide), (show ¬ nI 3 = nI 1 by decide), (show ¬ nI 3 = nI 2 by decide), (show ¬ nI 3 = nI 4 by decide), (show ¬ nI 3 = nI 5 by decide), (show ¬ nI 3 = nI 6 by decide), (show ¬ nI 3 = nI 7 by decide), (show ¬ nI 3 = nI 8 by decide), Bool.true_and, Bool.and_true, Bool.false_and, Bool.and_false, Bool.not_true, Bool.not_false, Bool.or_true, Bool.or_false, Bool.true_or, Bool.false_or, Bool.false_eq_true, Bool.true_eq_false, if_true, if_false, ite_true, ite_false, reduceIte, reduceCtorEq] at kk; exact kk)
        · -- case 4
          refine aw_tabIn (pc := 143) (tgt := 212) dX12_now_143 (by decide) (by decide) rfl rfl ?_
          refine aw_aload_n (pc := 212) (i := 0) dX12_now_212 rfl rfl ?_
          refine mg_s (pc := 213) dX12_now_213 rfl ?_
          refine aw_bipush (pc := 216) dX12_now_216 bipush_93 ?_
          refine ml_s (pc := 218) dX12_now_218 (by decide) ?_
          exact aw_iret (pc := 219) dX12_now_219 rfl (Nat.le_refl _) (Nat.le_refl _) (by subst hi9; simp only [nowA, storesF, treatiesF, h100, (show ¬ nI 4 = nI 0 by decide), (show ¬ nI 4 = nI 1 by decide), (show ¬ nI 4 = nI 2 by decide), (show ¬ nI 4 = nI 3 by decide), (show ¬ nI 4 = nI 5 by decide), (show ¬ nI 4 = nI 6 by decide), (show ¬ nI 4 = nI 7 by decide), (show ¬ nI 4 = nI 8 by decide), Bool.true_and, Bool.and_true, Bool.false_and, Bool.and_false, Bool.not_true, Bool.not_false, Bool.or_true, Bool.or_false, Bool.true_or, Bool.false_or, Bool.false_eq_true, Bool.true_eq_false, if_true, if_false, ite_true, ite_false, reduceIte, reduceCtorEq] at kk; exact kk)
        · -- case 5
          refine aw_tabIn (pc := 143) (tgt := 220) dX12_now_143 (by decide) (by decide) rfl rfl ?_
          refine aw_iload_n (pc := 220) (i := 2) dX12_now_220 rfl rfl ?_
          exact aw_iret (pc := 221) dX12_now_221 rfl (Nat.le_refl _) (Nat.le_refl _) (by subst hi9; simp only [nowA, storesF, treatiesF, h100, (show ¬ nI 5 = nI 0 by decide), (show ¬ nI 5 = nI 1 by decide), (show ¬ nI 5 = nI 2 by decide), (show ¬ nI 5 = nI 3 by decide), (show ¬ nI 5 = nI 4 by decide), (show ¬ nI 5 = nI 6 by decide), (show ¬ nI 5 = nI 7 by decide), (show ¬ nI 5 = nI 8 by decide), Bool.true_and, Bool.and_true, Bool.false_and, Bool.and_false, Bool.not_true, Bool.not_false, Bool.or_true, Bool.or_false, Bool.true_or, Bool.false_or, Bool.false_eq_true, Bool.true_eq_false, if_true, if_false, ite_true, ite_false, reduceIte, reduceCtorEq] at kk; exact kk)
        · -- case 6
          refine aw_tabIn (pc := 143) (tgt := 222) dX12_now_143 (by decide) (by decide) rfl rfl ?_
          refine aw_iload_n (pc := 222) (i := 3) dX12_now_222 rfl rfl ?_
          exact aw_iret (pc := 223) dX12_now_223 rfl (Nat.le_refl _) (Nat.le_refl _) (by subst hi9; simp only [nowA, storesF, treatiesF, h100, (show ¬ nI 6 = nI 0 by decide), (show ¬ nI 6 = nI 1 by decide), (show ¬ nI 6 = nI 2 by decide), (show ¬ nI 6 = nI 3 by decide), (show ¬ nI 6 = nI 4 by decide), (show ¬ nI 6 = nI 5 by decide), (show ¬ nI 6 = nI 7 by decide), (show ¬ nI 6 = nI 8 by decide), Bool.true_and, Bool.and_true, Bool.false_and, Bool.and_false, Bool.not_true, Bool.not_false, Bool.or_true, Bool.or_false, Bool.true_or, Bool.false_or, Bool.false_eq_true, Bool.true_eq_false, if_true, if_false, ite_true, ite_false, reduceIte, reduceCtorEq] at kk; exact kk)
        · -- case 7
          refine aw_tabIn (pc := 143) (tgt := 224) dX12_now_143 (by decide) (by decide) rfl rfl ?_
          refine aw_iload (pc := 224) dX12_now_224 rfl ?_
          exact aw_iret (pc := 226) dX12_now_226 rfl (Nat.le_refl _) (Nat.le_refl _) (by subst hi9; simp only [nowA, storesF, treatiesF, h100, (show ¬ nI 7 = nI 0 by decide), (show ¬ nI 7 = nI 1 by decide), (show ¬ nI 7 = nI 2 by decide), (show ¬ nI 7 = nI 3 by decide), (show ¬ nI 7 = nI 4 by decide), (show ¬ nI 7 = nI 5 by decide), (show ¬ nI 7 = nI 6 by decide), (show ¬ nI 7 = nI 8 by decide), Bool.true_and, Bool.and_true, Bool.false_and, Bool.and_false, Bool.not_true, Bool.not_false, Bool.or_true, Bool.or_false, Bool.true_or, Bool.false_or, Bool.false_eq_true, Bool.true_eq_false, if_true, if_false, ite_true, ite_false, reduceIte, reduceCtorEq] at kk; exact kk)
    · -- 103
      exfalso; omega
  | succ n ih =>
    intro i hi
    obtain ⟨hb, h0, h1, h2, hR, hP, hD, hC, hT⟩ := id hw
    refine aw_iload (pc := 92) dX12_now_92 rfl ?_
    refine aw_aload_n (pc := 94) (i := 0) dX12_now_94 rfl rfl ?_
    refine mg_s (pc := 95) dX12_now_95 rfl ?_
    refine aw_iconst (pc := 98) dX12_now_98 iconst_0 ?_
    refine ml_s (pc := 99) dX12_now_99 (by decide) ?_
    refine an_icmp_ge (pc := 100) (tgt := 142) dX12_now_100 rfl (by omega) (Nat.lt_trans (hb _) (by decide)) (fun h100 => ?_) (fun h100 => ?_)
    · -- 142
      exfalso; omega
    · -- 103
      refine aw_iload (pc := 103) dX12_now_103 rfl ?_
      refine aw_aload_n (pc := 105) (i := 0) dX12_now_105 rfl rfl ?_
      refine mg_s (pc := 106) dX12_now_106 rfl ?_
      refine aw_bipush (pc := 109) dX12_now_109 bipush_94 ?_
      refine aw_iload (pc := 111) dX12_now_111 rfl ?_
      refine an_add (pc := 113) dX12_now_113 ?_
      refine ml_s (pc := 114) dX12_now_114 (by omega) ?_
      refine an_add (pc := 115) dX12_now_115 ?_
      refine aw_istore (pc := 116) (i := 4) dX12_now_116 (Nat.le_of_ble_eq_true rfl) rfl ?_
      refine aw_iload (pc := 118) dX12_now_118 rfl ?_
      refine aw_aload_n (pc := 120) (i := 0) dX12_now_120 rfl rfl ?_
      refine mg_s (pc := 121) dX12_now_121 rfl ?_
      refine aw_bipush (pc := 124) dX12_now_124 bipush_101 ?_
      refine aw_iload (pc := 126) dX12_now_126 rfl ?_
      refine an_add (pc := 128) dX12_now_128 ?_
      refine ml_s (pc := 129) dX12_now_129 (by omega) ?_
      refine mt_I (pc := 130) (As := [.int (nI (σ.2.1 6 (101 + i)))]) (rest := [.int (nI (sumF (fun l => bitsN (σ.2.1 6 (101 + l))) i))]) dX12_now_130 rfl ok_X12_315 rfl rfl rfl (Nat.le_of_ble_eq_true rfl) (s_bits (Nat.lt_trans (hT i (by omega)) (by decide)) ⟨_, _, rfl, rfl, ?_⟩)
      refine an_add (pc := 133) dX12_now_133 ?_
      refine aw_istore (pc := 134) (i := 5) dX12_now_134 (Nat.le_of_ble_eq_true rfl) rfl ?_
      refine an_inc (pc := 136) (z := 1) dX12_now_136 rfl (Nat.le_of_ble_eq_true rfl) rfl ?_
      refine aw_goto (pc := 139) (tgt := 92) dX12_now_139 rfl ?_
      exact ih (i + 1) (by omega)
set_option maxHeartbeats 1000000 in
set_option maxRecDepth 20000 in
theorem now_loop1 {G : xG} {d : Nat} {Q : xQ} {a : Nat → Nat} {σ : mS} {x : Int32} (hw : WT (σ.2.1 6)) (kk : Q (some (.int (nowA (σ.2.1 6) x))) (mW G.2.2.1 a σ)) : ∀ (n i : Nat), i + n = σ.2.1 6 2 → AW G MX12_now (d + 5) 0 0 Q 18 [some (.ref (a 60)), some (.int x), some (.int (nI (orF (fun q => decide (σ.2.1 6 (108 + q) = σ.2.1 6 (79 + q))) i))), some (.int (nI (orF (fun q => decide (couldF (σ.2.1 6) q = 0)) i))), some (.int (nI 0)), some (.int (nI 0)), some (.int (nI i))] [] (mW G.2.2.1 a σ) 0 0 := by
  intro n
  induction n with
  | zero =>
    intro i hi
    obtain ⟨hb, h0, h1, h2, hR, hP, hD, hC, hT⟩ := id hw
    have hi9 : i = σ.2.1 6 2 := by omega
    refine aw_iload (pc := 18) dX12_now_18 rfl ?_
    refine aw_aload_n (pc := 20) (i := 0) dX12_now_20 rfl rfl ?_
    refine mg_s (pc := 21) dX12_now_21 rfl ?_
    refine aw_iconst (pc := 24) dX12_now_24 iconst_2 ?_
    refine ml_s (pc := 25) dX12_now_25 (by decide) ?_
    refine an_icmp_ge (pc := 26) (tgt := 89) dX12_now_26 rfl (by omega) (Nat.lt_trans (hb _) (by decide)) (fun h26 => ?_) (fun h26 => ?_)
    · -- 89
      refine aw_iconst (pc := 89) dX12_now_89 iconst_0 ?_
      refine aw_istore (pc := 90) (i := 6) dX12_now_90 (Nat.le_of_ble_eq_true rfl) rfl ?_
      subst hi9
      exact now_loop2 hw kk (σ.2.1 6 0) 0 (by omega)
    · -- 29
      exfalso; omega
  | succ n ih =>
    intro i hi
    obtain ⟨hb, h0, h1, h2, hR, hP, hD, hC, hT⟩ := id hw
    refine aw_iload (pc := 18) dX12_now_18 rfl ?_
    refine aw_aload_n (pc := 20) (i := 0) dX12_now_20 rfl rfl ?_
    refine mg_s (pc := 21) dX12_now_21 rfl ?_
    refine aw_iconst (pc := 24) dX12_now_24 iconst_2 ?_
    refine ml_s (pc := 25) dX12_now_25 (by decide) ?_
    refine an_icmp_ge (pc := 26) (tgt := 89) dX12_now_26 rfl (by omega) (Nat.lt_trans (hb _) (by decide)) (fun h26 => ?_) (fun h26 => ?_)
    · -- 89
      exfalso; omega
    · -- 29
      refine aw_iload_n (pc := 29) (i := 2) dX12_now_29 rfl rfl ?_
      refine aw_aload_n (pc := 30) (i := 0) dX12_now_30 rfl rfl ?_
      refine mg_s (pc := 31) dX12_now_31 rfl ?_
      refine aw_bipush (pc := 34) dX12_now_34 bipush_108 ?_
      refine aw_iload (pc := 36) dX12_now_36 rfl ?_
      refine an_add (pc := 38) dX12_now_38 ?_
      refine ml_s (pc := 39) dX12_now_39 (by omega) ?_
      refine aw_aload_n (pc := 40) (i := 0) dX12_now_40 rfl rfl ?_
      refine mg_s (pc := 41) dX12_now_41 rfl ?_
      refine aw_bipush (pc := 44) dX12_now_44 bipush_79 ?_
      refine aw_iload (pc := 46) dX12_now_46 rfl ?_
      refine an_add (pc := 48) dX12_now_48 ?_
      refine ml_s (pc := 49) dX12_now_49 (by omega) ?_
      refine an_icmp_ne (pc := 50) (tgt := 60) dX12_now_50 rfl (Nat.lt_trans (hb _) (by decide)) (Nat.lt_trans (hb _) (by decide)) (fun h50 => ?_) (fun h50 => ?_)
      · -- 60
        refine aw_iconst (pc := 60) dX12_now_60 iconst_0 ?_
        refine aw_ior (pc := 61) dX12_now_61 ?_
        refine aw_istore_n (pc := 62) (i := 2) dX12_now_62 rfl (Nat.le_of_ble_eq_true rfl) rfl ?_
        refine aw_iload_n (pc := 63) (i := 3) dX12_now_63 rfl rfl ?_
        refine aw_aload_n (pc := 64) (i := 0) dX12_now_64 rfl rfl ?_
        refine aw_iload (pc := 65) dX12_now_65 rfl ?_
        refine mc_I (pc := 67) (As := [.int (nI i)]) (rest := [.int (nI (orF (fun q => decide (couldF (σ.2.1 6) q = 0)) i))]) dX12_now_67 rfl ok_X12_309 rfl rfl rfl (Nat.le_of_ble_eq_true rfl) (s_couldOf hb h0 h1 (by omega) (by have := hP i (by assumption); show σ.2.1 6 (79 + i) < 7; omega) ⟨_, _, rfl, rfl, ?_⟩)
        refine aw_top (y := nI (couldF (σ.2.1 6) i)) rfl ?_
        refine an_if_ne (pc := 70) (tgt := 80) dX12_now_70 rfl (Nat.lt_trans (orF_lt _ _) (Nat.lt_trans (Nat.pow_lt_pow_right (a := 2) (by omega) (show σ.2.1 6 0 < 12 by omega)) (by decide))) (fun h70 => ?_) (fun h70 => ?_)
        · -- 80
          refine aw_iconst (pc := 80) dX12_now_80 iconst_0 ?_
          refine aw_ior (pc := 81) dX12_now_81 ?_
          refine aw_istore_n (pc := 82) (i := 3) dX12_now_82 rfl (Nat.le_of_ble_eq_true rfl) rfl ?_
          refine an_inc (pc := 83) (z := 1) dX12_now_83 rfl (Nat.le_of_ble_eq_true rfl) rfl ?_
          refine aw_goto (pc := 86) (tgt := 18) dX12_now_86 rfl ?_
          have q1 : (nI (orF (fun q => decide (σ.2.1 6 (108 + q) = σ.2.1 6 (79 + q))) i)) ||| (nI 0) = nI (orF (fun q => decide (σ.2.1 6 (108 + q) = σ.2.1 6 (79 + q))) (i + 1)) := by rw [nI_or _ _ (Nat.lt_trans (orF_lt (fun q => decide (σ.2.1 6 (108 + q) = σ.2.1 6 (79 + q))) i) (Nat.lt_trans (Nat.pow_lt_pow_right (a := 2) (by omega) (show i < 12 by omega)) (by decide))) (by decide), Nat.or_zero, orF, if_neg (by simp; omega)]
          have q2 : (nI (orF (fun q => decide (couldF (σ.2.1 6) q = 0)) i)) ||| (nI 0) = nI (orF (fun q => decide (couldF (σ.2.1 6) q = 0)) (i + 1)) := by rw [nI_or _ _ (Nat.lt_trans (orF_lt (fun q => decide (couldF (σ.2.1 6) q = 0)) i) (Nat.lt_trans (Nat.pow_lt_pow_right (a := 2) (by omega) (show i < 12 by omega)) (by decide))) (by decide), Nat.or_zero, orF, if_neg (by simp; omega)]
          refine aw_L (L9 := [some (.ref (a 60)), some (.int x), some (.int (nI (orF (fun q => decide (σ.2.1 6 (108 + q) = σ.2.1 6 (79 + q))) (i + 1)))), some (.int (nI (orF (fun q => decide (couldF (σ.2.1 6) q = 0)) (i + 1)))), some (.int (nI 0)), some (.int (nI 0)), some (.int (nI (i + 1)))]) (by rw [← q1, ← q2]; rfl) ?_
          exact ih (i + 1) (by omega)
        · -- 73
          refine aw_iconst (pc := 73) dX12_now_73 iconst_1 ?_
          refine aw_iload (pc := 74) dX12_now_74 rfl ?_
          refine aw_ishl (pc := 76) dX12_now_76 ?_
          refine aw_goto (pc := 77) (tgt := 81) dX12_now_77 rfl ?_
          refine aw_ior (pc := 81) dX12_now_81 ?_
          refine aw_istore_n (pc := 82) (i := 3) dX12_now_82 rfl (Nat.le_of_ble_eq_true rfl) rfl ?_
          refine an_inc (pc := 83) (z := 1) dX12_now_83 rfl (Nat.le_of_ble_eq_true rfl) rfl ?_
          refine aw_goto (pc := 86) (tgt := 18) dX12_now_86 rfl ?_
          have q1 : (nI (orF (fun q => decide (σ.2.1 6 (108 + q) = σ.2.1 6 (79 + q))) i)) ||| (nI 0) = nI (orF (fun q => decide (σ.2.1 6 (108 + q) = σ.2.1 6 (79 + q))) (i + 1)) := by rw [nI_or _ _ (Nat.lt_trans (orF_lt (fun q => decide (σ.2.1 6 (108 + q) = σ.2.1 6 (79 + q))) i) (Nat.lt_trans (Nat.pow_lt_pow_right (a := 2) (by omega) (show i < 12 by omega)) (by decide))) (by decide), Nat.or_zero, orF, if_neg (by simp; omega)]
          have q2 : (nI (orF (fun q => decide (couldF (σ.2.1 6) q = 0)) i)) ||| ((nI 1) <<< ((nI i) &&& 31)) = nI (orF (fun q => decide (couldF (σ.2.1 6) q = 0)) (i + 1)) := by rw [nI_1shl (by omega), nI_or _ _ (Nat.lt_trans (orF_lt (fun q => decide (couldF (σ.2.1 6) q = 0)) i) (Nat.lt_trans (Nat.pow_lt_pow_right (a := 2) (by omega) (show i < 12 by omega)) (by decide))) (Nat.lt_trans (Nat.pow_lt_pow_right (a := 2) (by omega) (show i < 12 by omega)) (by decide)), orF, if_pos (by simp [h70])]
          refine aw_L (L9 := [some (.ref (a 60)), some (.int x), some (.int (nI (orF (fun q => decide (σ.2.1 6 (108 + q) = σ.2.1 6 (79 + q))) (i + 1)))), some (.int (nI (orF (fun q => decide (couldF (σ.2.1 6) q = 0)) (i + 1)))), some (.int (nI 0)), some (.int (nI 0)), some (.int (nI (i + 1)))]) (by rw [← q1, ← q2]; rfl) ?_
          exact ih (i + 1) (by omega)
      · -- 53
        refine aw_iconst (pc := 53) dX12_now_53 iconst_1 ?_
        refine aw_iload (pc := 54) dX12_now_54 rfl ?_
        refine aw_ishl (pc := 56) dX12_now_56 ?_
        refine aw_goto (pc := 57) (tgt := 61) dX12_now_57 rfl ?_
        refine aw_ior (pc := 61) dX12_now_61 ?_
        refine aw_istore_n (pc := 62) (i := 2) dX12_now_62 rfl (Nat.le_of_ble_eq_true rfl) rfl ?_
        refine aw_iload_n (pc := 63) (i := 3) dX12_now_63 rfl rfl ?_
        refine aw_aload_n (pc := 64) (i := 0) dX12_now_64 rfl rfl ?_
        refine aw_iload (pc := 65) dX12_now_65 rfl ?_
        refine mc_I (pc := 67) (As := [.int (nI i)]) (rest := [.int (nI (orF (fun q => decide (couldF (σ.2.1 6) q = 0)) i))]) dX12_now_67 rfl ok_X12_309 rfl rfl rfl (Nat.le_of_ble_eq_true rfl) (s_couldOf hb h0 h1 (by omega) (by have := hP i (by assumption); show σ.2.1 6 (79 + i) < 7; omega) ⟨_, _, rfl, rfl, ?_⟩)
        refine aw_top (y := nI (couldF (σ.2.1 6) i)) rfl ?_
        refine an_if_ne (pc := 70) (tgt := 80) dX12_now_70 rfl (Nat.lt_trans (orF_lt _ _) (Nat.lt_trans (Nat.pow_lt_pow_right (a := 2) (by omega) (show σ.2.1 6 0 < 12 by omega)) (by decide))) (fun h70 => ?_) (fun h70 => ?_)
        · -- 80
          refine aw_iconst (pc := 80) dX12_now_80 iconst_0 ?_
          refine aw_ior (pc := 81) dX12_now_81 ?_
          refine aw_istore_n (pc := 82) (i := 3) dX12_now_82 rfl (Nat.le_of_ble_eq_true rfl) rfl ?_
          refine an_inc (pc := 83) (z := 1) dX12_now_83 rfl (Nat.le_of_ble_eq_true rfl) rfl ?_
          refine aw_goto (pc := 86) (tgt := 18) dX12_now_86 rfl ?_
          have q1 : (nI (orF (fun q => decide (σ.2.1 6 (108 + q) = σ.2.1 6 (79 + q))) i)) ||| ((nI 1) <<< ((nI i) &&& 31)) = nI (orF (fun q => decide (σ.2.1 6 (108 + q) = σ.2.1 6 (79 + q))) (i + 1)) := by rw [nI_1shl (by omega), nI_or _ _ (Nat.lt_trans (orF_lt (fun q => decide (σ.2.1 6 (108 + q) = σ.2.1 6 (79 + q))) i) (Nat.lt_trans (Nat.pow_lt_pow_right (a := 2) (by omega) (show i < 12 by omega)) (by decide))) (Nat.lt_trans (Nat.pow_lt_pow_right (a := 2) (by omega) (show i < 12 by omega)) (by decide)), orF, if_pos (by simp [h50])]
          have q2 : (nI (orF (fun q => decide (couldF (σ.2.1 6) q = 0)) i)) ||| (nI 0) = nI (orF (fun q => decide (couldF (σ.2.1 6) q = 0)) (i + 1)) := by rw [nI_or _ _ (Nat.lt_trans (orF_lt (fun q => decide (couldF (σ.2.1 6) q = 0)) i) (Nat.lt_trans (Nat.pow_lt_pow_right (a := 2) (by omega) (show i < 12 by omega)) (by decide))) (by decide), Nat.or_zero, orF, if_neg (by simp; omega)]
          refine aw_L (L9 := [some (.ref (a 60)), some (.int x), some (.int (nI (orF (fun q => decide (σ.2.1 6 (108 + q) = σ.2.1 6 (79 + q))) (i + 1)))), some (.int (nI (orF (fun q => decide (couldF (σ.2.1 6) q = 0)) (i + 1)))), some (.int (nI 0)), some (.int (nI 0)), some (.int (nI (i + 1)))]) (by rw [← q1, ← q2]; rfl) ?_
          exact ih (i + 1) (by omega)
        · -- 73
          refine aw_iconst (pc := 73) dX12_now_73 iconst_1 ?_
          refine aw_iload (pc := 74) dX12_now_74 rfl ?_
          refine aw_ishl (pc := 76) dX12_now_76 ?_
          refine aw_goto (pc := 77) (tgt := 81) dX12_now_77 rfl ?_
          refine aw_ior (pc := 81) dX12_now_81 ?_
          refine aw_istore_n (pc := 82) (i := 3) dX12_now_82 rfl (Nat.le_of_ble_eq_true rfl) rfl ?_
          refine an_inc (pc := 83) (z := 1) dX12_now_83 rfl (Nat.le_of_ble_eq_true rfl) rfl ?_
          refine aw_goto (pc := 86) (tgt := 18) dX12_now_86 rfl ?_
          have q1 : (nI (orF (fun q => decide (σ.2.1 6 (108 + q) = σ.2.1 6 (79 + q))) i)) ||| ((nI 1) <<< ((nI i) &&& 31)) = nI (orF (fun q => decide (σ.2.1 6 (108 + q) = σ.2.1 6 (79 + q))) (i + 1)) := by rw [nI_1shl (by omega), nI_or _ _ (Nat.lt_trans (orF_lt (fun q => decide (σ.2.1 6 (108 + q) = σ.2.1 6 (79 + q))) i) (Nat.lt_trans (Nat.pow_lt_pow_right (a := 2) (by omega) (show i < 12 by omega)) (by decide))) (Nat.lt_trans (Nat.pow_lt_pow_right (a := 2) (by omega) (show i < 12 by omega)) (by decide)), orF, if_pos (by simp [h50])]
          have q2 : (nI (orF (fun q => decide (couldF (σ.2.1 6) q = 0)) i)) ||| ((nI 1) <<< ((nI i) &&& 31)) = nI (orF (fun q => decide (couldF (σ.2.1 6) q = 0)) (i + 1)) := by rw [nI_1shl (by omega), nI_or _ _ (Nat.lt_trans (orF_lt (fun q => decide (couldF (σ.2.1 6) q = 0)) i) (Nat.lt_trans (Nat.pow_lt_pow_right (a := 2) (by omega) (show i < 12 by omega)) (by decide))) (Nat.lt_trans (Nat.pow_lt_pow_right (a := 2) (by omega) (show i < 12 by omega)) (by decide)), orF, if_pos (by simp [h70])]
          refine aw_L (L9 := [some (.ref (a 60)), some (.int x), some (.int (nI (orF (fun q => decide (σ.2.1 6 (108 + q) = σ.2.1 6 (79 + q))) (i + 1)))), some (.int (nI (orF (fun q => decide (couldF (σ.2.1 6) q = 0)) (i + 1)))), some (.int (nI 0)), some (.int (nI 0)), some (.int (nI (i + 1)))]) (by rw [← q1, ← q2]; rfl) ?_
          exact ih (i + 1) (by omega)
set_option maxHeartbeats 1000000 in
set_option maxRecDepth 20000 in
theorem s_now {G : xG} {d : Nat} {Q : xQ} {a : Nat → Nat} {σ : mS}  {x : Int32} (hw : WT (σ.2.1 6)) (kk : Q (some (.int (nowA (σ.2.1 6) x))) (mW G.2.2.1 a (mI σ 0 (nI 0)))) : MT G MX12_now (d + 5) 0 0 [.ref (a 60), .int x] (mW G.2.2.1 a σ) Q := by
  obtain ⟨hb, h0, h1, h2, hR, hP, hD, hC, hT⟩ := id hw
  refine mt_start (L := [some (.ref (a 60)), some (.int x), none, none, none, none, none]) rfl (Nat.le_of_ble_eq_true rfl) rfl ?_
  refine aw_aload_n (pc := 0) (i := 0) dX12_now_0 rfl rfl ?_
  refine aw_iconst (pc := 1) dX12_now_1 iconst_0 ?_
  refine mp_thrown (pc := 2) dX12_now_2 rfl ?_
  refine aw_iconst (pc := 5) dX12_now_5 iconst_0 ?_
  refine aw_istore_n (pc := 6) (i := 2) dX12_now_6 rfl (Nat.le_of_ble_eq_true rfl) rfl ?_
  refine aw_iconst (pc := 7) dX12_now_7 iconst_0 ?_
  refine aw_istore_n (pc := 8) (i := 3) dX12_now_8 rfl (Nat.le_of_ble_eq_true rfl) rfl ?_
  refine aw_iconst (pc := 9) dX12_now_9 iconst_0 ?_
  refine aw_istore (pc := 10) (i := 4) dX12_now_10 (Nat.le_of_ble_eq_true rfl) rfl ?_
  refine aw_iconst (pc := 12) dX12_now_12 iconst_0 ?_
  refine aw_istore (pc := 13) (i := 5) dX12_now_13 (Nat.le_of_ble_eq_true rfl) rfl ?_
  refine aw_iconst (pc := 15) dX12_now_15 iconst_0 ?_
  refine aw_istore (pc := 16) (i := 6) dX12_now_16 (Nat.le_of_ble_eq_true rfl) rfl ?_
  exact now_loop1 (σ := mI σ 0 (nI 0)) hw kk (σ.2.1 6 2) 0 (by show 0 + σ.2.1 6 2 = σ.2.1 6 2; omega)
