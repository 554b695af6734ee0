theorem ptF_len (τ : Nat → Int32) : ∀ d, (ptF τ d).length = d := by
  intro d
  induction d with
  | zero => rfl
  | succ d ih => rw [ptF, List.length_append, ih]; rfl
theorem ptF_get (τ : Nat → Int32) : ∀ d i, i < d → (ptF τ d).getD i 0 = xN τ i - 1 := by
  intro d
  induction d with
  | zero => intro i h; omega
  | succ d ih =>
    intro i h
    rw [ptF, List.getD_eq_getElem?_getD]
    by_cases e : i < d
    · rw [List.getElem?_append_left (by rw [ptF_len]; exact e), ← List.getD_eq_getElem?_getD]; exact ih i e
    · rw [show i = d by omega, List.getElem?_append_right (by rw [ptF_len]; omega), ptF_len]; simp
def wayR (t : Nat → Nat) (x y z : Int32) : Option (Nat × List Nat) := if inB (t 2) x = true then (if inB (t 0) y = true then (if inC (nI 0) (nI 240) z = true then fewG t x.toNatClampNeg y.toNatClampNeg z.toNatClampNeg (sparedF t x.toNatClampNeg ||| 0) 6 0 else none) else none) else none
theorem scr_at (σ : mS) : ∃ (p : pS) (dd : Int32) (sp hm : Nat), σ = scr σ p dd sp hm := by
  obtain ⟨sp, -, h1⟩ := nI_ex (σ.1 29)
  obtain ⟨hm, -, h2⟩ := nI_ex (σ.1 30)
  exact ⟨_, _, sp, hm, (scr_id σ h1 h2).symm⟩
theorem scr_scr (σ : mS) (p p' : pS) (d d' : Int32) (sp sp' hm hm' : Nat) : scr (scr σ p d sp hm) p' d' sp' hm' = scr σ p' d' sp' hm' := by
  have e1 : ∀ (x x' : Int32) (f : Nat → Int32), upN (upN (upN (upN (upN (upN f 30 (nI hm)) 29 (nI sp)) 28 d) 30 (nI hm')) 29 (nI sp')) 28 d' = upN (upN (upN f 30 (nI hm')) 29 (nI sp')) 28 d' := by
    intro _ _ f; funext j; simp only [upN]; repeat' split
    all_goals first | rfl | omega
  have e2 : ∀ f : Nat → Nat → Nat, upN (upN (upN (upN (upN (upN f 24 p.1) 25 p.2.1) 26 p.2.2.1) 24 p'.1) 25 p'.2.1) 26 p'.2.2.1 = upN (upN (upN f 24 p'.1) 25 p'.2.1) 26 p'.2.2.1 := by
    intro f; funext j; simp only [upN]; repeat' split
    all_goals first | rfl | omega
  have e3 : ∀ f : Nat → Nat → Int32, upN (upN f 27 p.2.2.2) 27 p'.2.2.2 = upN f 27 p'.2.2.2 := by
    intro f; funext j; simp only [upN]; repeat' split
    all_goals first | rfl | omega
  show (upN (upN (upN (upN (upN (upN σ.1 30 (nI hm)) 29 (nI sp)) 28 d) 30 (nI hm')) 29 (nI sp')) 28 d', upN (upN (upN (upN (upN (upN σ.2.1 24 p.1) 25 p.2.1) 26 p.2.2.1) 24 p'.1) 25 p'.2.1) 26 p'.2.2.1, upN (upN σ.2.2.1 27 p.2.2.2) 27 p'.2.2.2, σ.2.2.2) = _
  rw [e1 0 0, e2, e3]; rfl

set_option maxHeartbeats 1000000 in
set_option maxRecDepth 20000 in
theorem way_cp {G : xG} {d : Nat} {Q : xQ} {a : Nat → Nat} {σ : mS} {x y z : Int32} {k : Nat} {f : Nat → Nat} (hk : k ≤ 5) (hst : ∀ i, i < k → σ.2.2.1 27 i = nI (f i)) (kk : ∀ u9 : Nat → Nat, (∀ i, i < k → u9 i = f i) → Q (some (.int (nI k))) (mW G.2.2.1 a (sN σ 31 u9))) : ∀ (m i : Nat), i + m = k → ∀ u : Nat → Nat, (∀ j, j < i → u j = f j) → AW G MX12_way (d + 1) 0 0 Q 63 [some (.ref (a 60)), some (.int x), some (.int y), some (.int z), some (.int (nI k)), some (.int (nI i))] [] (mW G.2.2.1 a (sN σ 31 u)) 0 0 := by
  intro m
  induction m with
  | zero =>
    intro i hi u hu
    refine aw_iload (pc := 63) dX12_way_63 rfl ?_
    refine aw_iload (pc := 65) dX12_way_65 rfl ?_
    refine an_icmp_ge (pc := 67) (tgt := 90) dX12_way_67 rfl (by omega) (by omega) (fun h67 => ?_) (fun h67 => ?_)
    · -- 90
      refine aw_iload (pc := 90) dX12_way_90 rfl ?_
      exact aw_iret (pc := 92) dX12_way_92 rfl (Nat.le_refl _) (Nat.le_refl _) (kk u (fun j hj => hu j (by omega)))
    · -- 70
      exfalso; omega
  | succ m ih =>
    intro i hi u hu
    refine aw_iload (pc := 63) dX12_way_63 rfl ?_
    refine aw_iload (pc := 65) dX12_way_65 rfl ?_
    refine an_icmp_ge (pc := 67) (tgt := 90) dX12_way_67 rfl (by omega) (by omega) (fun h67 => ?_) (fun h67 => ?_)
    · -- 90
      exfalso; omega
    · -- 70
      refine aw_aload_n (pc := 70) (i := 0) dX12_way_70 rfl rfl ?_
      refine mg_wayRow (pc := 71) dX12_way_71 rfl ?_
      refine aw_iload (pc := 74) dX12_way_74 rfl ?_
      refine aw_aload_n (pc := 76) (i := 0) dX12_way_76 rfl rfl ?_
      refine mg_step (pc := 77) dX12_way_77 rfl ?_
      refine aw_iload (pc := 80) dX12_way_80 rfl ?_
      refine ml_step (pc := 82) dX12_way_82 (by omega) ?_
      refine aw_top (y := (σ.2.2.1 27 i)) rfl ?_
      refine aw_top (y := (nI (f i))) (hst i (by omega)) ?_
      refine ms_wayRow (pc := 83) dX12_way_83 (by omega) ?_
      refine an_inc (pc := 84) (z := 1) dX12_way_84 rfl (Nat.le_of_ble_eq_true rfl) rfl ?_
      refine aw_goto (pc := 87) (tgt := 63) dX12_way_87 rfl ?_
      refine aw_ws (w9 := mW G.2.2.1 a (sN σ 31 (upN u i (f i)))) rfl ?_
      exact ih (i + 1) (by omega) (upN u i (f i)) (fun j hj => by
        by_cases e : j = i
        · subst e; exact upN_s _ _ _
        · rw [upN_n _ _ _ _ e]; exact hu j (by omega))
set_option maxHeartbeats 1000000 in
set_option maxRecDepth 20000 in
theorem s_way {G : xG} {d : Nat} {Q : xQ} {a : Nat → Nat} {σ : mS} {x y z : Int32} (hw : WT (σ.2.1 6)) (k0 : wayR (σ.2.1 6) x y z = none → ∀ (p9 : pS) (dd9 : Int32) (sp9 hm9 : Nat), Q (some (.int (-1))) (mW G.2.2.1 a (scr (mI σ 0 (nI 0)) p9 dd9 sp9 hm9))) (k1 : ∀ k row, wayR (σ.2.1 6) x y z = some (k, row) → k ≤ 5 → ∀ (p9 : pS) (dd9 : Int32) (sp9 hm9 : Nat) (u9 : Nat → Nat), (∀ i, i < k → u9 i = row.getD i 0) → Q (some (.int (nI k))) (mW G.2.2.1 a (sN (mI (scr (mI σ 0 (nI 0)) p9 dd9 sp9 hm9) 34 (nI k)) 31 u9))) : MT G MX12_way (d + 6) 0 0 [.ref (a 60), .int x, .int y, .int z] (mW G.2.2.1 a σ) Q := by
  obtain ⟨hb, h0, h1, h2, hR, hP, hD, hC, hT⟩ := id hw
  refine mt_start (L := [some (.ref (a 60)), some (.int x), some (.int y), some (.int z), none, none]) rfl (Nat.le_of_ble_eq_true rfl) rfl ?_
  refine aw_aload_n (pc := 0) (i := 0) dX12_way_0 rfl rfl ?_
  refine aw_iconst (pc := 1) dX12_way_1 iconst_0 ?_
  refine mp_thrown (pc := 2) dX12_way_2 rfl ?_
  refine aw_aload_n (pc := 5) (i := 0) dX12_way_5 rfl rfl ?_
  refine aw_iload_n (pc := 6) (i := 1) dX12_way_6 rfl rfl ?_
  refine mc_I (pc := 7) (As := [.int x]) (rest := []) dX12_way_7 rfl ok_X12_302 rfl rfl rfl (Nat.le_of_ble_eq_true rfl) (s_isPerson ⟨_, _, rfl, rfl, ?_⟩)
  refine aw_top (y := bI (inB (σ.2.1 6 2) x)) rfl ?_
  refine ab_if_eq (pc := 10) (tgt := 32) dX12_way_10 rfl (fun h10 => ?_) (fun h10 => ?_)
  · -- 32
    refine aw_iconst (pc := 32) dX12_way_32 iconst_m1 ?_
    refine aw_iret (pc := 33) dX12_way_33 rfl (Nat.le_refl _) (Nat.le_refl _) ?_
    obtain ⟨p0, dd0, sp0, hm0, hsc⟩ := scr_at (mI σ 0 (nI 0))
    have := k0 (by simp only [wayR, h10, Bool.true_and, Bool.and_true, Bool.false_and, Bool.and_false, Bool.not_true, Bool.not_false, Bool.or_true, Bool.or_false, Bool.true_or, Bool.false_or, Bool.false_eq_true, Bool.true_eq_false, if_true, if_false, ite_true, ite_false, reduceIte, reduceCtorEq]) p0 dd0 sp0 hm0
    rw [← hsc] at this
    exact this
  · -- 13
    obtain ⟨q, b_q, rfl⟩ := inB_t (by omega) h10
    have e_q := nI_clamp (n := q) (by omega)
    refine aw_aload_n (pc := 13) (i := 0) dX12_way_13 rfl rfl ?_
    refine aw_iload_n (pc := 14) (i := 2) dX12_way_14 rfl rfl ?_
    refine mc_I (pc := 15) (As := [.int y]) (rest := []) dX12_way_15 rfl ok_X12_312 rfl rfl rfl (Nat.le_of_ble_eq_true rfl) (s_isLand ⟨_, _, rfl, rfl, ?_⟩)
    refine aw_top (y := bI (inB (σ.2.1 6 0) y)) rfl ?_
    refine ab_if_eq (pc := 18) (tgt := 32) dX12_way_18 rfl (fun h18 => ?_) (fun h18 => ?_)
    · -- 32
      refine aw_iconst (pc := 32) dX12_way_32 iconst_m1 ?_
      refine aw_iret (pc := 33) dX12_way_33 rfl (Nat.le_refl _) (Nat.le_refl _) ?_
      obtain ⟨p0, dd0, sp0, hm0, hsc⟩ := scr_at (mI σ 0 (nI 0))
      have := k0 (by simp only [wayR, h10, e_q, h18, Bool.true_and, Bool.and_true, Bool.false_and, Bool.and_false, Bool.not_true, Bool.not_false, Bool.or_true, Bool.or_false, Bool.true_or, Bool.false_or, Bool.false_eq_true, Bool.true_eq_false, if_true, if_false, ite_true, ite_false, reduceIte, reduceCtorEq]) p0 dd0 sp0 hm0
      rw [← hsc] at this
      exact this
    · -- 21
      obtain ⟨l, b_l, rfl⟩ := inB_t (by omega) h18
      have e_l := nI_clamp (n := l) (by omega)
      refine aw_iload_n (pc := 21) (i := 3) dX12_way_21 rfl rfl ?_
      refine aw_iconst (pc := 22) dX12_way_22 iconst_0 ?_
      refine aw_sipush (pc := 23) dX12_way_23 sipush_240 ?_
      refine mt_I (pc := 26) (As := [.int z, .int (nI 0), .int (nI 240)]) (rest := []) dX12_way_26 rfl ok_X12_207 rfl rfl rfl (Nat.le_of_ble_eq_true rfl) (s_isIn ⟨_, _, rfl, rfl, ?_⟩)
      refine aw_top (y := bI (inC (nI 0) (nI 240) z)) rfl ?_
      refine ab_if_ne (pc := 29) (tgt := 34) dX12_way_29 rfl (fun h29 => ?_) (fun h29 => ?_)
      · -- 34
        obtain ⟨n, b_n, rfl⟩ := inC_t (by decide) (by decide) h29
        have e_n := nI_clamp (n := n) (by omega)
        obtain ⟨p0, dd0, sp0, hm0, hsc⟩ := scr_at (mI σ 0 (nI 0))
        refine aw_ws (w9 := mW G.2.2.1 a (scr (mI σ 0 (nI 0)) p0 dd0 sp0 hm0)) (congrArg (mW G.2.2.1 a) hsc) ?_
        refine aw_aload_n (pc := 34) (i := 0) dX12_way_34 rfl rfl ?_
        refine aw_iload_n (pc := 35) (i := 1) dX12_way_35 rfl rfl ?_
        refine aw_iload_n (pc := 36) (i := 2) dX12_way_36 rfl rfl ?_
        refine aw_iload_n (pc := 37) (i := 3) dX12_way_37 rfl rfl ?_
        refine aw_iconst (pc := 38) dX12_way_38 iconst_0 ?_
        refine mc_I (pc := 39) (As := [.int (nI q), .int (nI l), .int (nI n), .int (nI 0)]) (rest := []) dX12_way_39 rfl ok_X12_373 rfl rfl rfl (Nat.le_of_ble_eq_true rfl) (s_fewest (σ := mI σ 0 (nI 0)) hw (by assumption) (by omega) (by omega) (by decide) ?_ ?_)
        · -- call
          intro k9 row hrow hk9 p9 hp9 hpt
          have hrow : fewG (σ.2.1 6) q l n (sparedF (σ.2.1 6) q ||| 0) 6 0 = some (k9, row) := hrow
          refine ⟨_, _, rfl, rfl, ?_⟩
          refine aw_istore (pc := 42) (i := 4) dX12_way_42 (Nat.le_of_ble_eq_true rfl) rfl ?_
          refine aw_iload (pc := 44) dX12_way_44 rfl ?_
          refine aw_ldcw (pc := 46) dX12_way_46 tc_372 ?_
          refine aw_top (y := (nI 1000000)) rfl ?_
          refine an_icmp_ne (pc := 49) (tgt := 54) dX12_way_49 rfl (by omega) (by decide) (fun h49 => ?_) (fun h49 => ?_)
          · -- 54
            refine aw_aload_n (pc := 54) (i := 0) dX12_way_54 rfl rfl ?_
            refine aw_iload (pc := 55) dX12_way_55 rfl ?_
            refine mp_wayMany (pc := 57) dX12_way_57 rfl ?_
            refine aw_iconst (pc := 60) dX12_way_60 iconst_0 ?_
            refine aw_istore (pc := 61) (i := 5) dX12_way_61 (Nat.le_of_ble_eq_true rfl) rfl ?_
            refine aw_ws (w9 := mW G.2.2.1 a (sN (mI (scr (mI σ 0 (nI 0)) p9 (nI k9) (sparedF (σ.2.1 6) q ||| 0) (σ.2.1 6 (79 + q))) 34 (nI k9)) 31 (σ.2.1 31))) rfl ?_
            refine way_cp (σ := mI (scr (mI σ 0 (nI 0)) p9 (nI k9) (sparedF (σ.2.1 6) q ||| 0) (σ.2.1 6 (79 + q))) 34 (nI k9)) (f := fun i => row.getD i 0) hk9 (fun i hi => ?_) (fun u9 hu9 => k1 k9 row (by simp only [wayR, h10, e_q, h18, e_l, h29, e_n, hrow, Bool.true_and, Bool.and_true, Bool.false_and, Bool.and_false, Bool.not_true, Bool.not_false, Bool.or_true, Bool.or_false, Bool.true_or, Bool.false_or, Bool.false_eq_true, Bool.true_eq_false, if_true, if_false, ite_true, ite_false, reduceIte, reduceCtorEq]) hk9 _ _ _ _ u9 hu9) k9 0 (by omega) _ (fun j hj => absurd hj (Nat.not_lt_zero _))
            show p9.2.2.2 i = nI (row.getD i 0)
            rw [PO_st hp9 (by omega), ← hpt, ptF_get _ _ _ hi]
          · -- 52
            exfalso; omega
        · -- call
          intro hnone p9 dd9 sp9 hm9
          have hnone : fewG (σ.2.1 6) q l n (sparedF (σ.2.1 6) q ||| 0) 6 0 = none := hnone
          refine ⟨_, _, rfl, rfl, ?_⟩
          refine aw_istore (pc := 42) (i := 4) dX12_way_42 (Nat.le_of_ble_eq_true rfl) rfl ?_
          refine aw_iload (pc := 44) dX12_way_44 rfl ?_
          refine aw_ldcw (pc := 46) dX12_way_46 tc_372 ?_
          refine aw_top (y := (nI 1000000)) rfl ?_
          refine an_icmp_ne (pc := 49) (tgt := 54) dX12_way_49 rfl (by decide) (by decide) (fun h49 => absurd h49 (by decide)) (fun h49 => ?_)
          refine aw_iconst (pc := 52) dX12_way_52 iconst_m1 ?_
          exact aw_iret (pc := 53) dX12_way_53 rfl (Nat.le_refl _) (Nat.le_refl _) (k0 (by simp only [wayR, h10, e_q, h18, e_l, h29, e_n, hnone, Bool.true_and, Bool.and_true, Bool.false_and, Bool.and_false, Bool.not_true, Bool.not_false, Bool.or_true, Bool.or_false, Bool.true_or, Bool.false_or, Bool.false_eq_true, Bool.true_eq_false, if_true, if_false, ite_true, ite_false, reduceIte, reduceCtorEq]) p9 dd9 sp9 hm9)
      · -- 32
        refine aw_iconst (pc := 32) dX12_way_32 iconst_m1 ?_
        refine aw_iret (pc := 33) dX12_way_33 rfl (Nat.le_refl _) (Nat.le_refl _) ?_
        obtain ⟨p0, dd0, sp0, hm0, hsc⟩ := scr_at (mI σ 0 (nI 0))
        have := k0 (by simp only [wayR, h10, e_q, h18, e_l, h29, Bool.true_and, Bool.and_true, Bool.false_and, Bool.and_false, Bool.not_true, Bool.not_false, Bool.or_true, Bool.or_false, Bool.true_or, Bool.false_or, Bool.false_eq_true, Bool.true_eq_false, if_true, if_false, ite_true, ite_false, reduceIte, reduceCtorEq]) p0 dd0 sp0 hm0
        rw [← hsc] at this
        exact this
