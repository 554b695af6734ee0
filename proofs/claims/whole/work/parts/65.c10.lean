/-- length and bytes are the same -/
def TBs (κ κ' : kS) : Prop := κ'.1 1 = κ.1 1 ∧ κ'.2.1 0 = κ.2.1 0
theorem TBs.rf (κ : kS) : TBs κ κ := ⟨rfl, rfl⟩
theorem TBs.tr {κ κ1 κ2 : kS} (h : TBs κ κ1) (h2 : TBs κ1 κ2) : TBs κ κ2 := ⟨h2.1.trans h.1, h2.2.trans h.2⟩
theorem TB.to {κ κ' : kS} {τ : Nat → Int32} {n : Nat} (h : TB κ τ n) (h2 : TBs κ κ') : TB κ' τ n := ⟨h2.1.trans h.1, h.2.1, fun i hi => by rw [h2.2]; exact h.2.2 i hi⟩
theorem TPs.next {ad : Nat → Nat} {τ : Nat → Int32} {s lim k nT : Nat} {κ : kS} (h : TKs ad τ s lim κ (nT + 1)) (h6 : κ.1 6 = .int (nI (nT + 1))) (hk : k ≤ nT) (hn : nT ≤ 940) (hm : min s lim ≤ psq τ s lim nT) : TPs ad τ s lim (kF (kF (kF (kF κ 7 (.int (nI k))) 8 (.int (nI (tkD τ s lim (psq τ s lim k)).1))) 9 (.long (tkD τ s lim (psq τ s lim k)).2.2.1)) 10 (va_rf (Option.map ad (tkD τ s lim (psq τ s lim k)).2.2.2))) k nT := ⟨h6, rfl, hk, hn, h, hm, rfl, rfl, rfl⟩
set_option maxHeartbeats 1000000 in
set_option maxRecDepth 20000 in
theorem c8_step {G : xG} {d : Nat} {Q : xQ} {a ad : Nat → Nat} {κ : kS} {R : va_W} {τ : Nat → Int32} {s lim k nT : Nat} (h : TPs ad τ s lim κ k nT) (hk : k < nT) (kk : ∀ κ9, TPs ad τ s lim κ9 (k + 1) nT → TBs κ κ9 → κ9.1 11 = κ.1 11 → κ9.1 12 = κ.1 12 → Q none (wTp G.2.2.1 a κ9 ++ R)) : MT G MX8_step (d) 0 0 [.ref (a 13)] (wTp G.2.2.1 a κ ++ R) Q := by
  have hn4 := h.2.2.2.1
  have hn6 := h.2.2.2.2.2.1
  refine mt_start (L := [some (.ref (a 13))]) rfl (Nat.le_of_ble_eq_true rfl) rfl ?_
  refine aw_aload_n (pc := 0) (i := 0) dX8_step_0 rfl rfl ?_
  refine pg_X8_39 (pc := 1) (v := .int (nI k)) dX8_step_1 rfl h.2.1 ?_
  refine aw_aload_n (pc := 4) (i := 0) dX8_step_4 rfl rfl ?_
  refine pg_X8_36 (pc := 5) (v := .int (nI (nT + 1))) dX8_step_5 rfl h.1 ?_
  refine aw_iconst (pc := 8) dX8_step_8 iconst_1 ?_
  refine an_sub (pc := 9) dX8_step_9 (by omega) ?_
  refine an_icmp_ge (pc := 10) (tgt := 62) dX8_step_10 rfl (by omega) (by omega) (fun h10 => ?_) (fun h10 => ?_)
  · -- 62
    exfalso; omega
  · -- 13
    refine aw_aload_n (pc := 13) (i := 0) dX8_step_13 rfl rfl ?_
    refine aw_dup (pc := 14) dX8_step_14 rfl ?_
    refine pg_X8_39 (pc := 15) (v := .int (nI k)) dX8_step_15 rfl h.2.1 ?_
    refine aw_iconst (pc := 18) dX8_step_18 iconst_1 ?_
    refine an_add (pc := 19) dX8_step_19 ?_
    refine pp_X8_39 (pc := 20) dX8_step_20 rfl ?_
    refine aw_aload_n (pc := 23) (i := 0) dX8_step_23 rfl rfl ?_
    refine aw_aload_n (pc := 24) (i := 0) dX8_step_24 rfl rfl ?_
    refine pg_X8_19 (pc := 25) dX8_step_25 rfl ?_
    refine aw_aload_n (pc := 28) (i := 0) dX8_step_28 rfl rfl ?_
    refine pg_X8_39 (pc := 29) (v := .int (nI (k + 1))) dX8_step_29 rfl rfl ?_
    refine pl_X8_kinds (pc := 32) (x := (nI ((tkD τ s lim (psq τ s lim (k + 1))).1))) dX8_step_32 (by omega) (h.2.2.2.2.1 _ (by omega)).1 ?_
    refine pp_X8_42 (pc := 33) dX8_step_33 rfl ?_
    refine aw_aload_n (pc := 36) (i := 0) dX8_step_36 rfl rfl ?_
    refine aw_aload_n (pc := 37) (i := 0) dX8_step_37 rfl rfl ?_
    refine pg_X8_26 (pc := 38) dX8_step_38 rfl ?_
    refine aw_aload_n (pc := 41) (i := 0) dX8_step_41 rfl rfl ?_
    refine pg_X8_39 (pc := 42) (v := .int (nI (k + 1))) dX8_step_42 rfl rfl ?_
    refine pl_X8_values (pc := 45) (x := (tkD τ s lim (psq τ s lim (k + 1))).2.2.1) dX8_step_45 (by omega) (h.2.2.2.2.1 _ (by omega)).2.2.1 ?_
    refine pp_X8_45 (pc := 46) dX8_step_46 rfl ?_
    refine aw_aload_n (pc := 49) (i := 0) dX8_step_49 rfl rfl ?_
    refine aw_aload_n (pc := 50) (i := 0) dX8_step_50 rfl rfl ?_
    refine pg_X8_32 (pc := 51) dX8_step_51 rfl ?_
    refine aw_aload_n (pc := 54) (i := 0) dX8_step_54 rfl rfl ?_
    refine pg_X8_39 (pc := 55) (v := .int (nI (k + 1))) dX8_step_55 rfl rfl ?_
    refine pl_X8_words (pc := 58) (x := Option.map ad ((tkD τ s lim (psq τ s lim (k + 1))).2.2.2)) dX8_step_58 (by omega) (h.2.2.2.2.1 _ (by omega)).2.2.2 ?_
    refine pp_X8_49 (pc := 59) dX8_step_59 rfl ?_
    exact aw_vret (pc := 62) dX8_step_62 rfl (Nat.le_refl _) (Nat.le_refl _) (kk _ (TPs.next h.2.2.2.2.1 h.1 (by omega) hn4 hn6) ⟨rfl, rfl⟩ rfl rfl)
set_option maxHeartbeats 1000000 in
set_option maxRecDepth 20000 in
theorem c8_step0 {G : xG} {d : Nat} {Q : xQ} {a ad : Nat → Nat} {κ : kS} {R : va_W} {τ : Nat → Int32} {s lim nT : Nat} (h6 : κ.1 6 = .int (nI (nT + 1))) (h7 : κ.1 7 = .int (-1)) (ht : TKs ad τ s lim κ (nT + 1)) (hn : nT ≤ 940) (hm : min s lim ≤ psq τ s lim nT) (kk : ∀ κ9, TPs ad τ s lim κ9 0 nT → TBs κ κ9 → κ9.1 11 = κ.1 11 → κ9.1 12 = κ.1 12 → Q none (wTp G.2.2.1 a κ9 ++ R)) : MT G MX8_step (d) 0 0 [.ref (a 13)] (wTp G.2.2.1 a κ ++ R) Q := by
  refine mt_start (L := [some (.ref (a 13))]) rfl (Nat.le_of_ble_eq_true rfl) rfl ?_
  refine aw_aload_n (pc := 0) (i := 0) dX8_step_0 rfl rfl ?_
  refine pg_X8_39 (pc := 1) (v := .int ((-1))) dX8_step_1 rfl h7 ?_
  refine aw_aload_n (pc := 4) (i := 0) dX8_step_4 rfl rfl ?_
  refine pg_X8_36 (pc := 5) (v := .int (nI (nT + 1))) dX8_step_5 rfl h6 ?_
  refine aw_iconst (pc := 8) dX8_step_8 iconst_1 ?_
  refine aw_isub (pc := 9) dX8_step_9 ?_
  refine aw_top (y := (nI nT)) (pk_sub (Nat.le_add_left 1 nT)) ?_
  refine aw_icmp_ge (pc := 10) (tgt := 62) dX8_step_10 rfl (fun h10 => ?_) (fun h10 => ?_)
  · -- 62
    exfalso
    rw [Int32.le_iff_toInt_le, nI_toInt (by omega)] at h10
    have : (-1 : Int32).toInt = -1 := by decide
    omega
  · -- 13
    refine aw_aload_n (pc := 13) (i := 0) dX8_step_13 rfl rfl ?_
    refine aw_dup (pc := 14) dX8_step_14 rfl ?_
    refine pg_X8_39 (pc := 15) (v := .int ((-1))) dX8_step_15 rfl h7 ?_
    refine aw_iconst (pc := 18) dX8_step_18 iconst_1 ?_
    refine aw_iadd (pc := 19) dX8_step_19 ?_
    refine aw_top (y := (nI 0)) (by decide) ?_
    refine pp_X8_39 (pc := 20) dX8_step_20 rfl ?_
    refine aw_aload_n (pc := 23) (i := 0) dX8_step_23 rfl rfl ?_
    refine aw_aload_n (pc := 24) (i := 0) dX8_step_24 rfl rfl ?_
    refine pg_X8_19 (pc := 25) dX8_step_25 rfl ?_
    refine aw_aload_n (pc := 28) (i := 0) dX8_step_28 rfl rfl ?_
    refine pg_X8_39 (pc := 29) (v := .int (nI 0)) dX8_step_29 rfl rfl ?_
    refine pl_X8_kinds (pc := 32) (x := (nI ((tkD τ s lim (psq τ s lim 0)).1))) dX8_step_32 (by decide) (ht _ (by omega)).1 ?_
    refine pp_X8_42 (pc := 33) dX8_step_33 rfl ?_
    refine aw_aload_n (pc := 36) (i := 0) dX8_step_36 rfl rfl ?_
    refine aw_aload_n (pc := 37) (i := 0) dX8_step_37 rfl rfl ?_
    refine pg_X8_26 (pc := 38) dX8_step_38 rfl ?_
    refine aw_aload_n (pc := 41) (i := 0) dX8_step_41 rfl rfl ?_
    refine pg_X8_39 (pc := 42) (v := .int (nI 0)) dX8_step_42 rfl rfl ?_
    refine pl_X8_values (pc := 45) (x := (tkD τ s lim (psq τ s lim 0)).2.2.1) dX8_step_45 (by decide) (ht _ (by omega)).2.2.1 ?_
    refine pp_X8_45 (pc := 46) dX8_step_46 rfl ?_
    refine aw_aload_n (pc := 49) (i := 0) dX8_step_49 rfl rfl ?_
    refine aw_aload_n (pc := 50) (i := 0) dX8_step_50 rfl rfl ?_
    refine pg_X8_32 (pc := 51) dX8_step_51 rfl ?_
    refine aw_aload_n (pc := 54) (i := 0) dX8_step_54 rfl rfl ?_
    refine pg_X8_39 (pc := 55) (v := .int (nI 0)) dX8_step_55 rfl rfl ?_
    refine pl_X8_words (pc := 58) (x := Option.map ad ((tkD τ s lim (psq τ s lim 0)).2.2.2)) dX8_step_58 (by decide) (ht _ (by omega)).2.2.2 ?_
    refine pp_X8_49 (pc := 59) dX8_step_59 rfl ?_
    exact aw_vret (pc := 62) dX8_step_62 rfl (Nat.le_refl _) (Nat.le_refl _) (kk _ (TPs.next ht h6 (Nat.zero_le _) hn hm) ⟨rfl, rfl⟩ rfl rfl)
set_option maxHeartbeats 1000000 in
set_option maxRecDepth 20000 in
theorem begin_loop {G : xG} {d : Nat} {Q : xQ} {a ad : Nat → Nat} {tw ts : Nat} {R : va_W} {τ : Nat → Int32} {n lim : Nat} {κ0 : kS} (hE : EB ad tw ts G) (hN : NB G) (hl : lim ≤ 940) (hn0 : n ≤ 940) (kk : ∀ κ9 nT, TPs ad τ n lim κ9 0 nT → TBs κ0 κ9 → κ9.1 11 = .int (nI 0) → κ9.1 12 = .int (nI 0) → Q none (wTp G.2.2.1 a κ9 ++ R)) : ∀ (z j : Nat) (κ : kS), j + z = 941 → TB κ τ n → TBs κ0 κ → κ.1 11 = .int (nI 0) → κ.1 12 = .int (nI 0) → κ.1 6 = .int (nI j) → TKs ad τ n lim κ j → (∀ i, i < j → psq τ n lim i < min n lim) → AW G MX8_begin (d + 3) 0 0 Q 33 [some (.ref (a 13)), some (.int (nI lim)), some (.int (nI (min n lim))), some (.int (nI (psq τ n lim j))), some (.int (nI j))] [] (wTp G.2.2.1 a κ ++ R) 0 0 := by
  intro z
  induction z with
  | zero =>
    intro j κ hj h hb h11 h12 h6 ht hlt
    have h1 := psq_ge τ n lim j hlt
    have h2 := psq_le τ n lim j
    exfalso; omega
  | succ z ih =>
    intro j κ hj h hb h11 h12 h6 ht hlt
    have hps := psq_le τ n lim j
    have hge := psq_ge τ n lim j hlt
    have hend : min n lim ≤ psq τ n lim j → tkD τ n lim (psq τ n lim j) = (if lim < n then 3 else 0, min n lim, 0, none) := fun e => by unfold tkD; rw [if_pos e]
    refine aw_iload (pc := 33) dX8_begin_33 rfl ?_
    refine aw_sipush (pc := 35) dX8_begin_35 sipush_940 ?_
    refine an_icmp_ge (pc := 38) (tgt := 62) dX8_begin_38 rfl (by omega) (by decide) (fun h38 => ?_) (fun h38 => ?_)
    · -- 62
      refine aw_aload_n (pc := 62) (i := 0) dX8_begin_62 rfl rfl ?_
      refine aw_aload_n (pc := 63) (i := 0) dX8_begin_63 rfl rfl ?_
      refine pg_X8_15 (pc := 64) (v := .int (nI n)) dX8_begin_64 rfl h.1 ?_
      refine aw_iload_n (pc := 67) (i := 1) dX8_begin_67 rfl rfl ?_
      refine an_icmp_le (pc := 68) (tgt := 75) dX8_begin_68 rfl (by omega) (by omega) (fun h68 => ?_) (fun h68 => ?_)
      · -- 75
        refine aw_iconst (pc := 75) dX8_begin_75 iconst_0 ?_
        refine aw_iload_n (pc := 76) (i := 2) dX8_begin_76 rfl rfl ?_
        refine aw_lconst (pc := 77) (v := 0) dX8_begin_77 rfl ?_
        refine aw_null (pc := 78) dX8_begin_78 ?_
        refine aw_topV (y := va_rf none) rfl ?_
        refine cVv (pc := 79) (As := [.int (nI 0), .int (nI (min n lim)), .long 0, va_rf none]) (rest := []) dX8_begin_79 rfl oc_X8_72 rfl rfl (Nat.le_of_ble_eq_true rfl) rfl rfl ovX8 (Nat.le_refl _) (Nat.le_refl _) (c8_addToken hE h6 (by omega) wOK_none ?_)
        refine ⟨rfl, ?_⟩
        have ht9 := ht.add (hend (by omega))
        rw [show (if lim < n then 3 else 0) = 0 from if_neg (by omega)] at ht9
        refine aw_aload_n (pc := 82) (i := 0) dX8_begin_82 rfl rfl ?_
        refine aw_iconst (pc := 83) dX8_begin_83 iconst_m1 ?_
        refine pp_X8_39 (pc := 84) dX8_begin_84 rfl ?_
        refine aw_aload_n (pc := 87) (i := 0) dX8_begin_87 rfl rfl ?_
        refine cVv (pc := 88) (As := []) (rest := []) dX8_begin_88 rfl oc_X8_76 rfl rfl (Nat.le_of_ble_eq_true rfl) rfl rfl ovX8 (Nat.le_refl _) (Nat.le_refl _) (c8_step0 (nT := j) rfl rfl ht9 (by omega) (by omega) ?_)
        intro κ9 g1 g2 g3 g4
        refine ⟨rfl, ?_⟩
        exact aw_vret (pc := 91) dX8_begin_91 rfl (Nat.le_refl _) (Nat.le_refl _) (kk κ9 j g1 (hb.tr g2) (g3.trans h11) (g4.trans h12))
      · -- 71
        refine aw_iconst (pc := 71) dX8_begin_71 iconst_3 ?_
        refine aw_goto (pc := 72) (tgt := 76) dX8_begin_72 rfl ?_
        refine aw_iload_n (pc := 76) (i := 2) dX8_begin_76 rfl rfl ?_
        refine aw_lconst (pc := 77) (v := 0) dX8_begin_77 rfl ?_
        refine aw_null (pc := 78) dX8_begin_78 ?_
        refine aw_topV (y := va_rf none) rfl ?_
        refine cVv (pc := 79) (As := [.int (nI 3), .int (nI (min n lim)), .long 0, va_rf none]) (rest := []) dX8_begin_79 rfl oc_X8_72 rfl rfl (Nat.le_of_ble_eq_true rfl) rfl rfl ovX8 (Nat.le_refl _) (Nat.le_refl _) (c8_addToken hE h6 (by omega) wOK_none ?_)
        refine ⟨rfl, ?_⟩
        have ht9 := ht.add (hend (by omega))
        rw [show (if lim < n then 3 else 0) = 3 from if_pos (by omega)] at ht9
        refine aw_aload_n (pc := 82) (i := 0) dX8_begin_82 rfl rfl ?_
        refine aw_iconst (pc := 83) dX8_begin_83 iconst_m1 ?_
        refine pp_X8_39 (pc := 84) dX8_begin_84 rfl ?_
        refine aw_aload_n (pc := 87) (i := 0) dX8_begin_87 rfl rfl ?_
        refine cVv (pc := 88) (As := []) (rest := []) dX8_begin_88 rfl oc_X8_76 rfl rfl (Nat.le_of_ble_eq_true rfl) rfl rfl ovX8 (Nat.le_refl _) (Nat.le_refl _) (c8_step0 (nT := j) rfl rfl ht9 (by omega) (by omega) ?_)
        intro κ9 g1 g2 g3 g4
        refine ⟨rfl, ?_⟩
        exact aw_vret (pc := 91) dX8_begin_91 rfl (Nat.le_refl _) (Nat.le_refl _) (kk κ9 j g1 (hb.tr g2) (g3.trans h11) (g4.trans h12))
    · -- 41
      refine aw_iload_n (pc := 41) (i := 3) dX8_begin_41 rfl rfl ?_
      refine aw_iload_n (pc := 42) (i := 2) dX8_begin_42 rfl rfl ?_
      refine an_icmp_ge (pc := 43) (tgt := 62) dX8_begin_43 rfl (by omega) (by omega) (fun h43 => ?_) (fun h43 => ?_)
      · -- 62
        refine aw_aload_n (pc := 62) (i := 0) dX8_begin_62 rfl rfl ?_
        refine aw_aload_n (pc := 63) (i := 0) dX8_begin_63 rfl rfl ?_
        refine pg_X8_15 (pc := 64) (v := .int (nI n)) dX8_begin_64 rfl h.1 ?_
        refine aw_iload_n (pc := 67) (i := 1) dX8_begin_67 rfl rfl ?_
        refine an_icmp_le (pc := 68) (tgt := 75) dX8_begin_68 rfl (by omega) (by omega) (fun h68 => ?_) (fun h68 => ?_)
        · -- 75
          refine aw_iconst (pc := 75) dX8_begin_75 iconst_0 ?_
          refine aw_iload_n (pc := 76) (i := 2) dX8_begin_76 rfl rfl ?_
          refine aw_lconst (pc := 77) (v := 0) dX8_begin_77 rfl ?_
          refine aw_null (pc := 78) dX8_begin_78 ?_
          refine aw_topV (y := va_rf none) rfl ?_
          refine cVv (pc := 79) (As := [.int (nI 0), .int (nI (min n lim)), .long 0, va_rf none]) (rest := []) dX8_begin_79 rfl oc_X8_72 rfl rfl (Nat.le_of_ble_eq_true rfl) rfl rfl ovX8 (Nat.le_refl _) (Nat.le_refl _) (c8_addToken hE h6 (by omega) wOK_none ?_)
          refine ⟨rfl, ?_⟩
          have ht9 := ht.add (hend (by omega))
          rw [show (if lim < n then 3 else 0) = 0 from if_neg (by omega)] at ht9
          refine aw_aload_n (pc := 82) (i := 0) dX8_begin_82 rfl rfl ?_
          refine aw_iconst (pc := 83) dX8_begin_83 iconst_m1 ?_
          refine pp_X8_39 (pc := 84) dX8_begin_84 rfl ?_
          refine aw_aload_n (pc := 87) (i := 0) dX8_begin_87 rfl rfl ?_
          refine cVv (pc := 88) (As := []) (rest := []) dX8_begin_88 rfl oc_X8_76 rfl rfl (Nat.le_of_ble_eq_true rfl) rfl rfl ovX8 (Nat.le_refl _) (Nat.le_refl _) (c8_step0 (nT := j) rfl rfl ht9 (by omega) (by omega) ?_)
          intro κ9 g1 g2 g3 g4
          refine ⟨rfl, ?_⟩
          exact aw_vret (pc := 91) dX8_begin_91 rfl (Nat.le_refl _) (Nat.le_refl _) (kk κ9 j g1 (hb.tr g2) (g3.trans h11) (g4.trans h12))
        · -- 71
          refine aw_iconst (pc := 71) dX8_begin_71 iconst_3 ?_
          refine aw_goto (pc := 72) (tgt := 76) dX8_begin_72 rfl ?_
          refine aw_iload_n (pc := 76) (i := 2) dX8_begin_76 rfl rfl ?_
          refine aw_lconst (pc := 77) (v := 0) dX8_begin_77 rfl ?_
          refine aw_null (pc := 78) dX8_begin_78 ?_
          refine aw_topV (y := va_rf none) rfl ?_
          refine cVv (pc := 79) (As := [.int (nI 3), .int (nI (min n lim)), .long 0, va_rf none]) (rest := []) dX8_begin_79 rfl oc_X8_72 rfl rfl (Nat.le_of_ble_eq_true rfl) rfl rfl ovX8 (Nat.le_refl _) (Nat.le_refl _) (c8_addToken hE h6 (by omega) wOK_none ?_)
          refine ⟨rfl, ?_⟩
          have ht9 := ht.add (hend (by omega))
          rw [show (if lim < n then 3 else 0) = 3 from if_pos (by omega)] at ht9
          refine aw_aload_n (pc := 82) (i := 0) dX8_begin_82 rfl rfl ?_
          refine aw_iconst (pc := 83) dX8_begin_83 iconst_m1 ?_
          refine pp_X8_39 (pc := 84) dX8_begin_84 rfl ?_
          refine aw_aload_n (pc := 87) (i := 0) dX8_begin_87 rfl rfl ?_
          refine cVv (pc := 88) (As := []) (rest := []) dX8_begin_88 rfl oc_X8_76 rfl rfl (Nat.le_of_ble_eq_true rfl) rfl rfl ovX8 (Nat.le_refl _) (Nat.le_refl _) (c8_step0 (nT := j) rfl rfl ht9 (by omega) (by omega) ?_)
          intro κ9 g1 g2 g3 g4
          refine ⟨rfl, ?_⟩
          exact aw_vret (pc := 91) dX8_begin_91 rfl (Nat.le_refl _) (Nat.le_refl _) (kk κ9 j g1 (hb.tr g2) (g3.trans h11) (g4.trans h12))
      · -- 46
        refine aw_aload_n (pc := 46) (i := 0) dX8_begin_46 rfl rfl ?_
        refine aw_aload_n (pc := 47) (i := 0) dX8_begin_47 rfl rfl ?_
        refine aw_iload_n (pc := 48) (i := 3) dX8_begin_48 rfl rfl ?_
        refine cVi (pc := 49) (As := [.int (nI (psq τ n lim j))]) (rest := [.ref (a 13)]) dX8_begin_49 rfl oc_X8_69 rfl rfl (Nat.le_of_ble_eq_true rfl) rfl rfl ovX8 (Nat.le_refl _) (Nat.le_refl _) (c8_readToken (lim := lim) hE hN h h6 (by omega) (by omega) ⟨_, rfl, ?_⟩)
        have hte := tkE_le (τ := τ) (s := n) (q := psq τ n lim j) (by omega)
        refine cVi (pc := 52) (As := [.int (nI (tkE τ n (psq τ n lim j)))]) (rest := []) dX8_begin_52 rfl oc_X8_65 rfl rfl (Nat.le_of_ble_eq_true rfl) rfl rfl ovX8 (Nat.le_refl _) (Nat.le_refl _) (c8_blanks h.tAdd hte.2 ⟨_, rfl, ?_⟩)
        refine aw_istore_n (pc := 55) (i := 3) dX8_begin_55 rfl (Nat.le_of_ble_eq_true rfl) rfl ?_
        refine an_inc (pc := 56) (z := 1) dX8_begin_56 rfl (Nat.le_of_ble_eq_true rfl) rfl ?_
        refine aw_goto (pc := 59) (tgt := 33) dX8_begin_59 rfl ?_
        have e : skipF τ (n - tkE τ n (psq τ n lim j)) (tkE τ n (psq τ n lim j)) = psq τ n lim (j + 1) := by
          show _ = nxq τ n lim (psq τ n lim j)
          rw [nxq, if_neg (by omega)]
        refine aw_L (L9 := [some (.ref (a 13)), some (.int (nI lim)), some (.int (nI (min n lim))), some (.int (nI (psq τ n lim (j + 1)))), some (.int (nI (j + 1)))]) (by rw [← e]; rfl) ?_
        exact ih (j + 1) _ (by omega) h.tAdd hb h11 h12 rfl (ht.add rfl) (fun i hi => by rcases Nat.lt_or_ge i j with q | q; exact hlt i q; rw [show i = j by omega]; omega)
set_option maxHeartbeats 1000000 in
set_option maxRecDepth 20000 in
theorem c8_begin {G : xG} {d : Nat} {Q : xQ} {a ad : Nat → Nat} {tw ts : Nat} {κ : kS} {R : va_W} {τ : Nat → Int32} {n lim : Nat} (hE : EB ad tw ts G) (hN : NB G) (h : TB κ τ n) (hl : lim ≤ 940) (kk : ∀ κ9 nT, TPs ad τ n lim κ9 0 nT → TBs κ κ9 → κ9.1 11 = .int (nI 0) → κ9.1 12 = .int (nI 0) → Q none (wTp G.2.2.1 a κ9 ++ R)) : MT G MX8_begin (d + 3) 0 0 [.ref (a 13), .int (nI lim)] (wTp G.2.2.1 a κ ++ R) Q := by
  have hn9 := h.2.1
  refine mt_start (L := [some (.ref (a 13)), some (.int (nI lim)), none, none, none]) rfl (Nat.le_of_ble_eq_true rfl) rfl ?_
  refine aw_aload_n (pc := 0) (i := 0) dX8_begin_0 rfl rfl ?_
  refine aw_iconst (pc := 1) dX8_begin_1 iconst_0 ?_
  refine pp_X8_53 (pc := 2) dX8_begin_2 rfl ?_
  refine aw_aload_n (pc := 5) (i := 0) dX8_begin_5 rfl rfl ?_
  refine aw_iconst (pc := 6) dX8_begin_6 iconst_0 ?_
  refine pp_X8_56 (pc := 7) dX8_begin_7 rfl ?_
  refine aw_aload_n (pc := 10) (i := 0) dX8_begin_10 rfl rfl ?_
  refine aw_iconst (pc := 11) dX8_begin_11 iconst_0 ?_
  refine pp_X8_36 (pc := 12) dX8_begin_12 rfl ?_
  refine aw_aload_n (pc := 15) (i := 0) dX8_begin_15 rfl rfl ?_
  refine pg_X8_15 (pc := 16) (v := .int (nI n)) dX8_begin_16 rfl h.1 ?_
  refine aw_iload_n (pc := 19) (i := 1) dX8_begin_19 rfl rfl ?_
  refine aw_min (pc := 20) dX8_begin_20 rfl mk_X8_59 (Nat.le_of_ble_eq_true rfl) (Nat.le_refl _) (Nat.le_refl _) ?_
  refine aw_top (y := nI (min n lim)) (min_nI (by omega) (by omega)) ?_
  refine aw_istore_n (pc := 23) (i := 2) dX8_begin_23 rfl (Nat.le_of_ble_eq_true rfl) rfl ?_
  refine aw_aload_n (pc := 24) (i := 0) dX8_begin_24 rfl rfl ?_
  refine aw_iconst (pc := 25) dX8_begin_25 iconst_0 ?_
  refine cVi (pc := 26) (As := [.int (nI 0)]) (rest := []) dX8_begin_26 rfl oc_X8_65 rfl rfl (Nat.le_of_ble_eq_true rfl) rfl rfl ovX8 (Nat.le_refl _) (Nat.le_refl _) (c8_blanks (τ := τ) (n := n) h (Nat.zero_le _) ⟨_, rfl, ?_⟩)
  refine aw_istore_n (pc := 29) (i := 3) dX8_begin_29 rfl (Nat.le_of_ble_eq_true rfl) rfl ?_
  refine aw_iconst (pc := 30) dX8_begin_30 iconst_0 ?_
  refine aw_istore (pc := 31) (i := 4) dX8_begin_31 (Nat.le_of_ble_eq_true rfl) rfl ?_
  exact begin_loop hE hN hl h.2.1 kk 941 0 _ rfl h ⟨rfl, rfl⟩ rfl rfl rfl (fun j hj => absurd hj (Nat.not_lt_zero _)) (fun i hi => absurd hi (Nat.not_lt_zero _))
set_option maxHeartbeats 1000000 in
set_option maxRecDepth 20000 in
theorem c8_refuse0 {G : xG} {d : Nat} {Q : xQ} {a ad : Nat → Nat} {κ : kS} {R : va_W} {τ : Nat → Int32} {s lim k nT : Nat} {x : Nat} (h : TPs ad τ s lim κ k nT) (hf : κ.1 11 = .int (nI 0)) (kk : Q (some (.int (bI false))) (wTp G.2.2.1 a (kF (kF κ 11 (.int (nI x))) 12 (.int (nI (tkD τ s lim (psq τ s lim k)).2.1))) ++ R)) : MT G MX8_refuse (d) 0 0 [.ref (a 13), .int (nI x)] (wTp G.2.2.1 a κ ++ R) Q := by
  have hn4 := h.2.2.2.1
  have hk := h.2.2.1
  refine mt_start (L := [some (.ref (a 13)), some (.int (nI x))]) rfl (Nat.le_of_ble_eq_true rfl) rfl ?_
  refine aw_aload_n (pc := 0) (i := 0) dX8_refuse_0 rfl rfl ?_
  refine pg_X8_53 (pc := 1) (v := .int (nI 0)) dX8_refuse_1 rfl hf ?_
  refine an_if_ne (pc := 4) (tgt := 43) dX8_refuse_4 rfl (by decide) (fun h4 => absurd h4 (by decide)) (fun h4 => ?_)
  refine aw_aload_n (pc := 7) (i := 0) dX8_refuse_7 rfl rfl ?_
  refine pg_X8_39 (pc := 8) (v := .int (nI k)) dX8_refuse_8 rfl h.2.1 ?_
  refine an_if_lt (pc := 11) (tgt := 43) dX8_refuse_11 rfl (by omega) ?_
  refine aw_aload_n (pc := 14) (i := 0) dX8_refuse_14 rfl rfl ?_
  refine pg_X8_39 (pc := 15) (v := .int (nI k)) dX8_refuse_15 rfl h.2.1 ?_
  refine aw_aload_n (pc := 18) (i := 0) dX8_refuse_18 rfl rfl ?_
  refine pg_X8_36 (pc := 19) (v := .int (nI (nT + 1))) dX8_refuse_19 rfl h.1 ?_
  refine an_icmp_ge (pc := 22) (tgt := 43) dX8_refuse_22 rfl (by omega) (by omega) (fun h22 => ?_) (fun h22 => ?_)
  · -- 43
    exfalso; omega
  · -- 25
    refine aw_aload_n (pc := 25) (i := 0) dX8_refuse_25 rfl rfl ?_
    refine aw_iload_n (pc := 26) (i := 1) dX8_refuse_26 rfl rfl ?_
    refine pp_X8_53 (pc := 27) dX8_refuse_27 rfl ?_
    refine aw_aload_n (pc := 30) (i := 0) dX8_refuse_30 rfl rfl ?_
    refine aw_aload_n (pc := 31) (i := 0) dX8_refuse_31 rfl rfl ?_
    refine pg_X8_23 (pc := 32) dX8_refuse_32 rfl ?_
    refine aw_aload_n (pc := 35) (i := 0) dX8_refuse_35 rfl rfl ?_
    refine pg_X8_39 (pc := 36) (v := .int (nI k)) dX8_refuse_36 rfl h.2.1 ?_
    refine pl_X8_starts (pc := 39) (x := (nI ((tkD τ s lim (psq τ s lim k)).2.1))) dX8_refuse_39 (by omega) (h.2.2.2.2.1 _ (by omega)).2.1 ?_
    refine pp_X8_56 (pc := 40) dX8_refuse_40 rfl ?_
    refine aw_iconst (pc := 43) dX8_refuse_43 iconst_0 ?_
    exact ab_ret0 (pc := 44) dX8_refuse_44 rfl (Nat.le_refl _) (Nat.le_refl _) (kk)
