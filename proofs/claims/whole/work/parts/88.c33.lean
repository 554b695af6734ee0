set_option maxHeartbeats 1000000 in
set_option maxRecDepth 20000 in
theorem saidY_loop {G : xG} {d : Nat} {Q : xQ} {a : Nat → Nat} {σ : mS} {x : Int32} (hw : WT (σ.2.1 6)) (hsk : SK (σ.2.1 6)) (hu : ∀ j, σ.2.1 56 j < 2) {r : Int32} (kk : ∀ u, (∀ j, u j < 2) → Q (some (.int r)) (mW G.2.2.1 a (sN σ 56 u))) : ∀ (n i c : Nat), i + n = σ.2.1 6 2 → c ≤ i → saL (saB (σ.2.1 6) (σ.2.1 56)) x n i c = r → AW G MX12_said (d + 7) 0 0 Q 27 [some (.ref (a 60)), some (.int x), some (.int (nI c)), some (.int (nI i))] [] (mW G.2.2.1 a (sN σ 56 (saU (σ.2.1 6) (σ.2.1 56) i))) 0 0 := by
  have hb := hw.1
  have h2 := hw.2.2.2.1
  intro n
  induction n with
  | zero =>
    intro i c hi hc he
    refine aw_iload_n (pc := 27) (i := 3) dX12_said_27 rfl rfl ?_
    refine aw_aload_n (pc := 28) (i := 0) dX12_said_28 rfl rfl ?_
    refine mg_s (pc := 29) dX12_said_29 rfl ?_
    refine aw_iconst (pc := 32) dX12_said_32 iconst_2 ?_
    refine ml_s (pc := 33) dX12_said_33 (by decide) ?_
    refine aw_top (y := (nI (σ.2.1 6 2))) rfl ?_
    refine an_icmp_ge (pc := 34) (tgt := 64) dX12_said_34 rfl (by omega) (Nat.lt_trans (hb _) (by decide)) (fun h34 => ?_) (fun h34 => ?_)
    · -- 64
      refine aw_iload_n (pc := 64) (i := 1) dX12_said_64 rfl rfl ?_
      refine aw_iconst (pc := 65) dX12_said_65 iconst_m1 ?_
      refine aw_icmp_ne (pc := 66) (tgt := 73) dX12_said_66 rfl (fun h66 => ?_) (fun h66 => ?_)
      · -- 73
        refine aw_iconst (pc := 73) dX12_said_73 iconst_m1 ?_
        exact aw_iret (pc := 74) dX12_said_74 rfl (Nat.le_refl _) (Nat.le_refl _) (by rw [← he, saL, if_neg h66] at kk; exact kk _ (saU_lt hu _))
      · -- 69
        refine aw_iload_n (pc := 69) (i := 2) dX12_said_69 rfl rfl ?_
        refine aw_goto (pc := 70) (tgt := 74) dX12_said_70 rfl ?_
        exact aw_iret (pc := 74) dX12_said_74 rfl (Nat.le_refl _) (Nat.le_refl _) (by rw [← he, saL, if_pos h66] at kk; exact kk _ (saU_lt hu _))
    · -- 37
      exfalso; omega
  | succ n ih =>
    intro i c hi hc he
    refine aw_iload_n (pc := 27) (i := 3) dX12_said_27 rfl rfl ?_
    refine aw_aload_n (pc := 28) (i := 0) dX12_said_28 rfl rfl ?_
    refine mg_s (pc := 29) dX12_said_29 rfl ?_
    refine aw_iconst (pc := 32) dX12_said_32 iconst_2 ?_
    refine ml_s (pc := 33) dX12_said_33 (by decide) ?_
    refine aw_top (y := (nI (σ.2.1 6 2))) rfl ?_
    refine an_icmp_ge (pc := 34) (tgt := 64) dX12_said_34 rfl (by omega) (Nat.lt_trans (hb _) (by decide)) (fun h34 => ?_) (fun h34 => ?_)
    · -- 64
      exfalso; omega
    · -- 37
      refine aw_aload_n (pc := 37) (i := 0) dX12_said_37 rfl rfl ?_
      refine aw_iload_n (pc := 38) (i := 3) dX12_said_38 rfl rfl ?_
      refine mc_I (pc := 39) (As := [.int (nI i)]) (rest := []) dX12_said_39 rfl ok_X12_487 rfl rfl rfl (Nat.le_of_ble_eq_true rfl) (s_isSaid hw (by assumption) hsk (saU_lt hu i) ⟨_, _, rfl, rfl, ?_⟩)
      refine aw_top (y := bI (saB (σ.2.1 6) (σ.2.1 56) i)) rfl ?_
      refine aw_ws (w9 := mW G.2.2.1 a (sN σ 56 (saU (σ.2.1 6) (σ.2.1 56) (i + 1)))) rfl ?_
      refine ab_if_ne (pc := 42) (tgt := 48) dX12_said_42 rfl (fun h42 => ?_) (fun h42 => ?_)
      · -- 48
        refine aw_iload_n (pc := 48) (i := 2) dX12_said_48 rfl rfl ?_
        refine aw_iload_n (pc := 49) (i := 1) dX12_said_49 rfl rfl ?_
        refine aw_icmp_ne (pc := 50) (tgt := 55) dX12_said_50 rfl (fun h50 => ?_) (fun h50 => ?_)
        · -- 55
          refine an_inc (pc := 55) (z := 1) dX12_said_55 rfl (Nat.le_of_ble_eq_true rfl) rfl ?_
          refine an_inc (pc := 58) (z := 1) dX12_said_58 rfl (Nat.le_of_ble_eq_true rfl) rfl ?_
          refine aw_goto (pc := 61) (tgt := 27) dX12_said_61 rfl ?_
          exact ih (i + 1) (c + 1) (by omega) (by omega) (by rw [← he, saL, if_pos h42, if_neg h50])
        · -- 53
          refine aw_iload_n (pc := 53) (i := 3) dX12_said_53 rfl rfl ?_
          exact aw_iret (pc := 54) dX12_said_54 rfl (Nat.le_refl _) (Nat.le_refl _) (by rw [← he, saL, if_pos h42, if_pos h50] at kk; exact kk _ (saU_lt hu _))
      · -- 45
        refine aw_goto (pc := 45) (tgt := 58) dX12_said_45 rfl ?_
        refine an_inc (pc := 58) (z := 1) dX12_said_58 rfl (Nat.le_of_ble_eq_true rfl) rfl ?_
        refine aw_goto (pc := 61) (tgt := 27) dX12_said_61 rfl ?_
        exact ih (i + 1) c (by omega) (by omega) (by rw [← he, saL, if_neg (by rw [h42]; decide)])
set_option maxHeartbeats 1000000 in
set_option maxRecDepth 20000 in
theorem s_saidU {G : xG} {d : Nat} {Q : xQ} {a : Nat → Nat} {σ : mS} {x : Int32} (hw : WT (σ.2.1 6)) (hsk : SK (σ.2.1 6)) (hu : ∀ j, σ.2.1 56 j < 2) (kk : ∀ u, (∀ j, u j < 2) → Q (some (.int (saidA (σ.2.1 6) (σ.2.1 56) x))) (mW G.2.2.1 a (sN (mI σ 0 (nI 0)) 56 u))) : MT G MX12_said (d + 7) 0 0 [.ref (a 60), .int x] (mW G.2.2.1 a σ) Q := by
  have hb := hw.1
  refine mt_start (L := [some (.ref (a 60)), some (.int x), none, none]) rfl (Nat.le_of_ble_eq_true rfl) rfl ?_
  refine aw_aload_n (pc := 0) (i := 0) dX12_said_0 rfl rfl ?_
  refine aw_iconst (pc := 1) dX12_said_1 iconst_0 ?_
  refine mp_thrown (pc := 2) dX12_said_2 rfl ?_
  refine aw_aload_n (pc := 5) (i := 0) dX12_said_5 rfl rfl ?_
  refine mg_s (pc := 6) dX12_said_6 rfl ?_
  refine aw_sipush (pc := 9) dX12_said_9 sipush_138 ?_
  refine ml_s (pc := 12) dX12_said_12 (by decide) ?_
  refine aw_top (y := (nI (σ.2.1 6 138))) rfl ?_
  refine an_if_eq (pc := 13) (tgt := 21) dX12_said_13 rfl (Nat.lt_trans (hb _) (by decide)) (fun h13 => ?_) (fun h13 => ?_)
  · -- 21
    refine aw_iconst (pc := 21) dX12_said_21 iconst_m1 ?_
    exact aw_iret (pc := 22) dX12_said_22 rfl (Nat.le_refl _) (Nat.le_refl _) (by have := kk (σ.2.1 56) hu; rw [saidA, if_pos h13] at this; exact this)
  · -- 16
    refine aw_iload_n (pc := 16) (i := 1) dX12_said_16 rfl rfl ?_
    refine aw_iconst (pc := 17) dX12_said_17 iconst_m1 ?_
    refine aw_icmp_ge (pc := 18) (tgt := 23) dX12_said_18 rfl (fun h18 => ?_) (fun h18 => ?_)
    · -- 23
      refine aw_iconst (pc := 23) dX12_said_23 iconst_0 ?_
      refine aw_istore_n (pc := 24) (i := 2) dX12_said_24 rfl (Nat.le_of_ble_eq_true rfl) rfl ?_
      refine aw_iconst (pc := 25) dX12_said_25 iconst_0 ?_
      refine aw_istore_n (pc := 26) (i := 3) dX12_said_26 rfl (Nat.le_of_ble_eq_true rfl) rfl ?_
      refine aw_ws (w9 := mW G.2.2.1 a (sN (mI σ 0 (nI 0)) 56 (saU (σ.2.1 6) (σ.2.1 56) 0))) rfl ?_
      exact saidY_loop (σ := mI σ 0 (nI 0)) hw hsk hu kk (σ.2.1 6 2) 0 0 (Nat.zero_add _) (Nat.le_refl _) (by rw [saidA, if_neg (Nat.ne_of_gt h13), if_neg (Int32.not_lt.mpr h18)]; rfl)
    · -- 21
      refine aw_iconst (pc := 21) dX12_said_21 iconst_m1 ?_
      exact aw_iret (pc := 22) dX12_said_22 rfl (Nat.le_refl _) (Nat.le_refl _) (by have := kk (σ.2.1 56) hu; rw [saidA, if_neg (Nat.ne_of_gt h13), if_pos (Int32.not_le.mp h18)] at this; exact this)
