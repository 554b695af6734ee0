theorem meas_tc {kd : Nat} {v : Int64} {r : Option Nat} {ρ : mS} (tc : TC kd v r ρ) : ((kd = 60 ∨ kd = 61 ∨ kd = 62) → ρ.1 11 = nI 3 ∧ numN ρ = kd) ∧ (¬ (kd = 60 ∨ kd = 61 ∨ kd = 62) → ¬ ρ.1 11 = nI 3 ∨ numN ρ < 60 ∨ 62 < numN ρ) := by
  rcases tc with h | h | h | h | h
  · exact ⟨fun _ => by omega, fun _ => Or.inl (by rw [h.2.2]; decide)⟩
  · exact ⟨fun _ => by omega, fun _ => Or.inl (by rw [h.2.2]; decide)⟩
  · exact ⟨fun _ => by omega, fun _ => Or.inl (by rw [h.2.1]; decide)⟩
  · exact ⟨fun _ => by omega, fun _ => Or.inl (by rw [h.2.2.1]; decide)⟩
  · have hb := sgnC_b h.1
    have e : numN ρ = kd := by unfold numN; rw [h.2.2.2, nI_clamp (by omega)]
    exact ⟨fun _ => ⟨h.2.2.1, e⟩, fun _ => by rw [e]; omega⟩
def meF (ρ : mS) : Bool × mS := if ρ.1 11 = nI 3 then (if numN ρ < 60 then (false, badF ρ 1) else if 62 < numN ρ then (false, badF ρ 1) else if (nx ρ).1 11 = nI 2 then (true, ρ) else (false, badF (nx ρ) 1)) else (false, badF ρ 1)
theorem meF_no {ρ : mS} (h : ¬ ρ.1 11 = nI 3 ∨ numN ρ < 60 ∨ 62 < numN ρ) : meF ρ = (false, badF ρ 1) := by
  unfold meF
  by_cases e : ρ.1 11 = nI 3
  · rw [if_pos e]
    by_cases e1 : numN ρ < 60
    · rw [if_pos e1]
    · rw [if_neg e1, if_pos (by rcases h with h | h | h; exact absurd e h; omega; exact h)]
  · rw [if_neg e]
theorem meF_nn {ρ s1 σ9 : mS} {kd : Nat} (h : ρ.1 11 = nI 3) (hn : numN ρ = kd) (hk : kd = 60 ∨ kd = 61 ∨ kd = 62) (hs : s1 = nx ρ) (ht : takesF s1 0 999 = (false, σ9)) : meF ρ = (false, σ9) := by
  unfold meF
  rw [if_pos h, if_neg (by omega), if_neg (by omega)]
  unfold takesF at ht
  by_cases e : s1.1 11 = nI 2
  · exfalso
    have hm : numN (nx ρ) < 1000 := nx_num (by rw [← hs]; exact e)
    rw [if_pos e] at ht
    have hv : s1.1 14 = nI (numN (nx ρ)) := by
      rw [hs]; rw [hs] at e
      have := next_num (σ := ρ) (s := (ρ.1 3).toNatClampNeg) (lim := (ρ.1 5).toNatClampNeg) (p := (ρ.1 4).toNatClampNeg) (by have q := nx_eq ρ; rw [← q] at e; exact e)
      have q := nx_eq ρ
      unfold numN
      rw [← q]
      exact this.1
    rw [if_pos (by rw [hv]; unfold inC; rw [Bool.and_eq_true, decide_eq_true_eq, decide_eq_true_eq]; exact ⟨nI_le (by omega) (by omega), nI_le (by omega) (by omega)⟩)] at ht
    cases ht
  · rw [if_neg e] at ht
    rw [if_neg (by rw [← hs]; exact e), ← hs]; exact ht
theorem meF_ok {ρ s1 σ9 : mS} {kd : Nat} (h : ρ.1 11 = nI 3) (hn : numN ρ = kd) (hk : kd = 60 ∨ kd = 61 ∨ kd = 62) (hs : s1 = nx ρ) (ht : takesF s1 0 999 = (true, σ9)) : meF ρ = (true, ρ) ∧ (nx ρ).1 11 = nI 2 := by
  have e : (nx ρ).1 11 = nI 2 := by
    rw [← hs]
    unfold takesF at ht
    split at ht
    · assumption
    · cases ht
  unfold meF
  rw [if_pos h, if_neg (by omega), if_neg (by omega), if_pos e]
  exact ⟨rfl, e⟩
set_option maxHeartbeats 1000000 in
set_option maxRecDepth 20000 in
theorem c6_meas {G : xG} {d : Nat} {Q : xQ} {a ad x : Nat → Nat} {tw ts : Nat} {κT κX : kS} {R : va_W} {ρ : mS} {s w : Nat} (hE : EB ad tw ts G) (hX0 : κX.1 0 = .ref (a 13)) (hX5 : κX.1 5 = .int (nI s)) (hs : s < 40) (hw : w < 24) (hT : TPR ad κT ρ) (hf : κT.1 11 = .int (nI 0)) (k1 : ∀ y z, (y = 60 ∨ y = 61 ∨ y = 62) → ρ.1 11 = nI 3 → numN ρ = y → meF ρ = (true, ρ) → (nx ρ).1 11 = nI 2 → numN (nx ρ) = z → z < 1000 → ∀ κT9, TPR ad κT9 (nx (mI (nx ρ) 18 (nI z))) → TBs κT κT9 → κT9.1 11 = .int (nI 0) → Q (some (.int (bI true))) (wSe G.2.2.1 x (stK ad κX s w y z) ++ (wTp G.2.2.1 a κT9 ++ R))) (k0 : ∀ σ9, meF ρ = (false, σ9) → ∀ κT9, FRl κT9 σ9 → TBs κT κT9 → Q (some (.int (bI false))) (wSe G.2.2.1 x κX ++ (wTp G.2.2.1 a κT9 ++ R))) : MT G MX6_readMeasure (d + 2) 0 0 [.ref (x 8), va_rf (Option.map ad (some w))] (wSe G.2.2.1 x κX ++ (wTp G.2.2.1 a κT ++ R)) Q := by
  obtain ⟨kd, v, r, e8, e9, e10, hr, hkd, tc⟩ := hT.view
  have qm := meas_tc tc
  refine mt_start (L := [some (.ref (x 8)), some (va_rf (Option.map ad (some w))), none, none]) rfl (Nat.le_of_ble_eq_true rfl) rfl ?_
  refine aw_aload_n (pc := 0) (i := 0) dX6_readMeasure_0 rfl rfl ?_
  refine pg_X6_34 (pc := 1) (v := .ref (a 13)) dX6_readMeasure_1 rfl hX0 ?_
  refine aw_swap ?_
  refine pg_X6_82 (pc := 4) (v := .int (nI kd)) dX6_readMeasure_4 rfl e8 ?_
  refine aw_istore_n (pc := 7) (i := 2) dX6_readMeasure_7 rfl (Nat.le_of_ble_eq_true rfl) rfl ?_
  refine aw_iload_n (pc := 8) (i := 2) dX6_readMeasure_8 rfl rfl ?_
  refine aw_bipush (pc := 9) dX6_readMeasure_9 bipush_60 ?_
  refine an_icmp_eq (pc := 11) (tgt := 35) dX6_readMeasure_11 rfl (by omega) (by decide) (fun h11 => ?_) (fun h11 => ?_)
  · -- 35
    have hkk : kd = 60 ∨ kd = 61 ∨ kd = 62 := by omega
    refine aw_aload_n (pc := 35) (i := 0) dX6_readMeasure_35 rfl rfl ?_
    refine aw_swap ?_
    refine pg_X6_34 (pc := 36) (v := .ref (a 13)) dX6_readMeasure_36 rfl hX0 ?_
    refine aw_swap ?_
    refine cVv (pc := 39) (As := []) (rest := []) dX6_readMeasure_39 rfl oc_X6_69 rfl rfl (Nat.le_of_ble_eq_true rfl) rfl rfl ovX8 (Nat.le_refl _) (Nat.le_refl _) (c8_stepR hT (Or.inr (Or.inr (qm.1 hkk).1)) ?_)
    intro κ1 g1 b1 f1
    refine ⟨rfl, ?_⟩
    obtain ⟨s1, hs1⟩ : ∃ x, x = nx ρ := ⟨_, rfl⟩
    rw [← hs1] at g1
    refine aw_aload_n (pc := 42) (i := 0) dX6_readMeasure_42 rfl rfl ?_
    refine aw_swap ?_
    refine pg_X6_34 (pc := 43) (v := .ref (a 13)) dX6_readMeasure_43 rfl hX0 ?_
    refine aw_iconst (pc := 46) dX6_readMeasure_46 iconst_0 ?_
    refine aw_sipush (pc := 47) dX6_readMeasure_47 sipush_999 ?_
    refine aw_swap ?_
    refine cVi (pc := 50) (As := [.int (nI 0), .int (nI 999)]) (rest := []) dX6_readMeasure_50 rfl oc_X6_126 rfl rfl (Nat.le_of_ble_eq_true rfl) rfl rfl ovX8 (Nat.le_refl _) (Nat.le_refl _) (c8_tnum (σ := s1) g1 (f1.trans hf) (by decide) (by decide) ?_ ?_)
    · -- call
      intro m2 hm2 lo2 hi2 nm2 t2 κ2 g2 b2 f2
      refine ⟨_, rfl, ?_⟩
      have n2 := NXF_nx18 s1 (nI m2)
      obtain ⟨s2, hs2⟩ : ∃ x, x = nx (mI s1 18 (nI m2)) := ⟨_, rfl⟩
      rw [← hs2] at g2 n2 t2
      refine aw_istore_n (pc := 53) (i := 3) dX6_readMeasure_53 rfl (Nat.le_of_ble_eq_true rfl) rfl ?_
      refine aw_iload_n (pc := 54) (i := 3) dX6_readMeasure_54 rfl rfl ?_
      refine aw_iconst (pc := 55) dX6_readMeasure_55 iconst_m1 ?_
      refine aw_icmp_eq (pc := 56) (tgt := 73) dX6_readMeasure_56 rfl (fun h56 => ?_) (fun h56 => ?_)
      · -- 73
        exact absurd h56 (nI_m1 (by omega))
      · -- 59
        refine aw_aload_n (pc := 59) (i := 0) dX6_readMeasure_59 rfl rfl ?_
        refine aw_qload_n (pc := 60) (i := 1) dX6_readMeasure_60 rfl rfl ?_
        refine aw_iload_n (pc := 61) (i := 2) dX6_readMeasure_61 rfl rfl ?_
        refine aw_iload_n (pc := 62) (i := 3) dX6_readMeasure_62 rfl rfl ?_
        refine aw_swap ?_
        refine cVi (pc := 63) (As := [va_rf (Option.map ad (some w)), .int (nI kd), .int (nI m2)]) (rest := []) dX6_readMeasure_63 rfl oc_X6_72 rfl rfl (Nat.le_of_ble_eq_true rfl) rfl rfl ovX6 (Nat.le_refl _) (Nat.le_refl _) (c6_add hE hX5 hs hw ⟨_, rfl, ?_⟩)
        refine ab_if_eq (pc := 66) (tgt := 73) dX6_readMeasure_66 rfl (fun h66 => absurd h66 (by decide)) (fun h66 => ?_)
        refine aw_iconst (pc := 69) dX6_readMeasure_69 iconst_1 ?_
        refine aw_goto (pc := 70) (tgt := 74) dX6_readMeasure_70 rfl ?_
        refine ab_ret1 (pc := 74) dX6_readMeasure_74 rfl (Nat.le_refl _) (Nat.le_refl _) ?_
        have q := meF_ok (qm.1 hkk).1 (qm.1 hkk).2 hkk hs1 t2
        have nm9 : numN (nx ρ) = m2 := by rw [← hs1]; exact nm2
        subst hs1
        exact k1 kd m2 hkk (qm.1 hkk).1 (qm.1 hkk).2 q.1 q.2 nm9 hm2 _ (by rw [← hs2]; exact g2) (b1.tr b2) f2
    · -- call
      intro z2 t2 κ2 g2 b2
      refine ⟨_, rfl, ?_⟩
      refine aw_istore_n (pc := 53) (i := 3) dX6_readMeasure_53 rfl (Nat.le_of_ble_eq_true rfl) rfl ?_
      refine aw_iload_n (pc := 54) (i := 3) dX6_readMeasure_54 rfl rfl ?_
      refine aw_iconst (pc := 55) dX6_readMeasure_55 iconst_m1 ?_
      refine aw_icmp_eq (pc := 56) (tgt := 73) dX6_readMeasure_56 rfl (fun h56 => ?_) (fun h56 => ?_)
      · -- 73
        refine aw_iconst (pc := 73) dX6_readMeasure_73 iconst_0 ?_
        refine aw_swap ?_
        exact ab_ret0 (pc := 74) dX6_readMeasure_74 rfl (Nat.le_refl _) (Nat.le_refl _) (k0 _ (meF_nn (qm.1 hkk).1 (qm.1 hkk).2 hkk hs1 t2) _ g2 (b1.tr b2))
      · -- 59
        exact absurd rfl h56
  · -- 14
    refine aw_iload_n (pc := 14) (i := 2) dX6_readMeasure_14 rfl rfl ?_
    refine aw_bipush (pc := 15) dX6_readMeasure_15 bipush_61 ?_
    refine an_icmp_eq (pc := 17) (tgt := 35) dX6_readMeasure_17 rfl (by omega) (by decide) (fun h17 => ?_) (fun h17 => ?_)
    · -- 35
      have hkk : kd = 60 ∨ kd = 61 ∨ kd = 62 := by omega
      refine aw_aload_n (pc := 35) (i := 0) dX6_readMeasure_35 rfl rfl ?_
      refine aw_swap ?_
      refine pg_X6_34 (pc := 36) (v := .ref (a 13)) dX6_readMeasure_36 rfl hX0 ?_
      refine aw_swap ?_
      refine cVv (pc := 39) (As := []) (rest := []) dX6_readMeasure_39 rfl oc_X6_69 rfl rfl (Nat.le_of_ble_eq_true rfl) rfl rfl ovX8 (Nat.le_refl _) (Nat.le_refl _) (c8_stepR hT (Or.inr (Or.inr (qm.1 hkk).1)) ?_)
      intro κ1 g1 b1 f1
      refine ⟨rfl, ?_⟩
      obtain ⟨s1, hs1⟩ : ∃ x, x = nx ρ := ⟨_, rfl⟩
      rw [← hs1] at g1
      refine aw_aload_n (pc := 42) (i := 0) dX6_readMeasure_42 rfl rfl ?_
      refine aw_swap ?_
      refine pg_X6_34 (pc := 43) (v := .ref (a 13)) dX6_readMeasure_43 rfl hX0 ?_
      refine aw_iconst (pc := 46) dX6_readMeasure_46 iconst_0 ?_
      refine aw_sipush (pc := 47) dX6_readMeasure_47 sipush_999 ?_
      refine aw_swap ?_
      refine cVi (pc := 50) (As := [.int (nI 0), .int (nI 999)]) (rest := []) dX6_readMeasure_50 rfl oc_X6_126 rfl rfl (Nat.le_of_ble_eq_true rfl) rfl rfl ovX8 (Nat.le_refl _) (Nat.le_refl _) (c8_tnum (σ := s1) g1 (f1.trans hf) (by decide) (by decide) ?_ ?_)
      · -- call
        intro m2 hm2 lo2 hi2 nm2 t2 κ2 g2 b2 f2
        refine ⟨_, rfl, ?_⟩
        have n2 := NXF_nx18 s1 (nI m2)
        obtain ⟨s2, hs2⟩ : ∃ x, x = nx (mI s1 18 (nI m2)) := ⟨_, rfl⟩
        rw [← hs2] at g2 n2 t2
        refine aw_istore_n (pc := 53) (i := 3) dX6_readMeasure_53 rfl (Nat.le_of_ble_eq_true rfl) rfl ?_
        refine aw_iload_n (pc := 54) (i := 3) dX6_readMeasure_54 rfl rfl ?_
        refine aw_iconst (pc := 55) dX6_readMeasure_55 iconst_m1 ?_
        refine aw_icmp_eq (pc := 56) (tgt := 73) dX6_readMeasure_56 rfl (fun h56 => ?_) (fun h56 => ?_)
        · -- 73
          exact absurd h56 (nI_m1 (by omega))
        · -- 59
          refine aw_aload_n (pc := 59) (i := 0) dX6_readMeasure_59 rfl rfl ?_
          refine aw_qload_n (pc := 60) (i := 1) dX6_readMeasure_60 rfl rfl ?_
          refine aw_iload_n (pc := 61) (i := 2) dX6_readMeasure_61 rfl rfl ?_
          refine aw_iload_n (pc := 62) (i := 3) dX6_readMeasure_62 rfl rfl ?_
          refine aw_swap ?_
          refine cVi (pc := 63) (As := [va_rf (Option.map ad (some w)), .int (nI kd), .int (nI m2)]) (rest := []) dX6_readMeasure_63 rfl oc_X6_72 rfl rfl (Nat.le_of_ble_eq_true rfl) rfl rfl ovX6 (Nat.le_refl _) (Nat.le_refl _) (c6_add hE hX5 hs hw ⟨_, rfl, ?_⟩)
          refine ab_if_eq (pc := 66) (tgt := 73) dX6_readMeasure_66 rfl (fun h66 => absurd h66 (by decide)) (fun h66 => ?_)
          refine aw_iconst (pc := 69) dX6_readMeasure_69 iconst_1 ?_
          refine aw_goto (pc := 70) (tgt := 74) dX6_readMeasure_70 rfl ?_
          refine ab_ret1 (pc := 74) dX6_readMeasure_74 rfl (Nat.le_refl _) (Nat.le_refl _) ?_
          have q := meF_ok (qm.1 hkk).1 (qm.1 hkk).2 hkk hs1 t2
          have nm9 : numN (nx ρ) = m2 := by rw [← hs1]; exact nm2
          subst hs1
          exact k1 kd m2 hkk (qm.1 hkk).1 (qm.1 hkk).2 q.1 q.2 nm9 hm2 _ (by rw [← hs2]; exact g2) (b1.tr b2) f2
      · -- call
        intro z2 t2 κ2 g2 b2
        refine ⟨_, rfl, ?_⟩
        refine aw_istore_n (pc := 53) (i := 3) dX6_readMeasure_53 rfl (Nat.le_of_ble_eq_true rfl) rfl ?_
        refine aw_iload_n (pc := 54) (i := 3) dX6_readMeasure_54 rfl rfl ?_
        refine aw_iconst (pc := 55) dX6_readMeasure_55 iconst_m1 ?_
        refine aw_icmp_eq (pc := 56) (tgt := 73) dX6_readMeasure_56 rfl (fun h56 => ?_) (fun h56 => ?_)
        · -- 73
          refine aw_iconst (pc := 73) dX6_readMeasure_73 iconst_0 ?_
          refine aw_swap ?_
          exact ab_ret0 (pc := 74) dX6_readMeasure_74 rfl (Nat.le_refl _) (Nat.le_refl _) (k0 _ (meF_nn (qm.1 hkk).1 (qm.1 hkk).2 hkk hs1 t2) _ g2 (b1.tr b2))
        · -- 59
          exact absurd rfl h56
    · -- 20
      refine aw_iload_n (pc := 20) (i := 2) dX6_readMeasure_20 rfl rfl ?_
      refine aw_bipush (pc := 21) dX6_readMeasure_21 bipush_62 ?_
      refine an_icmp_eq (pc := 23) (tgt := 35) dX6_readMeasure_23 rfl (by omega) (by decide) (fun h23 => ?_) (fun h23 => ?_)
      · -- 35
        have hkk : kd = 60 ∨ kd = 61 ∨ kd = 62 := by omega
        refine aw_aload_n (pc := 35) (i := 0) dX6_readMeasure_35 rfl rfl ?_
        refine aw_swap ?_
        refine pg_X6_34 (pc := 36) (v := .ref (a 13)) dX6_readMeasure_36 rfl hX0 ?_
        refine aw_swap ?_
        refine cVv (pc := 39) (As := []) (rest := []) dX6_readMeasure_39 rfl oc_X6_69 rfl rfl (Nat.le_of_ble_eq_true rfl) rfl rfl ovX8 (Nat.le_refl _) (Nat.le_refl _) (c8_stepR hT (Or.inr (Or.inr (qm.1 hkk).1)) ?_)
        intro κ1 g1 b1 f1
        refine ⟨rfl, ?_⟩
        obtain ⟨s1, hs1⟩ : ∃ x, x = nx ρ := ⟨_, rfl⟩
        rw [← hs1] at g1
        refine aw_aload_n (pc := 42) (i := 0) dX6_readMeasure_42 rfl rfl ?_
        refine aw_swap ?_
        refine pg_X6_34 (pc := 43) (v := .ref (a 13)) dX6_readMeasure_43 rfl hX0 ?_
        refine aw_iconst (pc := 46) dX6_readMeasure_46 iconst_0 ?_
        refine aw_sipush (pc := 47) dX6_readMeasure_47 sipush_999 ?_
        refine aw_swap ?_
        refine cVi (pc := 50) (As := [.int (nI 0), .int (nI 999)]) (rest := []) dX6_readMeasure_50 rfl oc_X6_126 rfl rfl (Nat.le_of_ble_eq_true rfl) rfl rfl ovX8 (Nat.le_refl _) (Nat.le_refl _) (c8_tnum (σ := s1) g1 (f1.trans hf) (by decide) (by decide) ?_ ?_)
        · -- call
          intro m2 hm2 lo2 hi2 nm2 t2 κ2 g2 b2 f2
          refine ⟨_, rfl, ?_⟩
          have n2 := NXF_nx18 s1 (nI m2)
          obtain ⟨s2, hs2⟩ : ∃ x, x = nx (mI s1 18 (nI m2)) := ⟨_, rfl⟩
          rw [← hs2] at g2 n2 t2
          refine aw_istore_n (pc := 53) (i := 3) dX6_readMeasure_53 rfl (Nat.le_of_ble_eq_true rfl) rfl ?_
          refine aw_iload_n (pc := 54) (i := 3) dX6_readMeasure_54 rfl rfl ?_
          refine aw_iconst (pc := 55) dX6_readMeasure_55 iconst_m1 ?_
          refine aw_icmp_eq (pc := 56) (tgt := 73) dX6_readMeasure_56 rfl (fun h56 => ?_) (fun h56 => ?_)
          · -- 73
            exact absurd h56 (nI_m1 (by omega))
          · -- 59
            refine aw_aload_n (pc := 59) (i := 0) dX6_readMeasure_59 rfl rfl ?_
            refine aw_qload_n (pc := 60) (i := 1) dX6_readMeasure_60 rfl rfl ?_
            refine aw_iload_n (pc := 61) (i := 2) dX6_readMeasure_61 rfl rfl ?_
            refine aw_iload_n (pc := 62) (i := 3) dX6_readMeasure_62 rfl rfl ?_
            refine aw_swap ?_
            refine cVi (pc := 63) (As := [va_rf (Option.map ad (some w)), .int (nI kd), .int (nI m2)]) (rest := []) dX6_readMeasure_63 rfl oc_X6_72 rfl rfl (Nat.le_of_ble_eq_true rfl) rfl rfl ovX6 (Nat.le_refl _) (Nat.le_refl _) (c6_add hE hX5 hs hw ⟨_, rfl, ?_⟩)
            refine ab_if_eq (pc := 66) (tgt := 73) dX6_readMeasure_66 rfl (fun h66 => absurd h66 (by decide)) (fun h66 => ?_)
            refine aw_iconst (pc := 69) dX6_readMeasure_69 iconst_1 ?_
            refine aw_goto (pc := 70) (tgt := 74) dX6_readMeasure_70 rfl ?_
            refine ab_ret1 (pc := 74) dX6_readMeasure_74 rfl (Nat.le_refl _) (Nat.le_refl _) ?_
            have q := meF_ok (qm.1 hkk).1 (qm.1 hkk).2 hkk hs1 t2
            have nm9 : numN (nx ρ) = m2 := by rw [← hs1]; exact nm2
            subst hs1
            exact k1 kd m2 hkk (qm.1 hkk).1 (qm.1 hkk).2 q.1 q.2 nm9 hm2 _ (by rw [← hs2]; exact g2) (b1.tr b2) f2
        · -- call
          intro z2 t2 κ2 g2 b2
          refine ⟨_, rfl, ?_⟩
          refine aw_istore_n (pc := 53) (i := 3) dX6_readMeasure_53 rfl (Nat.le_of_ble_eq_true rfl) rfl ?_
          refine aw_iload_n (pc := 54) (i := 3) dX6_readMeasure_54 rfl rfl ?_
          refine aw_iconst (pc := 55) dX6_readMeasure_55 iconst_m1 ?_
          refine aw_icmp_eq (pc := 56) (tgt := 73) dX6_readMeasure_56 rfl (fun h56 => ?_) (fun h56 => ?_)
          · -- 73
            refine aw_iconst (pc := 73) dX6_readMeasure_73 iconst_0 ?_
            refine aw_swap ?_
            exact ab_ret0 (pc := 74) dX6_readMeasure_74 rfl (Nat.le_refl _) (Nat.le_refl _) (k0 _ (meF_nn (qm.1 hkk).1 (qm.1 hkk).2 hkk hs1 t2) _ g2 (b1.tr b2))
          · -- 59
            exact absurd rfl h56
      · -- 26
        refine aw_aload_n (pc := 26) (i := 0) dX6_readMeasure_26 rfl rfl ?_
        refine aw_swap ?_
        refine pg_X6_34 (pc := 27) (v := .ref (a 13)) dX6_readMeasure_27 rfl hX0 ?_
        refine aw_iconst (pc := 30) dX6_readMeasure_30 iconst_1 ?_
        refine aw_swap ?_
        refine cVi (pc := 31) (As := [.int (nI 1)]) (rest := []) dX6_readMeasure_31 rfl oc_X6_56 rfl rfl (Nat.le_of_ble_eq_true rfl) rfl rfl ovX8 (Nat.le_refl _) (Nat.le_refl _) (c8_refuse (σ := ρ) hT hf ?_)
        intro κ1 g1 p1 b1
        refine ⟨_, rfl, ?_⟩
        refine aw_swap ?_
        exact ab_ret (pc := 34) dX6_readMeasure_34 rfl (Nat.le_refl _) (Nat.le_refl _) (k0 _ (meF_no (qm.2 (by omega))) _ ⟨g1, p1⟩ ((TBs.rf _).tr b1))
