/-- a book's line, in both -/
def LNq (κ : kS) (rd : Nat → Nat) (i : Nat) : Prop := κ.2.1 2 i = nI (rd (4 * i)) ∧ (rd (4 * i) ≤ 5 → κ.2.1 3 i = nI (rd (4 * i + 1))) ∧ (rd (4 * i) ≤ 2 ∨ rd (4 * i) = 5 → κ.2.1 4 i = nI (rd (4 * i + 2))) ∧ (rd (4 * i) = 5 → κ.2.1 5 i = nI (rd (4 * i + 3))) ∧ (rd (4 * i) = 6 → κ.2.1 5 i = nI (rd (4 * i + 1)))
def LB (κ κ9 : kS) (m : Nat) : Prop := ∀ k i, i < m → κ9.2.1 k i = κ.2.1 k i
theorem LB_rf (κ : kS) (m : Nat) : LB κ κ m := fun _ _ _ => rfl
theorem LB.tr {a b c : kS} {m : Nat} (h : LB a b m) (g : LB b c m) : LB a c m := fun k i hi => (g k i hi).trans (h k i hi)
theorem LB_kI (κ : kS) (k m : Nat) (v : Int32) : LB κ (kI κ k m v) m := by
  intro k' i hi
  show upN κ.2.1 k (upN (κ.2.1 k) m v) k' i = _
  by_cases e : k' = k
  · subst e; rw [upN_s, upN_n _ _ _ _ (by omega)]
  · rw [upN_n _ _ _ _ e]
theorem LNq.to {κ κ9 : kS} {rd rd9 : Nat → Nat} {i m : Nat} (h : LNq κ rd i) (hi : i < m) (g : LB κ κ9 m) (e : ∀ j, j < 4 * m → rd9 j = rd j) : LNq κ9 rd9 i := by
  unfold LNq at *
  rw [g 2 i hi, g 3 i hi, g 4 i hi, g 5 i hi, e _ (by omega), e _ (by omega), e _ (by omega), e _ (by omega)]
  exact h
theorem kI_s (κ : kS) (k m : Nat) (v : Int32) : (kI κ k m v).2.1 k m = v := by
  show upN κ.2.1 k (upN (κ.2.1 k) m v) k m = _
  rw [upN_s, upN_s]
theorem kI_n (κ : kS) (k k' m : Nat) (v : Int32) (h : ¬ k' = k) : (kI κ k m v).2.1 k' = κ.2.1 k' := by
  show upN κ.2.1 k (upN (κ.2.1 k) m v) k' = _
  rw [upN_n _ _ _ _ h]
theorem LNq_2 {κ : kS} {f : Nat → Nat} {m k x y : Nat} (hk : k ≤ 2) : LNq (kI (kI (kI κ 2 m (nI k)) 3 m (nI x)) 4 m (nI y)) (upN (upN (upN f (4 * m) k) (4 * m + 1) x) (4 * m + 2) y) m := by
  have e0 : upN (upN (upN f (4 * m) k) (4 * m + 1) x) (4 * m + 2) y (4 * m) = k := by rw [upN_n _ _ _ _ (by omega), upN_n _ _ _ _ (by omega), upN_s]
  unfold LNq
  rw [e0]
  refine ⟨by rw [kI_n _ _ _ _ _ (by decide), kI_n _ _ _ _ _ (by decide), kI_s], fun _ => by rw [kI_n _ _ _ _ _ (by decide), kI_s, upN_n _ _ _ _ (by omega), upN_s], fun _ => by rw [kI_s, upN_s], fun h => by omega, fun h => by omega⟩
theorem LNq_5 {κ : kS} {f : Nat → Nat} {m x y z : Nat} : LNq (kI (kI (kI (kI κ 2 m (nI 5)) 3 m (nI x)) 4 m (nI y)) 5 m (nI z)) (upN (upN (upN (upN f (4 * m) 5) (4 * m + 1) x) (4 * m + 2) y) (4 * m + 3) z) m := by
  have e0 : upN (upN (upN (upN f (4 * m) 5) (4 * m + 1) x) (4 * m + 2) y) (4 * m + 3) z (4 * m) = 5 := by rw [upN_n _ _ _ _ (by omega), upN_n _ _ _ _ (by omega), upN_n _ _ _ _ (by omega), upN_s]
  unfold LNq
  rw [e0]
  refine ⟨by rw [kI_n _ _ _ _ _ (by decide), kI_n _ _ _ _ _ (by decide), kI_n _ _ _ _ _ (by decide), kI_s], fun _ => by rw [kI_n _ _ _ _ _ (by decide), kI_n _ _ _ _ _ (by decide), kI_s, upN_n _ _ _ _ (by omega), upN_n _ _ _ _ (by omega), upN_s], fun _ => by rw [kI_n _ _ _ _ _ (by decide), kI_s, upN_n _ _ _ _ (by omega), upN_s], fun _ => by rw [kI_s, upN_s], fun h => by omega⟩
theorem LNq_3 {κ : kS} {f : Nat → Nat} {m k x : Nat} (hk : k = 3 ∨ k = 4) : LNq (kI (kI κ 2 m (nI k)) 3 m (nI x)) (upN (upN f (4 * m) k) (4 * m + 1) x) m := by
  have e0 : upN (upN f (4 * m) k) (4 * m + 1) x (4 * m) = k := by rw [upN_n _ _ _ _ (by omega), upN_s]
  unfold LNq
  rw [e0]
  refine ⟨by rw [kI_n _ _ _ _ _ (by decide), kI_s], fun _ => by rw [kI_s, upN_s], fun h => by omega, fun h => by omega, fun h => by omega⟩
theorem LNq_6 {κ : kS} {f : Nat → Nat} {m x : Nat} : LNq (kI (kI κ 2 m (nI 6)) 5 m (nI x)) (upN (upN f (4 * m) 6) (4 * m + 1) x) m := by
  have e0 : upN (upN f (4 * m) 6) (4 * m + 1) x (4 * m) = 6 := by rw [upN_n _ _ _ _ (by omega), upN_s]
  unfold LNq
  rw [e0]
  refine ⟨by rw [kI_n _ _ _ _ _ (by decide), kI_s], fun h => by omega, fun h => by omega, fun h => by omega, fun _ => by rw [kI_s, upN_s]⟩
theorem bookLineF_eq (σ : mS) (m : Nat) : bookLineF σ m = if isWordB σ (wC8 6) = true then blGN σ m 1 false else if isWordB σ (wC8 7) = true then blGN σ m 2 false else if isWordB σ (wC8 8) = true then blGT σ m 3 0 11 else if isWordB σ (wC8 9) = true then blGT σ m 4 0 11 else if isWordB σ (wC8 10) = true then blGN σ m 5 true else if isWordB σ (wC8 11) = true then blGT σ m 6 1 60 else blCF σ m := rfl
theorem bline_6 {kd m : Nat} {v : Int64} {σ : mS} (tc : TC kd v (some 6) σ) : bookLineF σ m = blGN σ m 1 false := by
  have e : ∀ k, k < 24 → (isWordB σ (wC8 k) = true ↔ some 6 = some k) := fun k hk => tc.word hk
  rw [bookLineF_eq, if_pos ((e 6 (by decide)).mpr rfl)]
theorem bline_7 {kd m : Nat} {v : Int64} {σ : mS} (tc : TC kd v (some 7) σ) : bookLineF σ m = blGN σ m 2 false := by
  have e : ∀ k, k < 24 → (isWordB σ (wC8 k) = true ↔ some 7 = some k) := fun k hk => tc.word hk
  rw [bookLineF_eq, if_neg (fun h => absurd ((e 6 (by decide)).mp h) (by decide)), if_pos ((e 7 (by decide)).mpr rfl)]
theorem bline_8 {kd m : Nat} {v : Int64} {σ : mS} (tc : TC kd v (some 8) σ) : bookLineF σ m = blGT σ m 3 0 11 := by
  have e : ∀ k, k < 24 → (isWordB σ (wC8 k) = true ↔ some 8 = some k) := fun k hk => tc.word hk
  rw [bookLineF_eq, if_neg (fun h => absurd ((e 6 (by decide)).mp h) (by decide)), if_neg (fun h => absurd ((e 7 (by decide)).mp h) (by decide)), if_pos ((e 8 (by decide)).mpr rfl)]
theorem bline_9 {kd m : Nat} {v : Int64} {σ : mS} (tc : TC kd v (some 9) σ) : bookLineF σ m = blGT σ m 4 0 11 := by
  have e : ∀ k, k < 24 → (isWordB σ (wC8 k) = true ↔ some 9 = some k) := fun k hk => tc.word hk
  rw [bookLineF_eq, if_neg (fun h => absurd ((e 6 (by decide)).mp h) (by decide)), if_neg (fun h => absurd ((e 7 (by decide)).mp h) (by decide)), if_neg (fun h => absurd ((e 8 (by decide)).mp h) (by decide)), if_pos ((e 9 (by decide)).mpr rfl)]
theorem bline_10 {kd m : Nat} {v : Int64} {σ : mS} (tc : TC kd v (some 10) σ) : bookLineF σ m = blGN σ m 5 true := by
  have e : ∀ k, k < 24 → (isWordB σ (wC8 k) = true ↔ some 10 = some k) := fun k hk => tc.word hk
  rw [bookLineF_eq, if_neg (fun h => absurd ((e 6 (by decide)).mp h) (by decide)), if_neg (fun h => absurd ((e 7 (by decide)).mp h) (by decide)), if_neg (fun h => absurd ((e 8 (by decide)).mp h) (by decide)), if_neg (fun h => absurd ((e 9 (by decide)).mp h) (by decide)), if_pos ((e 10 (by decide)).mpr rfl)]
theorem bline_11 {kd m : Nat} {v : Int64} {σ : mS} (tc : TC kd v (some 11) σ) : bookLineF σ m = blGT σ m 6 1 60 := by
  have e : ∀ k, k < 24 → (isWordB σ (wC8 k) = true ↔ some 11 = some k) := fun k hk => tc.word hk
  rw [bookLineF_eq, if_neg (fun h => absurd ((e 6 (by decide)).mp h) (by decide)), if_neg (fun h => absurd ((e 7 (by decide)).mp h) (by decide)), if_neg (fun h => absurd ((e 8 (by decide)).mp h) (by decide)), if_neg (fun h => absurd ((e 9 (by decide)).mp h) (by decide)), if_neg (fun h => absurd ((e 10 (by decide)).mp h) (by decide)), if_pos ((e 11 (by decide)).mpr rfl)]
theorem bline_no {kd m : Nat} {v : Int64} {r : Option Nat} {σ : mS} (tc : TC kd v r σ) (hr : ∀ k, 6 ≤ k → k ≤ 11 → ¬ r = some k) : bookLineF σ m = blCF σ m := by
  rw [bookLineF_eq, if_neg (fun h => hr 6 (by decide) (by decide) ((tc.word (k := 6) (by decide)).mp h)), if_neg (fun h => hr 7 (by decide) (by decide) ((tc.word (k := 7) (by decide)).mp h)), if_neg (fun h => hr 8 (by decide) (by decide) ((tc.word (k := 8) (by decide)).mp h)), if_neg (fun h => hr 9 (by decide) (by decide) ((tc.word (k := 9) (by decide)).mp h)), if_neg (fun h => hr 10 (by decide) (by decide) ((tc.word (k := 10) (by decide)).mp h)), if_neg (fun h => hr 11 (by decide) (by decide) ((tc.word (k := 11) (by decide)).mp h))]
theorem blC_no {σ : mS} {m : Nat} (h : isNameB σ = false) : blCF σ m = (false, badF σ 1) := by
  have e : looksF σ 7 (σ.2.1 6 2) = (false, badF σ 1) := by unfold looksF; rw [if_neg (by rw [h]; decide)]
  unfold blCF blA; rw [e]; rfl
theorem wMap_b {i : Nat} (h : i < 6 ∨ 11 < i) (hi : i < 24) : wMap i < 6 ∨ 11 < wMap i := by
  have := (by decide : ∀ k : Fin 24, (k.1 < 6 ∨ 11 < k.1) → wMap k.1 < 6 ∨ 11 < wMap k.1) ⟨i, hi⟩ h
  exact this
theorem sw_nb {x : Nat} (h : x < 6 ∨ 11 < x) (hx : x < 100) : (nI x).toInt < (6 : Int) ∨ (11 : Int) < (nI x).toInt := by
  rw [nI_toInt (by omega)]; omega
theorem blNq5 {σ s : mS} {to : Nat} (h : blNF σ to false = (true, s)) : blNF σ to true = if (takesF s 1 99).1 = true then (true, mN (takesF s 1 99).2 8 (to + 3) (numN s)) else (false, (takesF s 1 99).2) := by
  unfold blNF at *
  split at h
  · rename_i q1
    rw [if_pos q1]
    unfold bl2F at *
    split at h
    · rename_i q2
      rw [if_neg (by decide)] at h
      rw [if_pos q2, if_pos rfl, (Prod.mk.inj h).2]
    · cases h
  · cases h
theorem blNq0 {σ s : mS} {to : Nat} (h : blNF σ to false = (false, s)) : blNF σ to true = (false, s) := by
  unfold blNF at *
  split at h
  · rename_i q1
    rw [if_pos q1]
    unfold bl2F at *
    split at h
    · cases h
    · rename_i q2; rw [if_neg q2]; exact h
  · rename_i q1; rw [if_neg q1]; exact h
set_option maxHeartbeats 1000000 in
set_option maxRecDepth 20000 in
theorem c1_line {G : xG} {d : Nat} {Q : xQ} {a ad bk c : Nat → Nat} {κT κB : kS} {R : va_W} {σ : mS} {NM : Nat → Int64} {m : Nat} {tw ts : Nat} (hE : EB ad tw ts G) (hB0 : κB.1 0 = .ref (a 13)) (hB1 : κB.1 1 = .ref (c 13)) (hB6 : κB.1 6 = .int (nI m)) (hm : m ≤ 40) (hT : TPR ad κT σ) (hf : κT.1 11 = .int (nI 0)) (hC : CHR G R c (σ.2.1 6) NM) (hRes : RES σ) (h0 : σ.2.1 6 0 ≤ 7) (hp2 : σ.2.1 6 2 ≤ 6) (hNm : NMb σ NM) (k1 : ∀ s κT9 κB9, bookLineF σ m = (true, s) → m < 40 → LNq κB9 (s.2.1 8) m → (∀ j, j < 4 * m → s.2.1 8 j = σ.2.1 8 j) → LB κB κB9 m → BKs κB κB9 → TPR ad κT9 s → TBs κT κT9 → κT9.1 11 = .int (nI 0) → BXF σ s → Q (some (.int (bI true))) (wBk G.2.2.1 bk κB9 ++ (wTp G.2.2.1 a κT9 ++ R))) (k0 : ∀ σ9, bookLineF σ m = (false, σ9) → ∀ κT9 κB9, FRl κT9 σ9 → TBs κT κT9 → BKs κB κB9 → Q (some (.int (bI false))) (wBk G.2.2.1 bk κB9 ++ (wTp G.2.2.1 a κT9 ++ R))) : MT G MX1_readLine (d + 4) 0 0 [.ref (bk 8)] (wBk G.2.2.1 bk κB ++ (wTp G.2.2.1 a κT ++ R)) Q := by
  obtain ⟨kd, v, r, e8, e9, e10, hr, hkd, tc⟩ := hT.view
  refine mt_start (L := [some (.ref (bk 8))]) rfl (Nat.le_of_ble_eq_true rfl) rfl ?_
  refine aw_aload_n (pc := 0) (i := 0) dX1_readLine_0 rfl rfl ?_
  refine pg_X1_31 (pc := 1) (v := .ref (a 13)) dX1_readLine_1 rfl hB0 ?_
  refine aw_swap ?_
  refine cVi (pc := 4) (As := []) (rest := []) dX1_readLine_4 rfl oc_X1_56 rfl rfl (Nat.le_of_ble_eq_true rfl) rfl rfl ovX8 (Nat.le_refl _) (Nat.le_refl _) (c8_atName hT hRes ⟨_, rfl, ?_⟩)
  refine ab_if_eq (pc := 7) (tgt := 15) dX1_readLine_7 rfl (fun h7 => ?_) (fun h7 => ?_)
  · -- 15
    refine aw_aload_n (pc := 15) (i := 0) dX1_readLine_15 rfl rfl ?_
    refine aw_swap ?_
    refine pg_X1_31 (pc := 16) (v := .ref (a 13)) dX1_readLine_16 rfl hB0 ?_
    refine aw_swap ?_
    refine pg_X1_62 (pc := 19) (v := va_rf (Option.map ad r)) dX1_readLine_19 rfl e10 ?_
    refine aw_wnonnull (ad := ad) (pc := 22) (tgt := 34) dX1_readLine_22 rfl (fun h22 => ?_) (fun h22 => ?_)
    · -- 34
      obtain ⟨i, rfl⟩ : ∃ i, r = some i := by cases r with | none => exact absurd rfl h22 | some i => exact ⟨i, rfl⟩
      have hi := hr i rfl
      refine aw_gsm (pc := 34) dX1_readLine_34 rfl hE gs_X1_69 ?_
      refine aw_aload_n (pc := 37) (i := 0) dX1_readLine_37 rfl rfl ?_
      refine aw_swap ?_
      refine pg_X1_31 (pc := 38) (v := .ref (a 13)) dX1_readLine_38 rfl hB0 ?_
      refine aw_swap ?_
      refine pg_X1_62 (pc := 41) (v := va_rf (Option.map ad (some i))) dX1_readLine_41 rfl e10 ?_
      refine co_X1 (pc := 44) dX1_readLine_44 rfl hE (by omega) (Nat.le_of_ble_eq_true rfl) (Nat.le_refl _) (Nat.le_refl _) ?_
      refine aw_tm (pc := 47) dX1_readLine_47 hE (by omega) ?_
      rcases (show i = 6 ∨ i = 7 ∨ i = 8 ∨ i = 9 ∨ i = 10 ∨ i = 11 ∨ (i < 6 ∨ 11 < i) by omega) with rfl | rfl | rfl | rfl | rfl | rfl | h5
      · -- 0
        refine aw_tabIn (pc := 48) (tgt := 88) dX1_readLine_48 (by decide) (by decide) rfl rfl ?_
        refine aw_aload_n (pc := 88) (i := 0) dX1_readLine_88 rfl rfl ?_
        refine aw_iconst (pc := 89) dX1_readLine_89 iconst_1 ?_
        refine aw_swap ?_
        refine cVi (pc := 90) (As := [.int (nI 1)]) (rest := []) dX1_readLine_90 rfl oc_X1_80 rfl rfl (Nat.le_of_ble_eq_true rfl) rfl rfl ovX1 (Nat.le_refl _) (Nat.le_refl _) (c1_begin hB0 hB6 hm hT hf (line_w tc) ?_ ?_)
        · -- call
          intro hm2 κ1 g1 b1 f1
          refine ⟨_, rfl, ?_⟩
          have n1 := NXF_nx σ
          obtain ⟨s1, hs1⟩ : ∃ x, x = nx σ := ⟨_, rfl⟩
          rw [← hs1] at g1 n1
          have g1 := g1.tN (k := 8) (i := 4 * m) (v := 1)
          have x1 : BXF σ (mN s1 8 (4 * m) 1) := n1.bx.tr (BXF_8 _ _ _)
          have eS : blS σ m 1 = (mN s1 8 (4 * m) 1) := by unfold blS; rw [← hs1]
          have e18 : (mN s1 8 (4 * m) 1).2.1 8 = upN (σ.2.1 8) (4 * m) 1 := by rw [mN_8, n1.1]
          refine ab_if_eq (pc := 93) (tgt := 107) dX1_readLine_93 rfl (fun h93 => absurd h93 (by decide)) (fun h93 => ?_)
          refine aw_aload_n (pc := 96) (i := 0) dX1_readLine_96 rfl rfl ?_
          refine cVi (pc := 97) (As := []) (rest := []) dX1_readLine_97 rfl oc_X1_83 rfl rfl (Nat.le_of_ble_eq_true rfl) rfl rfl ovX1 (Nat.le_refl _) (Nat.le_refl _) (c1_two (σ := (mN s1 8 (4 * m) 1)) hB0 hB1 hB6 hm2 g1 f1 (by rw [x1.1]; exact hC) (hRes.bx x1) (by rw [x1.1]; exact h0) (by rw [x1.1]; exact hp2) (hNm.to x1) ?_ ?_)
          · -- call
            intro s2 i1 i2 eF hi1 hi2 e8 κ2 g2 b2 f2 x2
            refine ⟨_, rfl, ?_⟩
            rw [e18] at e8
            refine ab_if_eq (pc := 100) (tgt := 107) dX1_readLine_100 rfl (fun h100 => absurd h100 (by decide)) (fun h100 => ?_)
            refine aw_iconst (pc := 103) dX1_readLine_103 iconst_1 ?_
            refine aw_goto (pc := 104) (tgt := 108) dX1_readLine_104 rfl ?_
            refine ab_ret1 (pc := 108) dX1_readLine_108 rfl (Nat.le_refl _) (Nat.le_refl _) ?_
            have eL : bookLineF σ m = (true, s2) := by rw [bline_6 tc, blGN, if_neg (by omega), eS, eF]
            exact k1 _ _ _ eL hm2 (by rw [e8]; exact LNq_2 (by decide)) (fun j hj => by rw [e8, upN_n _ _ _ _ (by omega), upN_n _ _ _ _ (by omega), upN_n _ _ _ _ (by omega)]) (LB.tr (LB.tr (LB_kI _ _ _ _) (LB_kI _ _ _ _)) (LB_kI _ _ _ _)) ⟨rfl, rfl, rfl⟩ g2 (b1.tr b2) f2 (x1.tr x2)
          · -- call
            intro s2 eF κ2 κB9 g2 b2 q2
            refine ⟨_, rfl, ?_⟩
            refine ab_if_eq (pc := 100) (tgt := 107) dX1_readLine_100 rfl (fun h100 => ?_) (fun h100 => absurd h100 (by decide))
            refine aw_iconst (pc := 107) dX1_readLine_107 iconst_0 ?_
            refine ab_ret0 (pc := 108) dX1_readLine_108 rfl (Nat.le_refl _) (Nat.le_refl _) ?_
            have eL : bookLineF σ m = (false, s2) := by rw [bline_6 tc, blGN, if_neg (by omega), eS, eF]
            exact k0 _ eL _ _ g2 (b1.tr b2) q2
        · -- call
          intro hm2 κ1 g1 b1
          refine ⟨_, rfl, ?_⟩
          refine ab_if_eq (pc := 93) (tgt := 107) dX1_readLine_93 rfl (fun h93 => ?_) (fun h93 => absurd h93 (by decide))
          refine aw_iconst (pc := 107) dX1_readLine_107 iconst_0 ?_
          refine ab_ret0 (pc := 108) dX1_readLine_108 rfl (Nat.le_refl _) (Nat.le_refl _) ?_
          have eL : bookLineF σ m = (false, badF σ 4) := by rw [bline_6 tc, blGN, if_pos hm2]
          exact k0 _ eL _ _ g1 b1 ⟨rfl, rfl, rfl⟩
      · -- 1
        refine aw_tabIn (pc := 48) (tgt := 109) dX1_readLine_48 (by decide) (by decide) rfl rfl ?_
        refine aw_aload_n (pc := 109) (i := 0) dX1_readLine_109 rfl rfl ?_
        refine aw_iconst (pc := 110) dX1_readLine_110 iconst_2 ?_
        refine aw_swap ?_
        refine cVi (pc := 111) (As := [.int (nI 2)]) (rest := []) dX1_readLine_111 rfl oc_X1_80 rfl rfl (Nat.le_of_ble_eq_true rfl) rfl rfl ovX1 (Nat.le_refl _) (Nat.le_refl _) (c1_begin hB0 hB6 hm hT hf (line_w tc) ?_ ?_)
        · -- call
          intro hm2 κ1 g1 b1 f1
          refine ⟨_, rfl, ?_⟩
          have n1 := NXF_nx σ
          obtain ⟨s1, hs1⟩ : ∃ x, x = nx σ := ⟨_, rfl⟩
          rw [← hs1] at g1 n1
          have g1 := g1.tN (k := 8) (i := 4 * m) (v := 2)
          have x1 : BXF σ (mN s1 8 (4 * m) 2) := n1.bx.tr (BXF_8 _ _ _)
          have eS : blS σ m 2 = (mN s1 8 (4 * m) 2) := by unfold blS; rw [← hs1]
          have e18 : (mN s1 8 (4 * m) 2).2.1 8 = upN (σ.2.1 8) (4 * m) 2 := by rw [mN_8, n1.1]
          refine ab_if_eq (pc := 114) (tgt := 128) dX1_readLine_114 rfl (fun h114 => absurd h114 (by decide)) (fun h114 => ?_)
          refine aw_aload_n (pc := 117) (i := 0) dX1_readLine_117 rfl rfl ?_
          refine cVi (pc := 118) (As := []) (rest := []) dX1_readLine_118 rfl oc_X1_83 rfl rfl (Nat.le_of_ble_eq_true rfl) rfl rfl ovX1 (Nat.le_refl _) (Nat.le_refl _) (c1_two (σ := (mN s1 8 (4 * m) 2)) hB0 hB1 hB6 hm2 g1 f1 (by rw [x1.1]; exact hC) (hRes.bx x1) (by rw [x1.1]; exact h0) (by rw [x1.1]; exact hp2) (hNm.to x1) ?_ ?_)
          · -- call
            intro s2 i1 i2 eF hi1 hi2 e8 κ2 g2 b2 f2 x2
            refine ⟨_, rfl, ?_⟩
            rw [e18] at e8
            refine ab_if_eq (pc := 121) (tgt := 128) dX1_readLine_121 rfl (fun h121 => absurd h121 (by decide)) (fun h121 => ?_)
            refine aw_iconst (pc := 124) dX1_readLine_124 iconst_1 ?_
            refine aw_goto (pc := 125) (tgt := 129) dX1_readLine_125 rfl ?_
            refine ab_ret1 (pc := 129) dX1_readLine_129 rfl (Nat.le_refl _) (Nat.le_refl _) ?_
            have eL : bookLineF σ m = (true, s2) := by rw [bline_7 tc, blGN, if_neg (by omega), eS, eF]
            exact k1 _ _ _ eL hm2 (by rw [e8]; exact LNq_2 (by decide)) (fun j hj => by rw [e8, upN_n _ _ _ _ (by omega), upN_n _ _ _ _ (by omega), upN_n _ _ _ _ (by omega)]) (LB.tr (LB.tr (LB_kI _ _ _ _) (LB_kI _ _ _ _)) (LB_kI _ _ _ _)) ⟨rfl, rfl, rfl⟩ g2 (b1.tr b2) f2 (x1.tr x2)
          · -- call
            intro s2 eF κ2 κB9 g2 b2 q2
            refine ⟨_, rfl, ?_⟩
            refine ab_if_eq (pc := 121) (tgt := 128) dX1_readLine_121 rfl (fun h121 => ?_) (fun h121 => absurd h121 (by decide))
            refine aw_iconst (pc := 128) dX1_readLine_128 iconst_0 ?_
            refine ab_ret0 (pc := 129) dX1_readLine_129 rfl (Nat.le_refl _) (Nat.le_refl _) ?_
            have eL : bookLineF σ m = (false, s2) := by rw [bline_7 tc, blGN, if_neg (by omega), eS, eF]
            exact k0 _ eL _ _ g2 (b1.tr b2) q2
        · -- call
          intro hm2 κ1 g1 b1
          refine ⟨_, rfl, ?_⟩
          refine ab_if_eq (pc := 114) (tgt := 128) dX1_readLine_114 rfl (fun h114 => ?_) (fun h114 => absurd h114 (by decide))
          refine aw_iconst (pc := 128) dX1_readLine_128 iconst_0 ?_
          refine ab_ret0 (pc := 129) dX1_readLine_129 rfl (Nat.le_refl _) (Nat.le_refl _) ?_
          have eL : bookLineF σ m = (false, badF σ 4) := by rw [bline_7 tc, blGN, if_pos hm2]
          exact k0 _ eL _ _ g1 b1 ⟨rfl, rfl, rfl⟩
      · -- 2
        refine aw_tabIn (pc := 48) (tgt := 130) dX1_readLine_48 (by decide) (by decide) rfl rfl ?_
        refine aw_aload_n (pc := 130) (i := 0) dX1_readLine_130 rfl rfl ?_
        refine aw_iconst (pc := 131) dX1_readLine_131 iconst_3 ?_
        refine aw_swap ?_
        refine cVi (pc := 132) (As := [.int (nI 3)]) (rest := []) dX1_readLine_132 rfl oc_X1_80 rfl rfl (Nat.le_of_ble_eq_true rfl) rfl rfl ovX1 (Nat.le_refl _) (Nat.le_refl _) (c1_begin hB0 hB6 hm hT hf (line_w tc) ?_ ?_)
        · -- call
          intro hm2 κ1 g1 b1 f1
          refine ⟨_, rfl, ?_⟩
          have n1 := NXF_nx σ
          obtain ⟨s1, hs1⟩ : ∃ x, x = nx σ := ⟨_, rfl⟩
          rw [← hs1] at g1 n1
          have g1 := g1.tN (k := 8) (i := 4 * m) (v := 3)
          have x1 : BXF σ (mN s1 8 (4 * m) 3) := n1.bx.tr (BXF_8 _ _ _)
          have eS : blS σ m 3 = (mN s1 8 (4 * m) 3) := by unfold blS; rw [← hs1]
          have e18 : (mN s1 8 (4 * m) 3).2.1 8 = upN (σ.2.1 8) (4 * m) 3 := by rw [mN_8, n1.1]
          refine ab_if_eq (pc := 135) (tgt := 149) dX1_readLine_135 rfl (fun h135 => absurd h135 (by decide)) (fun h135 => ?_)
          refine aw_aload_n (pc := 138) (i := 0) dX1_readLine_138 rfl rfl ?_
          refine cVi (pc := 139) (As := []) (rest := []) dX1_readLine_139 rfl oc_X1_86 rfl rfl (Nat.le_of_ble_eq_true rfl) rfl rfl ovX1 (Nat.le_refl _) (Nat.le_refl _) (c1_road (σ := (mN s1 8 (4 * m) 3)) hB0 hB6 hm2 g1 f1 ?_ ?_)
          · -- call
            intro s3 n3 lo3 hi3 nm3 t3 κ3 g3 b3 f3 x3
            refine ⟨_, rfl, ?_⟩
            refine ab_if_eq (pc := 142) (tgt := 149) dX1_readLine_142 rfl (fun h142 => absurd h142 (by decide)) (fun h142 => ?_)
            refine aw_iconst (pc := 145) dX1_readLine_145 iconst_1 ?_
            refine aw_goto (pc := 146) (tgt := 150) dX1_readLine_146 rfl ?_
            refine ab_ret1 (pc := 150) dX1_readLine_150 rfl (Nat.le_refl _) (Nat.le_refl _) ?_
            have eL : bookLineF σ m = (true, mN s3 8 (4 * m + 1) n3) := by rw [bline_8 tc, blGT, if_neg (by omega), eS, blTF, t3, nm3]; rfl
            have e9 : (mN s3 8 (4 * m + 1) n3).2.1 8 = upN (upN (σ.2.1 8) (4 * m) 3) (4 * m + 1) n3 := by rw [mN_8, x3.1, e18]
            exact k1 _ _ _ eL hm2 (by rw [e9]; exact LNq_3 (by decide)) (fun j hj => by rw [e9, upN_n _ _ _ _ (by omega), upN_n _ _ _ _ (by omega)]) (LB.tr (LB_kI _ _ _ _) (LB_kI _ _ _ _)) ⟨rfl, rfl, rfl⟩ g3.tN (b1.tr b3) f3 ((x1.tr x3.bx).tr (BXF_8 _ _ _))
          · -- call
            intro s3 t3 κ3 κB9 g3 b3 q3
            refine ⟨_, rfl, ?_⟩
            refine ab_if_eq (pc := 142) (tgt := 149) dX1_readLine_142 rfl (fun h142 => ?_) (fun h142 => absurd h142 (by decide))
            refine aw_iconst (pc := 149) dX1_readLine_149 iconst_0 ?_
            refine ab_ret0 (pc := 150) dX1_readLine_150 rfl (Nat.le_refl _) (Nat.le_refl _) ?_
            have eL : bookLineF σ m = (false, s3) := by rw [bline_8 tc, blGT, if_neg (by omega), eS, blTF, t3]; rfl
            exact k0 _ eL _ _ g3 (b1.tr b3) q3
        · -- call
          intro hm2 κ1 g1 b1
          refine ⟨_, rfl, ?_⟩
          refine ab_if_eq (pc := 135) (tgt := 149) dX1_readLine_135 rfl (fun h135 => ?_) (fun h135 => absurd h135 (by decide))
          refine aw_iconst (pc := 149) dX1_readLine_149 iconst_0 ?_
          refine ab_ret0 (pc := 150) dX1_readLine_150 rfl (Nat.le_refl _) (Nat.le_refl _) ?_
          have eL : bookLineF σ m = (false, badF σ 4) := by rw [bline_8 tc, blGT, if_pos hm2]
          exact k0 _ eL _ _ g1 b1 ⟨rfl, rfl, rfl⟩
      · -- 3
        refine aw_tabIn (pc := 48) (tgt := 151) dX1_readLine_48 (by decide) (by decide) rfl rfl ?_
        refine aw_aload_n (pc := 151) (i := 0) dX1_readLine_151 rfl rfl ?_
        refine aw_iconst (pc := 152) dX1_readLine_152 iconst_4 ?_
        refine aw_swap ?_
        refine cVi (pc := 153) (As := [.int (nI 4)]) (rest := []) dX1_readLine_153 rfl oc_X1_80 rfl rfl (Nat.le_of_ble_eq_true rfl) rfl rfl ovX1 (Nat.le_refl _) (Nat.le_refl _) (c1_begin hB0 hB6 hm hT hf (line_w tc) ?_ ?_)
        · -- call
          intro hm2 κ1 g1 b1 f1
          refine ⟨_, rfl, ?_⟩
          have n1 := NXF_nx σ
          obtain ⟨s1, hs1⟩ : ∃ x, x = nx σ := ⟨_, rfl⟩
          rw [← hs1] at g1 n1
          have g1 := g1.tN (k := 8) (i := 4 * m) (v := 4)
          have x1 : BXF σ (mN s1 8 (4 * m) 4) := n1.bx.tr (BXF_8 _ _ _)
          have eS : blS σ m 4 = (mN s1 8 (4 * m) 4) := by unfold blS; rw [← hs1]
          have e18 : (mN s1 8 (4 * m) 4).2.1 8 = upN (σ.2.1 8) (4 * m) 4 := by rw [mN_8, n1.1]
          refine ab_if_eq (pc := 156) (tgt := 170) dX1_readLine_156 rfl (fun h156 => absurd h156 (by decide)) (fun h156 => ?_)
          refine aw_aload_n (pc := 159) (i := 0) dX1_readLine_159 rfl rfl ?_
          refine cVi (pc := 160) (As := []) (rest := []) dX1_readLine_160 rfl oc_X1_86 rfl rfl (Nat.le_of_ble_eq_true rfl) rfl rfl ovX1 (Nat.le_refl _) (Nat.le_refl _) (c1_road (σ := (mN s1 8 (4 * m) 4)) hB0 hB6 hm2 g1 f1 ?_ ?_)
          · -- call
            intro s3 n3 lo3 hi3 nm3 t3 κ3 g3 b3 f3 x3
            refine ⟨_, rfl, ?_⟩
            refine ab_if_eq (pc := 163) (tgt := 170) dX1_readLine_163 rfl (fun h163 => absurd h163 (by decide)) (fun h163 => ?_)
            refine aw_iconst (pc := 166) dX1_readLine_166 iconst_1 ?_
            refine aw_goto (pc := 167) (tgt := 171) dX1_readLine_167 rfl ?_
            refine ab_ret1 (pc := 171) dX1_readLine_171 rfl (Nat.le_refl _) (Nat.le_refl _) ?_
            have eL : bookLineF σ m = (true, mN s3 8 (4 * m + 1) n3) := by rw [bline_9 tc, blGT, if_neg (by omega), eS, blTF, t3, nm3]; rfl
            have e9 : (mN s3 8 (4 * m + 1) n3).2.1 8 = upN (upN (σ.2.1 8) (4 * m) 4) (4 * m + 1) n3 := by rw [mN_8, x3.1, e18]
            exact k1 _ _ _ eL hm2 (by rw [e9]; exact LNq_3 (by decide)) (fun j hj => by rw [e9, upN_n _ _ _ _ (by omega), upN_n _ _ _ _ (by omega)]) (LB.tr (LB_kI _ _ _ _) (LB_kI _ _ _ _)) ⟨rfl, rfl, rfl⟩ g3.tN (b1.tr b3) f3 ((x1.tr x3.bx).tr (BXF_8 _ _ _))
          · -- call
            intro s3 t3 κ3 κB9 g3 b3 q3
            refine ⟨_, rfl, ?_⟩
            refine ab_if_eq (pc := 163) (tgt := 170) dX1_readLine_163 rfl (fun h163 => ?_) (fun h163 => absurd h163 (by decide))
            refine aw_iconst (pc := 170) dX1_readLine_170 iconst_0 ?_
            refine ab_ret0 (pc := 171) dX1_readLine_171 rfl (Nat.le_refl _) (Nat.le_refl _) ?_
            have eL : bookLineF σ m = (false, s3) := by rw [bline_9 tc, blGT, if_neg (by omega), eS, blTF, t3]; rfl
            exact k0 _ eL _ _ g3 (b1.tr b3) q3
        · -- call
          intro hm2 κ1 g1 b1
          refine ⟨_, rfl, ?_⟩
          refine ab_if_eq (pc := 156) (tgt := 170) dX1_readLine_156 rfl (fun h156 => ?_) (fun h156 => absurd h156 (by decide))
          refine aw_iconst (pc := 170) dX1_readLine_170 iconst_0 ?_
          refine ab_ret0 (pc := 171) dX1_readLine_171 rfl (Nat.le_refl _) (Nat.le_refl _) ?_
          have eL : bookLineF σ m = (false, badF σ 4) := by rw [bline_9 tc, blGT, if_pos hm2]
          exact k0 _ eL _ _ g1 b1 ⟨rfl, rfl, rfl⟩
      · -- 4
        refine aw_tabIn (pc := 48) (tgt := 172) dX1_readLine_48 (by decide) (by decide) rfl rfl ?_
        refine aw_aload_n (pc := 172) (i := 0) dX1_readLine_172 rfl rfl ?_
        refine aw_iconst (pc := 173) dX1_readLine_173 iconst_5 ?_
        refine aw_swap ?_
        refine cVi (pc := 174) (As := [.int (nI 5)]) (rest := []) dX1_readLine_174 rfl oc_X1_80 rfl rfl (Nat.le_of_ble_eq_true rfl) rfl rfl ovX1 (Nat.le_refl _) (Nat.le_refl _) (c1_begin hB0 hB6 hm hT hf (line_w tc) ?_ ?_)
        · -- call
          intro hm2 κ1 g1 b1 f1
          refine ⟨_, rfl, ?_⟩
          have n1 := NXF_nx σ
          obtain ⟨s1, hs1⟩ : ∃ x, x = nx σ := ⟨_, rfl⟩
          rw [← hs1] at g1 n1
          have g1 := g1.tN (k := 8) (i := 4 * m) (v := 5)
          have x1 : BXF σ (mN s1 8 (4 * m) 5) := n1.bx.tr (BXF_8 _ _ _)
          have eS : blS σ m 5 = (mN s1 8 (4 * m) 5) := by unfold blS; rw [← hs1]
          have e18 : (mN s1 8 (4 * m) 5).2.1 8 = upN (σ.2.1 8) (4 * m) 5 := by rw [mN_8, n1.1]
          refine ab_if_eq (pc := 177) (tgt := 200) dX1_readLine_177 rfl (fun h177 => absurd h177 (by decide)) (fun h177 => ?_)
          refine aw_aload_n (pc := 180) (i := 0) dX1_readLine_180 rfl rfl ?_
          refine cVi (pc := 181) (As := []) (rest := []) dX1_readLine_181 rfl oc_X1_83 rfl rfl (Nat.le_of_ble_eq_true rfl) rfl rfl ovX1 (Nat.le_refl _) (Nat.le_refl _) (c1_two (σ := (mN s1 8 (4 * m) 5)) hB0 hB1 hB6 hm2 g1 f1 (by rw [x1.1]; exact hC) (hRes.bx x1) (by rw [x1.1]; exact h0) (by rw [x1.1]; exact hp2) (hNm.to x1) ?_ ?_)
          · -- call
            intro s2 i1 i2 eF hi1 hi2 e8 κ2 g2 b2 f2 x2
            refine ⟨_, rfl, ?_⟩
            rw [e18] at e8
            refine ab_if_eq (pc := 184) (tgt := 200) dX1_readLine_184 rfl (fun h184 => absurd h184 (by decide)) (fun h184 => ?_)
            refine aw_aload_n (pc := 187) (i := 0) dX1_readLine_187 rfl rfl ?_
            refine aw_bipush (pc := 188) dX1_readLine_188 bipush_99 ?_
            refine cVi (pc := 190) (As := [.int (nI 99)]) (rest := []) dX1_readLine_190 rfl oc_X1_89 rfl rfl (Nat.le_of_ble_eq_true rfl) rfl rfl ovX1 (Nat.le_refl _) (Nat.le_refl _) (c1_amount (σ := s2) hB0 hB6 hm2 (by decide) g2 f2 ?_ ?_)
            · -- call
              intro s3 n3 lo3 hi3 nm3 t3 κ3 g3 b3 f3 x3
              refine ⟨_, rfl, ?_⟩
              refine ab_if_eq (pc := 193) (tgt := 200) dX1_readLine_193 rfl (fun h193 => absurd h193 (by decide)) (fun h193 => ?_)
              refine aw_iconst (pc := 196) dX1_readLine_196 iconst_1 ?_
              refine aw_goto (pc := 197) (tgt := 201) dX1_readLine_197 rfl ?_
              refine ab_ret1 (pc := 201) dX1_readLine_201 rfl (Nat.le_refl _) (Nat.le_refl _) ?_
              have eL : bookLineF σ m = (true, mN s3 8 (4 * m + 3) n3) := by rw [bline_10 tc, blGN, if_neg (by omega), eS, blNq5 eF, t3, nm3]; rfl
              have e9 : (mN s3 8 (4 * m + 3) n3).2.1 8 = upN (upN (upN (upN (σ.2.1 8) (4 * m) 5) (4 * m + 1) i1) (4 * m + 2) i2) (4 * m + 3) n3 := by rw [mN_8, x3.1, e8]
              exact k1 _ _ _ eL hm2 (by rw [e9]; exact LNq_5) (fun j hj => by rw [e9, upN_n _ _ _ _ (by omega), upN_n _ _ _ _ (by omega), upN_n _ _ _ _ (by omega), upN_n _ _ _ _ (by omega)]) (LB.tr (LB.tr (LB.tr (LB_kI _ _ _ _) (LB_kI _ _ _ _)) (LB_kI _ _ _ _)) (LB_kI _ _ _ _)) ⟨rfl, rfl, rfl⟩ g3.tN ((b1.tr b2).tr b3) f3 (((x1.tr x2).tr x3.bx).tr (BXF_8 _ _ _))
            · -- call
              intro s3 t3 κ3 κB9 g3 b3 q3
              refine ⟨_, rfl, ?_⟩
              refine ab_if_eq (pc := 193) (tgt := 200) dX1_readLine_193 rfl (fun h193 => ?_) (fun h193 => absurd h193 (by decide))
              refine aw_iconst (pc := 200) dX1_readLine_200 iconst_0 ?_
              refine ab_ret0 (pc := 201) dX1_readLine_201 rfl (Nat.le_refl _) (Nat.le_refl _) ?_
              have eL : bookLineF σ m = (false, s3) := by rw [bline_10 tc, blGN, if_neg (by omega), eS, blNq5 eF, t3]; rfl
              exact k0 _ eL _ _ g3 ((b1.tr b2).tr b3) q3
          · -- call
            intro s2 eF κ2 κB9 g2 b2 q2
            refine ⟨_, rfl, ?_⟩
            refine ab_if_eq (pc := 184) (tgt := 200) dX1_readLine_184 rfl (fun h184 => ?_) (fun h184 => absurd h184 (by decide))
            refine aw_iconst (pc := 200) dX1_readLine_200 iconst_0 ?_
            refine ab_ret0 (pc := 201) dX1_readLine_201 rfl (Nat.le_refl _) (Nat.le_refl _) ?_
            have eL : bookLineF σ m = (false, s2) := by rw [bline_10 tc, blGN, if_neg (by omega), eS, blNq0 eF]
            exact k0 _ eL _ _ g2 (b1.tr b2) q2
        · -- call
          intro hm2 κ1 g1 b1
          refine ⟨_, rfl, ?_⟩
          refine ab_if_eq (pc := 177) (tgt := 200) dX1_readLine_177 rfl (fun h177 => ?_) (fun h177 => absurd h177 (by decide))
          refine aw_iconst (pc := 200) dX1_readLine_200 iconst_0 ?_
          refine ab_ret0 (pc := 201) dX1_readLine_201 rfl (Nat.le_refl _) (Nat.le_refl _) ?_
          have eL : bookLineF σ m = (false, badF σ 4) := by rw [bline_10 tc, blGN, if_pos hm2]
          exact k0 _ eL _ _ g1 b1 ⟨rfl, rfl, rfl⟩
      · -- 5
        refine aw_tabIn (pc := 48) (tgt := 202) dX1_readLine_48 (by decide) (by decide) rfl rfl ?_
        refine aw_aload_n (pc := 202) (i := 0) dX1_readLine_202 rfl rfl ?_
        refine aw_bipush (pc := 203) dX1_readLine_203 bipush_6 ?_
        refine aw_swap ?_
        refine cVi (pc := 205) (As := [.int (nI 6)]) (rest := []) dX1_readLine_205 rfl oc_X1_80 rfl rfl (Nat.le_of_ble_eq_true rfl) rfl rfl ovX1 (Nat.le_refl _) (Nat.le_refl _) (c1_begin hB0 hB6 hm hT hf (line_w tc) ?_ ?_)
        · -- call
          intro hm2 κ1 g1 b1 f1
          refine ⟨_, rfl, ?_⟩
          have n1 := NXF_nx σ
          obtain ⟨s1, hs1⟩ : ∃ x, x = nx σ := ⟨_, rfl⟩
          rw [← hs1] at g1 n1
          have g1 := g1.tN (k := 8) (i := 4 * m) (v := 6)
          have x1 : BXF σ (mN s1 8 (4 * m) 6) := n1.bx.tr (BXF_8 _ _ _)
          have eS : blS σ m 6 = (mN s1 8 (4 * m) 6) := by unfold blS; rw [← hs1]
          have e18 : (mN s1 8 (4 * m) 6).2.1 8 = upN (σ.2.1 8) (4 * m) 6 := by rw [mN_8, n1.1]
          refine ab_if_eq (pc := 208) (tgt := 224) dX1_readLine_208 rfl (fun h208 => absurd h208 (by decide)) (fun h208 => ?_)
          refine aw_aload_n (pc := 211) (i := 0) dX1_readLine_211 rfl rfl ?_
          refine aw_bipush (pc := 212) dX1_readLine_212 bipush_60 ?_
          refine cVi (pc := 214) (As := [.int (nI 60)]) (rest := []) dX1_readLine_214 rfl oc_X1_89 rfl rfl (Nat.le_of_ble_eq_true rfl) rfl rfl ovX1 (Nat.le_refl _) (Nat.le_refl _) (c1_amount (σ := (mN s1 8 (4 * m) 6)) hB0 hB6 hm2 (by decide) g1 f1 ?_ ?_)
          · -- call
            intro s3 n3 lo3 hi3 nm3 t3 κ3 g3 b3 f3 x3
            refine ⟨_, rfl, ?_⟩
            refine ab_if_eq (pc := 217) (tgt := 224) dX1_readLine_217 rfl (fun h217 => absurd h217 (by decide)) (fun h217 => ?_)
            refine aw_iconst (pc := 220) dX1_readLine_220 iconst_1 ?_
            refine aw_goto (pc := 221) (tgt := 225) dX1_readLine_221 rfl ?_
            refine ab_ret1 (pc := 225) dX1_readLine_225 rfl (Nat.le_refl _) (Nat.le_refl _) ?_
            have eL : bookLineF σ m = (true, mN s3 8 (4 * m + 1) n3) := by rw [bline_11 tc, blGT, if_neg (by omega), eS, blTF, t3, nm3]; rfl
            have e9 : (mN s3 8 (4 * m + 1) n3).2.1 8 = upN (upN (σ.2.1 8) (4 * m) 6) (4 * m + 1) n3 := by rw [mN_8, x3.1, e18]
            exact k1 _ _ _ eL hm2 (by rw [e9]; exact LNq_6) (fun j hj => by rw [e9, upN_n _ _ _ _ (by omega), upN_n _ _ _ _ (by omega)]) (LB.tr (LB_kI _ _ _ _) (LB_kI _ _ _ _)) ⟨rfl, rfl, rfl⟩ g3.tN (b1.tr b3) f3 ((x1.tr x3.bx).tr (BXF_8 _ _ _))
          · -- call
            intro s3 t3 κ3 κB9 g3 b3 q3
            refine ⟨_, rfl, ?_⟩
            refine ab_if_eq (pc := 217) (tgt := 224) dX1_readLine_217 rfl (fun h217 => ?_) (fun h217 => absurd h217 (by decide))
            refine aw_iconst (pc := 224) dX1_readLine_224 iconst_0 ?_
            refine ab_ret0 (pc := 225) dX1_readLine_225 rfl (Nat.le_refl _) (Nat.le_refl _) ?_
            have eL : bookLineF σ m = (false, s3) := by rw [bline_11 tc, blGT, if_neg (by omega), eS, blTF, t3]; rfl
            exact k0 _ eL _ _ g3 (b1.tr b3) q3
        · -- call
          intro hm2 κ1 g1 b1
          refine ⟨_, rfl, ?_⟩
          refine ab_if_eq (pc := 208) (tgt := 224) dX1_readLine_208 rfl (fun h208 => ?_) (fun h208 => absurd h208 (by decide))
          refine aw_iconst (pc := 224) dX1_readLine_224 iconst_0 ?_
          refine ab_ret0 (pc := 225) dX1_readLine_225 rfl (Nat.le_refl _) (Nat.le_refl _) ?_
          have eL : bookLineF σ m = (false, badF σ 4) := by rw [bline_11 tc, blGT, if_pos hm2]
          exact k0 _ eL _ _ g1 b1 ⟨rfl, rfl, rfl⟩
      · -- other
        refine aw_tabOut (pc := 48) (tgt := 226) dX1_readLine_48 (sw_nb (wMap_b h5 hi) (wMap_lt i)) rfl ?_
        refine aw_aload_n (pc := 226) (i := 0) dX1_readLine_226 rfl rfl ?_
        refine aw_swap ?_
        refine pg_X1_31 (pc := 227) (v := .ref (a 13)) dX1_readLine_227 rfl hB0 ?_
        refine aw_iconst (pc := 230) dX1_readLine_230 iconst_1 ?_
        refine aw_swap ?_
        refine cVi (pc := 231) (As := [.int (nI 1)]) (rest := []) dX1_readLine_231 rfl oc_X1_66 rfl rfl (Nat.le_of_ble_eq_true rfl) rfl rfl ovX8 (Nat.le_refl _) (Nat.le_refl _) (c8_refuse (σ := σ) hT hf ?_)
        intro κ1 g1 p1 b1
        refine ⟨_, rfl, ?_⟩
        refine aw_swap ?_
        refine ab_ret (pc := 234) dX1_readLine_234 rfl (Nat.le_refl _) (Nat.le_refl _) ?_
        have eL : bookLineF σ m = (false, badF σ 1) := by rw [bline_no tc (by intro k _ _ e; have := Option.some.inj e; omega), blC_no h7]
        exact k0 _ eL _ _ ⟨g1, p1⟩ ((TBs.rf _).tr b1) ⟨rfl, rfl, rfl⟩
    · -- 25
      refine aw_aload_n (pc := 25) (i := 0) dX1_readLine_25 rfl rfl ?_
      refine aw_swap ?_
      refine pg_X1_31 (pc := 26) (v := .ref (a 13)) dX1_readLine_26 rfl hB0 ?_
      refine aw_iconst (pc := 29) dX1_readLine_29 iconst_1 ?_
      refine aw_swap ?_
      refine cVi (pc := 30) (As := [.int (nI 1)]) (rest := []) dX1_readLine_30 rfl oc_X1_66 rfl rfl (Nat.le_of_ble_eq_true rfl) rfl rfl ovX8 (Nat.le_refl _) (Nat.le_refl _) (c8_refuse (σ := σ) hT hf ?_)
      intro κ1 g1 p1 b1
      refine ⟨_, rfl, ?_⟩
      refine aw_swap ?_
      refine ab_ret (pc := 33) dX1_readLine_33 rfl (Nat.le_refl _) (Nat.le_refl _) ?_
      have eL : bookLineF σ m = (false, badF σ 1) := by rw [bline_no tc (by intro k _ _; rw [h22]; exact fun e => by cases e), blC_no h7]
      exact k0 _ eL _ _ ⟨g1, p1⟩ ((TBs.rf _).tr b1) ⟨rfl, rfl, rfl⟩
  · -- 10
    refine aw_aload_n (pc := 10) (i := 0) dX1_readLine_10 rfl rfl ?_
    refine aw_swap ?_
    refine cVi (pc := 11) (As := []) (rest := []) dX1_readLine_11 rfl oc_X1_59 rfl rfl (Nat.le_of_ble_eq_true rfl) rfl rfl ovX1 (Nat.le_refl _) (Nat.le_refl _) (c1_cross hE hB0 hB1 hB6 hm hT hf hC hRes h0 hp2 hNm ?_ ?_)
    · -- call
      intro s2 i1 i2 eF hm2 hi1 hi2 e8 κT9 g9 b9 f9 x9
      refine ⟨_, rfl, ?_⟩
      refine ab_ret (pc := 14) dX1_readLine_14 rfl (Nat.le_refl _) (Nat.le_refl _) ?_
      have eL : bookLineF σ m = (true, s2) := by rw [bline_no tc (by intro k _ _; rw [((tc.name hRes).mp h7).2]; exact fun e => by cases e), eF]
      exact k1 _ _ _ eL hm2 (by rw [e8]; exact LNq_2 (by decide)) (fun j hj => by rw [e8, upN_n _ _ _ _ (by omega), upN_n _ _ _ _ (by omega), upN_n _ _ _ _ (by omega)]) (LB.tr (LB.tr (LB_kI _ _ _ _) (LB_kI _ _ _ _)) (LB_kI _ _ _ _)) ⟨rfl, rfl, rfl⟩ g9 b9 f9 x9
    · -- call
      intro s2 eF κT9 κB9 g9 b9 q9
      refine ⟨_, rfl, ?_⟩
      refine ab_ret (pc := 14) dX1_readLine_14 rfl (Nat.le_refl _) (Nat.le_refl _) ?_
      have eL : bookLineF σ m = (false, s2) := by rw [bline_no tc (by intro k _ _; rw [((tc.name hRes).mp h7).2]; exact fun e => by cases e), eF]
      exact k0 _ eL _ _ g9 b9 q9
