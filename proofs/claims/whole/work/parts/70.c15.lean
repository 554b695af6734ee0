/-- where reading fails, there is a fault -/
def BD (p : Bool × mS) : Prop := p.1 = false → ∃ k, 1 ≤ k ∧ k ≤ 4 ∧ p.2.1 15 = nI k
theorem BD_true (σ : mS) : BD (true, σ) := fun h => by cases h
theorem BD_bad {σ : mS} {k : Nat} (h1 : 1 ≤ k) (h2 : k ≤ 4) : BD (false, badF σ k) := fun _ => ⟨k, h1, h2, (mI_o _ _ _ _ (by decide)).trans (mI_k _ _ _)⟩
theorem BD_ite {c : Prop} [Decidable c] {p q : Bool × mS} (hp : BD p) (hq : BD q) : BD (if c then p else q) := by split; exact hp; exact hq
theorem BD_if {p q : Bool × mS} (hp : BD p) (hq : BD q) : BD (if p.1 = true then q else (false, p.2)) := by
  split
  · exact hq
  · rename_i h; exact fun _ => hp (by simpa using h)
theorem BD_takes (σ : mS) (lo hi : Nat) : BD (takesF σ lo hi) := by
  unfold takesF
  exact BD_ite (BD_ite (BD_true _) (BD_bad (by decide) (by decide))) (BD_bad (by decide) (by decide))
theorem BD_puts (σ : mS) (to lo hi : Nat) : BD (putsF σ to lo hi) := by unfold putsF; exact BD_if (BD_takes _ _ _) (BD_true _)
theorem BD_fresh (σ : mS) (to : Nat) : BD (freshF σ to) := by
  unfold freshF
  exact BD_ite (BD_ite (BD_bad (by decide) (by decide)) (BD_ite (BD_bad (by decide) (by decide)) (BD_true _))) (BD_bad (by decide) (by decide))
theorem BD_looks (σ : mS) (fr mn : Nat) : BD (looksF σ fr mn) := by
  unfold looksF
  exact BD_ite (BD_ite (BD_true _) (BD_bad (by decide) (by decide))) (BD_bad (by decide) (by decide))
theorem BD_takesName (σ : mS) (fr mn : Nat) : BD (takesNameF σ fr mn) := by unfold takesNameF; exact BD_if (BD_looks _ _ _) (BD_true _)
theorem BD_sign (σ : mS) (c : Nat) : BD (signF σ c) := by unfold signF; exact BD_ite (BD_true _) (BD_bad (by decide) (by decide))
theorem BD_readLand (σ : mS) : BD (readLandF σ) := by
  unfold readLandF
  exact BD_ite (BD_bad (by decide) (by decide)) (BD_if (BD_fresh _ _) (BD_if (BD_puts _ _ _ _) (BD_if (BD_puts _ _ _ _) (BD_true _))))
theorem BD_readStore (σ : mS) : BD (readStoreF σ) := by
  unfold readStoreF
  exact BD_if (BD_looks _ _ _) (BD_ite (BD_bad (by decide) (by decide)) (BD_puts _ _ _ _))
theorem BD_readTreaty (σ : mS) : BD (readTreatyF σ) := by
  unfold readTreatyF
  exact BD_if (BD_takesName _ _ _) (BD_if (BD_looks _ _ _) (BD_ite (BD_bad (by decide) (by decide)) (BD_ite (BD_bad (by decide) (by decide)) (BD_true _))))
theorem BD_readPerson (σ : mS) : BD (readPersonF σ) := by
  unfold readPersonF
  exact BD_ite (BD_bad (by decide) (by decide)) (BD_if (BD_fresh _ _) (BD_if (BD_takesName _ _ _) (BD_if (BD_puts _ _ _ _) (BD_true _))))
theorem BD_readRoad (σ : mS) : BD (readRoadF σ) := by
  unfold readRoadF
  exact BD_ite (BD_bad (by decide) (by decide)) (BD_if (BD_takesName _ _ _) (BD_if (BD_looks _ _ _) (BD_ite (BD_bad (by decide) (by decide)) (BD_ite (BD_bad (by decide) (by decide)) (BD_if (BD_puts _ _ _ _) (BD_if (BD_puts _ _ _ _) (BD_true _)))))))
theorem BD_line (σ : mS) : BD (lineF σ) := by
  unfold lineF
  exact BD_ite (BD_readLand _) (BD_ite (BD_readStore _) (BD_ite (BD_readRoad _) (BD_ite (BD_readTreaty _) (BD_ite (BD_readPerson _) (BD_bad (by decide) (by decide))))))
theorem BD_mapL : ∀ (n : Nat) (σ : mS), mz σ < n → LV σ → BD (mapL n σ) := by
  intro n
  induction n with
  | zero => intro σ h _; exact absurd h (Nat.not_lt_zero _)
  | succ n ih =>
    intro σ h H
    rw [mapL]
    refine BD_ite (BD_true _) ?_
    by_cases e : (lineF σ).1 = true
    · rw [if_pos e]
      have m1 := mz_line H.1 e
      have H1 := LV_line H e
      by_cases e2 : (signF (lineF σ).2 59).1 = true
      · rw [if_pos e2]
        have m2 : mz (signF (lineF σ).2 59).2 ≤ mz (lineF σ).2 := by rw [(sign_t e2).2]; exact (mz_nx H1.1).1
        refine ih _ (by rw [mz_mI (by decide)]; omega) (LV_mI (LV_sign H1 e2) (by decide) (by decide))
      · rw [if_neg e2]; exact fun _ => BD_sign _ _ (by simpa using e2)
    · rw [if_neg e]; exact fun _ => BD_line _ (by simpa using e)
theorem lineF_eq (σ : mS) : lineF σ = if isWordB σ (wC8 0) = true then readLandF σ else if isWordB σ (wC8 1) = true then readStoreF σ else if isWordB σ (wC8 2) = true then readRoadF σ else if isWordB σ (wC8 3) = true then readTreatyF σ else if isWordB σ (wC8 4) = true then readPersonF σ else (false, badF σ 1) := rfl
theorem line_0 {kd : Nat} {v : Int64} {σ : mS} (tc : TC kd v (some 0) σ) : lineF σ = readLandF σ := by
  have e : ∀ k, k < 24 → (isWordB σ (wC8 k) = true ↔ some 0 = some k) := fun k hk => tc.word hk
  rw [lineF_eq, if_pos ((e 0 (by decide)).mpr rfl)]
theorem line_1 {kd : Nat} {v : Int64} {σ : mS} (tc : TC kd v (some 1) σ) : lineF σ = readStoreF σ := by
  have e : ∀ k, k < 24 → (isWordB σ (wC8 k) = true ↔ some 1 = some k) := fun k hk => tc.word hk
  rw [lineF_eq, if_neg (fun h => absurd ((e 0 (by decide)).mp h) (by decide)), if_pos ((e 1 (by decide)).mpr rfl)]
theorem line_2 {kd : Nat} {v : Int64} {σ : mS} (tc : TC kd v (some 2) σ) : lineF σ = readRoadF σ := by
  have e : ∀ k, k < 24 → (isWordB σ (wC8 k) = true ↔ some 2 = some k) := fun k hk => tc.word hk
  rw [lineF_eq, if_neg (fun h => absurd ((e 0 (by decide)).mp h) (by decide)), if_neg (fun h => absurd ((e 1 (by decide)).mp h) (by decide)), if_pos ((e 2 (by decide)).mpr rfl)]
theorem line_3 {kd : Nat} {v : Int64} {σ : mS} (tc : TC kd v (some 3) σ) : lineF σ = readTreatyF σ := by
  have e : ∀ k, k < 24 → (isWordB σ (wC8 k) = true ↔ some 3 = some k) := fun k hk => tc.word hk
  rw [lineF_eq, if_neg (fun h => absurd ((e 0 (by decide)).mp h) (by decide)), if_neg (fun h => absurd ((e 1 (by decide)).mp h) (by decide)), if_neg (fun h => absurd ((e 2 (by decide)).mp h) (by decide)), if_pos ((e 3 (by decide)).mpr rfl)]
theorem line_4 {kd : Nat} {v : Int64} {σ : mS} (tc : TC kd v (some 4) σ) : lineF σ = readPersonF σ := by
  have e : ∀ k, k < 24 → (isWordB σ (wC8 k) = true ↔ some 4 = some k) := fun k hk => tc.word hk
  rw [lineF_eq, if_neg (fun h => absurd ((e 0 (by decide)).mp h) (by decide)), if_neg (fun h => absurd ((e 1 (by decide)).mp h) (by decide)), if_neg (fun h => absurd ((e 2 (by decide)).mp h) (by decide)), if_neg (fun h => absurd ((e 3 (by decide)).mp h) (by decide)), if_pos ((e 4 (by decide)).mpr rfl)]
theorem line_no {kd : Nat} {v : Int64} {r : Option Nat} {σ : mS} (tc : TC kd v r σ) (hr : ∀ k, k < 5 → ¬ r = some k) : lineF σ = (false, badF σ 1) := by
  rw [lineF_eq, if_neg (fun h => hr 0 (by decide) ((tc.word (k := 0) (by decide)).mp h)), if_neg (fun h => hr 1 (by decide) ((tc.word (k := 1) (by decide)).mp h)), if_neg (fun h => hr 2 (by decide) ((tc.word (k := 2) (by decide)).mp h)), if_neg (fun h => hr 3 (by decide) ((tc.word (k := 3) (by decide)).mp h)), if_neg (fun h => hr 4 (by decide) ((tc.word (k := 4) (by decide)).mp h))]
theorem line_w {kd i : Nat} {v : Int64} {σ : mS} (tc : TC kd v (some i) σ) : σ.1 11 = nI 1 := by
  rcases tc with h | h | h | h | h
  · cases h.2.1
  · cases h.2.1
  · exact h.2.1
  · cases h.2.1
  · cases h.2.1
theorem wMap_hi {i : Nat} (h : 5 ≤ i) (hi : i < 24) : wMap i = 0 ∨ 5 < wMap i := by
  have := (by decide : ∀ k : Fin 24, 5 ≤ k.1 → wMap k.1 = 0 ∨ 5 < wMap k.1) ⟨i, hi⟩ h
  exact this
theorem wMap_lt (i : Nat) : wMap i < 100 := by unfold wMap; split <;> decide
theorem sw_no {x : Nat} (h : x = 0 ∨ 5 < x) (hx : x < 100) : (nI x).toInt < (1 : Int) ∨ (5 : Int) < (nI x).toInt := by
  rw [nI_toInt (by omega)]; omega
set_option maxHeartbeats 1000000 in
set_option maxRecDepth 20000 in
theorem c4_readLine {G : xG} {d : Nat} {Q : xQ} {a ad b c mt : Nat → Nat} {tw ts : Nat} {κT κS κC κM : kS} {R : va_W} {σ : mS} {NM : Nat → Int64} {li : Nat} (hE : EB ad tw ts G) (hNB : NB G) (hM0 : κM.1 0 = .ref (a 13)) (hM1 : κM.1 1 = .ref (b 12)) (H : MRl ad c κT κS κC κM σ NM li) (k1 : (lineF σ).1 = true → ∀ κT9 κS9 κC9 κM9 NM9, MRl ad c κT9 κS9 κC9 κM9 (lineF σ).2 NM9 li → SHM κT κS κM κT9 κS9 κM9 → Q (some (.int (bI true))) (wMt G.2.2.1 mt κM9 ++ (wTp G.2.2.1 a κT9 ++ (wSt G.2.2.1 b κS9 ++ (wCh G.2.2.1 c κC9 ++ R))))) (k0 : (lineF σ).1 = false → ∀ κT9 κS9 κC9 κM9, FRl κT9 (lineF σ).2 → SHM κT κS κM κT9 κS9 κM9 → Q (some (.int (bI false))) (wMt G.2.2.1 mt κM9 ++ (wTp G.2.2.1 a κT9 ++ (wSt G.2.2.1 b κS9 ++ (wCh G.2.2.1 c κC9 ++ R))))) : MT G MX4_readLine (d + 4) 0 0 [.ref (mt 3)] (wMt G.2.2.1 mt κM ++ (wTp G.2.2.1 a κT ++ (wSt G.2.2.1 b κS ++ (wCh G.2.2.1 c κC ++ R)))) Q := by
  obtain ⟨hT, hf, hSm, hCr, hSt, hRes, hLV, hNm, h15, h19⟩ := id H
  obtain ⟨hPV, hMH, hS1, hS2⟩ := id hLV
  have h0 := hMH.2.1
  have h1 := hMH.2.2.1
  have h2 := hMH.2.2.2.1
  obtain ⟨kd, v, r, e8, e9, e10, hr, hkd, tc⟩ := hT.view
  refine mt_start (L := [some (.ref (mt 3))]) rfl (Nat.le_of_ble_eq_true rfl) rfl ?_
  refine aw_aload_n (pc := 0) (i := 0) dX4_readLine_0 rfl rfl ?_
  refine pg_X4_15 (pc := 1) (v := .ref (a 13)) dX4_readLine_1 rfl hM0 ?_
  refine aw_swap ?_
  refine pg_X4_40 (pc := 4) (v := va_rf (Option.map ad r)) dX4_readLine_4 rfl e10 ?_
  refine aw_wnonnull (ad := ad) (pc := 7) (tgt := 19) dX4_readLine_7 rfl (fun h7 => ?_) (fun h7 => ?_)
  · -- 19
    obtain ⟨i, rfl⟩ : ∃ i, r = some i := by cases r with | none => exact absurd rfl h7 | some i => exact ⟨i, rfl⟩
    have hi := hr i rfl
    refine aw_gsm (pc := 19) dX4_readLine_19 rfl hE gs_X4_47 ?_
    refine aw_aload_n (pc := 22) (i := 0) dX4_readLine_22 rfl rfl ?_
    refine aw_swap ?_
    refine pg_X4_15 (pc := 23) (v := .ref (a 13)) dX4_readLine_23 rfl hM0 ?_
    refine aw_swap ?_
    refine pg_X4_40 (pc := 26) (v := va_rf (Option.map ad (some i))) dX4_readLine_26 rfl e10 ?_
    refine co_X4 (pc := 29) dX4_readLine_29 rfl hE (by omega) (Nat.le_of_ble_eq_true rfl) (Nat.le_refl _) (Nat.le_refl _) ?_
    refine aw_tm (pc := 32) dX4_readLine_32 hE (by omega) ?_
    rcases (show i = 0 ∨ i = 1 ∨ i = 2 ∨ i = 3 ∨ i = 4 ∨ 5 ≤ i by omega) with rfl | rfl | rfl | rfl | rfl | h5
    · -- 0
      refine aw_tabIn (pc := 33) (tgt := 68) dX4_readLine_33 (by decide) (by decide) rfl rfl ?_
      refine aw_aload_n (pc := 68) (i := 0) dX4_readLine_68 rfl rfl ?_
      refine aw_swap ?_
      refine cVi (pc := 69) (As := []) (rest := []) dX4_readLine_69 rfl oc_X4_59 rfl rfl (Nat.le_of_ble_eq_true rfl) rfl rfl ovX4 (Nat.le_refl _) (Nat.le_refl _) (c4_readLand hM0 hM1 H (line_w tc) ?_ ?_)
      · -- call
        intro t9 κT9 κS9 κC9 κM9 NM9 g9 b9
        refine ⟨_, rfl, ?_⟩
        refine ab_ret (pc := 72) dX4_readLine_72 rfl (Nat.le_refl _) (Nat.le_refl _) ?_
        have eF := line_0 tc
        exact k1 (by rw [eF]; exact t9) _ _ _ _ NM9 (by rw [eF]; exact g9) b9
      · -- call
        intro t9 κT9 κS9 κC9 κM9 g9 b9
        refine ⟨_, rfl, ?_⟩
        refine ab_ret (pc := 72) dX4_readLine_72 rfl (Nat.le_refl _) (Nat.le_refl _) ?_
        have eF := line_0 tc
        exact k0 (by rw [eF]; exact t9) _ _ _ _ (by rw [eF]; exact g9) b9
    · -- 1
      refine aw_tabIn (pc := 33) (tgt := 73) dX4_readLine_33 (by decide) (by decide) rfl rfl ?_
      refine aw_aload_n (pc := 73) (i := 0) dX4_readLine_73 rfl rfl ?_
      refine aw_swap ?_
      refine cVi (pc := 74) (As := []) (rest := []) dX4_readLine_74 rfl oc_X4_62 rfl rfl (Nat.le_of_ble_eq_true rfl) rfl rfl ovX4 (Nat.le_refl _) (Nat.le_refl _) (c4_readStore hNB hM0 hM1 H (line_w tc) ?_ ?_)
      · -- call
        intro t9 κT9 κS9 κC9 κM9 NM9 g9 b9
        refine ⟨_, rfl, ?_⟩
        refine ab_ret (pc := 77) dX4_readLine_77 rfl (Nat.le_refl _) (Nat.le_refl _) ?_
        have eF := line_1 tc
        exact k1 (by rw [eF]; exact t9) _ _ _ _ NM9 (by rw [eF]; exact g9) b9
      · -- call
        intro t9 κT9 κS9 κC9 κM9 g9 b9
        refine ⟨_, rfl, ?_⟩
        refine ab_ret (pc := 77) dX4_readLine_77 rfl (Nat.le_refl _) (Nat.le_refl _) ?_
        have eF := line_1 tc
        exact k0 (by rw [eF]; exact t9) _ _ _ _ (by rw [eF]; exact g9) b9
    · -- 2
      refine aw_tabIn (pc := 33) (tgt := 78) dX4_readLine_33 (by decide) (by decide) rfl rfl ?_
      refine aw_aload_n (pc := 78) (i := 0) dX4_readLine_78 rfl rfl ?_
      refine aw_swap ?_
      refine cVi (pc := 79) (As := []) (rest := []) dX4_readLine_79 rfl oc_X4_65 rfl rfl (Nat.le_of_ble_eq_true rfl) rfl rfl ovX4 (Nat.le_refl _) (Nat.le_refl _) (c4_readRoad hM0 hM1 H (line_w tc) ?_ ?_)
      · -- call
        intro t9 κT9 κS9 κC9 κM9 NM9 g9 b9
        refine ⟨_, rfl, ?_⟩
        refine ab_ret (pc := 82) dX4_readLine_82 rfl (Nat.le_refl _) (Nat.le_refl _) ?_
        have eF := line_2 tc
        exact k1 (by rw [eF]; exact t9) _ _ _ _ NM9 (by rw [eF]; exact g9) b9
      · -- call
        intro t9 κT9 κS9 κC9 κM9 g9 b9
        refine ⟨_, rfl, ?_⟩
        refine ab_ret (pc := 82) dX4_readLine_82 rfl (Nat.le_refl _) (Nat.le_refl _) ?_
        have eF := line_2 tc
        exact k0 (by rw [eF]; exact t9) _ _ _ _ (by rw [eF]; exact g9) b9
    · -- 3
      refine aw_tabIn (pc := 33) (tgt := 83) dX4_readLine_33 (by decide) (by decide) rfl rfl ?_
      refine aw_aload_n (pc := 83) (i := 0) dX4_readLine_83 rfl rfl ?_
      refine aw_swap ?_
      refine cVi (pc := 84) (As := []) (rest := []) dX4_readLine_84 rfl oc_X4_68 rfl rfl (Nat.le_of_ble_eq_true rfl) rfl rfl ovX4 (Nat.le_refl _) (Nat.le_refl _) (c4_readTreaty hNB hM0 hM1 H (line_w tc) ?_ ?_)
      · -- call
        intro t9 κT9 κS9 κC9 κM9 NM9 g9 b9
        refine ⟨_, rfl, ?_⟩
        refine ab_ret (pc := 87) dX4_readLine_87 rfl (Nat.le_refl _) (Nat.le_refl _) ?_
        have eF := line_3 tc
        exact k1 (by rw [eF]; exact t9) _ _ _ _ NM9 (by rw [eF]; exact g9) b9
      · -- call
        intro t9 κT9 κS9 κC9 κM9 g9 b9
        refine ⟨_, rfl, ?_⟩
        refine ab_ret (pc := 87) dX4_readLine_87 rfl (Nat.le_refl _) (Nat.le_refl _) ?_
        have eF := line_3 tc
        exact k0 (by rw [eF]; exact t9) _ _ _ _ (by rw [eF]; exact g9) b9
    · -- 4
      refine aw_tabIn (pc := 33) (tgt := 88) dX4_readLine_33 (by decide) (by decide) rfl rfl ?_
      refine aw_aload_n (pc := 88) (i := 0) dX4_readLine_88 rfl rfl ?_
      refine aw_swap ?_
      refine cVi (pc := 89) (As := []) (rest := []) dX4_readLine_89 rfl oc_X4_71 rfl rfl (Nat.le_of_ble_eq_true rfl) rfl rfl ovX4 (Nat.le_refl _) (Nat.le_refl _) (c4_readPerson hM0 hM1 H (line_w tc) ?_ ?_)
      · -- call
        intro t9 κT9 κS9 κC9 κM9 NM9 g9 b9
        refine ⟨_, rfl, ?_⟩
        refine ab_ret (pc := 92) dX4_readLine_92 rfl (Nat.le_refl _) (Nat.le_refl _) ?_
        have eF := line_4 tc
        exact k1 (by rw [eF]; exact t9) _ _ _ _ NM9 (by rw [eF]; exact g9) b9
      · -- call
        intro t9 κT9 κS9 κC9 κM9 g9 b9
        refine ⟨_, rfl, ?_⟩
        refine ab_ret (pc := 92) dX4_readLine_92 rfl (Nat.le_refl _) (Nat.le_refl _) ?_
        have eF := line_4 tc
        exact k0 (by rw [eF]; exact t9) _ _ _ _ (by rw [eF]; exact g9) b9
    · -- other
      refine aw_tabOut (pc := 33) (tgt := 93) dX4_readLine_33 (sw_no (wMap_hi h5 hi) (wMap_lt i)) rfl ?_
      refine aw_aload_n (pc := 93) (i := 0) dX4_readLine_93 rfl rfl ?_
      refine aw_swap ?_
      refine pg_X4_15 (pc := 94) (v := .ref (a 13)) dX4_readLine_94 rfl hM0 ?_
      refine aw_iconst (pc := 97) dX4_readLine_97 iconst_1 ?_
      refine aw_swap ?_
      refine cVi (pc := 98) (As := [.int (nI 1)]) (rest := []) dX4_readLine_98 rfl oc_X4_44 rfl rfl (Nat.le_of_ble_eq_true rfl) rfl rfl ovX8 (Nat.le_refl _) (Nat.le_refl _) (c8_refuse (σ := σ) hT hf ?_)
      intro κ1 g1 p1 b1
      refine ⟨_, rfl, ?_⟩
      refine aw_swap4 ?_
      refine aw_swap4 ?_
      refine aw_swap3 ?_
      refine aw_swap4 ?_
      refine ab_ret (pc := 101) dX4_readLine_101 rfl (Nat.le_refl _) (Nat.le_refl _) ?_
      have eF := line_no tc (by intro k hk e; have := Option.some.inj e; omega)
      exact k0 (by rw [eF]) _ _ _ _ (by rw [eF]; exact ⟨g1, p1⟩) ⟨((TBs.rf _).tr b1), rfl, rfl, rfl⟩
  · -- 10
    refine aw_aload_n (pc := 10) (i := 0) dX4_readLine_10 rfl rfl ?_
    refine aw_swap ?_
    refine pg_X4_15 (pc := 11) (v := .ref (a 13)) dX4_readLine_11 rfl hM0 ?_
    refine aw_iconst (pc := 14) dX4_readLine_14 iconst_1 ?_
    refine aw_swap ?_
    refine cVi (pc := 15) (As := [.int (nI 1)]) (rest := []) dX4_readLine_15 rfl oc_X4_44 rfl rfl (Nat.le_of_ble_eq_true rfl) rfl rfl ovX8 (Nat.le_refl _) (Nat.le_refl _) (c8_refuse (σ := σ) hT hf ?_)
    intro κ1 g1 p1 b1
    refine ⟨_, rfl, ?_⟩
    refine aw_swap4 ?_
    refine aw_swap4 ?_
    refine aw_swap3 ?_
    refine aw_swap4 ?_
    refine ab_ret (pc := 18) dX4_readLine_18 rfl (Nat.le_refl _) (Nat.le_refl _) ?_
    have eF := line_no tc (by intro k hk; rw [h7]; exact fun e => by cases e)
    exact k0 (by rw [eF]) _ _ _ _ (by rw [eF]; exact ⟨g1, p1⟩) ⟨((TBs.rf _).tr b1), rfl, rfl, rfl⟩
theorem SHM.tr {a1 a2 a3 b1 b2 b3 c1 c2 c3 : kS} (h : SHM a1 a2 a3 b1 b2 b3) (g : SHM b1 b2 b3 c1 c2 c3) : SHM a1 a2 a3 c1 c2 c3 := ⟨h.1.tr g.1, g.2.1.trans h.2.1, g.2.2.1.trans h.2.2.1, g.2.2.2.trans h.2.2.2⟩
theorem MRl.sign {ad c : Nat → Nat} {κT κS κC κM κT9 : kS} {σ : mS} {NM : Nat → Int64} {li : Nat} (H : MRl ad c κT κS κC κM σ NM li) (h : (signF σ 59).1 = true) (ht : TPR ad κT9 (signF σ 59).2) (hf : κT9.1 11 = .int (nI 0)) : MRl ad c κT9 κS κC κM (mI (signF σ 59).2 19 ((signF σ 59).2.1 19 + nI 1)) NM (li + 1) := by
  obtain ⟨hT, hf0, hSm, hCr, hSt, hRes, hLV, hNm, h15, h19⟩ := H
  have hL := LV_mI (k := 19) (x := (signF σ 59).2.1 19 + nI 1) (LV_sign hLV h) (by decide) (by decide)
  have n := NXF_nx σ
  rw [(sign_t h).2] at ht hL ⊢
  obtain ⟨s1, hs1⟩ : ∃ x, x = nx σ := ⟨_, rfl⟩
  rw [← hs1] at ht n hL ⊢
  refine ⟨ht.tI (by decide), hf, ?_, ?_, ?_, (hRes.to n).tI, hL, ?_, ?_, ?_⟩
  · show SMl c (s1.2.1 7) κS; rw [n.1]; exact hSm
  · show CRl (s1.2.1 7) NM κC; rw [n.1]; exact hCr
  · exact st_eq hSt ((mI_o _ _ _ _ (by decide)).trans (n.2.2.2 20 (by decide) (by decide) (by decide) (by decide) (by decide) (by decide)))
  · exact (show NMs s1 NM from hNm.to n)
  · exact ((mI_o _ _ _ _ (by decide)).trans (n.2.2.2 15 (by decide) (by decide) (by decide) (by decide) (by decide) (by decide))).trans h15
  · rw [mI_k, n.2.2.2 19 (by decide) (by decide) (by decide) (by decide) (by decide) (by decide), h19, ← nI_add]
theorem mapL_end {σ : mS} {n : Nat} (h : σ.1 11 = nI 0) : mapL (n + 1) σ = (true, σ) := by rw [mapL, if_pos h]
theorem mapL_no {σ : mS} {n : Nat} (h : ¬ σ.1 11 = nI 0) (h1 : (lineF σ).1 = false) : mapL (n + 1) σ = (false, (lineF σ).2) := by rw [mapL, if_neg h, if_neg (by rw [h1]; decide)]
theorem mapL_ns {σ : mS} {n : Nat} (h : ¬ σ.1 11 = nI 0) (h1 : (lineF σ).1 = true) (h2 : (signF (lineF σ).2 59).1 = false) : mapL (n + 1) σ = (false, (signF (lineF σ).2 59).2) := by rw [mapL, if_neg h, if_pos h1, if_neg (by rw [h2]; decide)]
theorem mapL_on {σ : mS} {n : Nat} (h : ¬ σ.1 11 = nI 0) (h1 : (lineF σ).1 = true) (h2 : (signF (lineF σ).2 59).1 = true) : mapL (n + 1) σ = mapL n (mI (signF (lineF σ).2 59).2 19 ((signF (lineF σ).2 59).2.1 19 + nI 1)) := by rw [mapL, if_neg h, if_pos h1, if_pos h2]
set_option maxHeartbeats 1000000 in
set_option maxRecDepth 20000 in
theorem c4_rdLoop {G : xG} {d : Nat} {Q : xQ} {a ad b c mt : Nat → Nat} {tw ts : Nat} {R : va_W} (hE : EB ad tw ts G) (hNB : NB G) : ∀ (n : Nat) (σ : mS) (i : Nat) (κT κS κC κM : kS) (NM : Nat → Int64) (hM0 : κM.1 0 = .ref (a 13)) (hM1 : κM.1 1 = .ref (b 12)) (H : MRl ad c κT κS κC κM σ NM i) (hm : mz σ < n) (hi : 2 * i + mz σ ≤ 941) (k1 : ∀ σ9 i9 κT9 κS9 κC9 κM9 NM9, mapL n σ = (true, σ9) → MRl ad c κT9 κS9 κC9 κM9 σ9 NM9 i9 → SHM κT κS κM κT9 κS9 κM9 → Q (some (.int (nI i9))) (wMt G.2.2.1 mt κM9 ++ (wTp G.2.2.1 a κT9 ++ (wSt G.2.2.1 b κS9 ++ (wCh G.2.2.1 c κC9 ++ R))))) (k0 : ∀ σ9 κT9 κS9 κC9 κM9 i9, mapL n σ = (false, σ9) → FRl κT9 σ9 → SHM κT κS κM κT9 κS9 κM9 → Q (some (.int (nI i9))) (wMt G.2.2.1 mt κM9 ++ (wTp G.2.2.1 a κT9 ++ (wSt G.2.2.1 b κS9 ++ (wCh G.2.2.1 c κC9 ++ R))))), AW G MX4_read (d + 5) 0 0 Q 17 [some (.ref (mt 3)), some (.int (nI i))] [] (wMt G.2.2.1 mt κM ++ (wTp G.2.2.1 a κT ++ (wSt G.2.2.1 b κS ++ (wCh G.2.2.1 c κC ++ R)))) 0 0 := by
  intro n
  induction n with
  | zero => intro σ i κT κS κC κM NM _ _ _ hm; exact absurd hm (Nat.not_lt_zero _)
  | succ n ih =>
    intro σ i κT κS κC κM NM hM0 hM1 H hm hi k1 k0
    obtain ⟨hT, hf, hSm, hCr, hSt, hRes, hLV, hNm, h15, h19⟩ := id H
    refine aw_iload_n (pc := 17) (i := 1) dX4_read_17 rfl rfl ?_
    refine aw_sipush (pc := 18) dX4_read_18 sipush_940 ?_
    refine an_icmp_ge (pc := 21) (tgt := 61) dX4_read_21 rfl (by omega) (by decide) (fun h21 => ?_) (fun h21 => ?_)
    · -- 61
      exfalso; omega
    · -- 24
      refine aw_aload_n (pc := 24) (i := 0) dX4_read_24 rfl rfl ?_
      refine pg_X4_15 (pc := 25) (v := .ref (a 13)) dX4_read_25 rfl hM0 ?_
      refine aw_swap ?_
      refine cVi (pc := 28) (As := []) (rest := []) dX4_read_28 rfl oc_X4_29 rfl rfl (Nat.le_of_ble_eq_true rfl) rfl rfl ovX8 (Nat.le_refl _) (Nat.le_refl _) (c8_atEnd hT ⟨_, rfl, ?_⟩)
      refine ab_if_ne (pc := 31) (tgt := 61) dX4_read_31 rfl (fun h31 => ?_) (fun h31 => ?_)
      · -- 61
        refine aw_iload_n (pc := 61) (i := 1) dX4_read_61 rfl rfl ?_
        refine aw_swap4 ?_
        refine aw_swap4 ?_
        refine aw_swap3 ?_
        refine aw_swap4 ?_
        exact aw_iret (pc := 62) dX4_read_62 rfl (Nat.le_refl _) (Nat.le_refl _) (k1 _ _ _ _ _ _ _ (mapL_end (by simpa using h31)) H ⟨TBs.rf _, rfl, rfl, rfl⟩)
      · -- 34
        refine aw_aload_n (pc := 34) (i := 0) dX4_read_34 rfl rfl ?_
        refine aw_swap ?_
        refine cVi (pc := 35) (As := []) (rest := []) dX4_read_35 rfl oc_X4_33 rfl rfl (Nat.le_of_ble_eq_true rfl) rfl rfl ovX4 (Nat.le_refl _) (Nat.le_refl _) (c4_readLine hE hNB hM0 hM1 H ?_ ?_)
        · -- call
          intro t9 κT9 κS9 κC9 κM9 NM9 g9 b9
          refine ⟨_, rfl, ?_⟩
          refine ab_if_eq (pc := 38) (tgt := 53) dX4_read_38 rfl (fun h38 => absurd h38 (by decide)) (fun h38 => ?_)
          refine aw_aload_n (pc := 41) (i := 0) dX4_read_41 rfl rfl ?_
          refine pg_X4_15 (pc := 42) (v := .ref (a 13)) dX4_read_42 rfl (b9.2.2.1.trans hM0) ?_
          refine aw_bipush (pc := 45) dX4_read_45 bipush_59 ?_
          refine aw_swap ?_
          refine cVi (pc := 47) (As := [.int (nI 59)]) (rest := []) dX4_read_47 rfl oc_X4_36 rfl rfl (Nat.le_of_ble_eq_true rfl) rfl rfl ovX8 (Nat.le_refl _) (Nat.le_refl _) (c8_takeSign g9.1 g9.2.1 rfl ?_ ?_)
          · -- call
            intro t8 κT8 g8 b8 f8
            refine ⟨_, rfl, ?_⟩
            refine ab_if_ne (pc := 50) (tgt := 55) dX4_read_50 rfl (fun h50 => ?_) (fun h50 => absurd h50 (by decide))
            refine an_inc (pc := 55) (z := 1) dX4_read_55 rfl (Nat.le_of_ble_eq_true rfl) rfl ?_
            refine aw_goto (pc := 58) (tgt := 17) dX4_read_58 rfl ?_
            refine aw_swap4 ?_
            refine aw_swap4 ?_
            refine aw_swap3 ?_
            refine aw_swap4 ?_
            have m1 := mz_line hLV.1 t9
            have H9 := g9.sign t8 g8 f8
            have p8 : propT (lineF σ).2 := isSign_p (sign_t t8).1
            have m2 : mz (mI (signF (lineF σ).2 59).2 19 ((signF (lineF σ).2 59).2.1 19 + nI 1)) < mz (lineF σ).2 := by rw [mz_mI (by decide), (sign_t t8).2]; exact (mz_nx g9.2.2.2.2.2.2.1.1).2 p8
            have e9 := mapL_on (n := n) (by simpa using h31) t9 t8
            obtain ⟨s9, hs9⟩ : ∃ x, x = mI (signF (lineF σ).2 59).2 19 ((signF (lineF σ).2 59).2.1 19 + nI 1) := ⟨_, rfl⟩
            rw [← hs9] at e9 H9 m2
            rw [e9] at k1 k0
            exact ih s9 _ _ _ _ _ _ (b9.2.2.1.trans hM0) (b9.2.2.2.trans hM1) H9 (by omega) (by omega) (fun a1 a2 a3 a4 a5 a6 a7 b1 b2 b3 => k1 a1 a2 a3 a4 a5 a6 a7 b1 b2 ((b9.tr ⟨b8, rfl, rfl, rfl⟩).tr b3)) (fun a1 a3 a4 a5 a6 a7 b1 b2 b3 => k0 a1 a3 a4 a5 a6 a7 b1 b2 ((b9.tr ⟨b8, rfl, rfl, rfl⟩).tr b3))
          · -- call
            intro t8 κT8 g8 b8
            refine ⟨_, rfl, ?_⟩
            refine ab_if_ne (pc := 50) (tgt := 55) dX4_read_50 rfl (fun h50 => absurd h50 (by decide)) (fun h50 => ?_)
            refine aw_iload_n (pc := 53) (i := 1) dX4_read_53 rfl rfl ?_
            refine aw_swap4 ?_
            refine aw_swap4 ?_
            refine aw_swap3 ?_
            refine aw_swap4 ?_
            exact aw_iret (pc := 54) dX4_read_54 rfl (Nat.le_refl _) (Nat.le_refl _) (k0 _ _ _ _ _ _ (mapL_ns (by simpa using h31) t9 t8) g8 (b9.tr ⟨b8, rfl, rfl, rfl⟩))
        · -- call
          intro t9 κT9 κS9 κC9 κM9 g9 b9
          refine ⟨_, rfl, ?_⟩
          refine ab_if_eq (pc := 38) (tgt := 53) dX4_read_38 rfl (fun h38 => ?_) (fun h38 => absurd h38 (by decide))
          refine aw_iload_n (pc := 53) (i := 1) dX4_read_53 rfl rfl ?_
          exact aw_iret (pc := 54) dX4_read_54 rfl (Nat.le_refl _) (Nat.le_refl _) (k0 _ _ _ _ _ _ (mapL_no (by simpa using h31) t9) g9 b9)
theorem mz_941 {σ : mS} (h : PV σ) : mz σ ≤ 941 := by
  obtain ⟨s, lim, p, nm, tk, at', h3, hs, h5, hl, h4, hp, -⟩ := h
  unfold mz
  rw [h3, h4, nI_clamp (by omega), nI_clamp (by omega)]
  split <;> omega
theorem TPR_start {ad : Nat → Nat} {κ : kS} {σ : mS} {τ : Nat → Int32} {n lim nT : Nat} (h3 : σ.1 3 = nI n) (hn : n ≤ 940) (h4 : σ.1 4 = nI 0) (h5 : σ.1 5 = nI lim) (hl : lim ≤ 940) (hτ : σ.2.2.1 1 = τ) (h : TPs ad τ n lim κ 0 nT) : TPR ad κ (nx σ) := by
  have e : nx σ = nextS σ n lim 0 := by rw [← nx_eq, nxG, h3, h5, h4, nI_clamp (by omega), nI_clamp (by omega), nI_clamp (by omega)]
  have r := RP_next h3 hn h5 hl (Nat.zero_le n)
  have e1 : (nx σ).2.2.1 1 = τ := hτ
  refine ⟨n, lim, 0, nT, ?_, by rw [e1]; exact h⟩
  rw [e1, ← hτ, e]; exact r
theorem mapB_s (σ : mS) (n : Nat) : (mapB σ n).1 3 = nI n ∧ (mapB σ n).1 4 = nI 0 ∧ (mapB σ n).1 5 = nI 900 ∧ (mapB σ n).2.2.1 = σ.2.2.1 ∧ (mapB σ n).2.2.2.2 = σ.2.2.2.2 ∧ (mapB σ n).1 15 = nI 0 ∧ (mapB σ n).1 19 = nI 0 ∧ (mapB σ n).1 20 = nI 0 ∧ ∀ j, j < 91 → (mapB σ n).2.1 7 j = 0 :=
  ⟨rfl, rfl, rfl, rfl, rfl, rfl, rfl, rfl, fun j hj => (show (mapB σ n).2.1 7 j = cpF (σ.2.1 7) (fun _ => 0) 0 0 91 j from rfl).trans (cpF_in (by omega))⟩
set_option maxHeartbeats 1000000 in
set_option maxRecDepth 20000 in
theorem c4_read {G : xG} {d : Nat} {Q : xQ} {a ad b c mt : Nat → Nat} {tw ts : Nat} {κT κS κC κM : kS} {R : va_W} {σ : mS} {NM : Nat → Int64} {n : Nat} (hE : EB ad tw ts G) (hNB : NB G) (hM0 : κM.1 0 = .ref (a 13)) (hM1 : κM.1 1 = .ref (b 12)) (hT0 : TB κT (σ.2.2.1 1) n) (hv : PV (mapB σ n)) (hb : ∀ j, σ.2.1 7 j < 2 ^ 30) (hSm : SMl c ((mapB σ n).2.1 7) κS) (hCr : CRl ((mapB σ n).2.1 7) NM κC) (hRes : RES σ) (k1 : ∀ σ9 i9 κT9 κS9 κC9 κM9 NM9, mapR σ n = (true, σ9) → MRl ad c κT9 κS9 κC9 κM9 σ9 NM9 i9 → SHM κT κS κM κT9 κS9 κM9 → Q (some (.int (nI i9))) (wMt G.2.2.1 mt κM9 ++ (wTp G.2.2.1 a κT9 ++ (wSt G.2.2.1 b κS9 ++ (wCh G.2.2.1 c κC9 ++ R))))) (k0 : ∀ σ9 κT9 κS9 κC9 κM9 i9, mapR σ n = (false, σ9) → FRl κT9 σ9 → SHM κT κS κM κT9 κS9 κM9 → Q (some (.int (nI i9))) (wMt G.2.2.1 mt κM9 ++ (wTp G.2.2.1 a κT9 ++ (wSt G.2.2.1 b κS9 ++ (wCh G.2.2.1 c κC9 ++ R))))) : MT G MX4_read (d + 5) 0 0 [.ref (mt 3)] (wMt G.2.2.1 mt κM ++ (wTp G.2.2.1 a κT ++ (wSt G.2.2.1 b κS ++ (wCh G.2.2.1 c κC ++ R)))) Q := by
  refine mt_start (L := [some (.ref (mt 3)), none]) rfl (Nat.le_of_ble_eq_true rfl) rfl ?_
  refine aw_aload_n (pc := 0) (i := 0) dX4_read_0 rfl rfl ?_
  refine aw_iconst (pc := 1) dX4_read_1 iconst_0 ?_
  refine pp_X4_9 (pc := 2) dX4_read_2 rfl ?_
  refine aw_aload_n (pc := 5) (i := 0) dX4_read_5 rfl rfl ?_
  refine pg_X4_15 (pc := 6) (v := .ref (a 13)) dX4_read_6 rfl hM0 ?_
  refine aw_sipush (pc := 9) dX4_read_9 sipush_900 ?_
  refine aw_swap ?_
  refine cVv (pc := 12) (As := [.int (nI 900)]) (rest := []) dX4_read_12 rfl oc_X4_23 rfl rfl (Nat.le_of_ble_eq_true rfl) rfl rfl ovX8 (Nat.le_refl _) (Nat.le_refl _) (c8_begin hE hNB hT0 (by decide) ?_)
  intro κT8 nT p8 b8 f8 q8
  refine ⟨rfl, ?_⟩
  refine aw_iconst (pc := 15) dX4_read_15 iconst_0 ?_
  refine aw_istore_n (pc := 16) (i := 1) dX4_read_16 rfl (Nat.le_of_ble_eq_true rfl) rfl ?_
  refine aw_swap4 ?_
  refine aw_swap4 ?_
  refine aw_swap3 ?_
  refine aw_swap4 ?_
  have z := mapB_s σ n
  have ht := TPR_start z.1 hT0.2.1 z.2.1 z.2.2.1 (by decide) (congrFun z.2.2.2.1 1) p8
  have hL := LV_nx (LV_mapB hv hb)
  have hmz := mz_941 hL.1
  have nn := NXF_nx (mapB σ n)
  have eR : mapR σ n = mapL 2000 (nx (mapB σ n)) := rfl
  obtain ⟨s1, hs1⟩ : ∃ x, x = nx (mapB σ n) := ⟨_, rfl⟩
  rw [← hs1] at ht hL hmz nn eR
  rw [eR] at k1 k0
  refine c4_rdLoop hE hNB 2000 s1 0 _ _ _ _ NM hM0 hM1 ⟨ht, f8, ?_, ?_, ?_, ?_, hL, ⟨?_, ?_⟩, ?_, ?_⟩ (by omega) (by omega) (fun a1 a2 a3 a4 a5 a6 a7 b1 b2 b3 => k1 a1 a2 a3 a4 a5 a6 a7 b1 b2 (SHM.tr ⟨b8, rfl, rfl, rfl⟩ b3)) (fun a1 a3 a4 a5 a6 a7 b1 b2 b3 => k0 a1 a3 a4 a5 a6 a7 b1 b2 (SHM.tr ⟨b8, rfl, rfl, rfl⟩ b3))
  · rw [nn.1]; exact hSm
  · rw [nn.1]; exact hCr
  · show Value.int _ = _; unfold storedN; rw [nn.2.2.2 20 (by decide) (by decide) (by decide) (by decide) (by decide) (by decide), z.2.2.2.2.2.2.2.1]; rfl
  · intro k hk; rw [nn.2.2.1, z.2.2.2.2.1]; exact hRes k hk
  · intro k hk; rw [nn.1, z.2.2.2.2.2.2.2.2 0 (by decide)] at hk; exact absurd hk (Nat.not_lt_zero _)
  · intro k hk; rw [nn.1, z.2.2.2.2.2.2.2.2 2 (by decide)] at hk; exact absurd hk (Nat.not_lt_zero _)
  · rw [nn.2.2.2 15 (by decide) (by decide) (by decide) (by decide) (by decide) (by decide)]; exact z.2.2.2.2.2.1
  · rw [nn.2.2.2 19 (by decide) (by decide) (by decide) (by decide) (by decide) (by decide)]; exact z.2.2.2.2.2.2.1
