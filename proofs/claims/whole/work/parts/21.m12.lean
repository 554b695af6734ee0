def lineF (σ : mS) : Bool × mS := if isWordB σ (1818324580 : Int64) = true then readLandF σ else if isWordB σ (495874699877 : Int64) = true then readStoreF σ else if isWordB σ (1919902052 : Int64) = true then readRoadF σ else if isWordB σ (128034675979385 : Int64) = true then readTreatyF σ else if isWordB σ (123581014175598 : Int64) = true then readPersonF σ else (false, badF σ 1)
theorem LV_line {σ : mS} (H : LV σ) (h : (lineF σ).1 = true) : LV (lineF σ).2 := by
  unfold lineF at *
  split at h
  · rename_i q; rw [if_pos q]; exact LV_readLand H h
  · rename_i q1; rw [if_neg q1]; split at h
    · rename_i q; rw [if_pos q]; exact LV_readStore H h
    · rename_i q1; rw [if_neg q1]; split at h
      · rename_i q; rw [if_pos q]; exact LV_readRoad H h
      · rename_i q1; rw [if_neg q1]; split at h
        · rename_i q; rw [if_pos q]; exact LV_readTreaty H h
        · rename_i q1; rw [if_neg q1]; split at h
          · rename_i q; rw [if_pos q]; exact LV_readPerson H h
          · exact absurd h (by simp)
theorem sign_t {σ : mS} {c : Nat} (h : (signF σ c).1 = true) : isSignB σ c = true ∧ (signF σ c).2 = nx σ := by
  unfold signF at *
  split at h
  · rename_i q; rw [if_pos q]; exact ⟨q, rfl⟩
  · exact absurd h (by simp)
theorem LV_nx {σ : mS} (H : LV σ) : LV (nx σ) := by
  obtain ⟨hv, hh, hs, hs7⟩ := H
  have e20 : (nx σ).1 20 = σ.1 20 := nx_sc σ 20 (by decide)
  exact ⟨PV_nx hv, hh, by rw [storedN_eq e20, e20]; exact hs, by rw [storedN_eq e20]; exact hs7⟩
theorem LV_sign {σ : mS} {c : Nat} (H : LV σ) (h : (signF σ c).1 = true) : LV (signF σ c).2 := by
  rw [(sign_t h).2]
  exact LV_nx H
theorem LV_mI {σ : mS} {k : Nat} {x : Int32} (H : LV σ) (hk : ¬ k = 3 ∧ ¬ k = 4 ∧ ¬ k = 5 ∧ ¬ k = 11 ∧ ¬ k = 12 ∧ ¬ k = 14) (h20 : ¬ k = 20) : LV (mI σ k x) := by
  obtain ⟨hv, hh, hs, hs7⟩ := H
  have e20 : (mI σ k x).1 20 = σ.1 20 := mI_o σ k 20 x (by omega)
  exact ⟨PV_mI hv hk, hh, by rw [storedN_eq e20, e20]; exact hs, by rw [storedN_eq e20]; exact hs7⟩
/-- how much text is left -/
def propT (σ : mS) : Prop := σ.1 11 = nI 1 ∨ σ.1 11 = nI 2 ∨ σ.1 11 = nI 3
def mz (σ : mS) : Nat := (σ.1 3).toNatClampNeg - (σ.1 4).toNatClampNeg + (if σ.1 11 = nI 1 ∨ σ.1 11 = nI 2 ∨ σ.1 11 = nI 3 then 1 else 0)
theorem mz_next {σ : mS} {s lim p : Nat} (h3 : σ.1 3 = nI s) (hs : s ≤ 940) (hp : p ≤ s) : (nextS σ s lim p).1 3 = nI s ∧ ∃ q, (nextS σ s lim p).1 4 = nI q ∧ p ≤ q ∧ q ≤ s ∧ ((nextS σ s lim p).1 11 = nI 0 ∨ (nextS σ s lim p).1 11 = nI 4 ∨ p < q) := by
  have hk := skipF_le (σ.2.2.1 1) (s - p) p
  have e3 := nextS_sc σ s lim p 3 (by decide)
  rw [h3] at e3
  refine ⟨e3, ?_⟩
  unfold nextS at *
  generalize skipF (σ.2.2.1 1) (s - p) p = q at *
  unfold nextG at *
  split
  · exact ⟨q, rfl, by omega, by omega, Or.inr (Or.inl rfl)⟩
  · split
    · exact ⟨q, rfl, by omega, by omega, Or.inl rfl⟩
    · split
      · rename_i ha
        have hr := rlen_le (σ.2.2.1 1) (s - q) q
        have h1 : 1 ≤ rlen (σ.2.2.1 1) (s - q) q := by
          rw [show s - q = (s - q - 1) + 1 by omega, rlen, if_pos ha]
          omega
        exact ⟨_, rfl, by omega, by omega, Or.inr (Or.inr (by omega))⟩
      · exact ⟨q + 1, rfl, by omega, by omega, Or.inr (Or.inr (by omega))⟩
theorem mz_nx {σ : mS} (h : PV σ) : mz (nx σ) ≤ mz σ ∧ (propT σ → mz (nx σ) < mz σ) := by
  obtain ⟨s, lim, p, nm, tk, at', h3, hs, h5, hl, h4, hp, -⟩ := h
  obtain ⟨e3, q, e4, h1, h2, h9⟩ := mz_next (lim := lim) h3 hs hp
  have en : nxG σ = nextS σ s lim p := by
    unfold nxG
    rw [h3, h5, h4, nI_clamp (by omega), nI_clamp (by omega), nI_clamp (by omega)]
  rw [← en, nx_eq] at e3 e4 h9
  unfold mz propT
  rw [e3, e4, h3, h4, nI_clamp (by omega), nI_clamp (by omega), nI_clamp (by omega)]
  rcases h9 with h9 | h9 | h9
  · rw [h9, if_neg (by decide)]
    split
    · omega
    · rename_i hn
      exact ⟨by omega, fun hc => absurd hc hn⟩
  · rw [h9, if_neg (by decide)]
    split
    · omega
    · rename_i hn
      exact ⟨by omega, fun hc => absurd hc hn⟩
  · split
    · split
      · omega
      · rename_i hn
        exact ⟨by omega, fun hc => absurd hc hn⟩
    · split
      · omega
      · rename_i hn
        exact ⟨by omega, fun hc => absurd hc hn⟩
theorem mz_eq {σ σ' : mS} (h3 : σ'.1 3 = σ.1 3) (h4 : σ'.1 4 = σ.1 4) (h11 : σ'.1 11 = σ.1 11) : mz σ' = mz σ := by
  unfold mz
  rw [h3, h4, h11]
theorem mz_mI {σ : mS} {k : Nat} {x : Int32} (hk : ¬ k = 3 ∧ ¬ k = 4 ∧ ¬ k = 11) : mz (mI σ k x) = mz σ := mz_eq (mI_o _ _ _ _ (by omega)) (mI_o _ _ _ _ (by omega)) (mI_o _ _ _ _ (by omega))
theorem mz_mN (σ : mS) (k i v : Nat) : mz (mN σ k i v) = mz σ := rfl
theorem mz_mL (σ : mS) (k i : Nat) (v : Int64) : mz (mL σ k i v) = mz σ := rfl
theorem mz_takes {σ : mS} {lo hi : Nat} (hv : PV σ) (h : (takesF σ lo hi).1 = true) : mz (takesF σ lo hi).2 ≤ mz σ := by
  rw [(takes_got h).2.1]
  exact Nat.le_trans (mz_nx (PV_mI hv (by decide))).1 (Nat.le_of_eq (mz_mI (by decide)))
theorem mz_puts {σ : mS} {to lo hi : Nat} (hv : PV σ) (h : (putsF σ to lo hi).1 = true) : mz (putsF σ to lo hi).2 ≤ mz σ := by
  rw [(puts_t h).2, mz_mN]
  exact mz_takes hv (puts_t h).1
theorem mz_fresh {σ : mS} {to : Nat} (hv : PV σ) (h : (freshF σ to).1 = true) : mz (freshF σ to).2 ≤ mz σ := by
  rw [(fresh_t h).1]
  exact (mz_nx (PV_mL hv)).1
theorem mz_looks {σ : mS} {fr mn : Nat} (h : (looksF σ fr mn).1 = true) : mz (looksF σ fr mn).2 = mz σ := by
  rw [(looks_t h).2.2]
  exact mz_mI (by decide)
theorem mz_takesName {σ : mS} {fr mn : Nat} (hv : PV σ) (h : (takesNameF σ fr mn).1 = true) : mz (takesNameF σ fr mn).2 ≤ mz σ := by
  rw [(takesName_t h).2]
  exact Nat.le_trans (mz_nx (PV_looks hv)).1 (Nat.le_of_eq (mz_looks (takesName_t h).1))
theorem mz_readLand {σ : mS} (hv : PV σ) (h : (readLandF σ).1 = true) : mz (readLandF σ).2 ≤ mz (nx σ) := by
  obtain ⟨h1, h2, h3, h4, e⟩ := readLand_t h
  rw [e, mz_mN]
  exact Nat.le_trans (mz_puts (PV_puts (PV_fresh (PV_nx hv))) h4) (Nat.le_trans (mz_puts (PV_fresh (PV_nx hv)) h3) (mz_fresh (PV_nx hv) h2))
theorem mz_readStore {σ : mS} (hv : PV σ) (h : (readStoreF σ).1 = true) : mz (readStoreF σ).2 ≤ mz (nx σ) := by
  obtain ⟨h1, h2, h3, e⟩ := readStore_t h
  rw [e]
  refine Nat.le_trans (mz_puts (PV_nx (PV_mI (PV_looks (PV_nx hv)) (by decide))) h3) (Nat.le_trans (mz_nx (PV_mI (PV_looks (PV_nx hv)) (by decide))).1 ?_)
  rw [mz_mI (by decide), mz_looks h1]
  exact Nat.le_refl _
theorem mz_readTreaty {σ : mS} (hv : PV σ) (h : (readTreatyF σ).1 = true) : mz (readTreatyF σ).2 ≤ mz (nx σ) := by
  obtain ⟨h1, h2, h3, h4, e⟩ := readTreaty_t h
  rw [e]
  refine Nat.le_trans (mz_nx (PV_mN (PV_looks (PV_takesName (PV_nx hv))))).1 ?_
  rw [mz_mN, mz_looks h2]
  exact mz_takesName (PV_nx hv) h1
theorem mz_readPerson {σ : mS} (hv : PV σ) (h : (readPersonF σ).1 = true) : mz (readPersonF σ).2 ≤ mz (nx σ) := by
  obtain ⟨h1, h2, h3, h4, e⟩ := readPerson_t h
  rw [e, mz_mN]
  refine Nat.le_trans (mz_puts (PV_mN (PV_takesName (PV_fresh (PV_nx hv)))) h4) ?_
  rw [mz_mN]
  exact Nat.le_trans (mz_takesName (PV_fresh (PV_nx hv)) h3) (mz_fresh (PV_nx hv) h2)
theorem mz_readRoad {σ : mS} (hv : PV σ) (h : (readRoadF σ).1 = true) : mz (readRoadF σ).2 ≤ mz (nx σ) := by
  obtain ⟨h1, h2, h3, h4, h5, h6, h7, e⟩ := readRoad_t h
  rw [e, mz_mN]
  have v1 := PV_nx (PV_mN (i := 36 + σ.2.1 7 1) (k := 7) (v := (findW (takesNameF (nx σ) 13 (σ.2.1 7 0)).2 13 (σ.2.1 7 0)).getD 0) (PV_mN (i := 24 + σ.2.1 7 1) (k := 7) (v := (findW (nx σ) 13 (σ.2.1 7 0)).getD 0) (PV_looks (fr := 13) (mn := σ.2.1 7 0) (PV_takesName (fr := 13) (mn := σ.2.1 7 0) (PV_nx hv)))))
  refine Nat.le_trans (mz_puts (PV_puts v1) h7) (Nat.le_trans (mz_puts v1 h6) (Nat.le_trans (mz_nx (PV_mN (PV_mN (PV_looks (PV_takesName (PV_nx hv)))))).1 ?_))
  rw [mz_mN, mz_mN, mz_looks h3]
  exact mz_takesName (PV_nx hv) h2
theorem isWord_p {σ : mS} {x : Int64} (h : isWordB σ x = true) : propT σ := by
  simp only [isWordB, Bool.and_eq_true, decide_eq_true_eq] at h
  exact Or.inl h.1
theorem mz_line {σ : mS} (hv : PV σ) (h : (lineF σ).1 = true) : mz (lineF σ).2 < mz σ := by
  unfold lineF at *
  split at h
  · rename_i q; rw [if_pos q]; exact Nat.lt_of_le_of_lt (mz_readLand hv h) ((mz_nx hv).2 (isWord_p q))
  · rename_i q1; rw [if_neg q1]; split at h
    · rename_i q; rw [if_pos q]; exact Nat.lt_of_le_of_lt (mz_readStore hv h) ((mz_nx hv).2 (isWord_p q))
    · rename_i q1; rw [if_neg q1]; split at h
      · rename_i q; rw [if_pos q]; exact Nat.lt_of_le_of_lt (mz_readRoad hv h) ((mz_nx hv).2 (isWord_p q))
      · rename_i q1; rw [if_neg q1]; split at h
        · rename_i q; rw [if_pos q]; exact Nat.lt_of_le_of_lt (mz_readTreaty hv h) ((mz_nx hv).2 (isWord_p q))
        · rename_i q1; rw [if_neg q1]; split at h
          · rename_i q; rw [if_pos q]; exact Nat.lt_of_le_of_lt (mz_readPerson hv h) ((mz_nx hv).2 (isWord_p q))
          · exact absurd h (by simp)

set_option maxHeartbeats 1000000 in
set_option maxRecDepth 20000 in
theorem s_line {G : xG} {d : Nat} {Q : xQ} {a : Nat → Nat} {σ : mS} (H : LV σ) (kk : Q (some (.int (bI (lineF σ).1))) (mW G.2.2.1 a (lineF σ).2)) : MT G MX12_line (d + 5) 0 0 [.ref (a 60)] (mW G.2.2.1 a σ) Q := by
  refine mt_start (L := [some (.ref (a 60))]) rfl (Nat.le_of_ble_eq_true rfl) rfl ?_
  refine aw_aload_n (pc := 0) (i := 0) dX12_line_0 rfl rfl ?_
  refine aw_ldc2 (pc := 1) dX12_line_1 tw_1381 ?_
  refine mc_I (pc := 4) (As := [.long ((1818324580 : Int64))]) (rest := []) dX12_line_4 rfl ok_X12_229 rfl rfl rfl (Nat.le_of_ble_eq_true rfl) (s_isWord ⟨_, _, rfl, rfl, ?_⟩)
  refine ab_if_eq (pc := 7) (tgt := 15) dX12_line_7 rfl (fun h7 => ?_) (fun h7 => ?_)
  · -- 15
    refine aw_aload_n (pc := 15) (i := 0) dX12_line_15 rfl rfl ?_
    refine aw_ldc2 (pc := 16) dX12_line_16 tw_1382 ?_
    refine mc_I (pc := 19) (As := [.long ((495874699877 : Int64))]) (rest := []) dX12_line_19 rfl ok_X12_229 rfl rfl rfl (Nat.le_of_ble_eq_true rfl) (s_isWord ⟨_, _, rfl, rfl, ?_⟩)
    refine ab_if_eq (pc := 22) (tgt := 30) dX12_line_22 rfl (fun h22 => ?_) (fun h22 => ?_)
    · -- 30
      refine aw_aload_n (pc := 30) (i := 0) dX12_line_30 rfl rfl ?_
      refine aw_ldc2 (pc := 31) dX12_line_31 tw_1383 ?_
      refine mc_I (pc := 34) (As := [.long ((1919902052 : Int64))]) (rest := []) dX12_line_34 rfl ok_X12_229 rfl rfl rfl (Nat.le_of_ble_eq_true rfl) (s_isWord ⟨_, _, rfl, rfl, ?_⟩)
      refine ab_if_eq (pc := 37) (tgt := 45) dX12_line_37 rfl (fun h37 => ?_) (fun h37 => ?_)
      · -- 45
        refine aw_aload_n (pc := 45) (i := 0) dX12_line_45 rfl rfl ?_
        refine aw_ldc2 (pc := 46) dX12_line_46 tw_1384 ?_
        refine mc_I (pc := 49) (As := [.long ((128034675979385 : Int64))]) (rest := []) dX12_line_49 rfl ok_X12_229 rfl rfl rfl (Nat.le_of_ble_eq_true rfl) (s_isWord ⟨_, _, rfl, rfl, ?_⟩)
        refine ab_if_eq (pc := 52) (tgt := 60) dX12_line_52 rfl (fun h52 => ?_) (fun h52 => ?_)
        · -- 60
          refine aw_aload_n (pc := 60) (i := 0) dX12_line_60 rfl rfl ?_
          refine aw_ldc2 (pc := 61) dX12_line_61 tw_1385 ?_
          refine mc_I (pc := 64) (As := [.long ((123581014175598 : Int64))]) (rest := []) dX12_line_64 rfl ok_X12_229 rfl rfl rfl (Nat.le_of_ble_eq_true rfl) (s_isWord ⟨_, _, rfl, rfl, ?_⟩)
          refine ab_if_eq (pc := 67) (tgt := 77) dX12_line_67 rfl (fun h67 => ?_) (fun h67 => ?_)
          · -- 77
            refine aw_aload_n (pc := 77) (i := 0) dX12_line_77 rfl rfl ?_
            refine aw_iconst (pc := 78) dX12_line_78 iconst_1 ?_
            refine mc_I (pc := 79) (As := [.int (nI 1)]) (rest := []) dX12_line_79 rfl ok_X12_201 rfl rfl rfl (Nat.le_of_ble_eq_true rfl) (s_bad ⟨_, _, rfl, rfl, ?_⟩)
            exact ab_ret (pc := 82) dX12_line_82 rfl (Nat.le_refl _) (Nat.le_refl _) (by simp only [lineF, h7, h22, h37, h52, h67, Bool.true_and, Bool.and_true, Bool.false_and, Bool.and_false, Bool.not_true, Bool.not_false, Bool.or_true, Bool.or_false, Bool.true_or, Bool.false_or, Bool.false_eq_true, Bool.true_eq_false, if_true, if_false, ite_true, ite_false, reduceIte, reduceCtorEq] at kk; exact kk)
          · -- 70
            refine aw_aload_n (pc := 70) (i := 0) dX12_line_70 rfl rfl ?_
            refine mc_I (pc := 71) (As := []) (rest := []) dX12_line_71 rfl ok_X12_245 rfl rfl rfl (Nat.le_of_ble_eq_true rfl) (s_readPerson H.1 H.2.1.2.1 H.2.1.2.2.1 H.2.1.2.2.2.1 ⟨_, _, rfl, rfl, ?_⟩)
            refine aw_goto (pc := 74) (tgt := 82) dX12_line_74 rfl ?_
            exact ab_ret (pc := 82) dX12_line_82 rfl (Nat.le_refl _) (Nat.le_refl _) (by simp only [lineF, h7, h22, h37, h52, h67, Bool.true_and, Bool.and_true, Bool.false_and, Bool.and_false, Bool.not_true, Bool.not_false, Bool.or_true, Bool.or_false, Bool.true_or, Bool.false_or, Bool.false_eq_true, Bool.true_eq_false, if_true, if_false, ite_true, ite_false, reduceIte, reduceCtorEq] at kk; exact kk)
        · -- 55
          refine aw_aload_n (pc := 55) (i := 0) dX12_line_55 rfl rfl ?_
          refine mc_I (pc := 56) (As := []) (rest := []) dX12_line_56 rfl ok_X12_242 rfl rfl rfl (Nat.le_of_ble_eq_true rfl) (s_readTreaty H.1 H.2.1.2.1 H.2.1.2.2.1 H.2.1.2.2.2.1 (fun l hl => H.2.1.2.2.2.2.2.2 l (Nat.lt_of_lt_of_le hl H.2.1.2.1)) ⟨_, _, rfl, rfl, ?_⟩)
          exact ab_ret (pc := 59) dX12_line_59 rfl (Nat.le_refl _) (Nat.le_refl _) (by simp only [lineF, h7, h22, h37, h52, Bool.true_and, Bool.and_true, Bool.false_and, Bool.and_false, Bool.not_true, Bool.not_false, Bool.or_true, Bool.or_false, Bool.true_or, Bool.false_or, Bool.false_eq_true, Bool.true_eq_false, if_true, if_false, ite_true, ite_false, reduceIte, reduceCtorEq] at kk; exact kk)
      · -- 40
        refine aw_aload_n (pc := 40) (i := 0) dX12_line_40 rfl rfl ?_
        refine mc_I (pc := 41) (As := []) (rest := []) dX12_line_41 rfl ok_X12_239 rfl rfl rfl (Nat.le_of_ble_eq_true rfl) (s_readRoad H.1 H.2.1.2.1 H.2.1.2.2.1 H.2.1.2.2.2.1 H.2.1.1 ⟨_, _, rfl, rfl, ?_⟩)
        exact ab_ret (pc := 44) dX12_line_44 rfl (Nat.le_refl _) (Nat.le_refl _) (by simp only [lineF, h7, h22, h37, Bool.true_and, Bool.and_true, Bool.false_and, Bool.and_false, Bool.not_true, Bool.not_false, Bool.or_true, Bool.or_false, Bool.true_or, Bool.false_or, Bool.false_eq_true, Bool.true_eq_false, if_true, if_false, ite_true, ite_false, reduceIte, reduceCtorEq] at kk; exact kk)
    · -- 25
      refine aw_aload_n (pc := 25) (i := 0) dX12_line_25 rfl rfl ?_
      refine mc_I (pc := 26) (As := []) (rest := []) dX12_line_26 rfl ok_X12_236 rfl rfl rfl (Nat.le_of_ble_eq_true rfl) (s_readStore H.1 H.2.1.2.1 H.2.1.2.2.1 H.2.1.2.2.2.1 H.2.2.1 H.2.2.2 ⟨_, _, rfl, rfl, ?_⟩)
      exact ab_ret (pc := 29) dX12_line_29 rfl (Nat.le_refl _) (Nat.le_refl _) (by simp only [lineF, h7, h22, Bool.true_and, Bool.and_true, Bool.false_and, Bool.and_false, Bool.not_true, Bool.not_false, Bool.or_true, Bool.or_false, Bool.true_or, Bool.false_or, Bool.false_eq_true, Bool.true_eq_false, if_true, if_false, ite_true, ite_false, reduceIte, reduceCtorEq] at kk; exact kk)
  · -- 10
    refine aw_aload_n (pc := 10) (i := 0) dX12_line_10 rfl rfl ?_
    refine mc_I (pc := 11) (As := []) (rest := []) dX12_line_11 rfl ok_X12_233 rfl rfl rfl (Nat.le_of_ble_eq_true rfl) (s_readLand H.1 H.2.1.2.1 H.2.1.2.2.1 H.2.1.2.2.2.1 ⟨_, _, rfl, rfl, ?_⟩)
    exact ab_ret (pc := 14) dX12_line_14 rfl (Nat.le_refl _) (Nat.le_refl _) (by simp only [lineF, h7, Bool.true_and, Bool.and_true, Bool.false_and, Bool.and_false, Bool.not_true, Bool.not_false, Bool.or_true, Bool.or_false, Bool.true_or, Bool.false_or, Bool.false_eq_true, Bool.true_eq_false, if_true, if_false, ite_true, ite_false, reduceIte, reduceCtorEq] at kk; exact kk)
set_option maxHeartbeats 1000000 in
set_option maxRecDepth 20000 in
theorem clears_loop {G : xG} {d : Nat} {Q : xQ} {a : Nat → Nat} {σ : mS} (kk : Q none (mW G.2.2.1 a (sN σ 7 (cpF (σ.2.1 7) (fun _ => 0) 0 0 91)))) : ∀ (n i : Nat), i + n = 91 → AW G MX12_clears (d) 0 0 Q 2 [some (.ref (a 60)), some (.int (nI i))] [] (mW G.2.2.1 a (sN σ 7 (cpF (σ.2.1 7) (fun _ => 0) 0 0 i))) 0 0 := by
  intro n
  induction n with
  | zero =>
    intro i hi
    refine aw_iload_n (pc := 2) (i := 1) dX12_clears_2 rfl rfl ?_
    refine aw_bipush (pc := 3) dX12_clears_3 bipush_91 ?_
    refine an_icmp_ge (pc := 5) (tgt := 21) dX12_clears_5 rfl (by omega) (by decide) (fun h5 => ?_) (fun h5 => ?_)
    · -- 21
      exact aw_vret (pc := 21) dX12_clears_21 rfl (Nat.le_refl _) (Nat.le_refl _) (by have e : i = 91 := (by omega); subst e; exact kk)
    · -- 8
      exfalso; omega
  | succ n ih =>
    intro i hi
    refine aw_iload_n (pc := 2) (i := 1) dX12_clears_2 rfl rfl ?_
    refine aw_bipush (pc := 3) dX12_clears_3 bipush_91 ?_
    refine an_icmp_ge (pc := 5) (tgt := 21) dX12_clears_5 rfl (by omega) (by decide) (fun h5 => ?_) (fun h5 => ?_)
    · -- 21
      exfalso; omega
    · -- 8
      refine aw_aload_n (pc := 8) (i := 0) dX12_clears_8 rfl rfl ?_
      refine mg_h (pc := 9) dX12_clears_9 rfl ?_
      refine aw_iload_n (pc := 12) (i := 1) dX12_clears_12 rfl rfl ?_
      refine aw_iconst (pc := 13) dX12_clears_13 iconst_0 ?_
      refine ms_h (pc := 14) dX12_clears_14 (by omega) ?_
      refine an_inc (pc := 15) (z := 1) dX12_clears_15 rfl (Nat.le_of_ble_eq_true rfl) rfl ?_
      refine aw_goto (pc := 18) (tgt := 2) dX12_clears_18 rfl ?_
      refine aw_ws (w9 := mW G.2.2.1 a (sN σ 7 (cpF (σ.2.1 7) (fun _ => 0) 0 0 (i + 1)))) (congrArg (fun z => mW G.2.2.1 a (sN σ 7 z)) (cpF_next (x := σ.2.1 7) (y := fun _ => 0) (b := 0) (o := 0) (n := i) (i := i) (v := 0) (by omega) rfl)) ?_
      exact ih (i + 1) (by omega)
set_option maxHeartbeats 1000000 in
set_option maxRecDepth 20000 in
theorem s_clears {G : xG} {d : Nat} {Q : xQ} {a : Nat → Nat} {σ : mS} (kk : Q none (mW G.2.2.1 a (sN σ 7 (cpF (σ.2.1 7) (fun _ => 0) 0 0 91)))) : MT G MX12_clears (d) 0 0 [.ref (a 60)] (mW G.2.2.1 a σ) Q := by
  refine mt_start (L := [some (.ref (a 60)), none]) rfl (Nat.le_of_ble_eq_true rfl) rfl ?_
  refine aw_iconst (pc := 0) dX12_clears_0 iconst_0 ?_
  refine aw_istore_n (pc := 1) (i := 1) dX12_clears_1 rfl (Nat.le_of_ble_eq_true rfl) rfl ?_
  refine aw_ws (w9 := mW G.2.2.1 a (sN σ 7 (cpF (σ.2.1 7) (fun _ => 0) 0 0 0))) (by rw [cpF_0]; rfl) ?_
  exact clears_loop kk 91 0 (by omega)
def mapL : Nat → mS → Bool × mS
  | 0, σ => (false, σ)
  | n + 1, σ => if σ.1 11 = nI 0 then (true, σ) else if (lineF σ).1 = true then (if (signF (lineF σ).2 59).1 = true then mapL n (mI (signF (lineF σ).2 59).2 19 ((signF (lineF σ).2 59).2.1 19 + nI 1)) else (false, (signF (lineF σ).2 59).2)) else (false, (lineF σ).2)
/-- the state as map() begins to read, n bytes on the tape -/
def mapB (σ : mS) (n : Nat) : mS := sN (mI (mI (mI (takenS (mI σ 0 (nI 0)) n 900) 15 (nI 0)) 19 (nI 0)) 20 (nI 0)) 7 (cpF (σ.2.1 7) (fun _ => 0) 0 0 91)
def sL (σ : mS) (k : Nat) (u : Nat → Int64) : mS := (σ.1, σ.2.1, σ.2.2.1, σ.2.2.2.1, upN σ.2.2.2.2 k u)
def cpG {α : Type} (x y : Nat → α) (b o n : Nat) : Nat → α := fun j => if b ≤ j ∧ j < b + n then y (o + (j - b)) else x j
theorem cpG_0 {α : Type} (x y : Nat → α) (b o : Nat) : cpG x y b o 0 = x := by
  funext j
  unfold cpG
  rw [if_neg (by omega)]
theorem cpG_next {α : Type} {x y : Nat → α} {b o n i : Nat} {v : α} (hi : i = b + n) (hv : v = y (o + n)) : upN (cpG x y b o n) i v = cpG x y b o (n + 1) := by
  subst hi
  subst hv
  funext j
  unfold upN cpG
  by_cases h : j = b + n
  · rw [if_pos h, if_pos (by omega), h, Nat.add_sub_cancel_left]
  · rw [if_neg h]
    by_cases h2 : b ≤ j ∧ j < b + n
    · rw [if_pos h2, if_pos (by omega)]
    · rw [if_neg h2, if_neg (by omega)]
theorem cpG_out {α : Type} {x y : Nat → α} {b o n j : Nat} (h : ¬ (b ≤ j ∧ j < b + n)) : cpG x y b o n j = x j := if_neg h
def mp1 (t h : Nat → Nat) (i : Nat) : Nat → Nat := fun j => if j < i then (if j < 91 then h j else 0) else t j
def mp3 (t : Nat → Nat) (i : Nat) : Nat → Nat := fun j => if 94 ≤ j ∧ j < 94 + i then t (17 + (j - 94)) else if 101 ≤ j ∧ j < 101 + i then t (72 + (j - 101)) else t j
def mp4 (t : Nat → Nat) (i : Nat) : Nat → Nat := fun j => if 108 ≤ j ∧ j < 108 + i then t (79 + (j - 108)) else if 114 ≤ j ∧ j < 114 + i then t (85 + (j - 114)) else t j
theorem mp1_next (t h : Nat → Nat) (i : Nat) : upN (mp1 t h i) i (if i < 91 then h i else 0) = mp1 t h (i + 1) := by
  funext j
  unfold upN mp1
  by_cases e : j = i
  · subst e; rw [if_pos rfl, if_pos (show j < j + 1 by omega)]
  · rw [if_neg e]
    by_cases e2 : j < i
    · rw [if_pos e2, if_pos (show j < i + 1 by omega)]
    · rw [if_neg e2, if_neg (show ¬ j < i + 1 by omega)]
theorem mp3_0 (t : Nat → Nat) : mp3 t 0 = t := by funext j; unfold mp3; rw [if_neg (by omega), if_neg (by omega)]
theorem mp4_0 (t : Nat → Nat) : mp4 t 0 = t := by funext j; unfold mp4; rw [if_neg (by omega), if_neg (by omega)]
theorem mp1_0 (t h : Nat → Nat) : mp1 t h 0 = t := by funext j; unfold mp1; rw [if_neg (by omega)]
theorem mp3_next {t : Nat → Nat} {i : Nat} (hi : i < 7) : upN (upN (mp3 t i) (94 + i) (t (17 + i))) (101 + i) (t (72 + i)) = mp3 t (i + 1) := by
  funext j
  unfold upN mp3
  repeat' split
  all_goals first | rfl | omega | (congr 1; omega)
theorem mp4_next {t : Nat → Nat} {i : Nat} (hi : i < 6) : upN (upN (mp4 t i) (108 + i) (t (79 + i))) (114 + i) (t (85 + i)) = mp4 t (i + 1) := by
  funext j
  unfold upN mp4
  repeat' split
  all_goals first | rfl | omega | (congr 1; omega)
theorem mp3_lo {t : Nat → Nat} {i j : Nat} (h : j < 94) : mp3 t i j = t j := by
  unfold mp3
  rw [if_neg (by omega), if_neg (by omega)]
theorem mp4_lo {t : Nat → Nat} {i j : Nat} (h : j < 108) : mp4 t i j = t j := by
  unfold mp4
  rw [if_neg (by omega), if_neg (by omega)]
def mapT (t h : Nat → Nat) : Nat → Nat := mp4 (mp3 (mp1 t h 319) 7) 6
/-- map() at its good end -/
def mapE (σ : mS) : mS := mI (sN (sL σ 9 (cpG (σ.2.2.2.2 9) (σ.2.2.2.2 9) 0 13 13)) 6 (mapT (σ.2.1 6) (σ.2.1 7))) 23 (nI 0)
def mapR (σ : mS) (n : Nat) : Bool × mS := mapL 2000 (nx (mapB σ n))
def mapA (σ : mS) (n : Nat) : Int32 := if (mapR σ n).1 = true then (mapR σ n).2.1 19 else -1 - (mapR σ n).2.1 16
def mapS (σ : mS) (n : Nat) : mS := if (mapR σ n).1 = true then mapE (mapR σ n).2 else (mapR σ n).2
set_option maxHeartbeats 1000000 in
set_option maxRecDepth 20000 in
theorem map_l4 {G : xG} {d : Nat} {Q : xQ} {a : Nat → Nat} {σ : mS} (kk : Q (some (.int (σ.1 19))) (mW G.2.2.1 a (mI (sN σ 6 (mp4 (σ.2.1 6) 6)) 23 (nI 0)))) : ∀ (n i : Nat), i + n = 6 → AW G MX12_map (d) 0 0 Q 196 [some (.ref (a 60)), some (.int (nI i))] [] (mW G.2.2.1 a (sN σ 6 (mp4 (σ.2.1 6) i))) 0 0 := by
  intro n
  induction n with
  | zero =>
    intro i hi
    refine aw_iload_n (pc := 196) (i := 1) dX12_map_196 rfl rfl ?_
    refine aw_bipush (pc := 197) dX12_map_197 bipush_6 ?_
    refine an_icmp_ge (pc := 199) (tgt := 244) dX12_map_199 rfl (by omega) (by decide) (fun h199 => ?_) (fun h199 => ?_)
    · -- 244
      refine aw_aload_n (pc := 244) (i := 0) dX12_map_244 rfl rfl ?_
      refine aw_iconst (pc := 245) dX12_map_245 iconst_0 ?_
      refine mp_undoMany (pc := 246) dX12_map_246 rfl ?_
      refine aw_aload_n (pc := 249) (i := 0) dX12_map_249 rfl rfl ?_
      refine mg_lines (pc := 250) dX12_map_250 rfl ?_
      refine aw_top (y := (sN σ 6 (mp4 (σ.2.1 6) i)).1 19) rfl ?_
      exact aw_iret (pc := 253) dX12_map_253 rfl (Nat.le_refl _) (Nat.le_refl _) (by have e : i = 6 := (by omega); subst e; exact kk)
    · -- 202
      exfalso; omega
  | succ n ih =>
    intro i hi
    refine aw_iload_n (pc := 196) (i := 1) dX12_map_196 rfl rfl ?_
    refine aw_bipush (pc := 197) dX12_map_197 bipush_6 ?_
    refine an_icmp_ge (pc := 199) (tgt := 244) dX12_map_199 rfl (by omega) (by decide) (fun h199 => ?_) (fun h199 => ?_)
    · -- 244
      exfalso; omega
    · -- 202
      refine aw_aload_n (pc := 202) (i := 0) dX12_map_202 rfl rfl ?_
      refine mg_s (pc := 203) dX12_map_203 rfl ?_
      refine aw_bipush (pc := 206) dX12_map_206 bipush_108 ?_
      refine aw_iload_n (pc := 208) (i := 1) dX12_map_208 rfl rfl ?_
      refine an_add (pc := 209) dX12_map_209 ?_
      refine aw_aload_n (pc := 210) (i := 0) dX12_map_210 rfl rfl ?_
      refine mg_s (pc := 211) dX12_map_211 rfl ?_
      refine aw_bipush (pc := 214) dX12_map_214 bipush_79 ?_
      refine aw_iload_n (pc := 216) (i := 1) dX12_map_216 rfl rfl ?_
      refine an_add (pc := 217) dX12_map_217 ?_
      refine ml_s (pc := 218) dX12_map_218 (by omega) ?_
      refine aw_top (y := (nI ((mp4 (σ.2.1 6) i) (79 + i)))) rfl ?_
      refine aw_top (y := (nI (σ.2.1 6 (79 + i)))) (congrArg nI (mp4_lo (by omega))) ?_
      refine ms_s (pc := 219) dX12_map_219 (by omega) ?_
      refine aw_aload_n (pc := 220) (i := 0) dX12_map_220 rfl rfl ?_
      refine mg_s (pc := 221) dX12_map_221 rfl ?_
      refine aw_bipush (pc := 224) dX12_map_224 bipush_114 ?_
      refine aw_iload_n (pc := 226) (i := 1) dX12_map_226 rfl rfl ?_
      refine an_add (pc := 227) dX12_map_227 ?_
      refine aw_aload_n (pc := 228) (i := 0) dX12_map_228 rfl rfl ?_
      refine mg_s (pc := 229) dX12_map_229 rfl ?_
      refine aw_bipush (pc := 232) dX12_map_232 bipush_85 ?_
      refine aw_iload_n (pc := 234) (i := 1) dX12_map_234 rfl rfl ?_
      refine an_add (pc := 235) dX12_map_235 ?_
      refine ml_s (pc := 236) dX12_map_236 (by omega) ?_
      refine aw_top (y := (nI ((mp4 (σ.2.1 6) i) (85 + i)))) (congrArg nI (upN_n _ _ _ _ (by omega))) ?_
      refine aw_top (y := (nI (σ.2.1 6 (85 + i)))) (congrArg nI (mp4_lo (by omega))) ?_
      refine ms_s (pc := 237) dX12_map_237 (by omega) ?_
      refine an_inc (pc := 238) (z := 1) dX12_map_238 rfl (Nat.le_of_ble_eq_true rfl) rfl ?_
      refine aw_goto (pc := 241) (tgt := 196) dX12_map_241 rfl ?_
      refine aw_ws (w9 := mW G.2.2.1 a (sN σ 6 (mp4 (σ.2.1 6) (i + 1)))) (congrArg (fun z => mW G.2.2.1 a (sN σ 6 z)) (mp4_next (by omega))) ?_
      exact ih (i + 1) (by omega)
set_option maxHeartbeats 1000000 in
set_option maxRecDepth 20000 in
theorem map_l3 {G : xG} {d : Nat} {Q : xQ} {a : Nat → Nat} {σ : mS} (kk : Q (some (.int (σ.1 19))) (mW G.2.2.1 a (mI (sN σ 6 (mp4 (mp3 (σ.2.1 6) 7) 6)) 23 (nI 0)))) : ∀ (n i : Nat), i + n = 7 → AW G MX12_map (d) 0 0 Q 146 [some (.ref (a 60)), some (.int (nI i))] [] (mW G.2.2.1 a (sN σ 6 (mp3 (σ.2.1 6) i))) 0 0 := by
  intro n
  induction n with
  | zero =>
    intro i hi
    refine aw_iload_n (pc := 146) (i := 1) dX12_map_146 rfl rfl ?_
    refine aw_bipush (pc := 147) dX12_map_147 bipush_7 ?_
    refine an_icmp_ge (pc := 149) (tgt := 194) dX12_map_149 rfl (by omega) (by decide) (fun h149 => ?_) (fun h149 => ?_)
    · -- 194
      refine aw_iconst (pc := 194) dX12_map_194 iconst_0 ?_
      refine aw_istore_n (pc := 195) (i := 1) dX12_map_195 rfl (Nat.le_of_ble_eq_true rfl) rfl ?_
      have e : i = 7 := by omega
      subst e
      refine aw_ws (w9 := mW G.2.2.1 a (sN (sN σ 6 (mp3 (σ.2.1 6) 7)) 6 (mp4 (mp3 (σ.2.1 6) 7) 0))) (by rw [mp4_0]; rfl) ?_
      exact map_l4 (σ := sN σ 6 (mp3 (σ.2.1 6) 7)) kk 6 0 (by omega)
    · -- 152
      exfalso; omega
  | succ n ih =>
    intro i hi
    refine aw_iload_n (pc := 146) (i := 1) dX12_map_146 rfl rfl ?_
    refine aw_bipush (pc := 147) dX12_map_147 bipush_7 ?_
    refine an_icmp_ge (pc := 149) (tgt := 194) dX12_map_149 rfl (by omega) (by decide) (fun h149 => ?_) (fun h149 => ?_)
    · -- 194
      exfalso; omega
    · -- 152
      refine aw_aload_n (pc := 152) (i := 0) dX12_map_152 rfl rfl ?_
      refine mg_s (pc := 153) dX12_map_153 rfl ?_
      refine aw_bipush (pc := 156) dX12_map_156 bipush_94 ?_
      refine aw_iload_n (pc := 158) (i := 1) dX12_map_158 rfl rfl ?_
      refine an_add (pc := 159) dX12_map_159 ?_
      refine aw_aload_n (pc := 160) (i := 0) dX12_map_160 rfl rfl ?_
      refine mg_s (pc := 161) dX12_map_161 rfl ?_
      refine aw_bipush (pc := 164) dX12_map_164 bipush_17 ?_
      refine aw_iload_n (pc := 166) (i := 1) dX12_map_166 rfl rfl ?_
      refine an_add (pc := 167) dX12_map_167 ?_
      refine ml_s (pc := 168) dX12_map_168 (by omega) ?_
      refine aw_top (y := (nI ((mp3 (σ.2.1 6) i) (17 + i)))) rfl ?_
      refine aw_top (y := (nI (σ.2.1 6 (17 + i)))) (congrArg nI (mp3_lo (by omega))) ?_
      refine ms_s (pc := 169) dX12_map_169 (by omega) ?_
      refine aw_aload_n (pc := 170) (i := 0) dX12_map_170 rfl rfl ?_
      refine mg_s (pc := 171) dX12_map_171 rfl ?_
      refine aw_bipush (pc := 174) dX12_map_174 bipush_101 ?_
      refine aw_iload_n (pc := 176) (i := 1) dX12_map_176 rfl rfl ?_
      refine an_add (pc := 177) dX12_map_177 ?_
      refine aw_aload_n (pc := 178) (i := 0) dX12_map_178 rfl rfl ?_
      refine mg_s (pc := 179) dX12_map_179 rfl ?_
      refine aw_bipush (pc := 182) dX12_map_182 bipush_72 ?_
      refine aw_iload_n (pc := 184) (i := 1) dX12_map_184 rfl rfl ?_
      refine an_add (pc := 185) dX12_map_185 ?_
      refine ml_s (pc := 186) dX12_map_186 (by omega) ?_
      refine aw_top (y := (nI ((mp3 (σ.2.1 6) i) (72 + i)))) (congrArg nI (upN_n _ _ _ _ (by omega))) ?_
      refine aw_top (y := (nI (σ.2.1 6 (72 + i)))) (congrArg nI (mp3_lo (by omega))) ?_
      refine ms_s (pc := 187) dX12_map_187 (by omega) ?_
      refine an_inc (pc := 188) (z := 1) dX12_map_188 rfl (Nat.le_of_ble_eq_true rfl) rfl ?_
      refine aw_goto (pc := 191) (tgt := 146) dX12_map_191 rfl ?_
      refine aw_ws (w9 := mW G.2.2.1 a (sN σ 6 (mp3 (σ.2.1 6) (i + 1)))) (congrArg (fun z => mW G.2.2.1 a (sN σ 6 z)) (mp3_next (by omega))) ?_
      exact ih (i + 1) (by omega)
set_option maxHeartbeats 1000000 in
set_option maxRecDepth 20000 in
theorem map_l2 {G : xG} {d : Nat} {Q : xQ} {a : Nat → Nat} {σ : mS} (kk : Q (some (.int (σ.1 19))) (mW G.2.2.1 a (mI (sN (sL σ 9 (cpG (σ.2.2.2.2 9) (σ.2.2.2.2 9) 0 13 13)) 6 (mp4 (mp3 (σ.2.1 6) 7) 6)) 23 (nI 0)))) : ∀ (n i : Nat), i + n = 13 → AW G MX12_map (d) 0 0 Q 117 [some (.ref (a 60)), some (.int (nI i))] [] (mW G.2.2.1 a (sL σ 9 (cpG (σ.2.2.2.2 9) (σ.2.2.2.2 9) 0 13 i))) 0 0 := by
  intro n
  induction n with
  | zero =>
    intro i hi
    refine aw_iload_n (pc := 117) (i := 1) dX12_map_117 rfl rfl ?_
    refine aw_bipush (pc := 118) dX12_map_118 bipush_13 ?_
    refine an_icmp_ge (pc := 120) (tgt := 144) dX12_map_120 rfl (by omega) (by decide) (fun h120 => ?_) (fun h120 => ?_)
    · -- 144
      refine aw_iconst (pc := 144) dX12_map_144 iconst_0 ?_
      refine aw_istore_n (pc := 145) (i := 1) dX12_map_145 rfl (Nat.le_of_ble_eq_true rfl) rfl ?_
      have e : i = 13 := by omega
      subst e
      refine aw_ws (w9 := mW G.2.2.1 a (sN (sL σ 9 (cpG (σ.2.2.2.2 9) (σ.2.2.2.2 9) 0 13 13)) 6 (mp3 (σ.2.1 6) 0))) (congrArg (fun z => mW G.2.2.1 a (sN (sL σ 9 (cpG (σ.2.2.2.2 9) (σ.2.2.2.2 9) 0 13 13)) 6 z)) (show σ.2.1 6 = mp3 (σ.2.1 6) 0 by funext j; unfold mp3; rw [if_neg (by omega), if_neg (by omega)])) ?_
      exact map_l3 (σ := sL σ 9 (cpG (σ.2.2.2.2 9) (σ.2.2.2.2 9) 0 13 13)) kk 7 0 (by omega)
    · -- 123
      exfalso; omega
  | succ n ih =>
    intro i hi
    refine aw_iload_n (pc := 117) (i := 1) dX12_map_117 rfl rfl ?_
    refine aw_bipush (pc := 118) dX12_map_118 bipush_13 ?_
    refine an_icmp_ge (pc := 120) (tgt := 144) dX12_map_120 rfl (by omega) (by decide) (fun h120 => ?_) (fun h120 => ?_)
    · -- 144
      exfalso; omega
    · -- 123
      refine aw_aload_n (pc := 123) (i := 0) dX12_map_123 rfl rfl ?_
      refine mg_names (pc := 124) dX12_map_124 rfl ?_
      refine aw_iload_n (pc := 127) (i := 1) dX12_map_127 rfl rfl ?_
      refine aw_aload_n (pc := 128) (i := 0) dX12_map_128 rfl rfl ?_
      refine mg_names (pc := 129) dX12_map_129 rfl ?_
      refine aw_bipush (pc := 132) dX12_map_132 bipush_13 ?_
      refine aw_iload_n (pc := 134) (i := 1) dX12_map_134 rfl rfl ?_
      refine an_add (pc := 135) dX12_map_135 ?_
      refine ml_names (pc := 136) dX12_map_136 (by omega) ?_
      refine aw_topJ (y := (cpG (σ.2.2.2.2 9) (σ.2.2.2.2 9) 0 13 i) (13 + i)) rfl ?_
      refine aw_topJ (y := σ.2.2.2.2 9 (13 + i)) (cpG_out (by omega)) ?_
      refine ms_names (pc := 137) dX12_map_137 (by omega) ?_
      refine an_inc (pc := 138) (z := 1) dX12_map_138 rfl (Nat.le_of_ble_eq_true rfl) rfl ?_
      refine aw_goto (pc := 141) (tgt := 117) dX12_map_141 rfl ?_
      refine aw_ws (w9 := mW G.2.2.1 a (sL σ 9 (cpG (σ.2.2.2.2 9) (σ.2.2.2.2 9) 0 13 (i + 1)))) (congrArg (fun z => mW G.2.2.1 a (sL σ 9 z)) (cpG_next (by omega) rfl)) ?_
      exact ih (i + 1) (by omega)
set_option maxHeartbeats 1000000 in
set_option maxRecDepth 20000 in
theorem map_l1 {G : xG} {d : Nat} {Q : xQ} {a : Nat → Nat} {σ : mS} (kk : Q (some (.int (σ.1 19))) (mW G.2.2.1 a (mapE σ))) : ∀ (n i : Nat), i + n = 319 → AW G MX12_map (d) 0 0 Q 80 [some (.ref (a 60)), some (.int (nI i))] [] (mW G.2.2.1 a (sN σ 6 (mp1 (σ.2.1 6) (σ.2.1 7) i))) 0 0 := by
  intro n
  induction n with
  | zero =>
    intro i hi
    refine aw_iload_n (pc := 80) (i := 1) dX12_map_80 rfl rfl ?_
    refine aw_sipush (pc := 81) dX12_map_81 sipush_319 ?_
    refine an_icmp_ge (pc := 84) (tgt := 115) dX12_map_84 rfl (by omega) (by decide) (fun h84 => ?_) (fun h84 => ?_)
    · -- 115
      refine aw_iconst (pc := 115) dX12_map_115 iconst_0 ?_
      refine aw_istore_n (pc := 116) (i := 1) dX12_map_116 rfl (Nat.le_of_ble_eq_true rfl) rfl ?_
      have e : i = 319 := by omega
      subst e
      refine aw_ws (w9 := mW G.2.2.1 a (sL (sN σ 6 (mp1 (σ.2.1 6) (σ.2.1 7) 319)) 9 (cpG (σ.2.2.2.2 9) (σ.2.2.2.2 9) 0 13 0))) (congrArg (fun z => mW G.2.2.1 a (sL (sN σ 6 (mp1 (σ.2.1 6) (σ.2.1 7) 319)) 9 z)) (cpG_0 _ _ _ _).symm) ?_
      exact map_l2 (σ := sN σ 6 (mp1 (σ.2.1 6) (σ.2.1 7) 319)) kk 13 0 (by omega)
    · -- 87
      exfalso; omega
  | succ n ih =>
    intro i hi
    refine aw_iload_n (pc := 80) (i := 1) dX12_map_80 rfl rfl ?_
    refine aw_sipush (pc := 81) dX12_map_81 sipush_319 ?_
    refine an_icmp_ge (pc := 84) (tgt := 115) dX12_map_84 rfl (by omega) (by decide) (fun h84 => ?_) (fun h84 => ?_)
    · -- 115
      exfalso; omega
    · -- 87
      refine aw_aload_n (pc := 87) (i := 0) dX12_map_87 rfl rfl ?_
      refine mg_s (pc := 88) dX12_map_88 rfl ?_
      refine aw_iload_n (pc := 91) (i := 1) dX12_map_91 rfl rfl ?_
      refine aw_iload_n (pc := 92) (i := 1) dX12_map_92 rfl rfl ?_
      refine aw_bipush (pc := 93) dX12_map_93 bipush_91 ?_
      refine an_icmp_ge (pc := 95) (tgt := 107) dX12_map_95 rfl (by omega) (by decide) (fun h95 => ?_) (fun h95 => ?_)
      · -- 107
        refine aw_iconst (pc := 107) dX12_map_107 iconst_0 ?_
        refine ms_s (pc := 108) dX12_map_108 (by omega) ?_
        refine an_inc (pc := 109) (z := 1) dX12_map_109 rfl (Nat.le_of_ble_eq_true rfl) rfl ?_
        refine aw_goto (pc := 112) (tgt := 80) dX12_map_112 rfl ?_
        refine aw_ws (w9 := mW G.2.2.1 a (sN σ 6 (mp1 (σ.2.1 6) (σ.2.1 7) (i + 1)))) (congrArg (fun z => mW G.2.2.1 a (sN σ 6 z)) (by rw [← mp1_next, if_neg (by omega)]; rfl)) ?_
        exact ih (i + 1) (by omega)
      · -- 98
        refine aw_aload_n (pc := 98) (i := 0) dX12_map_98 rfl rfl ?_
        refine mg_h (pc := 99) dX12_map_99 rfl ?_
        refine aw_iload_n (pc := 102) (i := 1) dX12_map_102 rfl rfl ?_
        refine ml_h (pc := 103) dX12_map_103 (by omega) ?_
        refine aw_top (y := (nI (σ.2.1 7 i))) rfl ?_
        refine aw_goto (pc := 104) (tgt := 108) dX12_map_104 rfl ?_
        refine ms_s (pc := 108) dX12_map_108 (by omega) ?_
        refine an_inc (pc := 109) (z := 1) dX12_map_109 rfl (Nat.le_of_ble_eq_true rfl) rfl ?_
        refine aw_goto (pc := 112) (tgt := 80) dX12_map_112 rfl ?_
        refine aw_ws (w9 := mW G.2.2.1 a (sN σ 6 (mp1 (σ.2.1 6) (σ.2.1 7) (i + 1)))) (congrArg (fun z => mW G.2.2.1 a (sN σ 6 z)) (by rw [← mp1_next, if_pos (by omega)]; rfl)) ?_
        exact ih (i + 1) (by omega)
set_option maxHeartbeats 1000000 in
set_option maxRecDepth 20000 in
theorem map_read {G : xG} {d : Nat} {Q : xQ} {a : Nat → Nat} : ∀ (n : Nat) (σ : mS), LV σ → mz σ < n → ((mapL n σ).1 = true → Q (some (.int ((mapL n σ).2.1 19))) (mW G.2.2.1 a (mapE (mapL n σ).2))) → ((mapL n σ).1 = false → Q (some (.int (-1 - (mapL n σ).2.1 16))) (mW G.2.2.1 a (mapL n σ).2)) → AW G MX12_map (d + 6) 0 0 Q 35 [some (.ref (a 60)), none] [] (mW G.2.2.1 a σ) 0 0 := by
  intro n
  induction n with
  | zero => intro σ _ h; exact absurd h (Nat.not_lt_zero _)
  | succ n ih =>
    intro σ H hz k1 k0
    refine aw_aload_n (pc := 35) (i := 0) dX12_map_35 rfl rfl ?_
    refine mg_token (pc := 36) dX12_map_36 rfl ?_
    refine aw_if_eq (pc := 39) (tgt := 78) dX12_map_39 rfl (fun h39 => ?_) (fun h39 => ?_)
    · -- 78
      refine aw_iconst (pc := 78) dX12_map_78 iconst_0 ?_
      refine aw_istore_n (pc := 79) (i := 1) dX12_map_79 rfl (Nat.le_of_ble_eq_true rfl) rfl ?_
      rw [mapL, if_pos (show σ.1 11 = nI 0 from h39)] at k1
      refine aw_ws (w9 := mW G.2.2.1 a (sN σ 6 (mp1 (σ.2.1 6) (σ.2.1 7) 0))) (by rw [mp1_0]; rfl) ?_
      exact map_l1 (k1 rfl) 319 0 (by omega)
    · -- 42
      refine aw_aload_n (pc := 42) (i := 0) dX12_map_42 rfl rfl ?_
      refine mc_I (pc := 43) (As := []) (rest := []) dX12_map_43 rfl ok_X12_269 rfl rfl rfl (Nat.le_of_ble_eq_true rfl) (s_line H ⟨_, _, rfl, rfl, ?_⟩)
      refine ab_if_eq (pc := 46) (tgt := 58) dX12_map_46 rfl (fun h46 => ?_) (fun h46 => ?_)
      · -- 58
        refine aw_iconst (pc := 58) dX12_map_58 iconst_m1 ?_
        refine aw_aload_n (pc := 59) (i := 0) dX12_map_59 rfl rfl ?_
        refine mg_faultAt (pc := 60) dX12_map_60 rfl ?_
        refine aw_isub (pc := 63) dX12_map_63 ?_
        exact aw_iret (pc := 64) dX12_map_64 rfl (Nat.le_refl _) (Nat.le_refl _) (by rw [mapL, if_neg (show ¬ σ.1 11 = nI 0 from h39), if_neg (by rw [h46]; decide)] at k0; exact k0 rfl)
      · -- 49
        refine aw_aload_n (pc := 49) (i := 0) dX12_map_49 rfl rfl ?_
        refine aw_bipush (pc := 50) dX12_map_50 bipush_59 ?_
        refine mc_I (pc := 52) (As := [.int (nI 59)]) (rest := []) dX12_map_52 rfl ok_X12_272 rfl rfl rfl (Nat.le_of_ble_eq_true rfl) (s_sign (LV_line H h46).1 ⟨_, _, rfl, rfl, ?_⟩)
        refine ab_if_ne (pc := 55) (tgt := 65) dX12_map_55 rfl (fun h55 => ?_) (fun h55 => ?_)
        · -- 65
          refine aw_aload_n (pc := 65) (i := 0) dX12_map_65 rfl rfl ?_
          refine aw_dup (pc := 66) dX12_map_66 rfl ?_
          refine mg_lines (pc := 67) dX12_map_67 rfl ?_
          refine aw_iconst (pc := 70) dX12_map_70 iconst_1 ?_
          refine aw_iadd (pc := 71) dX12_map_71 ?_
          refine mp_lines (pc := 72) dX12_map_72 rfl ?_
          refine aw_goto (pc := 75) (tgt := 35) dX12_map_75 rfl ?_
          rw [mapL, if_neg (show ¬ σ.1 11 = nI 0 from h39), if_pos h46, if_pos h55] at k1 k0
          exact ih _ (LV_mI (LV_sign (LV_line H h46) h55) (by decide) (by decide)) (by rw [mz_mI (by decide), (sign_t h55).2]; have := mz_line H.1 h46; have := (mz_nx (LV_line H h46).1).1; omega) k1 k0
        · -- 58
          refine aw_iconst (pc := 58) dX12_map_58 iconst_m1 ?_
          refine aw_aload_n (pc := 59) (i := 0) dX12_map_59 rfl rfl ?_
          refine mg_faultAt (pc := 60) dX12_map_60 rfl ?_
          refine aw_isub (pc := 63) dX12_map_63 ?_
          exact aw_iret (pc := 64) dX12_map_64 rfl (Nat.le_refl _) (Nat.le_refl _) (by rw [mapL, if_neg (show ¬ σ.1 11 = nI 0 from h39), if_pos h46, if_neg (by rw [h55]; decide)] at k0; exact k0 rfl)
theorem PV_mapB {σ : mS} {n : Nat} (hn : n ≤ 940) (hm : ∃ nm, σ.1 14 = nI nm ∧ nm < 2 ^ 30) (ht : ∃ tk, σ.1 11 = nI tk ∧ tk ≤ 4) (ha : ∃ z, σ.1 12 = nI z ∧ z ≤ 940) : PV (mapB σ n) := by
  obtain ⟨nm, h14, hnm⟩ := hm
  obtain ⟨tk, h11, htk⟩ := ht
  obtain ⟨z, h12, hz⟩ := ha
  exact ⟨n, 900, 0, nm, tk, z, rfl, hn, rfl, by decide, rfl, Nat.zero_le _, h14, hnm, h11, htk, h12, hz⟩
theorem MH_0 (h : Nat → Nat) (hb : ∀ j, h j < 2 ^ 30) : MH (cpF h (fun _ => 0) 0 0 91) := by
  have e : ∀ j, j < 91 → cpF h (fun _ => 0) 0 0 91 j = 0 := fun j hj => cpF_in (by omega)
  refine ⟨fun j => ?_, by rw [e 0 (by omega)]; omega, by rw [e 1 (by omega)]; omega, by rw [e 2 (by omega)]; omega, fun r hr => ?_, fun q hq => ?_, fun l hl => by rw [e _ (by omega)]; omega⟩
  · unfold cpF
    split
    · exact (by decide : 0 < 2 ^ 30)
    · exact hb j
  · rw [e 1 (by omega)] at hr; omega
  · rw [e 2 (by omega)] at hq; omega
theorem LV_mapB {σ : mS} {n : Nat} (hv : PV (mapB σ n)) (hb : ∀ j, σ.2.1 7 j < 2 ^ 30) : LV (mapB σ n) := ⟨hv, MH_0 _ hb, rfl, (by decide : (nI 0).toNatClampNeg < 128)⟩
theorem mz_lt {σ : mS} (h : PV σ) : mz σ < 2000 := by
  obtain ⟨s, lim, p, nm, tk, at', h3, hs, h5, hl, h4, hp, -⟩ := h
  unfold mz
  rw [h3, h4, nI_clamp (by omega), nI_clamp (by omega)]
  split <;> omega
set_option maxHeartbeats 1000000 in
set_option maxRecDepth 20000 in
theorem s_map {G : xG} {d : Nat} {Q : xQ} {a : Nat → Nat} {σ : mS} {n : Nat} (hn : σ.1 2 = nI n) (hn9 : n ≤ 940) (hm : ∃ nm, σ.1 14 = nI nm ∧ nm < 2 ^ 30) (ht : ∃ tk, σ.1 11 = nI tk ∧ tk ≤ 4) (ha : ∃ z, σ.1 12 = nI z ∧ z ≤ 940) (hb : ∀ j, σ.2.1 7 j < 2 ^ 30) (kk : Q (some (.int (mapA σ n))) (mW G.2.2.1 a (mapS σ n))) : MT G MX12_map (d + 6) 0 0 [.ref (a 60)] (mW G.2.2.1 a σ) Q := by
  have hv := PV_mapB hn9 hm ht ha
  have H := LV_nx (LV_mapB hv hb)
  refine mt_start (L := [some (.ref (a 60)), none]) rfl (Nat.le_of_ble_eq_true rfl) rfl ?_
  refine aw_aload_n (pc := 0) (i := 0) dX12_map_0 rfl rfl ?_
  refine aw_iconst (pc := 1) dX12_map_1 iconst_0 ?_
  refine mp_thrown (pc := 2) dX12_map_2 rfl ?_
  refine aw_aload_n (pc := 5) (i := 0) dX12_map_5 rfl rfl ?_
  refine aw_sipush (pc := 6) dX12_map_6 sipush_900 ?_
  refine mc_V (pc := 9) (As := [.int (nI 900)]) (rest := []) dX12_map_9 rfl ok_X12_263 rfl rfl rfl (Nat.le_of_ble_eq_true rfl) (s_taken hn ⟨_, rfl, rfl, ?_⟩)
  refine aw_aload_n (pc := 12) (i := 0) dX12_map_12 rfl rfl ?_
  refine aw_iconst (pc := 13) dX12_map_13 iconst_0 ?_
  refine mp_fault (pc := 14) dX12_map_14 rfl ?_
  refine aw_aload_n (pc := 17) (i := 0) dX12_map_17 rfl rfl ?_
  refine aw_iconst (pc := 18) dX12_map_18 iconst_0 ?_
  refine mp_lines (pc := 19) dX12_map_19 rfl ?_
  refine aw_aload_n (pc := 22) (i := 0) dX12_map_22 rfl rfl ?_
  refine aw_iconst (pc := 23) dX12_map_23 iconst_0 ?_
  refine mp_stored (pc := 24) dX12_map_24 rfl ?_
  refine aw_aload_n (pc := 27) (i := 0) dX12_map_27 rfl rfl ?_
  refine mc_V (pc := 28) (As := []) (rest := []) dX12_map_28 rfl ok_X12_162 rfl rfl rfl (Nat.le_of_ble_eq_true rfl) (s_clears ⟨_, rfl, rfl, ?_⟩)
  refine aw_aload_n (pc := 31) (i := 0) dX12_map_31 rfl rfl ?_
  refine mc_V (pc := 32) (As := []) (rest := []) dX12_map_32 rfl ok_X12_204 rfl rfl rfl (Nat.le_of_ble_eq_true rfl) (s_nx hv ⟨_, rfl, rfl, ?_⟩)
  refine map_read 2000 (nx (mapB σ n)) H (mz_lt H.1) (fun h => ?_) (fun h => ?_)
  · rw [mapA, mapS, mapR, if_pos h, if_pos h] at kk; exact kk
  · rw [mapA, mapS, mapR, if_neg (by rw [h]; decide), if_neg (by rw [h]; decide)] at kk; exact kk
