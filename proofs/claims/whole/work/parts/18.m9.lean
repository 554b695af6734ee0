/-- the state behind next(), its arrays as they were -/
def nxG (σ : mS) : mS := nextS σ (σ.1 3).toNatClampNeg (σ.1 5).toNatClampNeg (σ.1 4).toNatClampNeg
def nx (σ : mS) : mS := ((nxG σ).1, σ.2.1, σ.2.2.1, (nxG σ).2.2.2.1, σ.2.2.2.2)
theorem nextS_arr (σ : mS) (s lim p : Nat) : nextS σ s lim p = ((nextS σ s lim p).1, σ.2.1, σ.2.2.1, (nextS σ s lim p).2.2.2.1, σ.2.2.2.2) := by
  unfold nextS nextG
  repeat' split
  all_goals rfl
theorem nx_eq (σ : mS) : nxG σ = nx σ := nextS_arr σ _ _ _
theorem nextS_sc (σ : mS) (s lim p k : Nat) (hk : ¬ k = 4 ∧ ¬ k = 11 ∧ ¬ k = 12 ∧ ¬ k = 13 ∧ ¬ k = 14) : (nextS σ s lim p).1 k = σ.1 k := by
  unfold nextS nextG
  repeat' split
  all_goals simp [mI, nextB, runS, mJ, upN, hk]
theorem nx_sc (σ : mS) (k : Nat) (hk : ¬ k = 4 ∧ ¬ k = 11 ∧ ¬ k = 12 ∧ ¬ k = 13 ∧ ¬ k = 14) : (nx σ).1 k = σ.1 k := nextS_sc σ _ _ _ k hk
/-- a state in which a text is read: size, limit, place, number, token, where it begins -/
def PV (σ : mS) : Prop := ∃ s lim p nm tk at' : Nat, σ.1 3 = nI s ∧ s ≤ 940 ∧ σ.1 5 = nI lim ∧ lim ≤ 940 ∧ σ.1 4 = nI p ∧ p ≤ s ∧ σ.1 14 = nI nm ∧ nm < 2 ^ 30 ∧ σ.1 11 = nI tk ∧ tk ≤ 4 ∧ σ.1 12 = nI at' ∧ at' ≤ 940
theorem runN_le (τ : Nat → Int32) (p : Nat) : ∀ i, runN τ p i ≤ 27000000 := by
  have h : ∀ i, i ≤ 3 → runN τ p i ≤ 300 ^ i := by
    intro i
    induction i with
    | zero => intro _; simp [runN]
    | succ i ih =>
      intro hi
      have h1 := ih (by omega)
      have h2 := chr_lt τ (p + i)
      have h4 : 1 ≤ 300 ^ i := Nat.one_le_pow _ _ (by decide)
      unfold runN
      rw [if_pos (by omega), Nat.pow_succ]
      omega
  intro i
  induction i with
  | zero => simp [runN]
  | succ i ih =>
    by_cases hi : i < 3
    · exact Nat.le_trans (h (i + 1) (by omega)) (Nat.le_trans (Nat.pow_le_pow_right (by decide) (show i + 1 ≤ 3 by omega)) (by decide))
    · unfold runN
      rw [if_neg hi]
      exact ih
theorem rlen_le (τ : Nat → Int32) : ∀ n p, rlen τ n p ≤ n := by
  intro n
  induction n with
  | zero => intro p; exact Nat.le_refl _
  | succ n ih =>
    intro p
    unfold rlen
    split
    · have := ih (p + 1); omega
    · omega
theorem PV_next {σ : mS} {s lim p : Nat} (h3 : σ.1 3 = nI s) (hs : s ≤ 940) (h5 : σ.1 5 = nI lim) (hl : lim ≤ 940) (hp : p ≤ s) (h14 : ∃ nm, σ.1 14 = nI nm ∧ nm < 2 ^ 30) : PV (nextS σ s lim p) := by
  obtain ⟨nm, h14, hnm⟩ := h14
  have hk := skipF_le (σ.2.2.1 1) (s - p) p
  have e3 := nextS_sc σ s lim p 3 (by decide)
  have e5 := nextS_sc σ s lim p 5 (by decide)
  rw [h3] at e3
  rw [h5] at e5
  unfold nextS at *
  generalize skipF (σ.2.2.1 1) (s - p) p = q at *
  unfold nextG at *
  split
  · exact ⟨s, lim, q, nm, 4, lim, by simpa [*] using e3, hs, by simpa [*] using e5, hl, rfl, by omega, h14, hnm, rfl, by decide, rfl, hl⟩
  · split
    · exact ⟨s, lim, q, nm, 0, q, by simpa [*] using e3, hs, by simpa [*] using e5, hl, rfl, by omega, h14, hnm, rfl, by decide, rfl, by omega⟩
    · split
      · have hr := rlen_le (σ.2.2.1 1) (s - q) q
        have hn := runN_le (σ.2.2.1 1) q (rlen (σ.2.2.1 1) (s - q) q)
        refine ⟨s, lim, _, _, _, q, by simpa [*] using e3, hs, by simpa [*] using e5, hl, rfl, by omega, rfl, by omega, rfl, ?_, rfl, by omega⟩
        unfold tokK
        split <;> split <;> omega
      · have := chr_lt (σ.2.2.1 1) q
        refine ⟨s, lim, q + 1, _, _, q, by simpa [*] using e3, hs, by simpa [*] using e5, hl, rfl, by omega, rfl, by omega, rfl, ?_, rfl, by omega⟩
        split <;> omega
theorem PV_nx {σ : mS} (h : PV σ) : PV (nx σ) := by
  obtain ⟨s, lim, p, nm, tk, at', h3, hs, h5, hl, h4, hp, h14, hnm, -⟩ := h
  rw [← nx_eq]
  unfold nxG
  rw [h3, h5, h4, nI_clamp (by omega), nI_clamp (by omega), nI_clamp (by omega)]
  exact PV_next h3 hs h5 hl hp ⟨nm, h14, hnm⟩
theorem s_nx {G : xG} {d : Nat} {Q : xQ} {a : Nat → Nat} {σ : mS} (h : PV σ) (kk : Q none (mW G.2.2.1 a (nx σ))) : MT G MX12_next (d + 1) 0 0 [.ref (a 60)] (mW G.2.2.1 a σ) Q := by
  obtain ⟨s, lim, p, nm, tk, at', h3, hs, h5, hl, h4, hp, -⟩ := h
  refine s_next h4 hp h3 hs h5 hl ?_
  rw [← nx_eq] at kk
  unfold nxG at kk
  rw [h3, h5, h4, nI_clamp (by omega), nI_clamp (by omega), nI_clamp (by omega)] at kk
  exact kk
/-- scalars besides these leave PV -/
theorem PV_mI {σ : mS} {k : Nat} {x : Int32} (h : PV σ) (hk : ¬ k = 3 ∧ ¬ k = 4 ∧ ¬ k = 5 ∧ ¬ k = 11 ∧ ¬ k = 12 ∧ ¬ k = 14) : PV (mI σ k x) := by
  obtain ⟨s, lim, p, nm, tk, at', h3, hs, h5, hl, h4, hp, h14, hnm, h11, ht, h12, ha⟩ := h
  have e : ∀ j, ¬ j = k → (mI σ k x).1 j = σ.1 j := fun j hj => upN_n _ _ _ _ hj
  exact ⟨s, lim, p, nm, tk, at', by rw [e 3 (by omega)]; exact h3, hs, by rw [e 5 (by omega)]; exact h5, hl, by rw [e 4 (by omega)]; exact h4, hp, by rw [e 14 (by omega)]; exact h14, hnm, by rw [e 11 (by omega)]; exact h11, ht, by rw [e 12 (by omega)]; exact h12, ha⟩
theorem PV_sc {σ σ' : mS} (h : PV σ) (e : σ'.1 = σ.1) : PV σ' := by
  unfold PV at *
  rw [e]
  exact h
theorem PV_mN {σ : mS} {k i v : Nat} (h : PV σ) : PV (mN σ k i v) := PV_sc h rfl
theorem PV_mL {σ : mS} {k i : Nat} {v : Int64} (h : PV σ) : PV (mL σ k i v) := PV_sc h rfl
theorem mN_1 (σ : mS) (k i v : Nat) : (mN σ k i v).1 = σ.1 := rfl
theorem mN_7 (σ : mS) (i v : Nat) : (mN σ 7 i v).2.1 7 = upN (σ.2.1 7) i v := rfl
theorem mI_n (σ : mS) (k : Nat) (x : Int32) : (mI σ k x).2.1 = σ.2.1 := rfl
theorem nx_n (σ : mS) : (nx σ).2.1 = σ.2.1 := rfl
theorem mL_n (σ : mS) (k i : Nat) (v : Int64) : (mL σ k i v).2.1 = σ.2.1 := rfl
theorem mL_1 (σ : mS) (k i : Nat) (v : Int64) : (mL σ k i v).1 = σ.1 := rfl
theorem mI_k (σ : mS) (k : Nat) (x : Int32) : (mI σ k x).1 k = x := upN_s _ _ _
theorem mI_o (σ : mS) (k j : Nat) (x : Int32) (h : ¬ j = k) : (mI σ k x).1 j = σ.1 j := upN_n _ _ _ _ h
def badF (σ : mS) (k : Nat) : mS := mI (mI σ 15 (nI k)) 16 (σ.1 12)
theorem PV_bad {σ : mS} {k : Nat} (h : PV σ) : PV (badF σ k) := PV_mI (PV_mI h (by decide)) (by decide)
def isWordB (σ : mS) (x : Int64) : Bool := decide (σ.1 11 = nI 1) && decide (σ.2.2.2.1 = x)
def isSignB (σ : mS) (c : Nat) : Bool := decide (σ.1 11 = nI 3) && decide (σ.1 14 = nI c)
def resF (r : Nat → Int64) (x : Int64) : Nat → Bool
  | 0 => true
  | n + 1 => resF r x n && decide (¬ x = r n)
def isNameB (σ : mS) : Bool := decide (σ.1 11 = nI 1) && resF (σ.2.2.2.2 10) σ.2.2.2.1 24
def signF (σ : mS) (c : Nat) : Bool × mS := if isSignB σ c = true then (true, nx σ) else (false, badF σ 1)
def takesF (σ : mS) (lo hi : Nat) : Bool × mS := if σ.1 11 = nI 2 then (if inC (nI lo) (nI hi) (σ.1 14) = true then (true, nx (mI σ 18 (σ.1 14))) else (false, badF σ 2)) else (false, badF σ 1)
def numN (σ : mS) : Nat := (σ.1 14).toNatClampNeg
def putsF (σ : mS) (to lo hi : Nat) : Bool × mS := if (takesF σ lo hi).1 = true then (true, mN (takesF σ lo hi).2 7 to (numN σ)) else (false, (takesF σ lo hi).2)
def findW (σ : mS) (fr mn : Nat) : Option Nat := findF (fun k => decide (σ.2.2.2.2 9 (fr + k) = σ.2.2.2.1)) mn 0
def freshF (σ : mS) (to : Nat) : Bool × mS := if isNameB σ = true then (if (findW σ 13 (σ.2.1 7 0)).isSome = true then (false, badF σ 3) else if (findW σ 20 (σ.2.1 7 2)).isSome = true then (false, badF σ 3) else (true, nx (mL σ 9 to σ.2.2.2.1))) else (false, badF σ 1)
def looksF (σ : mS) (fr mn : Nat) : Bool × mS := if isNameB σ = true then (if (findW σ fr mn).isSome = true then (true, mI σ 18 (nI ((findW σ fr mn).getD 0))) else (false, badF (mI σ 18 (-1)) 3)) else (false, badF σ 1)
def takesNameF (σ : mS) (fr mn : Nat) : Bool × mS := if (looksF σ fr mn).1 = true then (true, nx (looksF σ fr mn).2) else (false, (looksF σ fr mn).2)
theorem PV_sign {σ : mS} {c : Nat} (h : PV σ) : PV (signF σ c).2 := by unfold signF; split; exact PV_nx h; exact PV_bad h
theorem PV_takes {σ : mS} {lo hi : Nat} (h : PV σ) : PV (takesF σ lo hi).2 := by
  unfold takesF
  split
  · split
    · exact PV_nx (PV_mI h (by decide))
    · exact PV_bad h
  · exact PV_bad h
theorem PV_puts {σ : mS} {to lo hi : Nat} (h : PV σ) : PV (putsF σ to lo hi).2 := by
  unfold putsF
  split
  · exact PV_mN (PV_takes h)
  · exact PV_takes h
theorem PV_fresh {σ : mS} {to : Nat} (h : PV σ) : PV (freshF σ to).2 := by
  unfold freshF
  split
  · split
    · exact PV_bad h
    · split
      · exact PV_bad h
      · exact PV_nx (PV_mL h)
  · exact PV_bad h
theorem PV_looks {σ : mS} {fr mn : Nat} (h : PV σ) : PV (looksF σ fr mn).2 := by
  unfold looksF
  split
  · split
    · exact PV_mI h (by decide)
    · exact PV_bad (PV_mI h (by decide))
  · exact PV_bad h
theorem PV_takesName {σ : mS} {fr mn : Nat} (h : PV σ) : PV (takesNameF σ fr mn).2 := by
  unfold takesNameF
  split
  · exact PV_nx (PV_looks h)
  · exact PV_looks h
theorem findW_lt {σ : mS} {fr mn : Nat} (h : (findW σ fr mn).isSome = true) : (findW σ fr mn).getD 0 < mn := by
  unfold findW at *
  obtain ⟨r, hr⟩ := Option.isSome_iff_exists.mp h
  rw [hr]
  have := findF_lt _ _ _ hr
  simpa using this.2.1

set_option maxHeartbeats 1000000 in
set_option maxRecDepth 20000 in
theorem s_bad {G : xG} {d : Nat} {Q : xQ} {a : Nat → Nat} {σ : mS} {k : Nat} (kk : Q (some (.int (bI false))) (mW G.2.2.1 a (badF σ k))) : MT G MX12_bad (d) 0 0 [.ref (a 60), .int (nI k)] (mW G.2.2.1 a σ) Q := by
  refine mt_start (L := [some (.ref (a 60)), some (.int (nI k))]) rfl (Nat.le_of_ble_eq_true rfl) rfl ?_
  refine aw_aload_n (pc := 0) (i := 0) dX12_bad_0 rfl rfl ?_
  refine aw_iload_n (pc := 1) (i := 1) dX12_bad_1 rfl rfl ?_
  refine mp_fault (pc := 2) dX12_bad_2 rfl ?_
  refine aw_aload_n (pc := 5) (i := 0) dX12_bad_5 rfl rfl ?_
  refine aw_aload_n (pc := 6) (i := 0) dX12_bad_6 rfl rfl ?_
  refine mg_at (pc := 7) dX12_bad_7 rfl ?_
  refine aw_top (y := σ.1 12) rfl ?_
  refine mp_faultAt (pc := 10) dX12_bad_10 rfl ?_
  refine aw_iconst (pc := 13) dX12_bad_13 iconst_0 ?_
  exact ab_ret0 (pc := 14) dX12_bad_14 rfl (Nat.le_refl _) (Nat.le_refl _) (kk)
set_option maxHeartbeats 1000000 in
set_option maxRecDepth 20000 in
theorem s_isWord {G : xG} {d : Nat} {Q : xQ} {a : Nat → Nat} {σ : mS} {x : Int64} (kk : Q (some (.int (bI (isWordB σ x)))) (mW G.2.2.1 a σ)) : MT G MX12_isWord (d) 0 0 [.ref (a 60), .long x] (mW G.2.2.1 a σ) Q := by
  refine mt_start (L := [some (.ref (a 60)), some (.long x), none]) rfl (Nat.le_of_ble_eq_true rfl) rfl ?_
  refine aw_aload_n (pc := 0) (i := 0) dX12_isWord_0 rfl rfl ?_
  refine mg_token (pc := 1) dX12_isWord_1 rfl ?_
  refine aw_iconst (pc := 4) dX12_isWord_4 iconst_1 ?_
  refine aw_icmp_ne (pc := 5) (tgt := 21) dX12_isWord_5 rfl (fun h5 => ?_) (fun h5 => ?_)
  · -- 21
    refine aw_iconst (pc := 21) dX12_isWord_21 iconst_0 ?_
    exact ab_ret0 (pc := 22) dX12_isWord_22 rfl (Nat.le_refl _) (Nat.le_refl _) (by rw [show isWordB σ x = false by simp [isWordB, *]] at kk; exact kk)
  · -- 8
    refine aw_aload_n (pc := 8) (i := 0) dX12_isWord_8 rfl rfl ?_
    refine mg_word (pc := 9) dX12_isWord_9 rfl ?_
    refine aw_lload_n (pc := 12) (i := 1) dX12_isWord_12 rfl rfl ?_
    refine aw_lcmp (pc := 13) dX12_isWord_13 ?_
    refine aj_if_ne (pc := 14) (tgt := 21) dX12_isWord_14 rfl (fun h14 => ?_) (fun h14 => ?_)
    · -- 21
      refine aw_iconst (pc := 21) dX12_isWord_21 iconst_0 ?_
      exact ab_ret0 (pc := 22) dX12_isWord_22 rfl (Nat.le_refl _) (Nat.le_refl _) (by rw [show isWordB σ x = false by simp [isWordB, *]] at kk; exact kk)
    · -- 17
      refine aw_iconst (pc := 17) dX12_isWord_17 iconst_1 ?_
      refine aw_goto (pc := 18) (tgt := 22) dX12_isWord_18 rfl ?_
      exact ab_ret1 (pc := 22) dX12_isWord_22 rfl (Nat.le_refl _) (Nat.le_refl _) (by rw [show isWordB σ x = true by simp [isWordB, *]] at kk; exact kk)
set_option maxHeartbeats 1000000 in
set_option maxRecDepth 20000 in
theorem s_isSign {G : xG} {d : Nat} {Q : xQ} {a : Nat → Nat} {σ : mS} {c : Nat} (kk : Q (some (.int (bI (isSignB σ c)))) (mW G.2.2.1 a σ)) : MT G MX12_isSign (d) 0 0 [.ref (a 60), .int (nI c)] (mW G.2.2.1 a σ) Q := by
  refine mt_start (L := [some (.ref (a 60)), some (.int (nI c))]) rfl (Nat.le_of_ble_eq_true rfl) rfl ?_
  refine aw_aload_n (pc := 0) (i := 0) dX12_isSign_0 rfl rfl ?_
  refine mg_token (pc := 1) dX12_isSign_1 rfl ?_
  refine aw_iconst (pc := 4) dX12_isSign_4 iconst_3 ?_
  refine aw_icmp_ne (pc := 5) (tgt := 20) dX12_isSign_5 rfl (fun h5 => ?_) (fun h5 => ?_)
  · -- 20
    refine aw_iconst (pc := 20) dX12_isSign_20 iconst_0 ?_
    exact ab_ret0 (pc := 21) dX12_isSign_21 rfl (Nat.le_refl _) (Nat.le_refl _) (by rw [show isSignB σ c = false by simp [isSignB, *]] at kk; exact kk)
  · -- 8
    refine aw_aload_n (pc := 8) (i := 0) dX12_isSign_8 rfl rfl ?_
    refine mg_number (pc := 9) dX12_isSign_9 rfl ?_
    refine aw_iload_n (pc := 12) (i := 1) dX12_isSign_12 rfl rfl ?_
    refine aw_icmp_ne (pc := 13) (tgt := 20) dX12_isSign_13 rfl (fun h13 => ?_) (fun h13 => ?_)
    · -- 20
      refine aw_iconst (pc := 20) dX12_isSign_20 iconst_0 ?_
      exact ab_ret0 (pc := 21) dX12_isSign_21 rfl (Nat.le_refl _) (Nat.le_refl _) (by rw [show isSignB σ c = false by simp [isSignB, *]] at kk; exact kk)
    · -- 16
      refine aw_iconst (pc := 16) dX12_isSign_16 iconst_1 ?_
      refine aw_goto (pc := 17) (tgt := 21) dX12_isSign_17 rfl ?_
      exact ab_ret1 (pc := 21) dX12_isSign_21 rfl (Nat.le_refl _) (Nat.le_refl _) (by rw [show isSignB σ c = true by simp [isSignB, *]] at kk; exact kk)
set_option maxHeartbeats 1000000 in
set_option maxRecDepth 20000 in
theorem s_sign {G : xG} {d : Nat} {Q : xQ} {a : Nat → Nat} {σ : mS} {c : Nat} (h : PV σ) (kk : Q (some (.int (bI (signF σ c).1))) (mW G.2.2.1 a (signF σ c).2)) : MT G MX12_sign (d + 2) 0 0 [.ref (a 60), .int (nI c)] (mW G.2.2.1 a σ) Q := by
  refine mt_start (L := [some (.ref (a 60)), some (.int (nI c))]) rfl (Nat.le_of_ble_eq_true rfl) rfl ?_
  refine aw_aload_n (pc := 0) (i := 0) dX12_sign_0 rfl rfl ?_
  refine aw_iload_n (pc := 1) (i := 1) dX12_sign_1 rfl rfl ?_
  refine mc_I (pc := 2) (As := [.int (nI c)]) (rest := []) dX12_sign_2 rfl ok_X12_198 rfl rfl rfl (Nat.le_of_ble_eq_true rfl) (s_isSign ⟨_, _, rfl, rfl, ?_⟩)
  refine ab_if_ne (pc := 5) (tgt := 14) dX12_sign_5 rfl (fun h5 => ?_) (fun h5 => ?_)
  · -- 14
    refine aw_aload_n (pc := 14) (i := 0) dX12_sign_14 rfl rfl ?_
    refine mc_V (pc := 15) (As := []) (rest := []) dX12_sign_15 rfl ok_X12_204 rfl rfl rfl (Nat.le_of_ble_eq_true rfl) (s_nx h ⟨_, rfl, rfl, ?_⟩)
    refine aw_iconst (pc := 18) dX12_sign_18 iconst_1 ?_
    exact ab_ret1 (pc := 19) dX12_sign_19 rfl (Nat.le_refl _) (Nat.le_refl _) (by simp only [signF, h5, Bool.true_and, Bool.and_true, Bool.false_and, Bool.and_false, Bool.not_true, Bool.not_false, Bool.or_true, Bool.or_false, Bool.true_or, Bool.false_or, Bool.false_eq_true, Bool.true_eq_false, if_true, if_false, ite_true, ite_false, reduceIte, reduceCtorEq] at kk; exact kk)
  · -- 8
    refine aw_aload_n (pc := 8) (i := 0) dX12_sign_8 rfl rfl ?_
    refine aw_iconst (pc := 9) dX12_sign_9 iconst_1 ?_
    refine mc_I (pc := 10) (As := [.int (nI 1)]) (rest := []) dX12_sign_10 rfl ok_X12_201 rfl rfl rfl (Nat.le_of_ble_eq_true rfl) (s_bad ⟨_, _, rfl, rfl, ?_⟩)
    exact ab_ret (pc := 13) dX12_sign_13 rfl (Nat.le_refl _) (Nat.le_refl _) (by simp only [signF, h5, Bool.true_and, Bool.and_true, Bool.false_and, Bool.and_false, Bool.not_true, Bool.not_false, Bool.or_true, Bool.or_false, Bool.true_or, Bool.false_or, Bool.false_eq_true, Bool.true_eq_false, if_true, if_false, ite_true, ite_false, reduceIte, reduceCtorEq] at kk; exact kk)
set_option maxHeartbeats 1000000 in
set_option maxRecDepth 20000 in
theorem isName_loop {G : xG} {d : Nat} {Q : xQ} {a : Nat → Nat} {σ : mS} (kk : Q (some (.int (bI (isNameB σ)))) (mW G.2.2.1 a σ)) : ∀ (n i : Nat), i + n = 24 → AW G MX12_isName d 0 0 Q 16 [some (.ref (a 60)), some (.int (bI (decide (σ.1 11 = nI 1) && resF (σ.2.2.2.2 10) σ.2.2.2.1 i))), some (.int (nI i))] [] (mW G.2.2.1 a σ) 0 0 := by
  intro n
  induction n with
  | zero =>
    intro i hi
    refine aw_iload_n (pc := 16) (i := 2) dX12_isName_16 rfl rfl ?_
    refine aw_bipush (pc := 17) dX12_isName_17 bipush_24 ?_
    refine an_icmp_ge (pc := 19) (tgt := 52) dX12_isName_19 rfl (by omega) (by decide) (fun h19 => ?_) (fun h19 => ?_)
    · -- 52
      refine aw_iload_n (pc := 52) (i := 1) dX12_isName_52 rfl rfl ?_
      exact ab_ret (pc := 53) dX12_isName_53 rfl (Nat.le_refl _) (Nat.le_refl _) (by have e : i = 24 := (by omega); subst e; exact kk)
    · -- 22
      exfalso; omega
  | succ n ih =>
    intro i hi
    refine aw_iload_n (pc := 16) (i := 2) dX12_isName_16 rfl rfl ?_
    refine aw_bipush (pc := 17) dX12_isName_17 bipush_24 ?_
    refine an_icmp_ge (pc := 19) (tgt := 52) dX12_isName_19 rfl (by omega) (by decide) (fun h19 => ?_) (fun h19 => ?_)
    · -- 52
      exfalso; omega
    · -- 22
      refine aw_iload_n (pc := 22) (i := 1) dX12_isName_22 rfl rfl ?_
      refine ab_if_eq (pc := 23) (tgt := 44) dX12_isName_23 rfl (fun h23 => ?_) (fun h23 => ?_)
      · -- 44
        refine aw_iconst (pc := 44) dX12_isName_44 iconst_0 ?_
        refine aw_istore_n (pc := 45) (i := 1) dX12_isName_45 rfl (Nat.le_of_ble_eq_true rfl) rfl ?_
        refine an_inc (pc := 46) (z := 1) dX12_isName_46 rfl (Nat.le_of_ble_eq_true rfl) rfl ?_
        refine aw_goto (pc := 49) (tgt := 16) dX12_isName_49 rfl ?_
        have e : (decide (σ.1 11 = nI 1) && resF (σ.2.2.2.2 10) σ.2.2.2.1 (i + 1)) = false := by rw [resF, ← Bool.and_assoc]; simp [*]
        refine aw_L (L9 := [some (.ref (a 60)), some (.int (bI (decide (σ.1 11 = nI 1) && resF (σ.2.2.2.2 10) σ.2.2.2.1 (i + 1)))), some (.int (nI (i + 1)))]) (by rw [e]; rfl) ?_
        exact ih (i + 1) (by omega)
      · -- 26
        refine aw_aload_n (pc := 26) (i := 0) dX12_isName_26 rfl rfl ?_
        refine mg_word (pc := 27) dX12_isName_27 rfl ?_
        refine aw_aload_n (pc := 30) (i := 0) dX12_isName_30 rfl rfl ?_
        refine mg_reserved (pc := 31) dX12_isName_31 rfl ?_
        refine aw_iload_n (pc := 34) (i := 2) dX12_isName_34 rfl rfl ?_
        refine ml_reserved (pc := 35) dX12_isName_35 (by omega) ?_
        refine aw_lcmp (pc := 36) dX12_isName_36 ?_
        refine aj_if_eq (pc := 37) (tgt := 44) dX12_isName_37 rfl (fun h37 => ?_) (fun h37 => ?_)
        · -- 44
          refine aw_iconst (pc := 44) dX12_isName_44 iconst_0 ?_
          refine aw_istore_n (pc := 45) (i := 1) dX12_isName_45 rfl (Nat.le_of_ble_eq_true rfl) rfl ?_
          refine an_inc (pc := 46) (z := 1) dX12_isName_46 rfl (Nat.le_of_ble_eq_true rfl) rfl ?_
          refine aw_goto (pc := 49) (tgt := 16) dX12_isName_49 rfl ?_
          have e : (decide (σ.1 11 = nI 1) && resF (σ.2.2.2.2 10) σ.2.2.2.1 (i + 1)) = false := by rw [resF, ← Bool.and_assoc]; simp [*]
          refine aw_L (L9 := [some (.ref (a 60)), some (.int (bI (decide (σ.1 11 = nI 1) && resF (σ.2.2.2.2 10) σ.2.2.2.1 (i + 1)))), some (.int (nI (i + 1)))]) (by rw [e]; rfl) ?_
          exact ih (i + 1) (by omega)
        · -- 40
          refine aw_iconst (pc := 40) dX12_isName_40 iconst_1 ?_
          refine aw_goto (pc := 41) (tgt := 45) dX12_isName_41 rfl ?_
          refine aw_istore_n (pc := 45) (i := 1) dX12_isName_45 rfl (Nat.le_of_ble_eq_true rfl) rfl ?_
          refine an_inc (pc := 46) (z := 1) dX12_isName_46 rfl (Nat.le_of_ble_eq_true rfl) rfl ?_
          refine aw_goto (pc := 49) (tgt := 16) dX12_isName_49 rfl ?_
          have e : (decide (σ.1 11 = nI 1) && resF (σ.2.2.2.2 10) σ.2.2.2.1 (i + 1)) = true := by rw [resF, ← Bool.and_assoc]; simp [*]
          refine aw_L (L9 := [some (.ref (a 60)), some (.int (bI (decide (σ.1 11 = nI 1) && resF (σ.2.2.2.2 10) σ.2.2.2.1 (i + 1)))), some (.int (nI (i + 1)))]) (by rw [e]; rfl) ?_
          exact ih (i + 1) (by omega)
set_option maxHeartbeats 1000000 in
set_option maxRecDepth 20000 in
theorem s_isName {G : xG} {d : Nat} {Q : xQ} {a : Nat → Nat} {σ : mS} (kk : Q (some (.int (bI (isNameB σ)))) (mW G.2.2.1 a σ)) : MT G MX12_isName (d) 0 0 [.ref (a 60)] (mW G.2.2.1 a σ) Q := by
  refine mt_start (L := [some (.ref (a 60)), none, none]) rfl (Nat.le_of_ble_eq_true rfl) rfl ?_
  refine aw_aload_n (pc := 0) (i := 0) dX12_isName_0 rfl rfl ?_
  refine mg_token (pc := 1) dX12_isName_1 rfl ?_
  refine aw_iconst (pc := 4) dX12_isName_4 iconst_1 ?_
  refine aw_icmp_ne (pc := 5) (tgt := 12) dX12_isName_5 rfl (fun h5 => ?_) (fun h5 => ?_)
  · -- 12
    refine aw_iconst (pc := 12) dX12_isName_12 iconst_0 ?_
    refine aw_istore_n (pc := 13) (i := 1) dX12_isName_13 rfl (Nat.le_of_ble_eq_true rfl) rfl ?_
    refine aw_iconst (pc := 14) dX12_isName_14 iconst_0 ?_
    refine aw_istore_n (pc := 15) (i := 2) dX12_isName_15 rfl (Nat.le_of_ble_eq_true rfl) rfl ?_
    refine aw_L (L9 := [some (.ref (a 60)), some (.int (bI (decide (σ.1 11 = nI 1) && resF (σ.2.2.2.2 10) σ.2.2.2.1 0))), some (.int (nI 0))]) (by rw [show (decide (σ.1 11 = nI 1) && resF (σ.2.2.2.2 10) σ.2.2.2.1 0) = false by simp [resF, h5]]; rfl) ?_
    exact isName_loop kk 24 0 (by omega)
  · -- 8
    refine aw_iconst (pc := 8) dX12_isName_8 iconst_1 ?_
    refine aw_goto (pc := 9) (tgt := 13) dX12_isName_9 rfl ?_
    refine aw_istore_n (pc := 13) (i := 1) dX12_isName_13 rfl (Nat.le_of_ble_eq_true rfl) rfl ?_
    refine aw_iconst (pc := 14) dX12_isName_14 iconst_0 ?_
    refine aw_istore_n (pc := 15) (i := 2) dX12_isName_15 rfl (Nat.le_of_ble_eq_true rfl) rfl ?_
    refine aw_L (L9 := [some (.ref (a 60)), some (.int (bI (decide (σ.1 11 = nI 1) && resF (σ.2.2.2.2 10) σ.2.2.2.1 0))), some (.int (nI 0))]) (by rw [show (decide (σ.1 11 = nI 1) && resF (σ.2.2.2.2 10) σ.2.2.2.1 0) = true by simp [resF, h5]]; rfl) ?_
    exact isName_loop kk 24 0 (by omega)
set_option maxHeartbeats 1000000 in
set_option maxRecDepth 20000 in
theorem s_takes {G : xG} {d : Nat} {Q : xQ} {a : Nat → Nat} {σ : mS} {lo hi : Nat} (h : PV σ) (kk : Q (some (.int (bI (takesF σ lo hi).1))) (mW G.2.2.1 a (takesF σ lo hi).2)) : MT G MX12_takes (d + 2) 0 0 [.ref (a 60), .int (nI lo), .int (nI hi)] (mW G.2.2.1 a σ) Q := by
  refine mt_start (L := [some (.ref (a 60)), some (.int (nI lo)), some (.int (nI hi))]) rfl (Nat.le_of_ble_eq_true rfl) rfl ?_
  refine aw_aload_n (pc := 0) (i := 0) dX12_takes_0 rfl rfl ?_
  refine mg_token (pc := 1) dX12_takes_1 rfl ?_
  refine aw_iconst (pc := 4) dX12_takes_4 iconst_2 ?_
  refine aw_icmp_eq (pc := 5) (tgt := 14) dX12_takes_5 rfl (fun h5 => ?_) (fun h5 => ?_)
  · -- 14
    refine aw_aload_n (pc := 14) (i := 0) dX12_takes_14 rfl rfl ?_
    refine mg_number (pc := 15) dX12_takes_15 rfl ?_
    refine aw_iload_n (pc := 18) (i := 1) dX12_takes_18 rfl rfl ?_
    refine aw_iload_n (pc := 19) (i := 2) dX12_takes_19 rfl rfl ?_
    refine mt_I (pc := 20) (As := [.int (σ.1 14), .int (nI lo), .int (nI hi)]) (rest := []) dX12_takes_20 rfl ok_X12_207 rfl rfl rfl (Nat.le_of_ble_eq_true rfl) (s_isIn ⟨_, _, rfl, rfl, ?_⟩)
    refine aw_top (y := bI (inC (nI lo) (nI hi) (σ.1 14))) rfl ?_
    refine ab_if_ne (pc := 23) (tgt := 32) dX12_takes_23 rfl (fun h23 => ?_) (fun h23 => ?_)
    · -- 32
      refine aw_aload_n (pc := 32) (i := 0) dX12_takes_32 rfl rfl ?_
      refine aw_aload_n (pc := 33) (i := 0) dX12_takes_33 rfl rfl ?_
      refine mg_number (pc := 34) dX12_takes_34 rfl ?_
      refine mp_got (pc := 37) dX12_takes_37 rfl ?_
      refine aw_aload_n (pc := 40) (i := 0) dX12_takes_40 rfl rfl ?_
      refine mc_V (pc := 41) (As := []) (rest := []) dX12_takes_41 rfl ok_X12_204 rfl rfl rfl (Nat.le_of_ble_eq_true rfl) (s_nx (PV_mI h (by decide)) ⟨_, rfl, rfl, ?_⟩)
      refine aw_iconst (pc := 44) dX12_takes_44 iconst_1 ?_
      exact ab_ret1 (pc := 45) dX12_takes_45 rfl (Nat.le_refl _) (Nat.le_refl _) (by simp only [takesF, h5, h23, Bool.true_and, Bool.and_true, Bool.false_and, Bool.and_false, Bool.not_true, Bool.not_false, Bool.or_true, Bool.or_false, Bool.true_or, Bool.false_or, Bool.false_eq_true, Bool.true_eq_false, if_true, if_false, ite_true, ite_false, reduceIte, reduceCtorEq] at kk; exact kk)
    · -- 26
      refine aw_aload_n (pc := 26) (i := 0) dX12_takes_26 rfl rfl ?_
      refine aw_iconst (pc := 27) dX12_takes_27 iconst_2 ?_
      refine mc_I (pc := 28) (As := [.int (nI 2)]) (rest := []) dX12_takes_28 rfl ok_X12_201 rfl rfl rfl (Nat.le_of_ble_eq_true rfl) (s_bad ⟨_, _, rfl, rfl, ?_⟩)
      exact ab_ret (pc := 31) dX12_takes_31 rfl (Nat.le_refl _) (Nat.le_refl _) (by simp only [takesF, h5, h23, Bool.true_and, Bool.and_true, Bool.false_and, Bool.and_false, Bool.not_true, Bool.not_false, Bool.or_true, Bool.or_false, Bool.true_or, Bool.false_or, Bool.false_eq_true, Bool.true_eq_false, if_true, if_false, ite_true, ite_false, reduceIte, reduceCtorEq] at kk; exact kk)
  · -- 8
    refine aw_aload_n (pc := 8) (i := 0) dX12_takes_8 rfl rfl ?_
    refine aw_iconst (pc := 9) dX12_takes_9 iconst_1 ?_
    refine mc_I (pc := 10) (As := [.int (nI 1)]) (rest := []) dX12_takes_10 rfl ok_X12_201 rfl rfl rfl (Nat.le_of_ble_eq_true rfl) (s_bad ⟨_, _, rfl, rfl, ?_⟩)
    exact ab_ret (pc := 13) dX12_takes_13 rfl (Nat.le_refl _) (Nat.le_refl _) (by simp only [takesF, h5, Bool.true_and, Bool.and_true, Bool.false_and, Bool.and_false, Bool.not_true, Bool.not_false, Bool.or_true, Bool.or_false, Bool.true_or, Bool.false_or, Bool.false_eq_true, Bool.true_eq_false, if_true, if_false, ite_true, ite_false, reduceIte, reduceCtorEq] at kk; exact kk)
theorem takes_got {σ : mS} {lo hi : Nat} (h : (takesF σ lo hi).1 = true) : (takesF σ lo hi).2.1 18 = σ.1 14 ∧ (takesF σ lo hi).2 = nx (mI σ 18 (σ.1 14)) ∧ inC (nI lo) (nI hi) (σ.1 14) = true ∧ σ.1 11 = nI 2 := by
  unfold takesF at *
  split at h
  · split at h
    · rename_i h1 h2
      rw [if_pos h1, if_pos h2]
      exact ⟨nx_sc _ 18 (by decide), rfl, h2, h1⟩
    · exact absurd h (by simp)
  · exact absurd h (by simp)
theorem takes_N {σ : mS} {lo hi : Nat} (hv : PV σ) (h : (takesF σ lo hi).1 = true) : (takesF σ lo hi).2.1 18 = nI (numN σ) := by
  rw [(takes_got h).1, numN]
  obtain ⟨s, lim, p, nm, tk, at', h3, hs, h5, hl, h4, hp, h14, hnm, -⟩ := hv
  rw [h14, nI_clamp (by omega)]
set_option maxHeartbeats 1000000 in
set_option maxRecDepth 20000 in
theorem s_puts {G : xG} {d : Nat} {Q : xQ} {a : Nat → Nat} {σ : mS} {to lo hi : Nat} (h : PV σ) (hto : to < 91) (kk : Q (some (.int (bI (putsF σ to lo hi).1))) (mW G.2.2.1 a (putsF σ to lo hi).2)) : MT G MX12_puts (d + 3) 0 0 [.ref (a 60), .int (nI to), .int (nI lo), .int (nI hi)] (mW G.2.2.1 a σ) Q := by
  refine mt_start (L := [some (.ref (a 60)), some (.int (nI to)), some (.int (nI lo)), some (.int (nI hi))]) rfl (Nat.le_of_ble_eq_true rfl) rfl ?_
  refine aw_aload_n (pc := 0) (i := 0) dX12_puts_0 rfl rfl ?_
  refine aw_iload_n (pc := 1) (i := 2) dX12_puts_1 rfl rfl ?_
  refine aw_iload_n (pc := 2) (i := 3) dX12_puts_2 rfl rfl ?_
  refine mc_I (pc := 3) (As := [.int (nI lo), .int (nI hi)]) (rest := []) dX12_puts_3 rfl ok_X12_214 rfl rfl rfl (Nat.le_of_ble_eq_true rfl) (s_takes h ⟨_, _, rfl, rfl, ?_⟩)
  refine ab_if_ne (pc := 6) (tgt := 11) dX12_puts_6 rfl (fun h6 => ?_) (fun h6 => ?_)
  · -- 11
    refine aw_aload_n (pc := 11) (i := 0) dX12_puts_11 rfl rfl ?_
    refine mg_h (pc := 12) dX12_puts_12 rfl ?_
    refine aw_iload_n (pc := 15) (i := 1) dX12_puts_15 rfl rfl ?_
    refine aw_aload_n (pc := 16) (i := 0) dX12_puts_16 rfl rfl ?_
    refine mg_got (pc := 17) dX12_puts_17 rfl ?_
    refine aw_top (y := (nI (numN σ))) (takes_N h h6) ?_
    refine ms_h (pc := 20) dX12_puts_20 (by omega) ?_
    refine aw_iconst (pc := 21) dX12_puts_21 iconst_1 ?_
    exact ab_ret1 (pc := 22) dX12_puts_22 rfl (Nat.le_refl _) (Nat.le_refl _) (by simp only [putsF, h6, Bool.true_and, Bool.and_true, Bool.false_and, Bool.and_false, Bool.not_true, Bool.not_false, Bool.or_true, Bool.or_false, Bool.true_or, Bool.false_or, Bool.false_eq_true, Bool.true_eq_false, if_true, if_false, ite_true, ite_false, reduceIte, reduceCtorEq] at kk; exact kk)
  · -- 9
    refine aw_iconst (pc := 9) dX12_puts_9 iconst_0 ?_
    exact ab_ret0 (pc := 10) dX12_puts_10 rfl (Nat.le_refl _) (Nat.le_refl _) (by simp only [putsF, h6, Bool.true_and, Bool.and_true, Bool.false_and, Bool.and_false, Bool.not_true, Bool.not_false, Bool.or_true, Bool.or_false, Bool.true_or, Bool.false_or, Bool.false_eq_true, Bool.true_eq_false, if_true, if_false, ite_true, ite_false, reduceIte, reduceCtorEq] at kk; exact kk)
set_option maxHeartbeats 1000000 in
set_option maxRecDepth 20000 in
theorem find_loop {G : xG} {d : Nat} {Q : xQ} {a : Nat → Nat} {σ : mS} {fr mn : Nat} (hf : fr + mn ≤ 26) (k1 : (findW σ fr mn).isSome = true → Q (some (.int (nI ((findW σ fr mn).getD 0)))) (mW G.2.2.1 a σ)) (k0 : (findW σ fr mn).isSome = false → Q (some (.int (-1))) (mW G.2.2.1 a σ)) : ∀ (n i : Nat), i + n = mn → findF (fun k => decide (σ.2.2.2.2 9 (fr + k) = σ.2.2.2.1)) n i = findW σ fr mn → AW G MX12_find d 0 0 Q 2 [some (.ref (a 60)), some (.int (nI fr)), some (.int (nI mn)), some (.int (nI i))] [] (mW G.2.2.1 a σ) 0 0 := by
  intro n
  induction n with
  | zero =>
    intro i hi he
    refine aw_iload_n (pc := 2) (i := 3) dX12_find_2 rfl rfl ?_
    refine aw_iload_n (pc := 3) (i := 2) dX12_find_3 rfl rfl ?_
    refine an_icmp_ge (pc := 4) (tgt := 31) dX12_find_4 rfl (by omega) (by omega) (fun h4 => ?_) (fun h4 => ?_)
    · -- 31
      refine aw_iconst (pc := 31) dX12_find_31 iconst_m1 ?_
      exact aw_iret (pc := 32) dX12_find_32 rfl (Nat.le_refl _) (Nat.le_refl _) (k0 (by rw [← he]; rfl))
    · -- 7
      exfalso; omega
  | succ n ih =>
    intro i hi he
    refine aw_iload_n (pc := 2) (i := 3) dX12_find_2 rfl rfl ?_
    refine aw_iload_n (pc := 3) (i := 2) dX12_find_3 rfl rfl ?_
    refine an_icmp_ge (pc := 4) (tgt := 31) dX12_find_4 rfl (by omega) (by omega) (fun h4 => ?_) (fun h4 => ?_)
    · -- 31
      exfalso; omega
    · -- 7
      refine aw_aload_n (pc := 7) (i := 0) dX12_find_7 rfl rfl ?_
      refine mg_names (pc := 8) dX12_find_8 rfl ?_
      refine aw_iload_n (pc := 11) (i := 1) dX12_find_11 rfl rfl ?_
      refine aw_iload_n (pc := 12) (i := 3) dX12_find_12 rfl rfl ?_
      refine an_add (pc := 13) dX12_find_13 ?_
      refine ml_names (pc := 14) dX12_find_14 (by omega) ?_
      refine aw_aload_n (pc := 15) (i := 0) dX12_find_15 rfl rfl ?_
      refine mg_word (pc := 16) dX12_find_16 rfl ?_
      refine aw_lcmp (pc := 19) dX12_find_19 ?_
      refine aj_if_ne (pc := 20) (tgt := 25) dX12_find_20 rfl (fun h20 => ?_) (fun h20 => ?_)
      · -- 25
        refine an_inc (pc := 25) (z := 1) dX12_find_25 rfl (Nat.le_of_ble_eq_true rfl) rfl ?_
        refine aw_goto (pc := 28) (tgt := 2) dX12_find_28 rfl ?_
        exact ih (i + 1) (by omega) (by rw [← he, findF, if_neg (by simp [h20])])
      · -- 23
        refine aw_iload_n (pc := 23) (i := 3) dX12_find_23 rfl rfl ?_
        exact aw_iret (pc := 24) dX12_find_24 rfl (Nat.le_refl _) (Nat.le_refl _) (by have e : findW σ fr mn = some i := (by rw [← he, findF, if_pos (by simp [h20])]); have := k1 (by rw [e]; rfl); rw [e] at this; exact this)
set_option maxHeartbeats 1000000 in
set_option maxRecDepth 20000 in
theorem s_find {G : xG} {d : Nat} {Q : xQ} {a : Nat → Nat} {σ : mS} {fr mn : Nat} (hf : fr + mn ≤ 26) (k1 : (findW σ fr mn).isSome = true → Q (some (.int (nI ((findW σ fr mn).getD 0)))) (mW G.2.2.1 a σ)) (k0 : (findW σ fr mn).isSome = false → Q (some (.int (-1))) (mW G.2.2.1 a σ)) : MT G MX12_find d 0 0 [.ref (a 60), .int (nI fr), .int (nI mn)] (mW G.2.2.1 a σ) Q := by
  refine mt_start (L := [some (.ref (a 60)), some (.int (nI fr)), some (.int (nI mn)), none]) rfl (Nat.le_of_ble_eq_true rfl) rfl ?_
  refine aw_iconst (pc := 0) dX12_find_0 iconst_0 ?_
  refine aw_istore_n (pc := 1) (i := 3) dX12_find_1 rfl (Nat.le_of_ble_eq_true rfl) rfl ?_
  exact find_loop hf k1 k0 mn 0 (by omega) rfl
set_option maxHeartbeats 1000000 in
set_option maxRecDepth 20000 in
theorem s_fresh {G : xG} {d : Nat} {Q : xQ} {a : Nat → Nat} {σ : mS} {to : Nat} (h : PV σ) (hto : to < 26) (h7 : σ.2.1 7 0 ≤ 7) (h6 : σ.2.1 7 2 ≤ 6) (kk : Q (some (.int (bI (freshF σ to).1))) (mW G.2.2.1 a (freshF σ to).2)) : MT G MX12_fresh (d + 2) 0 0 [.ref (a 60), .int (nI to)] (mW G.2.2.1 a σ) Q := by
  refine mt_start (L := [some (.ref (a 60)), some (.int (nI to))]) rfl (Nat.le_of_ble_eq_true rfl) rfl ?_
  refine aw_aload_n (pc := 0) (i := 0) dX12_fresh_0 rfl rfl ?_
  refine mc_I (pc := 1) (As := []) (rest := []) dX12_fresh_1 rfl ok_X12_218 rfl rfl rfl (Nat.le_of_ble_eq_true rfl) (s_isName ⟨_, _, rfl, rfl, ?_⟩)
  refine ab_if_ne (pc := 4) (tgt := 13) dX12_fresh_4 rfl (fun h4 => ?_) (fun h4 => ?_)
  · -- 13
    refine aw_aload_n (pc := 13) (i := 0) dX12_fresh_13 rfl rfl ?_
    refine aw_bipush (pc := 14) dX12_fresh_14 bipush_13 ?_
    refine aw_aload_n (pc := 16) (i := 0) dX12_fresh_16 rfl rfl ?_
    refine mg_h (pc := 17) dX12_fresh_17 rfl ?_
    refine aw_iconst (pc := 20) dX12_fresh_20 iconst_0 ?_
    refine ml_h (pc := 21) dX12_fresh_21 (by decide) ?_
    refine mc_I (pc := 22) (As := [.int (nI 13), .int (nI (σ.2.1 7 0))]) (rest := []) dX12_fresh_22 rfl ok_X12_222 rfl rfl rfl (Nat.le_of_ble_eq_true rfl) (s_find (by omega) (fun hf22 => ⟨_, _, rfl, rfl, ?_⟩) (fun hf22 => ⟨_, _, rfl, rfl, ?_⟩))
    · -- call
      have hfl := findW_lt hf22
      refine an_if_ge (pc := 25) (tgt := 43) dX12_fresh_25 rfl (by omega) ?_
      refine aw_aload_n (pc := 43) (i := 0) dX12_fresh_43 rfl rfl ?_
      refine aw_iconst (pc := 44) dX12_fresh_44 iconst_3 ?_
      refine mc_I (pc := 45) (As := [.int (nI 3)]) (rest := []) dX12_fresh_45 rfl ok_X12_201 rfl rfl rfl (Nat.le_of_ble_eq_true rfl) (s_bad ⟨_, _, rfl, rfl, ?_⟩)
      exact ab_ret (pc := 48) dX12_fresh_48 rfl (Nat.le_refl _) (Nat.le_refl _) (by simp only [freshF, h4, hf22, Bool.true_and, Bool.and_true, Bool.false_and, Bool.and_false, Bool.not_true, Bool.not_false, Bool.or_true, Bool.or_false, Bool.true_or, Bool.false_or, Bool.false_eq_true, Bool.true_eq_false, if_true, if_false, ite_true, ite_false, reduceIte, reduceCtorEq] at kk; exact kk)
    · -- call
      refine an_ifm_ge (pc := 25) (tgt := 43) dX12_fresh_25 rfl ?_
      refine aw_aload_n (pc := 28) (i := 0) dX12_fresh_28 rfl rfl ?_
      refine aw_bipush (pc := 29) dX12_fresh_29 bipush_20 ?_
      refine aw_aload_n (pc := 31) (i := 0) dX12_fresh_31 rfl rfl ?_
      refine mg_h (pc := 32) dX12_fresh_32 rfl ?_
      refine aw_iconst (pc := 35) dX12_fresh_35 iconst_2 ?_
      refine ml_h (pc := 36) dX12_fresh_36 (by decide) ?_
      refine mc_I (pc := 37) (As := [.int (nI 20), .int (nI (σ.2.1 7 2))]) (rest := []) dX12_fresh_37 rfl ok_X12_222 rfl rfl rfl (Nat.le_of_ble_eq_true rfl) (s_find (by omega) (fun hf37 => ⟨_, _, rfl, rfl, ?_⟩) (fun hf37 => ⟨_, _, rfl, rfl, ?_⟩))
      · -- call
        have hfl := findW_lt hf37
        refine an_if_lt (pc := 40) (tgt := 49) dX12_fresh_40 rfl (by omega) ?_
        refine aw_aload_n (pc := 43) (i := 0) dX12_fresh_43 rfl rfl ?_
        refine aw_iconst (pc := 44) dX12_fresh_44 iconst_3 ?_
        refine mc_I (pc := 45) (As := [.int (nI 3)]) (rest := []) dX12_fresh_45 rfl ok_X12_201 rfl rfl rfl (Nat.le_of_ble_eq_true rfl) (s_bad ⟨_, _, rfl, rfl, ?_⟩)
        exact ab_ret (pc := 48) dX12_fresh_48 rfl (Nat.le_refl _) (Nat.le_refl _) (by simp only [freshF, h4, hf22, hf37, Bool.true_and, Bool.and_true, Bool.false_and, Bool.and_false, Bool.not_true, Bool.not_false, Bool.or_true, Bool.or_false, Bool.true_or, Bool.false_or, Bool.false_eq_true, Bool.true_eq_false, if_true, if_false, ite_true, ite_false, reduceIte, reduceCtorEq] at kk; exact kk)
      · -- call
        refine an_ifm_lt (pc := 40) (tgt := 49) dX12_fresh_40 rfl ?_
        refine aw_aload_n (pc := 49) (i := 0) dX12_fresh_49 rfl rfl ?_
        refine mg_names (pc := 50) dX12_fresh_50 rfl ?_
        refine aw_iload_n (pc := 53) (i := 1) dX12_fresh_53 rfl rfl ?_
        refine aw_aload_n (pc := 54) (i := 0) dX12_fresh_54 rfl rfl ?_
        refine mg_word (pc := 55) dX12_fresh_55 rfl ?_
        refine ms_names (pc := 58) dX12_fresh_58 (by omega) ?_
        refine aw_aload_n (pc := 59) (i := 0) dX12_fresh_59 rfl rfl ?_
        refine mc_V (pc := 60) (As := []) (rest := []) dX12_fresh_60 rfl ok_X12_204 rfl rfl rfl (Nat.le_of_ble_eq_true rfl) (s_nx (PV_mL h) ⟨_, rfl, rfl, ?_⟩)
        refine aw_iconst (pc := 63) dX12_fresh_63 iconst_1 ?_
        exact ab_ret1 (pc := 64) dX12_fresh_64 rfl (Nat.le_refl _) (Nat.le_refl _) (by simp only [freshF, h4, hf22, hf37, Bool.true_and, Bool.and_true, Bool.false_and, Bool.and_false, Bool.not_true, Bool.not_false, Bool.or_true, Bool.or_false, Bool.true_or, Bool.false_or, Bool.false_eq_true, Bool.true_eq_false, if_true, if_false, ite_true, ite_false, reduceIte, reduceCtorEq] at kk; exact kk)
  · -- 7
    refine aw_aload_n (pc := 7) (i := 0) dX12_fresh_7 rfl rfl ?_
    refine aw_iconst (pc := 8) dX12_fresh_8 iconst_1 ?_
    refine mc_I (pc := 9) (As := [.int (nI 1)]) (rest := []) dX12_fresh_9 rfl ok_X12_201 rfl rfl rfl (Nat.le_of_ble_eq_true rfl) (s_bad ⟨_, _, rfl, rfl, ?_⟩)
    exact ab_ret (pc := 12) dX12_fresh_12 rfl (Nat.le_refl _) (Nat.le_refl _) (by simp only [freshF, h4, Bool.true_and, Bool.and_true, Bool.false_and, Bool.and_false, Bool.not_true, Bool.not_false, Bool.or_true, Bool.or_false, Bool.true_or, Bool.false_or, Bool.false_eq_true, Bool.true_eq_false, if_true, if_false, ite_true, ite_false, reduceIte, reduceCtorEq] at kk; exact kk)
set_option maxHeartbeats 1000000 in
set_option maxRecDepth 20000 in
theorem s_looksAt {G : xG} {d : Nat} {Q : xQ} {a : Nat → Nat} {σ : mS} {fr mn : Nat} (hf : fr + mn ≤ 26) (kk : Q (some (.int (bI (looksF σ fr mn).1))) (mW G.2.2.1 a (looksF σ fr mn).2)) : MT G MX12_looksAt (d + 1) 0 0 [.ref (a 60), .int (nI fr), .int (nI mn)] (mW G.2.2.1 a σ) Q := by
  refine mt_start (L := [some (.ref (a 60)), some (.int (nI fr)), some (.int (nI mn))]) rfl (Nat.le_of_ble_eq_true rfl) rfl ?_
  refine aw_aload_n (pc := 0) (i := 0) dX12_looksAt_0 rfl rfl ?_
  refine mc_I (pc := 1) (As := []) (rest := []) dX12_looksAt_1 rfl ok_X12_218 rfl rfl rfl (Nat.le_of_ble_eq_true rfl) (s_isName ⟨_, _, rfl, rfl, ?_⟩)
  refine ab_if_ne (pc := 4) (tgt := 13) dX12_looksAt_4 rfl (fun h4 => ?_) (fun h4 => ?_)
  · -- 13
    refine aw_aload_n (pc := 13) (i := 0) dX12_looksAt_13 rfl rfl ?_
    refine aw_aload_n (pc := 14) (i := 0) dX12_looksAt_14 rfl rfl ?_
    refine aw_iload_n (pc := 15) (i := 1) dX12_looksAt_15 rfl rfl ?_
    refine aw_iload_n (pc := 16) (i := 2) dX12_looksAt_16 rfl rfl ?_
    refine mc_I (pc := 17) (As := [.int (nI fr), .int (nI mn)]) (rest := [.ref (a 60)]) dX12_looksAt_17 rfl ok_X12_222 rfl rfl rfl (Nat.le_of_ble_eq_true rfl) (s_find (by omega) (fun hf17 => ⟨_, _, rfl, rfl, ?_⟩) (fun hf17 => ⟨_, _, rfl, rfl, ?_⟩))
    · -- call
      have hfl := findW_lt hf17
      refine mp_got (pc := 20) dX12_looksAt_20 rfl ?_
      refine aw_aload_n (pc := 23) (i := 0) dX12_looksAt_23 rfl rfl ?_
      refine mg_got (pc := 24) dX12_looksAt_24 rfl ?_
      refine aw_top (y := nI ((findW σ fr mn).getD 0)) rfl ?_
      refine an_if_ge (pc := 27) (tgt := 38) dX12_looksAt_27 rfl (by omega) ?_
      refine aw_iconst (pc := 38) dX12_looksAt_38 iconst_1 ?_
      refine aw_goto (pc := 39) (tgt := 43) dX12_looksAt_39 rfl ?_
      exact ab_ret1 (pc := 43) dX12_looksAt_43 rfl (Nat.le_refl _) (Nat.le_refl _) (by simp only [looksF, h4, hf17, Bool.true_and, Bool.and_true, Bool.false_and, Bool.and_false, Bool.not_true, Bool.not_false, Bool.or_true, Bool.or_false, Bool.true_or, Bool.false_or, Bool.false_eq_true, Bool.true_eq_false, if_true, if_false, ite_true, ite_false, reduceIte, reduceCtorEq] at kk; exact kk)
    · -- call
      refine mp_got (pc := 20) dX12_looksAt_20 rfl ?_
      refine aw_aload_n (pc := 23) (i := 0) dX12_looksAt_23 rfl rfl ?_
      refine mg_got (pc := 24) dX12_looksAt_24 rfl ?_
      refine aw_top (y := (-1)) rfl ?_
      refine an_ifm_ge (pc := 27) (tgt := 38) dX12_looksAt_27 rfl ?_
      refine aw_aload_n (pc := 30) (i := 0) dX12_looksAt_30 rfl rfl ?_
      refine aw_iconst (pc := 31) dX12_looksAt_31 iconst_3 ?_
      refine mc_I (pc := 32) (As := [.int (nI 3)]) (rest := []) dX12_looksAt_32 rfl ok_X12_201 rfl rfl rfl (Nat.le_of_ble_eq_true rfl) (s_bad ⟨_, _, rfl, rfl, ?_⟩)
      refine ab_if_eq (pc := 35) (tgt := 42) dX12_looksAt_35 rfl (fun h35 => ?_) (fun h35 => absurd h35 (by decide))
      refine aw_iconst (pc := 42) dX12_looksAt_42 iconst_0 ?_
      exact ab_ret0 (pc := 43) dX12_looksAt_43 rfl (Nat.le_refl _) (Nat.le_refl _) (by simp only [looksF, h4, hf17, Bool.true_and, Bool.and_true, Bool.false_and, Bool.and_false, Bool.not_true, Bool.not_false, Bool.or_true, Bool.or_false, Bool.true_or, Bool.false_or, Bool.false_eq_true, Bool.true_eq_false, if_true, if_false, ite_true, ite_false, reduceIte, reduceCtorEq] at kk; exact kk)
  · -- 7
    refine aw_aload_n (pc := 7) (i := 0) dX12_looksAt_7 rfl rfl ?_
    refine aw_iconst (pc := 8) dX12_looksAt_8 iconst_1 ?_
    refine mc_I (pc := 9) (As := [.int (nI 1)]) (rest := []) dX12_looksAt_9 rfl ok_X12_201 rfl rfl rfl (Nat.le_of_ble_eq_true rfl) (s_bad ⟨_, _, rfl, rfl, ?_⟩)
    exact ab_ret (pc := 12) dX12_looksAt_12 rfl (Nat.le_refl _) (Nat.le_refl _) (by simp only [looksF, h4, Bool.true_and, Bool.and_true, Bool.false_and, Bool.and_false, Bool.not_true, Bool.not_false, Bool.or_true, Bool.or_false, Bool.true_or, Bool.false_or, Bool.false_eq_true, Bool.true_eq_false, if_true, if_false, ite_true, ite_false, reduceIte, reduceCtorEq] at kk; exact kk)
set_option maxHeartbeats 1000000 in
set_option maxRecDepth 20000 in
theorem s_takesName {G : xG} {d : Nat} {Q : xQ} {a : Nat → Nat} {σ : mS} {fr mn : Nat} (h : PV σ) (hf : fr + mn ≤ 26) (kk : Q (some (.int (bI (takesNameF σ fr mn).1))) (mW G.2.2.1 a (takesNameF σ fr mn).2)) : MT G MX12_takesName (d + 2) 0 0 [.ref (a 60), .int (nI fr), .int (nI mn)] (mW G.2.2.1 a σ) Q := by
  refine mt_start (L := [some (.ref (a 60)), some (.int (nI fr)), some (.int (nI mn))]) rfl (Nat.le_of_ble_eq_true rfl) rfl ?_
  refine aw_aload_n (pc := 0) (i := 0) dX12_takesName_0 rfl rfl ?_
  refine aw_iload_n (pc := 1) (i := 1) dX12_takesName_1 rfl rfl ?_
  refine aw_iload_n (pc := 2) (i := 2) dX12_takesName_2 rfl rfl ?_
  refine mc_I (pc := 3) (As := [.int (nI fr), .int (nI mn)]) (rest := []) dX12_takesName_3 rfl ok_X12_226 rfl rfl rfl (Nat.le_of_ble_eq_true rfl) (s_looksAt hf ⟨_, _, rfl, rfl, ?_⟩)
  refine ab_if_ne (pc := 6) (tgt := 11) dX12_takesName_6 rfl (fun h6 => ?_) (fun h6 => ?_)
  · -- 11
    refine aw_aload_n (pc := 11) (i := 0) dX12_takesName_11 rfl rfl ?_
    refine mc_V (pc := 12) (As := []) (rest := []) dX12_takesName_12 rfl ok_X12_204 rfl rfl rfl (Nat.le_of_ble_eq_true rfl) (s_nx (PV_looks h) ⟨_, rfl, rfl, ?_⟩)
    refine aw_iconst (pc := 15) dX12_takesName_15 iconst_1 ?_
    exact ab_ret1 (pc := 16) dX12_takesName_16 rfl (Nat.le_refl _) (Nat.le_refl _) (by simp only [takesNameF, h6, Bool.true_and, Bool.and_true, Bool.false_and, Bool.and_false, Bool.not_true, Bool.not_false, Bool.or_true, Bool.or_false, Bool.true_or, Bool.false_or, Bool.false_eq_true, Bool.true_eq_false, if_true, if_false, ite_true, ite_false, reduceIte, reduceCtorEq] at kk; exact kk)
  · -- 9
    refine aw_iconst (pc := 9) dX12_takesName_9 iconst_0 ?_
    exact ab_ret0 (pc := 10) dX12_takesName_10 rfl (Nat.le_refl _) (Nat.le_refl _) (by simp only [takesNameF, h6, Bool.true_and, Bool.and_true, Bool.false_and, Bool.and_false, Bool.not_true, Bool.not_false, Bool.or_true, Bool.or_false, Bool.true_or, Bool.false_or, Bool.false_eq_true, Bool.true_eq_false, if_true, if_false, ite_true, ite_false, reduceIte, reduceCtorEq] at kk; exact kk)
