/-- the tape's bytes and its length -/
def TB (κ : kS) (τ : Nat → Int32) (n : Nat) : Prop := κ.1 1 = .int (nI n) ∧ n ≤ 940 ∧ ∀ i, i < 940 → κ.2.1 0 i = τ i
/-- letters, digits of a run; its name, its number -/
def cLs (τ : Nat → Int32) (p : Nat) : Nat → Nat
  | 0 => 0
  | i + 1 => if isL (chr τ (p + i)) = true then cLs τ p i + 1 else cLs τ p i
def cDs (τ : Nat → Int32) (p : Nat) : Nat → Nat
  | 0 => 0
  | i + 1 => if isL (chr τ (p + i)) = true then cDs τ p i else cDs τ p i + 1
def nm5 (τ : Nat → Int32) (p : Nat) : Nat → Int64
  | 0 => 0
  | i + 1 => if isL (chr τ (p + i)) = true then nm5 τ p i * 32 + (nI (chr τ (p + i)) - nI 96).toInt64 else nm5 τ p i
def nmD (τ : Nat → Int32) (p : Nat) : Nat → Int32
  | 0 => nI 0
  | i + 1 => if isL (chr τ (p + i)) = true then nmD τ p i else nmD τ p i * nI 10 + (nI (chr τ (p + i)) - nI 48)
theorem cLD (τ : Nat → Int32) (p : Nat) : ∀ i, cLs τ p i + cDs τ p i = i := by
  intro i
  induction i with
  | zero => rfl
  | succ i ih => rw [cLs, cDs]; split <;> omega
/-- the word that a name is -/
def wOf (v : Int64) : Option Nat := findF (fun k => decide (wC5 k = v)) 24 0
theorem wOf_ok (v : Int64) : wOK (wOf v) := fun i h => by have := (findF_lt _ _ _ h).2.1; omega
/-- a run of r letters and digits: kind, value, word -/
def tkR (τ : Nat → Int32) (q r : Nat) : Nat × Int64 × Option Nat := if cDs τ q r = 0 then (if cLs τ q r ≤ 7 then (1, nm5 τ q r, wOf (nm5 τ q r)) else if cLs τ q r = 0 then (if cDs τ q r ≤ 3 then (2, (nmD τ q r).toInt64, none) else (3, 0, none)) else (3, 0, none)) else if cLs τ q r = 0 then (if cDs τ q r ≤ 3 then (2, (nmD τ q r).toInt64, none) else (3, 0, none)) else (3, 0, none)
theorem tkR_ok (τ : Nat → Int32) (q r : Nat) : wOK (tkR τ q r).2.2 := by
  unfold tkR
  repeat' split
  all_goals first | exact wOf_ok _ | exact wOK_none
/-- the token at a place: kind, place, value, word -/
def tkD (τ : Nat → Int32) (s lim q : Nat) : Nat × Nat × Int64 × Option Nat :=
  if min s lim ≤ q then (if lim < s then 3 else 0, min s lim, 0, none)
  else if isA (chr τ q) = true then ((tkR τ q (rlen τ (s - q) q)).1, q, (tkR τ q (rlen τ (s - q) q)).2.1, (tkR τ q (rlen τ (s - q) q)).2.2)
  else (if sgnC (chr τ q) = true then chr τ q else 3, q, 0, none)
theorem tkD_ok (τ : Nat → Int32) (s lim q : Nat) : wOK (tkD τ s lim q).2.2.2 := by
  unfold tkD
  repeat' split
  all_goals first | exact tkR_ok _ _ _ | exact wOK_none
def tkE (τ : Nat → Int32) (s q : Nat) : Nat := if isA (chr τ q) = true then q + rlen τ (s - q) q else q + 1
def nxq (τ : Nat → Int32) (s lim q : Nat) : Nat := if min s lim ≤ q then q else skipF τ (s - tkE τ s q) (tkE τ s q)
def psq (τ : Nat → Int32) (s lim : Nat) : Nat → Nat
  | 0 => skipF τ s 0
  | j + 1 => nxq τ s lim (psq τ s lim j)
theorem tkE_le {τ : Nat → Int32} {s q : Nat} (h : q < s) : q < tkE τ s q ∧ tkE τ s q ≤ s := by
  unfold tkE
  split
  · rename_i ha
    have h1 := rlen_le τ (s - q) q
    have h2 : 0 < rlen τ (s - q) q := by
      obtain ⟨m, hm⟩ : ∃ m, s - q = m + 1 := ⟨s - q - 1, by omega⟩
      rw [hm, rlen, if_pos ha]; omega
    omega
  · omega
theorem nxq_le {τ : Nat → Int32} {s lim q : Nat} (h : q ≤ s) : q ≤ nxq τ s lim q ∧ nxq τ s lim q ≤ s ∧ (q < min s lim → q < nxq τ s lim q) := by
  unfold nxq
  split
  · omega
  · have h1 := tkE_le (τ := τ) (s := s) (q := q) (by omega)
    have h2 := skipF_le τ (s - tkE τ s q) (tkE τ s q)
    omega
theorem psq_le (τ : Nat → Int32) (s lim : Nat) : ∀ j, psq τ s lim j ≤ s := by
  intro j
  induction j with
  | zero => have := skipF_le τ s 0; show skipF τ s 0 ≤ s; omega
  | succ j ih => exact (nxq_le ih).2.1
theorem psq_ge (τ : Nat → Int32) (s lim : Nat) : ∀ j, (∀ i, i < j → psq τ s lim i < min s lim) → j ≤ psq τ s lim j := by
  intro j
  induction j with
  | zero => intro _; exact Nat.zero_le _
  | succ j ih =>
    intro h
    have h1 := ih (fun i hi => h i (by omega))
    have h2 := (nxq_le (τ := τ) (psq_le τ s lim j)).2.2 (h j (by omega))
    show j + 1 ≤ nxq τ s lim (psq τ s lim j)
    omega
/-- one token more -/
def tAdd (ad : Nat → Nat) (κ : kS) (m k p : Nat) (v : Int64) (r : Option Nat) : kS := kF (kP (kJ (kI (kI κ 2 m (nI k)) 3 m (nI p)) 4 m v) 5 m (Option.map ad r)) 6 (.int (nI (m + 1)))
/-- the first so many tokens stand in the rows -/
def TKs (ad : Nat → Nat) (τ : Nat → Int32) (s lim : Nat) (κ : kS) (m : Nat) : Prop := ∀ j, j < m → κ.2.1 2 j = nI (tkD τ s lim (psq τ s lim j)).1 ∧ κ.2.1 3 j = nI (tkD τ s lim (psq τ s lim j)).2.1 ∧ κ.2.2.1 4 j = (tkD τ s lim (psq τ s lim j)).2.2.1 ∧ κ.2.2.2 5 j = Option.map ad (tkD τ s lim (psq τ s lim j)).2.2.2
theorem TKs.add {ad : Nat → Nat} {τ : Nat → Int32} {s lim : Nat} {κ : kS} {m : Nat} (h : TKs ad τ s lim κ m) {x : Nat × Nat × Int64 × Option Nat} (hx : tkD τ s lim (psq τ s lim m) = x) : TKs ad τ s lim (tAdd ad κ m x.1 x.2.1 x.2.2.1 x.2.2.2) (m + 1) := by
  intro j hj
  show upN (κ.2.1 2) m _ j = _ ∧ upN (κ.2.1 3) m _ j = _ ∧ upN (κ.2.2.1 4) m _ j = _ ∧ upN (κ.2.2.2 5) m _ j = _
  by_cases e : j = m
  · subst e; rw [upN_s, upN_s, upN_s, upN_s, hx]; exact ⟨rfl, rfl, rfl, rfl⟩
  · rw [upN_n _ _ _ _ e, upN_n _ _ _ _ e, upN_n _ _ _ _ e, upN_n _ _ _ _ e]; exact h j (by omega)
/-- the tape as it stands at its k-th token -/
def TPs (ad : Nat → Nat) (τ : Nat → Int32) (s lim : Nat) (κ : kS) (k nT : Nat) : Prop := κ.1 6 = .int (nI (nT + 1)) ∧ κ.1 7 = .int (nI k) ∧ k ≤ nT ∧ nT ≤ 940 ∧ TKs ad τ s lim κ (nT + 1) ∧ min s lim ≤ psq τ s lim nT ∧ κ.1 8 = .int (nI (tkD τ s lim (psq τ s lim k)).1) ∧ κ.1 9 = .long (tkD τ s lim (psq τ s lim k)).2.2.1 ∧ κ.1 10 = va_rf (Option.map ad (tkD τ s lim (psq τ s lim k)).2.2.2)
theorem TB.tAdd {ad : Nat → Nat} {κ : kS} {τ : Nat → Int32} {n m k p : Nat} {v : Int64} {r : Option Nat} (h : TB κ τ n) : TB (tAdd ad κ m k p v r) τ n := h
set_option maxHeartbeats 1000000 in
set_option maxRecDepth 20000 in
theorem c8_isLetter {G : xG} {d : Nat} {Q : xQ} {ws : va_W} {x : Nat} (hx : x < 2 ^ 31) (kk : Q (some (.int (bI (isL x)))) ws) : MT G MX8_isLetter (d) 0 0 [.int (nI x)] ws Q := by
  refine mt_start (L := [some (.int (nI x))]) rfl (Nat.le_of_ble_eq_true rfl) rfl ?_
  refine aw_iload_n (pc := 0) (i := 0) dX8_isLetter_0 rfl rfl ?_
  refine aw_bipush (pc := 1) dX8_isLetter_1 bipush_97 ?_
  refine an_icmp_lt (pc := 3) (tgt := 16) dX8_isLetter_3 rfl (by omega) (by decide) (fun h3 => ?_) (fun h3 => ?_)
  · -- 16
    refine aw_iconst (pc := 16) dX8_isLetter_16 iconst_0 ?_
    exact ab_ret0 (pc := 17) dX8_isLetter_17 rfl (Nat.le_refl _) (Nat.le_refl _) (by rw [show isL x = false by unfold isL; simp; omega] at kk; exact kk)
  · -- 6
    refine aw_iload_n (pc := 6) (i := 0) dX8_isLetter_6 rfl rfl ?_
    refine aw_bipush (pc := 7) dX8_isLetter_7 bipush_122 ?_
    refine an_icmp_gt (pc := 9) (tgt := 16) dX8_isLetter_9 rfl (by omega) (by decide) (fun h9 => ?_) (fun h9 => ?_)
    · -- 16
      refine aw_iconst (pc := 16) dX8_isLetter_16 iconst_0 ?_
      exact ab_ret0 (pc := 17) dX8_isLetter_17 rfl (Nat.le_refl _) (Nat.le_refl _) (by rw [show isL x = false by unfold isL; simp; omega] at kk; exact kk)
    · -- 12
      refine aw_iconst (pc := 12) dX8_isLetter_12 iconst_1 ?_
      refine aw_goto (pc := 13) (tgt := 17) dX8_isLetter_13 rfl ?_
      exact ab_ret1 (pc := 17) dX8_isLetter_17 rfl (Nat.le_refl _) (Nat.le_refl _) (by rw [show isL x = true by unfold isL; simp; omega] at kk; exact kk)
set_option maxHeartbeats 1000000 in
set_option maxRecDepth 20000 in
theorem c8_isDigit {G : xG} {d : Nat} {Q : xQ} {ws : va_W} {x : Nat} (hx : x < 2 ^ 31) (kk : Q (some (.int (bI (isD x)))) ws) : MT G MX8_isDigit (d) 0 0 [.int (nI x)] ws Q := by
  refine mt_start (L := [some (.int (nI x))]) rfl (Nat.le_of_ble_eq_true rfl) rfl ?_
  refine aw_iload_n (pc := 0) (i := 0) dX8_isDigit_0 rfl rfl ?_
  refine aw_bipush (pc := 1) dX8_isDigit_1 bipush_48 ?_
  refine an_icmp_lt (pc := 3) (tgt := 16) dX8_isDigit_3 rfl (by omega) (by decide) (fun h3 => ?_) (fun h3 => ?_)
  · -- 16
    refine aw_iconst (pc := 16) dX8_isDigit_16 iconst_0 ?_
    exact ab_ret0 (pc := 17) dX8_isDigit_17 rfl (Nat.le_refl _) (Nat.le_refl _) (by rw [show isD x = false by unfold isD; simp; omega] at kk; exact kk)
  · -- 6
    refine aw_iload_n (pc := 6) (i := 0) dX8_isDigit_6 rfl rfl ?_
    refine aw_bipush (pc := 7) dX8_isDigit_7 bipush_57 ?_
    refine an_icmp_gt (pc := 9) (tgt := 16) dX8_isDigit_9 rfl (by omega) (by decide) (fun h9 => ?_) (fun h9 => ?_)
    · -- 16
      refine aw_iconst (pc := 16) dX8_isDigit_16 iconst_0 ?_
      exact ab_ret0 (pc := 17) dX8_isDigit_17 rfl (Nat.le_refl _) (Nat.le_refl _) (by rw [show isD x = false by unfold isD; simp; omega] at kk; exact kk)
    · -- 12
      refine aw_iconst (pc := 12) dX8_isDigit_12 iconst_1 ?_
      refine aw_goto (pc := 13) (tgt := 17) dX8_isDigit_13 rfl ?_
      exact ab_ret1 (pc := 17) dX8_isDigit_17 rfl (Nat.le_refl _) (Nat.le_refl _) (by rw [show isD x = true by unfold isD; simp; omega] at kk; exact kk)
set_option maxHeartbeats 1000000 in
set_option maxRecDepth 20000 in
theorem c8_byteOf {G : xG} {d : Nat} {Q : xQ} {a : Nat → Nat} {κ : kS} {R : va_W} {τ : Nat → Int32} {n : Nat} {i : Nat} (h : TB κ τ n) (hi : i < 940) (kk : Q (some (.int (nI (chr τ i)))) (wTp G.2.2.1 a κ ++ R)) : MT G MX8_byteOf (d) 0 0 [.ref (a 13), .int (nI i)] (wTp G.2.2.1 a κ ++ R) Q := by
  refine mt_start (L := [some (.ref (a 13)), some (.int (nI i))]) rfl (Nat.le_of_ble_eq_true rfl) rfl ?_
  refine aw_iload_n (pc := 0) (i := 1) dX8_byteOf_0 rfl rfl ?_
  refine an_if_lt (pc := 1) (tgt := 24) dX8_byteOf_1 rfl (by omega) ?_
  refine aw_iload_n (pc := 4) (i := 1) dX8_byteOf_4 rfl rfl ?_
  refine aw_sipush (pc := 5) dX8_byteOf_5 sipush_940 ?_
  refine an_icmp_ge (pc := 8) (tgt := 24) dX8_byteOf_8 rfl (by omega) (by decide) (fun h8 => ?_) (fun h8 => ?_)
  · -- 24
    exfalso; omega
  · -- 11
    refine aw_aload_n (pc := 11) (i := 0) dX8_byteOf_11 rfl rfl ?_
    refine pg_X8_9 (pc := 12) dX8_byteOf_12 rfl ?_
    refine aw_iload_n (pc := 15) (i := 1) dX8_byteOf_15 rfl rfl ?_
    refine pl_X8_bytes (pc := 16) (x := (τ i)) dX8_byteOf_16 (by omega) (h.2.2 _ (by omega)) ?_
    refine aw_sipush (pc := 17) dX8_byteOf_17 sipush_255 ?_
    refine aw_iand (pc := 20) dX8_byteOf_20 ?_
    refine aw_top (y := (nI (chr τ i))) (octN_and _) ?_
    refine aw_goto (pc := 21) (tgt := 25) dX8_byteOf_21 rfl ?_
    exact aw_iret (pc := 25) dX8_byteOf_25 rfl (Nat.le_refl _) (Nat.le_refl _) (kk)
set_option maxHeartbeats 1000000 in
set_option maxRecDepth 20000 in
theorem blanks_loop {G : xG} {d : Nat} {Q : xQ} {a : Nat → Nat} {κ : kS} {R : va_W} {τ : Nat → Int32} {n fr r : Nat} (h : TB κ τ n) (kk : Q (some (.int (nI r))) (wTp G.2.2.1 a κ ++ R)) : ∀ (z i : Nat), i + z = n → skipF τ z i = r → AW G MX8_behindBlanks (d + 1) 0 0 Q 2 [some (.ref (a 13)), some (.int (nI fr)), some (.int (nI i))] [] (wTp G.2.2.1 a κ ++ R) 0 0 := by
  have hn9 := h.2.1
  intro z
  induction z with
  | zero =>
    intro i hi hr
    refine aw_iload_n (pc := 2) (i := 2) dX8_behindBlanks_2 rfl rfl ?_
    refine aw_aload_n (pc := 3) (i := 0) dX8_behindBlanks_3 rfl rfl ?_
    refine pg_X8_15 (pc := 4) (v := .int (nI n)) dX8_behindBlanks_4 rfl h.1 ?_
    refine an_icmp_ge (pc := 7) (tgt := 36) dX8_behindBlanks_7 rfl (by omega) (by omega) (fun h7 => ?_) (fun h7 => ?_)
    · -- 36
      refine aw_iload_n (pc := 36) (i := 2) dX8_behindBlanks_36 rfl rfl ?_
      exact aw_iret (pc := 37) dX8_behindBlanks_37 rfl (Nat.le_refl _) (Nat.le_refl _) (by rw [show i = r from hr]; exact kk)
    · -- 10
      exfalso; omega
  | succ z ih =>
    intro i hi hr
    rw [skipF] at hr
    refine aw_iload_n (pc := 2) (i := 2) dX8_behindBlanks_2 rfl rfl ?_
    refine aw_aload_n (pc := 3) (i := 0) dX8_behindBlanks_3 rfl rfl ?_
    refine pg_X8_15 (pc := 4) (v := .int (nI n)) dX8_behindBlanks_4 rfl h.1 ?_
    refine an_icmp_ge (pc := 7) (tgt := 36) dX8_behindBlanks_7 rfl (by omega) (by omega) (fun h7 => ?_) (fun h7 => ?_)
    · -- 36
      exfalso; omega
    · -- 10
      refine aw_aload_n (pc := 10) (i := 0) dX8_behindBlanks_10 rfl rfl ?_
      refine aw_iload_n (pc := 11) (i := 2) dX8_behindBlanks_11 rfl rfl ?_
      refine cVi (pc := 12) (As := [.int (nI i)]) (rest := []) dX8_behindBlanks_12 rfl oc_X8_79 rfl rfl (Nat.le_of_ble_eq_true rfl) rfl rfl ovX8 (Nat.le_refl _) (Nat.le_refl _) (c8_byteOf h (by omega) ⟨_, rfl, ?_⟩)
      refine aw_bipush (pc := 15) dX8_behindBlanks_15 bipush_32 ?_
      refine an_icmp_eq (pc := 17) (tgt := 30) dX8_behindBlanks_17 rfl (Nat.lt_trans (chr_lt _ _) (by decide)) (by decide) (fun h17 => ?_) (fun h17 => ?_)
      · -- 30
        refine an_inc (pc := 30) (z := 1) dX8_behindBlanks_30 rfl (Nat.le_of_ble_eq_true rfl) rfl ?_
        refine aw_goto (pc := 33) (tgt := 2) dX8_behindBlanks_33 rfl ?_
        exact ih (i + 1) (by omega) (by rw [if_pos (show isB (chr τ i) = true by unfold isB; simp [h17])] at hr; exact hr)
      · -- 20
        refine aw_aload_n (pc := 20) (i := 0) dX8_behindBlanks_20 rfl rfl ?_
        refine aw_iload_n (pc := 21) (i := 2) dX8_behindBlanks_21 rfl rfl ?_
        refine cVi (pc := 22) (As := [.int (nI i)]) (rest := []) dX8_behindBlanks_22 rfl oc_X8_79 rfl rfl (Nat.le_of_ble_eq_true rfl) rfl rfl ovX8 (Nat.le_refl _) (Nat.le_refl _) (c8_byteOf h (by omega) ⟨_, rfl, ?_⟩)
        refine aw_bipush (pc := 25) dX8_behindBlanks_25 bipush_10 ?_
        refine an_icmp_ne (pc := 27) (tgt := 36) dX8_behindBlanks_27 rfl (Nat.lt_trans (chr_lt _ _) (by decide)) (by decide) (fun h27 => ?_) (fun h27 => ?_)
        · -- 36
          refine aw_iload_n (pc := 36) (i := 2) dX8_behindBlanks_36 rfl rfl ?_
          exact aw_iret (pc := 37) dX8_behindBlanks_37 rfl (Nat.le_refl _) (Nat.le_refl _) (by rw [if_neg (show ¬ isB (chr τ i) = true by unfold isB; simp [h17, h27])] at hr; rw [hr]; exact kk)
        · -- 30
          refine an_inc (pc := 30) (z := 1) dX8_behindBlanks_30 rfl (Nat.le_of_ble_eq_true rfl) rfl ?_
          refine aw_goto (pc := 33) (tgt := 2) dX8_behindBlanks_33 rfl ?_
          exact ih (i + 1) (by omega) (by rw [if_pos (show isB (chr τ i) = true by unfold isB; simp [h17, h27])] at hr; exact hr)
set_option maxHeartbeats 1000000 in
set_option maxRecDepth 20000 in
theorem c8_blanks {G : xG} {d : Nat} {Q : xQ} {a : Nat → Nat} {κ : kS} {R : va_W} {τ : Nat → Int32} {n : Nat} {p : Nat} (h : TB κ τ n) (hp : p ≤ n) (kk : Q (some (.int (nI (skipF τ (n - p) p)))) (wTp G.2.2.1 a κ ++ R)) : MT G MX8_behindBlanks (d + 1) 0 0 [.ref (a 13), .int (nI p)] (wTp G.2.2.1 a κ ++ R) Q := by
  refine mt_start (L := [some (.ref (a 13)), some (.int (nI p)), none]) rfl (Nat.le_of_ble_eq_true rfl) rfl ?_
  refine aw_iload_n (pc := 0) (i := 1) dX8_behindBlanks_0 rfl rfl ?_
  refine aw_istore_n (pc := 1) (i := 2) dX8_behindBlanks_1 rfl (Nat.le_of_ble_eq_true rfl) rfl ?_
  exact blanks_loop h kk (n - p) p (by omega) rfl
set_option maxHeartbeats 1000000 in
set_option maxRecDepth 20000 in
theorem word_loop {G : xG} {d : Nat} {Q : xQ} {ad : Nat → Nat} {tw ts : Nat} {ws : va_W} {v : Int64} (hE : EB ad tw ts G) (hN : NB G) (kk : Q (some (va_rf (Option.map ad (wOf v)))) ws) : ∀ (z i : Nat), i + z = 24 → findF (fun k => decide (wC5 k = v)) z i = wOf v → AW G MX8_wordOf d 0 0 Q 2 [some (.long v), none, some (.int (nI i))] [] ws 0 0 := by
  intro z
  induction z with
  | zero =>
    intro i hi hf
    refine aw_iload_n (pc := 2) (i := 2) dX8_wordOf_2 rfl rfl ?_
    refine aw_gsa (pc := 3) dX8_wordOf_3 rfl hE hN ?_
    refine aw_tlen (pc := 6) dX8_wordOf_6 hE ?_
    refine an_icmp_ge (pc := 7) (tgt := 35) dX8_wordOf_7 rfl (by omega) (by decide) (fun h7 => ?_) (fun h7 => ?_)
    · -- 35
      refine aw_null (pc := 35) dX8_wordOf_35 ?_
      refine aw_topV (y := va_rf none) rfl ?_
      exact aw_aret (pc := 36) dX8_wordOf_36 rfl (Or.inl ⟨_, rfl⟩) (Nat.le_refl _) (Nat.le_refl _) (by rw [← show none = wOf v from hf] at kk; exact kk)
    · -- 10
      exfalso; omega
  | succ z ih =>
    intro i hi hf
    rw [findF] at hf
    refine aw_iload_n (pc := 2) (i := 2) dX8_wordOf_2 rfl rfl ?_
    refine aw_gsa (pc := 3) dX8_wordOf_3 rfl hE hN ?_
    refine aw_tlen (pc := 6) dX8_wordOf_6 hE ?_
    refine an_icmp_ge (pc := 7) (tgt := 35) dX8_wordOf_7 rfl (by omega) (by decide) (fun h7 => ?_) (fun h7 => ?_)
    · -- 35
      exfalso; omega
    · -- 10
      refine aw_gsa (pc := 10) dX8_wordOf_10 rfl hE hN ?_
      refine aw_iload_n (pc := 13) (i := 2) dX8_wordOf_13 rfl rfl ?_
      refine aw_ta (pc := 14) dX8_wordOf_14 hE (by omega) ?_
      refine aw_wcode (pc := 15) dX8_wordOf_15 rfl hE (by omega) gs_X8_101 ?_
      refine aw_lload_n (pc := 18) (i := 0) dX8_wordOf_18 rfl rfl ?_
      refine aw_lcmp (pc := 19) dX8_wordOf_19 ?_
      refine aj_if_ne (pc := 20) (tgt := 29) dX8_wordOf_20 rfl (fun h20 => ?_) (fun h20 => ?_)
      · -- 29
        refine an_inc (pc := 29) (z := 1) dX8_wordOf_29 rfl (Nat.le_of_ble_eq_true rfl) trivial ?_
        refine aw_goto (pc := 32) (tgt := 2) dX8_wordOf_32 rfl ?_
        exact ih (i + 1) (by omega) (by rw [if_neg (by simpa using h20)] at hf; exact hf)
      · -- 23
        refine aw_gsa (pc := 23) dX8_wordOf_23 rfl hE hN ?_
        refine aw_iload_n (pc := 26) (i := 2) dX8_wordOf_26 rfl rfl ?_
        refine aw_ta (pc := 27) dX8_wordOf_27 hE (by omega) ?_
        exact aw_aret (pc := 28) dX8_wordOf_28 rfl (Or.inl ⟨_, rfl⟩) (Nat.le_refl _) (Nat.le_refl _) (by rw [if_pos (by simpa using h20)] at hf; rw [← hf] at kk; exact kk)
set_option maxHeartbeats 1000000 in
set_option maxRecDepth 20000 in
theorem c8_wordOf {G : xG} {d : Nat} {Q : xQ} {ad : Nat → Nat} {tw ts : Nat} {ws : va_W} {v : Int64} (hE : EB ad tw ts G) (hN : NB G) (kk : Q (some (va_rf (Option.map ad (wOf v)))) ws) : MT G MX8_wordOf (d) 0 0 [.long v] ws Q := by
  refine mt_start (L := [some (.long v), none, none]) rfl (Nat.le_of_ble_eq_true rfl) rfl ?_
  refine aw_iconst (pc := 0) dX8_wordOf_0 iconst_0 ?_
  refine aw_istore_n (pc := 1) (i := 2) dX8_wordOf_1 rfl (Nat.le_of_ble_eq_true rfl) trivial ?_
  exact word_loop hE hN kk 24 0 rfl rfl
set_option maxHeartbeats 1000000 in
set_option maxRecDepth 20000 in
theorem c8_addToken {G : xG} {d : Nat} {Q : xQ} {a ad : Nat → Nat} {tw ts : Nat} {κ : kS} {R : va_W} {m k p : Nat} {v : Int64} {r : Option Nat} (hE : EB ad tw ts G) (h6 : κ.1 6 = .int (nI m)) (hm : m < 941) (hr : wOK r) (kk : Q none (wTp G.2.2.1 a (tAdd ad κ m k p v r) ++ R)) : MT G MX8_addToken (d) 0 0 [.ref (a 13), .int (nI k), .int (nI p), .long v, va_rf (Option.map ad r)] (wTp G.2.2.1 a κ ++ R) Q := by
  refine mt_start (L := [some (.ref (a 13)), some (.int (nI k)), some (.int (nI p)), some (.long v), none, some (va_rf (Option.map ad r))]) rfl (by cases r <;> exact Nat.le_of_ble_eq_true rfl) (by cases r <;> rfl) ?_
  refine aw_aload_n (pc := 0) (i := 0) dX8_addToken_0 rfl rfl ?_
  refine pg_X8_36 (pc := 1) (v := .int (nI m)) dX8_addToken_1 rfl h6 ?_
  refine aw_aload_n (pc := 4) (i := 0) dX8_addToken_4 rfl rfl ?_
  refine pg_X8_19 (pc := 5) dX8_addToken_5 rfl ?_
  refine pn_X8_kinds (pc := 8) (j := 0) dX8_addToken_8 ?_
  refine an_icmp_ge (pc := 9) (tgt := 63) dX8_addToken_9 rfl (by omega) (by decide) (fun h9 => ?_) (fun h9 => ?_)
  · -- 63
    exfalso; omega
  · -- 12
    refine aw_aload_n (pc := 12) (i := 0) dX8_addToken_12 rfl rfl ?_
    refine pg_X8_19 (pc := 13) dX8_addToken_13 rfl ?_
    refine aw_aload_n (pc := 16) (i := 0) dX8_addToken_16 rfl rfl ?_
    refine pg_X8_36 (pc := 17) (v := .int (nI m)) dX8_addToken_17 rfl h6 ?_
    refine aw_iload_n (pc := 20) (i := 1) dX8_addToken_20 rfl rfl ?_
    refine ps_X8_kinds (pc := 21) dX8_addToken_21 (by omega) ?_
    refine aw_aload_n (pc := 22) (i := 0) dX8_addToken_22 rfl rfl ?_
    refine pg_X8_23 (pc := 23) dX8_addToken_23 rfl ?_
    refine aw_aload_n (pc := 26) (i := 0) dX8_addToken_26 rfl rfl ?_
    refine pg_X8_36 (pc := 27) (v := .int (nI m)) dX8_addToken_27 rfl h6 ?_
    refine aw_iload_n (pc := 30) (i := 2) dX8_addToken_30 rfl rfl ?_
    refine ps_X8_starts (pc := 31) dX8_addToken_31 (by omega) ?_
    refine aw_aload_n (pc := 32) (i := 0) dX8_addToken_32 rfl rfl ?_
    refine pg_X8_26 (pc := 33) dX8_addToken_33 rfl ?_
    refine aw_aload_n (pc := 36) (i := 0) dX8_addToken_36 rfl rfl ?_
    refine pg_X8_36 (pc := 37) (v := .int (nI m)) dX8_addToken_37 rfl h6 ?_
    refine aw_lload_n (pc := 40) (i := 3) dX8_addToken_40 rfl rfl ?_
    refine ps_X8_values (pc := 41) dX8_addToken_41 (by omega) ?_
    refine aw_aload_n (pc := 42) (i := 0) dX8_addToken_42 rfl rfl ?_
    refine pg_X8_32 (pc := 43) dX8_addToken_43 rfl ?_
    refine aw_aload_n (pc := 46) (i := 0) dX8_addToken_46 rfl rfl ?_
    refine pg_X8_36 (pc := 47) (v := .int (nI m)) dX8_addToken_47 rfl h6 ?_
    refine aw_qload (pc := 50) dX8_addToken_50 rfl ?_
    refine ps_X8_words (pc := 52) dX8_addToken_52 hE (by omega) hr ?_
    refine aw_aload_n (pc := 53) (i := 0) dX8_addToken_53 rfl rfl ?_
    refine aw_dup (pc := 54) dX8_addToken_54 rfl ?_
    refine pg_X8_36 (pc := 55) (v := .int (nI m)) dX8_addToken_55 rfl h6 ?_
    refine aw_iconst (pc := 58) dX8_addToken_58 iconst_1 ?_
    refine an_add (pc := 59) dX8_addToken_59 ?_
    refine pp_X8_36 (pc := 60) dX8_addToken_60 rfl ?_
    exact aw_vret (pc := 63) dX8_addToken_63 rfl (Nat.le_refl _) (Nat.le_refl _) (kk)
