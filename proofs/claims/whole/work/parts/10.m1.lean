theorem nI_shr {x j : Nat} (hx : x < 2 ^ 31) (hj : j < 32) : nI x >>> (nI j &&& 31) = nI (x / 2 ^ j) := by
  have e : nI j &&& 31 = nI j := by
    rw [pk_andN (n := j) (by omega) (m := 31) 5 (by decide)]
    rw [Nat.mod_eq_of_lt (by omega)]
  rw [e]
  refine pk_shrN hx (nI j) j ?_
  have : ∀ j, j < 32 → ((nI j).toBitVec.smod 32).toNat = j := by decide +kernel
  exact this j hj
theorem nI_shl {j : Nat} (x : Nat) (hj : j < 32) (h : x * 2 ^ j < 2 ^ 32) : nI x <<< (nI j &&& 31) = nI (x * 2 ^ j) := by
  have e : nI j &&& 31 = nI j := by
    rw [pk_andN (n := j) (by omega) (m := 31) 5 (by decide)]
    rw [Nat.mod_eq_of_lt (by omega)]
  rw [e]
  refine pk_shlN (nI j) j ?_ h
  have : ∀ j, j < 32 → ((nI j).toBitVec.smod 32).toNat = j := by decide +kernel
  exact this j hj
theorem nI_and1 {x : Nat} (hx : x < 2 ^ 32) : nI x &&& nI 1 = nI (x % 2) := by
  rw [show nI 1 = (1 : Int32) from rfl]
  exact pk_andN hx (m := 1) 1 (by decide)
theorem bit_div (x j : Nat) : x.testBit j = decide (x / 2 ^ j % 2 = 1) := by
  rw [Nat.testBit, Nat.shiftRight_eq_div_pow, Nat.and_comm]
  simp [Nat.and_one_is_mod]
  rcases Nat.mod_two_eq_zero_or_one (x / 2 ^ j) with h | h <;> simp [h]

set_option maxHeartbeats 1000000 in
set_option maxRecDepth 20000 in
theorem s_isIn {G : xG} {d : Nat} {Q : xQ} {ws : va_W} {v lo hi : Int32} (kk : Q (some (.int (bI (decide (lo ≤ v) && decide (v ≤ hi))))) ws) : MT G MX12_isIn (d) 0 0 [.int v, .int lo, .int hi] ws Q := by
  refine mt_start (L := [some (.int v), some (.int lo), some (.int hi)]) rfl (Nat.le_of_ble_eq_true rfl) rfl ?_
  refine aw_iload_n (pc := 0) (i := 0) dX12_isIn_0 rfl rfl ?_
  refine aw_iload_n (pc := 1) (i := 1) dX12_isIn_1 rfl rfl ?_
  refine aw_icmp_lt (pc := 2) (tgt := 14) dX12_isIn_2 rfl (fun h2 => ?_) (fun h2 => ?_)
  · -- 14
    refine aw_iconst (pc := 14) dX12_isIn_14 iconst_0 ?_
    exact ab_ret0 (pc := 15) dX12_isIn_15 rfl (Nat.le_refl _) (Nat.le_refl _) (by rw [show (decide (lo ≤ v) && decide (v ≤ hi)) = false by (simp only [Bool.and_eq_false_iff, Bool.and_eq_true, decide_eq_true_eq, decide_eq_false_iff_not, Int32.lt_iff_toInt_lt, Int32.le_iff_toInt_le] at *; omega)] at kk; exact kk)
  · -- 5
    refine aw_iload_n (pc := 5) (i := 0) dX12_isIn_5 rfl rfl ?_
    refine aw_iload_n (pc := 6) (i := 2) dX12_isIn_6 rfl rfl ?_
    refine aw_icmp_gt (pc := 7) (tgt := 14) dX12_isIn_7 rfl (fun h7 => ?_) (fun h7 => ?_)
    · -- 14
      refine aw_iconst (pc := 14) dX12_isIn_14 iconst_0 ?_
      exact ab_ret0 (pc := 15) dX12_isIn_15 rfl (Nat.le_refl _) (Nat.le_refl _) (by rw [show (decide (lo ≤ v) && decide (v ≤ hi)) = false by (simp only [Bool.and_eq_false_iff, Bool.and_eq_true, decide_eq_true_eq, decide_eq_false_iff_not, Int32.lt_iff_toInt_lt, Int32.le_iff_toInt_le] at *; omega)] at kk; exact kk)
    · -- 10
      refine aw_iconst (pc := 10) dX12_isIn_10 iconst_1 ?_
      refine aw_goto (pc := 11) (tgt := 15) dX12_isIn_11 rfl ?_
      exact ab_ret1 (pc := 15) dX12_isIn_15 rfl (Nat.le_refl _) (Nat.le_refl _) (by rw [show (decide (lo ≤ v) && decide (v ≤ hi)) = true by (simp only [Bool.and_eq_false_iff, Bool.and_eq_true, decide_eq_true_eq, decide_eq_false_iff_not, Int32.lt_iff_toInt_lt, Int32.le_iff_toInt_le] at *; omega)] at kk; exact kk)
set_option maxHeartbeats 1000000 in
set_option maxRecDepth 20000 in
theorem s_bitOf {G : xG} {d : Nat} {Q : xQ} {ws : va_W} {x j : Nat} (hx : x < 2 ^ 31) (hj : j < 32) (kk : Q (some (.int (bI (x.testBit j)))) ws) : MT G MX12_bitOf (d) 0 0 [.int (nI x), .int (nI j)] ws Q := by
  refine mt_start (L := [some (.int (nI x)), some (.int (nI j))]) rfl (Nat.le_of_ble_eq_true rfl) rfl ?_
  refine aw_iload_n (pc := 0) (i := 0) dX12_bitOf_0 rfl rfl ?_
  refine aw_iload_n (pc := 1) (i := 1) dX12_bitOf_1 rfl rfl ?_
  refine aw_ishr (pc := 2) dX12_bitOf_2 ?_
  refine aw_iconst (pc := 3) dX12_bitOf_3 iconst_1 ?_
  refine aw_iand (pc := 4) dX12_bitOf_4 ?_
  refine aw_iconst (pc := 5) dX12_bitOf_5 iconst_1 ?_
  refine aw_icmp_ne (pc := 6) (tgt := 13) dX12_bitOf_6 rfl (fun h6 => ?_) (fun h6 => ?_)
  · -- 13
    refine aw_iconst (pc := 13) dX12_bitOf_13 iconst_0 ?_
    exact ab_ret0 (pc := 14) dX12_bitOf_14 rfl (Nat.le_refl _) (Nat.le_refl _) (by rw [show x.testBit j = false by rw [bit_div]; rw [nI_shr hx hj, nI_and1 (Nat.lt_of_le_of_lt (Nat.div_le_self _ _) (by omega)), nI_eq (by omega) (by decide)] at h6; simp [h6]] at kk; exact kk)
  · -- 9
    refine aw_iconst (pc := 9) dX12_bitOf_9 iconst_1 ?_
    refine aw_goto (pc := 10) (tgt := 14) dX12_bitOf_10 rfl ?_
    exact ab_ret1 (pc := 14) dX12_bitOf_14 rfl (Nat.le_refl _) (Nat.le_refl _) (by rw [show x.testBit j = true by rw [bit_div]; rw [nI_shr hx hj, nI_and1 (Nat.lt_of_le_of_lt (Nat.div_le_self _ _) (by omega)), nI_eq (by omega) (by decide)] at h6; simp [h6]] at kk; exact kk)
set_option maxHeartbeats 1000000 in
set_option maxRecDepth 20000 in
theorem s_lesser {G : xG} {d : Nat} {Q : xQ} {ws : va_W} {x y : Nat} (hx : x < 2 ^ 31) (hy : y < 2 ^ 31) (kk : Q (some (.int (nI (min x y)))) ws) : MT G MX12_lesser (d) 0 0 [.int (nI x), .int (nI y)] ws Q := by
  refine mt_start (L := [some (.int (nI x)), some (.int (nI y))]) rfl (Nat.le_of_ble_eq_true rfl) rfl ?_
  refine aw_iload_n (pc := 0) (i := 0) dX12_lesser_0 rfl rfl ?_
  refine aw_iload_n (pc := 1) (i := 1) dX12_lesser_1 rfl rfl ?_
  refine an_icmp_ge (pc := 2) (tgt := 9) dX12_lesser_2 rfl (by omega) (by omega) (fun h2 => ?_) (fun h2 => ?_)
  · -- 9
    refine aw_iload_n (pc := 9) (i := 1) dX12_lesser_9 rfl rfl ?_
    exact aw_iret (pc := 10) dX12_lesser_10 rfl (Nat.le_refl _) (Nat.le_refl _) (by rw [show min x y = y by omega] at kk; exact kk)
  · -- 5
    refine aw_iload_n (pc := 5) (i := 0) dX12_lesser_5 rfl rfl ?_
    refine aw_goto (pc := 6) (tgt := 10) dX12_lesser_6 rfl ?_
    exact aw_iret (pc := 10) dX12_lesser_10 rfl (Nat.le_refl _) (Nat.le_refl _) (by rw [show min x y = x by omega] at kk; exact kk)
set_option maxHeartbeats 1000000 in
set_option maxRecDepth 20000 in
theorem s_greater {G : xG} {d : Nat} {Q : xQ} {ws : va_W} {x y : Int32} (kk : Q (some (.int (if y < x then x else y))) ws) : MT G MX12_greater (d) 0 0 [.int x, .int y] ws Q := by
  refine mt_start (L := [some (.int x), some (.int y)]) rfl (Nat.le_of_ble_eq_true rfl) rfl ?_
  refine aw_iload_n (pc := 0) (i := 0) dX12_greater_0 rfl rfl ?_
  refine aw_iload_n (pc := 1) (i := 1) dX12_greater_1 rfl rfl ?_
  refine aw_icmp_le (pc := 2) (tgt := 9) dX12_greater_2 rfl (fun h2 => ?_) (fun h2 => ?_)
  · -- 9
    refine aw_iload_n (pc := 9) (i := 1) dX12_greater_9 rfl rfl ?_
    exact aw_iret (pc := 10) dX12_greater_10 rfl (Nat.le_refl _) (Nat.le_refl _) (by rw [if_neg (by simp only [Int32.lt_iff_toInt_lt, Int32.le_iff_toInt_le] at *; omega)] at kk; exact kk)
  · -- 5
    refine aw_iload_n (pc := 5) (i := 0) dX12_greater_5 rfl rfl ?_
    refine aw_goto (pc := 6) (tgt := 10) dX12_greater_6 rfl ?_
    exact aw_iret (pc := 10) dX12_greater_10 rfl (Nat.le_refl _) (Nat.le_refl _) (by rw [if_pos (by simp only [Int32.lt_iff_toInt_lt, Int32.le_iff_toInt_le] at *; omega)] at kk; exact kk)
set_option maxHeartbeats 1000000 in
set_option maxRecDepth 20000 in
theorem s_isSmall {G : xG} {d : Nat} {Q : xQ} {ws : va_W} {v : Int32} (kk : Q (some (.int (bI (decide (nI 97 ≤ v) && decide (v ≤ nI 122))))) ws) : MT G MX12_isSmall (d) 0 0 [.int v] ws Q := by
  refine mt_start (L := [some (.int v)]) rfl (Nat.le_of_ble_eq_true rfl) rfl ?_
  refine aw_iload_n (pc := 0) (i := 0) dX12_isSmall_0 rfl rfl ?_
  refine aw_bipush (pc := 1) dX12_isSmall_1 bipush_97 ?_
  refine aw_icmp_lt (pc := 3) (tgt := 16) dX12_isSmall_3 rfl (fun h3 => ?_) (fun h3 => ?_)
  · -- 16
    refine aw_iconst (pc := 16) dX12_isSmall_16 iconst_0 ?_
    exact ab_ret0 (pc := 17) dX12_isSmall_17 rfl (Nat.le_refl _) (Nat.le_refl _) (by rw [show (decide (nI 97 ≤ v) && decide (v ≤ nI 122)) = false by (simp only [Bool.and_eq_false_iff, Bool.and_eq_true, decide_eq_true_eq, decide_eq_false_iff_not, Int32.lt_iff_toInt_lt, Int32.le_iff_toInt_le] at *; omega)] at kk; exact kk)
  · -- 6
    refine aw_iload_n (pc := 6) (i := 0) dX12_isSmall_6 rfl rfl ?_
    refine aw_bipush (pc := 7) dX12_isSmall_7 bipush_122 ?_
    refine aw_icmp_gt (pc := 9) (tgt := 16) dX12_isSmall_9 rfl (fun h9 => ?_) (fun h9 => ?_)
    · -- 16
      refine aw_iconst (pc := 16) dX12_isSmall_16 iconst_0 ?_
      exact ab_ret0 (pc := 17) dX12_isSmall_17 rfl (Nat.le_refl _) (Nat.le_refl _) (by rw [show (decide (nI 97 ≤ v) && decide (v ≤ nI 122)) = false by (simp only [Bool.and_eq_false_iff, Bool.and_eq_true, decide_eq_true_eq, decide_eq_false_iff_not, Int32.lt_iff_toInt_lt, Int32.le_iff_toInt_le] at *; omega)] at kk; exact kk)
    · -- 12
      refine aw_iconst (pc := 12) dX12_isSmall_12 iconst_1 ?_
      refine aw_goto (pc := 13) (tgt := 17) dX12_isSmall_13 rfl ?_
      exact ab_ret1 (pc := 17) dX12_isSmall_17 rfl (Nat.le_refl _) (Nat.le_refl _) (by rw [show (decide (nI 97 ≤ v) && decide (v ≤ nI 122)) = true by (simp only [Bool.and_eq_false_iff, Bool.and_eq_true, decide_eq_true_eq, decide_eq_false_iff_not, Int32.lt_iff_toInt_lt, Int32.le_iff_toInt_le] at *; omega)] at kk; exact kk)
set_option maxHeartbeats 1000000 in
set_option maxRecDepth 20000 in
theorem s_isDigit {G : xG} {d : Nat} {Q : xQ} {ws : va_W} {v : Int32} (kk : Q (some (.int (bI (decide (nI 48 ≤ v) && decide (v ≤ nI 57))))) ws) : MT G MX12_isDigit (d) 0 0 [.int v] ws Q := by
  refine mt_start (L := [some (.int v)]) rfl (Nat.le_of_ble_eq_true rfl) rfl ?_
  refine aw_iload_n (pc := 0) (i := 0) dX12_isDigit_0 rfl rfl ?_
  refine aw_bipush (pc := 1) dX12_isDigit_1 bipush_48 ?_
  refine aw_icmp_lt (pc := 3) (tgt := 16) dX12_isDigit_3 rfl (fun h3 => ?_) (fun h3 => ?_)
  · -- 16
    refine aw_iconst (pc := 16) dX12_isDigit_16 iconst_0 ?_
    exact ab_ret0 (pc := 17) dX12_isDigit_17 rfl (Nat.le_refl _) (Nat.le_refl _) (by rw [show (decide (nI 48 ≤ v) && decide (v ≤ nI 57)) = false by (simp only [Bool.and_eq_false_iff, Bool.and_eq_true, decide_eq_true_eq, decide_eq_false_iff_not, Int32.lt_iff_toInt_lt, Int32.le_iff_toInt_le] at *; omega)] at kk; exact kk)
  · -- 6
    refine aw_iload_n (pc := 6) (i := 0) dX12_isDigit_6 rfl rfl ?_
    refine aw_bipush (pc := 7) dX12_isDigit_7 bipush_57 ?_
    refine aw_icmp_gt (pc := 9) (tgt := 16) dX12_isDigit_9 rfl (fun h9 => ?_) (fun h9 => ?_)
    · -- 16
      refine aw_iconst (pc := 16) dX12_isDigit_16 iconst_0 ?_
      exact ab_ret0 (pc := 17) dX12_isDigit_17 rfl (Nat.le_refl _) (Nat.le_refl _) (by rw [show (decide (nI 48 ≤ v) && decide (v ≤ nI 57)) = false by (simp only [Bool.and_eq_false_iff, Bool.and_eq_true, decide_eq_true_eq, decide_eq_false_iff_not, Int32.lt_iff_toInt_lt, Int32.le_iff_toInt_le] at *; omega)] at kk; exact kk)
    · -- 12
      refine aw_iconst (pc := 12) dX12_isDigit_12 iconst_1 ?_
      refine aw_goto (pc := 13) (tgt := 17) dX12_isDigit_13 rfl ?_
      exact ab_ret1 (pc := 17) dX12_isDigit_17 rfl (Nat.le_refl _) (Nat.le_refl _) (by rw [show (decide (nI 48 ≤ v) && decide (v ≤ nI 57)) = true by (simp only [Bool.and_eq_false_iff, Bool.and_eq_true, decide_eq_true_eq, decide_eq_false_iff_not, Int32.lt_iff_toInt_lt, Int32.le_iff_toInt_le] at *; omega)] at kk; exact kk)
def pop : Nat → Nat → Nat
  | 0, _ => 0
  | n + 1, x => x % 2 + pop n (x / 2)
/-- how many bits a set of at most 12 has -/
def bitsN (x : Nat) : Nat := pop 12 x
theorem all4096 {p : Nat → Prop} (h : ∀ i, i < 64 → ∀ j, j < 64 → p (64 * i + j)) : ∀ x, x < 4096 → p x := fun x hx => by
  have := h (x / 64) (by omega) (x % 64) (by omega)
  rwa [show 64 * (x / 64) + x % 64 = x by omega] at this
theorem bits_step : ∀ x, x < 4096 → 0 < x → (x &&& (x - 1)) < x ∧ bitsN (x &&& (x - 1)) + 1 = bitsN x := all4096 (by decide +kernel)
theorem bits_le : ∀ x, x < 4096 → bitsN x ≤ 12 := all4096 (by decide +kernel)
theorem nI_and (x y : Nat) (hx : x < 2 ^ 32) (hy : y < 2 ^ 32) : nI x &&& nI y = nI (x &&& y) := by
  apply Int32.toBitVec_inj.mp
  apply BitVec.eq_of_toNat_eq
  have e : ∀ z, (nI z).toBitVec = BitVec.ofNat 32 z := fun z => rfl
  rw [Int32.toBitVec_and, e, e, e, BitVec.toNat_and, BitVec.toNat_ofNat, BitVec.toNat_ofNat, BitVec.toNat_ofNat, Nat.mod_eq_of_lt hx, Nat.mod_eq_of_lt hy, Nat.mod_eq_of_lt (Nat.lt_of_le_of_lt Nat.and_le_left hx)]
set_option maxHeartbeats 1000000 in
set_option maxRecDepth 20000 in
theorem bits_loop {G : xG} {d : Nat} {Q : xQ} {ws : va_W} {r : Nat} (kk : Q (some (.int (nI r))) ws) : ∀ (f x c : Nat) (v0 : Int32), x < f → x < 4096 → c + bitsN x = r → AW G MX12_bits d 0 0 Q 4 [some (.int v0), some (.int (nI c)), some (.int (nI x))] [] ws 0 0 := by
  intro f
  induction f with
  | zero => intro x c v0 h; exact absurd h (Nat.not_lt_zero _)
  | succ f ih =>
    intro x c v0 hf hx hr
    refine aw_iload_n (pc := 4) (i := 2) dX12_bits_4 rfl rfl ?_
    refine an_if_eq (pc := 5) (tgt := 20) dX12_bits_5 rfl (by omega) (fun h5 => ?_) (fun h5 => ?_)
    · -- 20
      refine aw_iload_n (pc := 20) (i := 1) dX12_bits_20 rfl rfl ?_
      exact aw_iret (pc := 21) dX12_bits_21 rfl (Nat.le_refl _) (Nat.le_refl _) (by have e : c = r := (by rw [← hr, h5]; rfl); subst e; exact kk)
    · -- 8
      refine an_inc (pc := 8) (z := 1) dX12_bits_8 rfl (Nat.le_of_ble_eq_true rfl) rfl ?_
      refine aw_iload_n (pc := 11) (i := 2) dX12_bits_11 rfl rfl ?_
      refine aw_iload_n (pc := 12) (i := 2) dX12_bits_12 rfl rfl ?_
      refine aw_iconst (pc := 13) dX12_bits_13 iconst_1 ?_
      refine aw_isub (pc := 14) dX12_bits_14 ?_
      refine aw_iand (pc := 15) dX12_bits_15 ?_
      refine aw_istore_n (pc := 16) (i := 2) dX12_bits_16 rfl (Nat.le_of_ble_eq_true rfl) rfl ?_
      refine aw_goto (pc := 17) (tgt := 4) dX12_bits_17 rfl ?_
      have hp := bits_step x hx h5
      refine aw_L (L9 := [some (.int v0), some (.int (nI (c + 1))), some (.int (nI (x &&& (x - 1))))]) (by rw [pk_sub (by omega), nI_and x (x - 1) (by omega) (by omega)]; rfl) ?_
      exact ih (x &&& (x - 1)) (c + 1) v0 (by omega) (by omega) (by omega)
set_option maxHeartbeats 1000000 in
set_option maxRecDepth 20000 in
theorem s_bits {G : xG} {d : Nat} {Q : xQ} {ws : va_W} {x : Nat} (hx : x < 4096) (kk : Q (some (.int (nI (bitsN x)))) ws) : MT G MX12_bits (d) 0 0 [.int (nI x)] ws Q := by
  refine mt_start (L := [some (.int (nI x)), none, none]) rfl (Nat.le_of_ble_eq_true rfl) rfl ?_
  refine aw_iconst (pc := 0) dX12_bits_0 iconst_0 ?_
  refine aw_istore_n (pc := 1) (i := 1) dX12_bits_1 rfl (Nat.le_of_ble_eq_true rfl) rfl ?_
  refine aw_iload_n (pc := 2) (i := 0) dX12_bits_2 rfl rfl ?_
  refine aw_istore_n (pc := 3) (i := 2) dX12_bits_3 rfl (Nat.le_of_ble_eq_true rfl) rfl ?_
  exact bits_loop (r := bitsN x) kk (x + 1) x 0 (nI x) (Nat.lt_succ_self _) hx (by omega)
