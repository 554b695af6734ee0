theorem ush_by (v : Int32) (k : Nat) (hk : k ≤ 24) (h1 : ((nI k).toUInt32 &&& Int32.toUInt32 31).toBitVec % 32 = BitVec.ofNat 32 k) (h2 : (nI k &&& 31).toBitVec.smod 32 = BitVec.ofNat 32 k) : ((v.toUInt32 >>> ((nI k).toUInt32 &&& Int32.toUInt32 31)).toInt32).toInt8.toInt32 = (v >>> (nI k &&& 31)).toInt8.toInt32 := by
  congr 1
  apply Int8.toBitVec_inj.mp
  show BitVec.signExtend 8 (v.toBitVec >>> (((nI k).toUInt32 &&& Int32.toUInt32 31).toBitVec % 32)) = BitVec.signExtend 8 (v.toBitVec.sshiftRight' ((nI k &&& 31).toBitVec.smod 32))
  rw [h1, h2]
  apply BitVec.eq_of_getLsbD_eq
  intro i hi
  have e : (BitVec.ofNat 32 k).toNat = k := by rw [BitVec.toNat_ofNat]; exact Nat.mod_eq_of_lt (by omega)
  rw [BitVec.getLsbD_signExtend, BitVec.getLsbD_signExtend, BitVec.ushiftRight_eq', BitVec.sshiftRight', e, BitVec.getLsbD_ushiftRight, BitVec.getLsbD_sshiftRight]
  simp only [show i < 32 by omega, if_true, show k + i < 32 by omega, show ¬ 32 ≤ i by omega, decide_false, Bool.not_false, Bool.true_and]
theorem upN_cong {α : Type} {f g : Nat → α} {N k : Nat} {v : α} (h : ∀ j, j < N → f j = g j) : ∀ j, j < N → upN f k v j = upN g k v j := by
  intro j hj
  by_cases e : j = k
  · rw [e, upN_s, upN_s]
  · rw [upN_n _ _ _ _ e, upN_n _ _ _ _ e]; exact h j hj
set_option maxHeartbeats 1000000 in
set_option maxRecDepth 20000 in
theorem c8_add {G : xG} {d : Nat} {Q : xQ} {a : Nat → Nat} {κ : kS} {R : va_W} {τ : Nat → Int32} {n : Nat} {v : Int32} (h : TB κ τ n) (hn : n + 4 ≤ 940) (kk : ∀ κ9, TB κ9 (fourT τ n v) (n + 4) → κ9.1 11 = κ.1 11 → κ9.1 12 = κ.1 12 → Q none (wTp G.2.2.1 a κ9 ++ R)) : MT G MX8_add (d) 0 0 [.ref (a 13), .int v] (wTp G.2.2.1 a κ ++ R) Q := by
  refine mt_start (L := [some (.ref (a 13)), some (.int v), none]) rfl (Nat.le_of_ble_eq_true rfl) rfl ?_
  refine aw_bipush (pc := 0) dX8_add_0 bipush_24 ?_
  refine aw_istore_n (pc := 2) (i := 2) dX8_add_2 rfl (Nat.le_of_ble_eq_true rfl) rfl ?_
  refine aw_iload_n (pc := 3) (i := 2) dX8_add_3 rfl rfl ?_
  refine an_if_lt (pc := 4) (tgt := 46) dX8_add_4 rfl (by decide) ?_
  refine aw_aload_n (pc := 7) (i := 0) dX8_add_7 rfl rfl ?_
  refine pg_X8_15 (pc := 8) (v := .int (nI n)) dX8_add_8 rfl h.1 ?_
  refine aw_sipush (pc := 11) dX8_add_11 sipush_940 ?_
  refine an_icmp_ge (pc := 14) (tgt := 46) dX8_add_14 rfl (by omega) (by decide) (fun h14 => ?_) (fun h14 => ?_)
  · -- 46
    exfalso; omega
  · -- 17
    refine aw_aload_n (pc := 17) (i := 0) dX8_add_17 rfl rfl ?_
    refine pg_X8_9 (pc := 18) dX8_add_18 rfl ?_
    refine aw_aload_n (pc := 21) (i := 0) dX8_add_21 rfl rfl ?_
    refine pg_X8_15 (pc := 22) (v := .int (nI n)) dX8_add_22 rfl h.1 ?_
    refine aw_iload_n (pc := 25) (i := 1) dX8_add_25 rfl rfl ?_
    refine aw_iload_n (pc := 26) (i := 2) dX8_add_26 rfl rfl ?_
    refine aw_iushr (pc := 27) dX8_add_27 ?_
    refine aw_i2b (pc := 28) dX8_add_28 ?_
    refine aw_top (y := ((v >>> (nI 24 &&& 31)).toInt8.toInt32)) (ush_by v 24 (by decide) (by decide) (by decide)) ?_
    refine ps_X8_bytes (pc := 29) dX8_add_29 (by omega) ?_
    refine aw_aload_n (pc := 30) (i := 0) dX8_add_30 rfl rfl ?_
    refine aw_dup (pc := 31) dX8_add_31 rfl ?_
    refine pg_X8_15 (pc := 32) (v := .int (nI n)) dX8_add_32 rfl h.1 ?_
    refine aw_iconst (pc := 35) dX8_add_35 iconst_1 ?_
    refine an_add (pc := 36) dX8_add_36 ?_
    refine pp_X8_15 (pc := 37) dX8_add_37 rfl ?_
    refine an_dec (pc := 40) (v := (-8 : Int32)) (y := nI 16) dX8_add_40 rfl (by decide) (by decide) (Nat.le_of_ble_eq_true rfl) rfl ?_
    refine aw_goto (pc := 43) (tgt := 3) dX8_add_43 rfl ?_
    refine aw_iload_n (pc := 3) (i := 2) dX8_add_3 rfl rfl ?_
    refine an_if_lt (pc := 4) (tgt := 46) dX8_add_4 rfl (by decide) ?_
    refine aw_aload_n (pc := 7) (i := 0) dX8_add_7 rfl rfl ?_
    refine pg_X8_15 (pc := 8) (v := .int (nI (n + 1))) dX8_add_8 rfl rfl ?_
    refine aw_sipush (pc := 11) dX8_add_11 sipush_940 ?_
    refine an_icmp_ge (pc := 14) (tgt := 46) dX8_add_14 rfl (by omega) (by decide) (fun h14 => ?_) (fun h14 => ?_)
    · -- 46
      exfalso; omega
    · -- 17
      refine aw_aload_n (pc := 17) (i := 0) dX8_add_17 rfl rfl ?_
      refine pg_X8_9 (pc := 18) dX8_add_18 rfl ?_
      refine aw_aload_n (pc := 21) (i := 0) dX8_add_21 rfl rfl ?_
      refine pg_X8_15 (pc := 22) (v := .int (nI (n + 1))) dX8_add_22 rfl rfl ?_
      refine aw_iload_n (pc := 25) (i := 1) dX8_add_25 rfl rfl ?_
      refine aw_iload_n (pc := 26) (i := 2) dX8_add_26 rfl rfl ?_
      refine aw_iushr (pc := 27) dX8_add_27 ?_
      refine aw_i2b (pc := 28) dX8_add_28 ?_
      refine aw_top (y := ((v >>> (nI 16 &&& 31)).toInt8.toInt32)) (ush_by v 16 (by decide) (by decide) (by decide)) ?_
      refine ps_X8_bytes (pc := 29) dX8_add_29 (by omega) ?_
      refine aw_aload_n (pc := 30) (i := 0) dX8_add_30 rfl rfl ?_
      refine aw_dup (pc := 31) dX8_add_31 rfl ?_
      refine pg_X8_15 (pc := 32) (v := .int (nI (n + 1))) dX8_add_32 rfl rfl ?_
      refine aw_iconst (pc := 35) dX8_add_35 iconst_1 ?_
      refine an_add (pc := 36) dX8_add_36 ?_
      refine pp_X8_15 (pc := 37) dX8_add_37 rfl ?_
      refine an_dec (pc := 40) (v := (-8 : Int32)) (y := nI 8) dX8_add_40 rfl (by decide) (by decide) (Nat.le_of_ble_eq_true rfl) rfl ?_
      refine aw_goto (pc := 43) (tgt := 3) dX8_add_43 rfl ?_
      refine aw_iload_n (pc := 3) (i := 2) dX8_add_3 rfl rfl ?_
      refine an_if_lt (pc := 4) (tgt := 46) dX8_add_4 rfl (by decide) ?_
      refine aw_aload_n (pc := 7) (i := 0) dX8_add_7 rfl rfl ?_
      refine pg_X8_15 (pc := 8) (v := .int (nI ((n + 1) + 1))) dX8_add_8 rfl rfl ?_
      refine aw_sipush (pc := 11) dX8_add_11 sipush_940 ?_
      refine an_icmp_ge (pc := 14) (tgt := 46) dX8_add_14 rfl (by omega) (by decide) (fun h14 => ?_) (fun h14 => ?_)
      · -- 46
        exfalso; omega
      · -- 17
        refine aw_aload_n (pc := 17) (i := 0) dX8_add_17 rfl rfl ?_
        refine pg_X8_9 (pc := 18) dX8_add_18 rfl ?_
        refine aw_aload_n (pc := 21) (i := 0) dX8_add_21 rfl rfl ?_
        refine pg_X8_15 (pc := 22) (v := .int (nI ((n + 1) + 1))) dX8_add_22 rfl rfl ?_
        refine aw_iload_n (pc := 25) (i := 1) dX8_add_25 rfl rfl ?_
        refine aw_iload_n (pc := 26) (i := 2) dX8_add_26 rfl rfl ?_
        refine aw_iushr (pc := 27) dX8_add_27 ?_
        refine aw_i2b (pc := 28) dX8_add_28 ?_
        refine aw_top (y := ((v >>> (nI 8 &&& 31)).toInt8.toInt32)) (ush_by v 8 (by decide) (by decide) (by decide)) ?_
        refine ps_X8_bytes (pc := 29) dX8_add_29 (by omega) ?_
        refine aw_aload_n (pc := 30) (i := 0) dX8_add_30 rfl rfl ?_
        refine aw_dup (pc := 31) dX8_add_31 rfl ?_
        refine pg_X8_15 (pc := 32) (v := .int (nI ((n + 1) + 1))) dX8_add_32 rfl rfl ?_
        refine aw_iconst (pc := 35) dX8_add_35 iconst_1 ?_
        refine an_add (pc := 36) dX8_add_36 ?_
        refine pp_X8_15 (pc := 37) dX8_add_37 rfl ?_
        refine an_dec (pc := 40) (v := (-8 : Int32)) (y := nI 0) dX8_add_40 rfl (by decide) (by decide) (Nat.le_of_ble_eq_true rfl) rfl ?_
        refine aw_goto (pc := 43) (tgt := 3) dX8_add_43 rfl ?_
        refine aw_iload_n (pc := 3) (i := 2) dX8_add_3 rfl rfl ?_
        refine an_if_lt (pc := 4) (tgt := 46) dX8_add_4 rfl (by decide) ?_
        refine aw_aload_n (pc := 7) (i := 0) dX8_add_7 rfl rfl ?_
        refine pg_X8_15 (pc := 8) (v := .int (nI (((n + 1) + 1) + 1))) dX8_add_8 rfl rfl ?_
        refine aw_sipush (pc := 11) dX8_add_11 sipush_940 ?_
        refine an_icmp_ge (pc := 14) (tgt := 46) dX8_add_14 rfl (by omega) (by decide) (fun h14 => ?_) (fun h14 => ?_)
        · -- 46
          exfalso; omega
        · -- 17
          refine aw_aload_n (pc := 17) (i := 0) dX8_add_17 rfl rfl ?_
          refine pg_X8_9 (pc := 18) dX8_add_18 rfl ?_
          refine aw_aload_n (pc := 21) (i := 0) dX8_add_21 rfl rfl ?_
          refine pg_X8_15 (pc := 22) (v := .int (nI (((n + 1) + 1) + 1))) dX8_add_22 rfl rfl ?_
          refine aw_iload_n (pc := 25) (i := 1) dX8_add_25 rfl rfl ?_
          refine aw_iload_n (pc := 26) (i := 2) dX8_add_26 rfl rfl ?_
          refine aw_iushr (pc := 27) dX8_add_27 ?_
          refine aw_i2b (pc := 28) dX8_add_28 ?_
          refine aw_top (y := ((v >>> (nI 0 &&& 31)).toInt8.toInt32)) (ush_by v 0 (by decide) (by decide) (by decide)) ?_
          refine ps_X8_bytes (pc := 29) dX8_add_29 (by omega) ?_
          refine aw_aload_n (pc := 30) (i := 0) dX8_add_30 rfl rfl ?_
          refine aw_dup (pc := 31) dX8_add_31 rfl ?_
          refine pg_X8_15 (pc := 32) (v := .int (nI (((n + 1) + 1) + 1))) dX8_add_32 rfl rfl ?_
          refine aw_iconst (pc := 35) dX8_add_35 iconst_1 ?_
          refine an_add (pc := 36) dX8_add_36 ?_
          refine pp_X8_15 (pc := 37) dX8_add_37 rfl ?_
          refine an_dec (pc := 40) (v := (-8 : Int32)) (y := (-8 : Int32)) dX8_add_40 rfl (by decide) (by decide) (Nat.le_of_ble_eq_true rfl) rfl ?_
          refine aw_goto (pc := 43) (tgt := 3) dX8_add_43 rfl ?_
          refine aw_iload_n (pc := 3) (i := 2) dX8_add_3 rfl rfl ?_
          refine aw_if_lt (pc := 4) (tgt := 46) dX8_add_4 rfl (fun h4 => ?_) (fun h4 => ?_)
          · -- 46
            refine aw_vret (pc := 46) dX8_add_46 rfl (Nat.le_refl _) (Nat.le_refl _) ?_
            refine kk _ ⟨rfl, by omega, ?_⟩ rfl rfl
            exact upN_cong (upN_cong (upN_cong (upN_cong h.2.2)))
          · -- 7
            exact absurd h4 (by decide)
def cB (s : Nat) : Nat → Nat
  | 0 => 0
  | n + 1 => cB s n + (s.testBit n).toNat
theorem cB_le (s : Nat) : ∀ n, cB s n ≤ n := by
  intro n
  induction n with
  | zero => exact Nat.le_refl _
  | succ n ih => rw [cB]; have := Bool.toNat_le (s.testBit n); omega
theorem cB_mono {s u : Nat} (h : ∀ i, s.testBit i = true → u.testBit i = true) : ∀ n, cB s n ≤ cB u n := by
  intro n
  induction n with
  | zero => exact Nat.le_refl _
  | succ n ih =>
    rw [cB, cB]
    cases e : s.testBit n with
    | false => simp; omega
    | true => rw [h n e]; omega
theorem cB_lt {s u : Nat} (h : ∀ i, s.testBit i = true → u.testBit i = true) {j : Nat} (h1 : u.testBit j = true) (h2 : s.testBit j = false) : ∀ n, j < n → cB s n < cB u n := by
  intro n
  induction n with
  | zero => intro h9; exact absurd h9 (Nat.not_lt_zero _)
  | succ n ih =>
    intro hj
    rw [cB, cB]
    by_cases e : j = n
    · subst e
      have := cB_mono h j
      rw [h1, h2]; simp; omega
    · have := ih (by omega)
      cases e2 : s.testBit n with
      | false => simp; omega
      | true => rw [h n e2]; omega
theorem partR_sub {t : Nat → Nat} {cl set r i : Nat} (h : set.testBit i = true) : (partR t cl set r).testBit i = true := by
  unfold partR
  split
  · exact h
  · split
    · rw [Nat.testBit_or, h]; rfl
    · split
      · rw [Nat.testBit_or, h]; rfl
      · exact h
theorem partL_sub {t : Nat → Nat} {cl set i : Nat} (h : set.testBit i = true) : ∀ n, (partL t cl set n).testBit i = true := by
  intro n
  induction n with
  | zero => exact h
  | succ n ih => exact partR_sub ih
theorem partR_n {t : Nat → Nat} {cl set r n : Nat} (h : set < 2 ^ n) (hr : t (24 + r) < n ∧ t (36 + r) < n) : partR t cl set r < 2 ^ n := by
  have hx : set ||| (2 ^ t (24 + r) ||| 2 ^ t (36 + r)) < 2 ^ n := Nat.or_lt_two_pow h (Nat.or_lt_two_pow (Nat.pow_lt_pow_right (by decide) hr.1) (Nat.pow_lt_pow_right (by decide) hr.2))
  unfold partR
  split
  · exact h
  · split
    · exact hx
    · split
      · exact hx
      · exact h
theorem partL_n {t : Nat → Nat} (hR : ∀ r, r < t 1 → t (24 + r) < t 0 ∧ t (36 + r) < t 0 ∧ ¬ t (24 + r) = t (36 + r)) {cl set : Nat} (h : set < 2 ^ t 0) : ∀ n, n ≤ t 1 → partL t cl set n < 2 ^ t 0 := by
  intro n
  induction n with
  | zero => intro _; exact h
  | succ n ih => intro hn; have := hR n (by omega); exact partR_n (ih (by omega)) ⟨this.1, this.2.1⟩
theorem partK_n {t : Nat → Nat} (hR : ∀ r, r < t 1 → t (24 + r) < t 0 ∧ t (36 + r) < t 0 ∧ ¬ t (24 + r) = t (36 + r)) {cl set : Nat} (h : set < 2 ^ t 0) : ∀ n, partK t cl set n < 2 ^ t 0 := by
  intro n
  induction n with
  | zero => exact h
  | succ n ih => exact partL_n hR ih _ (Nat.le_refl _)
theorem sub_ne {s u n : Nat} (hs : s < 2 ^ n) (hu : u < 2 ^ n) (h : ∀ i, s.testBit i = true → u.testBit i = true) (hne : ¬ u = s) : cB s n < cB u n := by
  have : ∃ j, j < n ∧ u.testBit j = true ∧ s.testBit j = false := by
    apply Classical.byContradiction
    intro hc
    apply hne
    apply Nat.eq_of_testBit_eq
    intro i
    by_cases hi : i < n
    · cases e : u.testBit i with
      | true =>
        cases e2 : s.testBit i with
        | true => rfl
        | false => exact absurd ⟨i, hi, e, e2⟩ hc
      | false =>
        cases e2 : s.testBit i with
        | true => exact absurd ((h i e2).symm.trans e) (by decide)
        | false => rfl
    · rw [Nat.testBit_lt_two_pow (Nat.lt_of_lt_of_le hu (Nat.pow_le_pow_right (by decide) (by omega))), Nat.testBit_lt_two_pow (Nat.lt_of_lt_of_le hs (Nat.pow_le_pow_right (by decide) (by omega)))]
  obtain ⟨j, hj, e1, e2⟩ := this
  exact cB_lt h e1 e2 n hj
theorem part_grow {t : Nat → Nat} (hR : ∀ r, r < t 1 → t (24 + r) < t 0 ∧ t (36 + r) < t 0 ∧ ¬ t (24 + r) = t (36 + r)) {cl x : Nat} (hx : x < t 0) : ∀ k, partK t cl (2 ^ x) (k + 1) = partK t cl (2 ^ x) k ∨ k + 2 ≤ cB (partK t cl (2 ^ x) (k + 1)) (t 0) := by
  have h2 : 2 ^ x < 2 ^ t 0 := Nat.pow_lt_pow_right (by decide) hx
  have hs : ∀ k i, (partK t cl (2 ^ x) k).testBit i = true → (partK t cl (2 ^ x) (k + 1)).testBit i = true := fun k i h => partL_sub h (t 1)
  intro k
  induction k with
  | zero =>
    by_cases e : partK t cl (2 ^ x) 1 = partK t cl (2 ^ x) 0
    · exact Or.inl e
    · right
      have := sub_ne (partK_n hR h2 0) (partK_n hR (cl := cl) h2 1) (hs 0) e
      have h1 : 0 < cB (2 ^ x) (t 0) := by
        have := cB_lt (s := 0) (u := 2 ^ x) (fun i h => by simp at h) (j := x) (Nat.testBit_two_pow_self) (by simp) (t 0) hx
        omega
      have h3 : cB (partK t cl (2 ^ x) 0) (t 0) = cB (2 ^ x) (t 0) := rfl
      show 0 + 2 ≤ cB (partK t cl (2 ^ x) 1) (t 0)
      omega
  | succ k ih =>
    by_cases e : partK t cl (2 ^ x) (k + 1 + 1) = partK t cl (2 ^ x) (k + 1)
    · exact Or.inl e
    · right
      rcases ih with q | q
      · exact absurd (congrArg (fun z => partL t cl z (t 1)) q) e
      · have := sub_ne (partK_n hR h2 (k + 1)) (partK_n hR (cl := cl) h2 (k + 1 + 1)) (hs (k + 1)) e
        omega
theorem part_stable {t : Nat → Nat} (hR : ∀ r, r < t 1 → t (24 + r) < t 0 ∧ t (36 + r) < t 0 ∧ ¬ t (24 + r) = t (36 + r)) {cl x k : Nat} (hx : x < t 0) (hk : k + 1 = t 0) : partK t cl (2 ^ x) (t 0) = partK t cl (2 ^ x) k := by
  rcases part_grow hR (cl := cl) hx k with h | h
  · rw [← hk]; exact h
  · have := cB_le (partK t cl (2 ^ x) (k + 1)) (t 0); omega
theorem and_ends {u x y : Nat} : u &&& (2 ^ x ||| 2 ^ y) = 0 ↔ u.testBit x = false ∧ u.testBit y = false := by
  constructor
  · intro h
    have e : ∀ i, (u &&& (2 ^ x ||| 2 ^ y)).testBit i = false := fun i => by rw [h]; simp
    have a1 := e x
    have a2 := e y
    simp [Nat.testBit_and, Nat.testBit_or, Nat.testBit_two_pow] at a1 a2
    exact ⟨a1, a2⟩
  · intro ⟨a1, a2⟩
    apply Nat.eq_of_testBit_eq
    intro i
    simp only [Nat.testBit_and, Nat.testBit_or, Nat.testBit_two_pow, Nat.zero_testBit]
    by_cases e1 : x = i
    · subst e1; rw [a1]; rfl
    · by_cases e2 : y = i
      · subst e2; rw [a2]; rfl
      · simp [e1, e2]
set_option maxHeartbeats 1000000 in
set_option maxRecDepth 20000 in
theorem parted9_in {G : xG} {d : Nat} {Q : xQ} {ws : va_W} {c : Nat → Nat} {t : Nat → Nat} {NM : Nat → Int64} {x y cl : Nat} {set k9 : Nat} (hNB : NB G) (hC : CHR G ws c t NM) (hw : WT t) (hcl : cl < 2 ^ 31) (hx : x < t 0) (hy : y < t 0) (hset : set < 128) (kk : ∀ o7, AW G MX3_areParted (d + 1) 0 0 Q 80 [some (.ref (c 13)), some (.int (nI x)), some (.int (nI y)), some (.int (nI cl)), some (.int (nI (partL t cl set (t 1)))), some (.int (nI k9)), some (.int (nI (t 1))), o7] [] ws 0 0) : ∀ (z i : Nat) (o7 : Option Value), i + z = t 1 → AW G MX3_areParted (d + 1) 0 0 Q 20 [some (.ref (c 13)), some (.int (nI x)), some (.int (nI y)), some (.int (nI cl)), some (.int (nI (partL t cl set i))), some (.int (nI k9)), some (.int (nI i)), o7] [] ws 0 0 := by
  obtain ⟨hb, h0, h1, h2, hR, hP, hD, hCl, hT⟩ := id hw
  intro z
  induction z with
  | zero =>
    intro i o7 hi
    refine aw_iload (pc := 20) dX3_areParted_20 rfl ?_
    refine aw_aload_n (pc := 22) (i := 0) dX3_areParted_22 rfl rfl ?_
    refine av_get (pc := 23) (x := .int (nI (t 1))) dX3_areParted_23 rfl og_X3_15 rfl hC.ov rfl ?_
    refine an_icmp_ge (pc := 26) (tgt := 80) dX3_areParted_26 rfl (by omega) (Nat.lt_trans (hb _) (by decide)) (fun h26 => ?_) (fun h26 => ?_)
    · -- 80
      have e : i = t 1 := (by omega)
      rw [e]
      exact kk _
    · -- 29
      exfalso; omega
  | succ z ih =>
    intro i o7 hi
    have hr := hR i (by omega)
    have hu := partL_lt (WT_WR hw) (cl := cl) hset i (by omega)
    have ps : partL t cl set (i + 1) = partR t cl (partL t cl set i) i := rfl
    have q1 := two7 (x := t (24 + i)) (by omega)
    have q2 := two7 (x := t (36 + i)) (by omega)
    have q3 : 2 ^ t (24 + i) ||| 2 ^ t (36 + i) < 128 := Nat.or_lt_two_pow (n := 7) q1 q2
    generalize partL t cl set i = u at *
    unfold partR at ps
    refine aw_iload (pc := 20) dX3_areParted_20 rfl ?_
    refine aw_aload_n (pc := 22) (i := 0) dX3_areParted_22 rfl rfl ?_
    refine av_get (pc := 23) (x := .int (nI (t 1))) dX3_areParted_23 rfl og_X3_15 rfl hC.ov rfl ?_
    refine an_icmp_ge (pc := 26) (tgt := 80) dX3_areParted_26 rfl (by omega) (Nat.lt_trans (hb _) (by decide)) (fun h26 => ?_) (fun h26 => ?_)
    · -- 80
      exfalso; omega
    · -- 29
      refine aw_iconst (pc := 29) dX3_areParted_29 iconst_1 ?_
      refine aw_aload_n (pc := 30) (i := 0) dX3_areParted_30 rfl rfl ?_
      refine av_get (pc := 31) (x := .ref (c 6)) dX3_areParted_31 rfl og_X3_32 rfl hC.ov rfl ?_
      refine aw_iload (pc := 34) dX3_areParted_34 rfl ?_
      refine av_iald (pc := 36) (x := (nI (t (24 + i)))) dX3_areParted_36 hC.first (by omega) (by decide) rfl ?_
      refine aw_ishl (pc := 37) dX3_areParted_37 ?_
      refine aw_top (y := (nI (2 ^ t (24 + i)))) (nI_1shl (by omega)) ?_
      refine aw_iconst (pc := 38) dX3_areParted_38 iconst_1 ?_
      refine aw_aload_n (pc := 39) (i := 0) dX3_areParted_39 rfl rfl ?_
      refine av_get (pc := 40) (x := .ref (c 7)) dX3_areParted_40 rfl og_X3_35 rfl hC.ov rfl ?_
      refine aw_iload (pc := 43) dX3_areParted_43 rfl ?_
      refine av_iald (pc := 45) (x := (nI (t (36 + i)))) dX3_areParted_45 hC.second (by omega) (by decide) rfl ?_
      refine aw_ishl (pc := 46) dX3_areParted_46 ?_
      refine aw_top (y := (nI (2 ^ t (36 + i)))) (nI_1shl (by omega)) ?_
      refine aw_ior (pc := 47) dX3_areParted_47 ?_
      refine aw_top (y := (nI (2 ^ t (24 + i) ||| 2 ^ t (36 + i)))) (nI_or _ _ (by omega) (by omega)) ?_
      refine aw_istore (pc := 48) (i := 7) dX3_areParted_48 (Nat.le_of_ble_eq_true rfl) rfl ?_
      refine aw_iload_n (pc := 50) (i := 3) dX3_areParted_50 rfl rfl ?_
      refine aw_iload (pc := 51) dX3_areParted_51 rfl ?_
      refine cNi (pc := 53) (As := [.int (nI cl), .int (nI i)]) (rest := []) dX3_areParted_53 rfl oc_X3_53 hNB.x3 rfl rfl (Nat.le_of_ble_eq_true rfl) (Nat.le_refl _) (Nat.le_refl _) (c_hasBit hcl (by omega) ⟨_, rfl, ?_⟩)
      refine ab_if_ne (pc := 56) (tgt := 74) dX3_areParted_56 rfl (fun h56 => ?_) (fun h56 => ?_)
      · -- 74
        refine an_inc (pc := 74) (z := 1) dX3_areParted_74 rfl (Nat.le_of_ble_eq_true rfl) rfl ?_
        refine aw_goto (pc := 77) (tgt := 20) dX3_areParted_77 rfl ?_
        refine aw_L (L9 := [some (.ref (c 13)), some (.int (nI x)), some (.int (nI y)), some (.int (nI cl)), some (.int (nI (partL t cl set (i + 1)))), some (.int (nI k9)), some (.int (nI (i + 1))), some (.int (nI (2 ^ t (24 + i) ||| 2 ^ t (36 + i))))]) (by rw [ps, if_pos h56]; rfl) ?_
        exact ih (i + 1) _ (by omega)
      · -- 59
        refine aw_iload (pc := 59) dX3_areParted_59 rfl ?_
        refine aw_iload (pc := 61) dX3_areParted_61 rfl ?_
        refine aw_iand (pc := 63) dX3_areParted_63 ?_
        refine aw_top (y := (nI (u &&& (2 ^ t (24 + i) ||| 2 ^ t (36 + i))))) (nI_and _ _ (by omega) (by omega)) ?_
        refine an_if_eq (pc := 64) (tgt := 74) dX3_areParted_64 rfl (Nat.lt_of_le_of_lt Nat.and_le_left (by omega)) (fun h64 => ?_) (fun h64 => ?_)
        · -- 74
          refine an_inc (pc := 74) (z := 1) dX3_areParted_74 rfl (Nat.le_of_ble_eq_true rfl) rfl ?_
          refine aw_goto (pc := 77) (tgt := 20) dX3_areParted_77 rfl ?_
          refine aw_L (L9 := [some (.ref (c 13)), some (.int (nI x)), some (.int (nI y)), some (.int (nI cl)), some (.int (nI (partL t cl set (i + 1)))), some (.int (nI k9)), some (.int (nI (i + 1))), some (.int (nI (2 ^ t (24 + i) ||| 2 ^ t (36 + i))))]) (by rw [ps, if_neg (by rw [h56]; decide), if_neg (by rw [(and_ends.mp h64).1]; decide), if_neg (by rw [(and_ends.mp h64).2]; decide)]; rfl) ?_
          exact ih (i + 1) _ (by omega)
        · -- 67
          refine aw_iload (pc := 67) dX3_areParted_67 rfl ?_
          refine aw_iload (pc := 69) dX3_areParted_69 rfl ?_
          refine aw_ior (pc := 71) dX3_areParted_71 ?_
          refine aw_top (y := (nI (u ||| (2 ^ t (24 + i) ||| 2 ^ t (36 + i))))) (nI_or _ _ (by omega) (by omega)) ?_
          refine aw_istore (pc := 72) (i := 4) dX3_areParted_72 (Nat.le_of_ble_eq_true rfl) rfl ?_
          refine an_inc (pc := 74) (z := 1) dX3_areParted_74 rfl (Nat.le_of_ble_eq_true rfl) rfl ?_
          refine aw_goto (pc := 77) (tgt := 20) dX3_areParted_77 rfl ?_
          have e9 : partL t cl set (i + 1) = u ||| (2 ^ t (24 + i) ||| 2 ^ t (36 + i)) := by
            rw [ps, if_neg (by rw [h56]; decide)]
            split
            · rfl
            · rename_i g1
              rw [if_pos]
              cases g2 : u.testBit (t (36 + i)) with
              | true => rfl
              | false => exact absurd (and_ends.mpr ⟨by simpa using g1, g2⟩) (by omega)
          refine aw_L (L9 := [some (.ref (c 13)), some (.int (nI x)), some (.int (nI y)), some (.int (nI cl)), some (.int (nI (partL t cl set (i + 1)))), some (.int (nI k9)), some (.int (nI (i + 1))), some (.int (nI (2 ^ t (24 + i) ||| 2 ^ t (36 + i))))]) (by rw [e9]; rfl) ?_
          exact ih (i + 1) _ (by omega)
set_option maxHeartbeats 1000000 in
set_option maxRecDepth 20000 in
theorem parted9_out {G : xG} {d : Nat} {Q : xQ} {ws : va_W} {c : Nat → Nat} {t : Nat → Nat} {NM : Nat → Int64} {x y cl : Nat} (hNB : NB G) (hC : CHR G ws c t NM) (hw : WT t) (hcl : cl < 2 ^ 31) (hx : x < t 0) (hy : y < t 0) (kk : Q (some (.int (bI (partedF t x y cl)))) ws) : ∀ (z k : Nat) (o6 o7 : Option Value), k + 1 + z = t 0 → AW G MX3_areParted (d + 1) 0 0 Q 8 [some (.ref (c 13)), some (.int (nI x)), some (.int (nI y)), some (.int (nI cl)), some (.int (nI (partK t cl (2 ^ x) k))), some (.int (nI (k + 1))), o6, o7] [] ws 0 0 := by
  obtain ⟨hb, h0, h1, h2, hR, hP, hD, hCl, hT⟩ := id hw
  have hx7 := two7 (x := x) (by omega)
  intro z
  induction z with
  | zero =>
    intro k o6 o7 hi
    have hu := partK_lt (WT_WR hw) (cl := cl) hx7 k
    refine aw_iload (pc := 8) dX3_areParted_8 rfl ?_
    refine aw_aload_n (pc := 10) (i := 0) dX3_areParted_10 rfl rfl ?_
    refine av_get (pc := 11) (x := .int (nI (t 0))) dX3_areParted_11 rfl og_X3_9 rfl hC.ov rfl ?_
    refine an_icmp_ge (pc := 14) (tgt := 86) dX3_areParted_14 rfl (by omega) (Nat.lt_trans (hb _) (by decide)) (fun h14 => ?_) (fun h14 => ?_)
    · -- 86
      refine aw_iload (pc := 86) dX3_areParted_86 rfl ?_
      refine aw_iload_n (pc := 88) (i := 2) dX3_areParted_88 rfl rfl ?_
      refine cNi (pc := 89) (As := [.int (nI (partK t cl (2 ^ x) k)), .int (nI y)]) (rest := []) dX3_areParted_89 rfl oc_X3_53 hNB.x3 rfl rfl (Nat.le_of_ble_eq_true rfl) (Nat.le_refl _) (Nat.le_refl _) (c_hasBit (Nat.lt_trans hu (by decide)) (by omega) ⟨_, rfl, ?_⟩)
      refine ab_if_ne (pc := 92) (tgt := 99) dX3_areParted_92 rfl (fun h92 => ?_) (fun h92 => ?_)
      · -- 99
        refine aw_iconst (pc := 99) dX3_areParted_99 iconst_0 ?_
        refine ab_ret0 (pc := 100) dX3_areParted_100 rfl (Nat.le_refl _) (Nat.le_refl _) ?_
        rw [show partedF t x y cl = false from by unfold partedF; rw [part_stable hR hx (by omega), h92]; rfl] at kk
        exact kk
      · -- 95
        refine aw_iconst (pc := 95) dX3_areParted_95 iconst_1 ?_
        refine aw_goto (pc := 96) (tgt := 100) dX3_areParted_96 rfl ?_
        refine ab_ret1 (pc := 100) dX3_areParted_100 rfl (Nat.le_refl _) (Nat.le_refl _) ?_
        rw [show partedF t x y cl = true from by unfold partedF; rw [part_stable hR hx (by omega), h92]; rfl] at kk
        exact kk
    · -- 17
      exfalso; omega
  | succ z ih =>
    intro k o6 o7 hi
    have hu := partK_lt (WT_WR hw) (cl := cl) hx7 k
    refine aw_iload (pc := 8) dX3_areParted_8 rfl ?_
    refine aw_aload_n (pc := 10) (i := 0) dX3_areParted_10 rfl rfl ?_
    refine av_get (pc := 11) (x := .int (nI (t 0))) dX3_areParted_11 rfl og_X3_9 rfl hC.ov rfl ?_
    refine an_icmp_ge (pc := 14) (tgt := 86) dX3_areParted_14 rfl (by omega) (Nat.lt_trans (hb _) (by decide)) (fun h14 => ?_) (fun h14 => ?_)
    · -- 86
      exfalso; omega
    · -- 17
      refine aw_iconst (pc := 17) dX3_areParted_17 iconst_0 ?_
      refine aw_istore (pc := 18) (i := 6) dX3_areParted_18 (Nat.le_of_ble_eq_true rfl) rfl ?_
      refine parted9_in (set := partK t cl (2 ^ x) k) hNB hC hw hcl hx hy hu (fun o9 => ?_) (t 1) 0 _ (by omega)
      refine an_inc (pc := 80) (z := 1) dX3_areParted_80 rfl (Nat.le_of_ble_eq_true rfl) rfl ?_
      refine aw_goto (pc := 83) (tgt := 8) dX3_areParted_83 rfl ?_
      exact ih (k + 1) _ _ (by omega)
set_option maxHeartbeats 1000000 in
set_option maxRecDepth 20000 in
theorem c3_parted {G : xG} {d : Nat} {Q : xQ} {ws : va_W} {c : Nat → Nat} {t : Nat → Nat} {NM : Nat → Int64} {x y cl : Nat} (hNB : NB G) (hC : CHR G ws c t NM) (hw : WT t) (hcl : cl < 2 ^ 31) (hx : x < t 0) (hy : y < t 0) (kk : Q (some (.int (bI (partedF t x y cl)))) ws) : MT G MX3_areParted (d + 1) 0 0 [.ref (c 13), .int (nI x), .int (nI y), .int (nI cl)] ws Q := by
  obtain ⟨hb, h0, h1, h2, hR, hP, hD, hCl, hT⟩ := id hw
  refine mt_start (L := [some (.ref (c 13)), some (.int (nI x)), some (.int (nI y)), some (.int (nI cl)), none, none, none, none]) rfl (Nat.le_of_ble_eq_true rfl) rfl ?_
  refine aw_iconst (pc := 0) dX3_areParted_0 iconst_1 ?_
  refine aw_iload_n (pc := 1) (i := 1) dX3_areParted_1 rfl rfl ?_
  refine aw_ishl (pc := 2) dX3_areParted_2 ?_
  refine aw_top (y := (nI (2 ^ x))) (nI_1shl (by omega)) ?_
  refine aw_istore (pc := 3) (i := 4) dX3_areParted_3 (Nat.le_of_ble_eq_true rfl) rfl ?_
  refine aw_iconst (pc := 5) dX3_areParted_5 iconst_1 ?_
  refine aw_istore (pc := 6) (i := 5) dX3_areParted_6 (Nat.le_of_ble_eq_true rfl) rfl ?_
  exact parted9_out hNB hC hw hcl hx hy kk (t 0 - 1) 0 _ _ (by omega)
