/-! pure words: t holds the reference's numbers s by their places -/
def findF (p : Nat → Bool) : Nat → Nat → Option Nat
  | 0, _ => none
  | n + 1, i => if p i = true then some i else findF p n (i + 1)
def sumF (f : Nat → Nat) : Nat → Nat
  | 0 => 0
  | n + 1 => sumF f n + f n
def orF (p : Nat → Bool) : Nat → Nat
  | 0 => 0
  | n + 1 => if p n = true then orF p n ||| 2 ^ n else orF p n
theorem orF_lt (p : Nat → Bool) : ∀ n, orF p n < 2 ^ n := by
  intro n
  induction n with
  | zero => simp [orF]
  | succ n ih =>
    unfold orF
    have h2 : 2 ^ (n + 1) = 2 * 2 ^ n := by rw [Nat.pow_succ]; omega
    split
    · exact Nat.or_lt_two_pow (by omega) (by omega)
    · omega
theorem nI_or (x y : Nat) (hx : x < 2 ^ 32) (hy : y < 2 ^ 32) : nI x ||| nI y = nI (x ||| y) := by
  apply Int32.toBitVec_inj.mp
  apply BitVec.eq_of_toNat_eq
  have e : ∀ z, (nI z).toBitVec = BitVec.ofNat 32 z := fun z => rfl
  rw [Int32.toBitVec_or, e, e, e, BitVec.toNat_or, BitVec.toNat_ofNat, BitVec.toNat_ofNat, BitVec.toNat_ofNat, Nat.mod_eq_of_lt hx, Nat.mod_eq_of_lt hy, Nat.mod_eq_of_lt (Nat.or_lt_two_pow hx hy)]
theorem nI_xor (x y : Nat) (hx : x < 2 ^ 32) (hy : y < 2 ^ 32) : nI x ^^^ nI y = nI (x ^^^ y) := by
  apply Int32.toBitVec_inj.mp
  apply BitVec.eq_of_toNat_eq
  have e : ∀ z, (nI z).toBitVec = BitVec.ofNat 32 z := fun z => rfl
  rw [Int32.toBitVec_xor, e, e, e, BitVec.toNat_xor, BitVec.toNat_ofNat, BitVec.toNat_ofNat, BitVec.toNat_ofNat, Nat.mod_eq_of_lt hx, Nat.mod_eq_of_lt hy, Nat.mod_eq_of_lt (Nat.xor_lt_two_pow hx hy)]
theorem nI_1shl {j : Nat} (hj : j < 31) : nI 1 <<< (nI j &&& 31) = nI (2 ^ j) := by
  have h : 2 ^ j < 2 ^ 31 := Nat.pow_lt_pow_right (by omega) hj
  rw [nI_shl 1 (by omega) (by omega), Nat.one_mul]
/-- the road between two lands -/
def roadP (t : Nat → Nat) (x y r : Nat) : Bool := (decide (t (24 + r) = x) && decide (t (36 + r) = y)) || (decide (t (24 + r) = y) && decide (t (36 + r) = x))
def roadF (t : Nat → Nat) (x y : Nat) : Option Nat := findF (roadP t x y) (t 1) 0
def whyBy (t : Nat → Nat) (x y m sp : Nat) : Nat := match roadF t x y with
  | none => 1
  | some r => if (t 93).testBit r = true then 2 else if m < t (48 + r) then 3 else if t (60 + r) < m then 4 else if sp.testBit y = false ∧ m ≤ t (3 + y) then 5 else 0
def sparedF (t : Nat → Nat) (q : Nat) : Nat := t (101 + t (79 + q)) ||| 2 ^ t (79 + q)
def whyX (t : Nat → Nat) (q l : Nat) : Nat := whyBy t (t (108 + q)) l (t (114 + q)) (sparedF t q)
def couldF (t : Nat → Nat) (q : Nat) : Nat := orF (fun l => decide (whyX t q l = 0)) (t 0)
def givenF (t : Nat → Nat) (l m st : Nat) : Nat := min (t (10 + l)) (min st (240 - m))
def allLongF (t : Nat → Nat) : Nat := sumF (fun q => t (114 + q)) (t 2)
theorem findF_lt {p : Nat → Bool} : ∀ (n i r : Nat), findF p n i = some r → i ≤ r ∧ r < i + n ∧ p r = true := by
  intro n
  induction n with
  | zero => intro i r h; simp [findF] at h
  | succ n ih =>
    intro i r h
    unfold findF at h
    split at h
    · cases h; exact ⟨Nat.le_refl _, by omega, by assumption⟩
    · have := ih (i + 1) r h; exact ⟨by omega, by omega, this.2.2⟩
/-- the reference's numbers are in their bounds -/
def WT (t : Nat → Nat) : Prop := (∀ j, t j < 2 ^ 30) ∧ t 0 ≤ 7 ∧ t 1 ≤ 12 ∧ t 2 ≤ 6 ∧ (∀ r, r < t 1 → t (24 + r) < t 0 ∧ t (36 + r) < t 0 ∧ ¬ t (24 + r) = t (36 + r)) ∧ (∀ q, q < t 2 → t (79 + q) < t 0 ∧ t (108 + q) < t 0 ∧ 1 ≤ t (114 + q) ∧ t (114 + q) ≤ 240) ∧ t 91 ≤ 400 ∧ t 93 < 2 ^ t 1 ∧ (∀ l, l < 7 → t (101 + l) < 128)
theorem whyBy_le (t : Nat → Nat) (x y m sp : Nat) : whyBy t x y m sp ≤ 5 := by
  unfold whyBy
  split
  · omega
  · repeat' split
    all_goals omega

set_option maxHeartbeats 1000000 in
set_option maxRecDepth 20000 in
theorem roadOf_loop {G : xG} {d : Nat} {Q : xQ} {a : Nat → Nat} {σ : mS} {x y : Nat} (hb : ∀ j, σ.2.1 6 j < 2 ^ 30) (hx : x < 2 ^ 31) (hy : y < 2 ^ 31) (h1 : σ.2.1 6 1 ≤ 12) (k1 : ∀ r, roadF (σ.2.1 6) x y = some r → Q (some (.int (nI r))) (mW G.2.2.1 a σ)) (k0 : roadF (σ.2.1 6) x y = none → Q (some (.int (-1))) (mW G.2.2.1 a σ)) : ∀ (n i : Nat), i + n = σ.2.1 6 1 → findF (roadP (σ.2.1 6) x y) n i = roadF (σ.2.1 6) x y → AW G MX12_roadOf d 0 0 Q 2 [some (.ref (a 60)), some (.int (nI x)), some (.int (nI y)), some (.int (nI i))] [] (mW G.2.2.1 a σ) 0 0 := by
  intro n
  induction n with
  | zero =>
    intro i hi hf
    refine aw_iload_n (pc := 2) (i := 3) dX12_roadOf_2 rfl rfl ?_
    refine aw_aload_n (pc := 3) (i := 0) dX12_roadOf_3 rfl rfl ?_
    refine mg_s (pc := 4) dX12_roadOf_4 rfl ?_
    refine aw_iconst (pc := 7) dX12_roadOf_7 iconst_1 ?_
    refine ml_s (pc := 8) dX12_roadOf_8 (by decide) ?_
    refine an_icmp_ge (pc := 9) (tgt := 72) dX12_roadOf_9 rfl (by omega) (Nat.lt_trans (hb _) (by decide)) (fun h9 => ?_) (fun h9 => ?_)
    · -- 72
      refine aw_iconst (pc := 72) dX12_roadOf_72 iconst_m1 ?_
      exact aw_iret (pc := 73) dX12_roadOf_73 rfl (Nat.le_refl _) (Nat.le_refl _) (k0 (by rw [← hf]; rfl))
    · -- 12
      exfalso; omega
  | succ n ih =>
    intro i hi hf
    refine aw_iload_n (pc := 2) (i := 3) dX12_roadOf_2 rfl rfl ?_
    refine aw_aload_n (pc := 3) (i := 0) dX12_roadOf_3 rfl rfl ?_
    refine mg_s (pc := 4) dX12_roadOf_4 rfl ?_
    refine aw_iconst (pc := 7) dX12_roadOf_7 iconst_1 ?_
    refine ml_s (pc := 8) dX12_roadOf_8 (by decide) ?_
    refine an_icmp_ge (pc := 9) (tgt := 72) dX12_roadOf_9 rfl (by omega) (Nat.lt_trans (hb _) (by decide)) (fun h9 => ?_) (fun h9 => ?_)
    · -- 72
      exfalso; omega
    · -- 12
      refine aw_aload_n (pc := 12) (i := 0) dX12_roadOf_12 rfl rfl ?_
      refine mg_s (pc := 13) dX12_roadOf_13 rfl ?_
      refine aw_bipush (pc := 16) dX12_roadOf_16 bipush_24 ?_
      refine aw_iload_n (pc := 18) (i := 3) dX12_roadOf_18 rfl rfl ?_
      refine an_add (pc := 19) dX12_roadOf_19 ?_
      refine ml_s (pc := 20) dX12_roadOf_20 (by omega) ?_
      refine aw_iload_n (pc := 21) (i := 1) dX12_roadOf_21 rfl rfl ?_
      refine an_icmp_ne (pc := 22) (tgt := 38) dX12_roadOf_22 rfl (Nat.lt_trans (hb _) (by decide)) (by omega) (fun h22 => ?_) (fun h22 => ?_)
      · -- 38
        refine aw_aload_n (pc := 38) (i := 0) dX12_roadOf_38 rfl rfl ?_
        refine mg_s (pc := 39) dX12_roadOf_39 rfl ?_
        refine aw_bipush (pc := 42) dX12_roadOf_42 bipush_24 ?_
        refine aw_iload_n (pc := 44) (i := 3) dX12_roadOf_44 rfl rfl ?_
        refine an_add (pc := 45) dX12_roadOf_45 ?_
        refine ml_s (pc := 46) dX12_roadOf_46 (by omega) ?_
        refine aw_iload_n (pc := 47) (i := 2) dX12_roadOf_47 rfl rfl ?_
        refine an_icmp_ne (pc := 48) (tgt := 66) dX12_roadOf_48 rfl (Nat.lt_trans (hb _) (by decide)) (by omega) (fun h48 => ?_) (fun h48 => ?_)
        · -- 66
          refine an_inc (pc := 66) (z := 1) dX12_roadOf_66 rfl (Nat.le_of_ble_eq_true rfl) rfl ?_
          refine aw_goto (pc := 69) (tgt := 2) dX12_roadOf_69 rfl ?_
          exact ih (i + 1) (by omega) (by rw [← hf, findF, if_neg (by simp [roadP]; omega)])
        · -- 51
          refine aw_aload_n (pc := 51) (i := 0) dX12_roadOf_51 rfl rfl ?_
          refine mg_s (pc := 52) dX12_roadOf_52 rfl ?_
          refine aw_bipush (pc := 55) dX12_roadOf_55 bipush_36 ?_
          refine aw_iload_n (pc := 57) (i := 3) dX12_roadOf_57 rfl rfl ?_
          refine an_add (pc := 58) dX12_roadOf_58 ?_
          refine ml_s (pc := 59) dX12_roadOf_59 (by omega) ?_
          refine aw_iload_n (pc := 60) (i := 1) dX12_roadOf_60 rfl rfl ?_
          refine an_icmp_ne (pc := 61) (tgt := 66) dX12_roadOf_61 rfl (Nat.lt_trans (hb _) (by decide)) (by omega) (fun h61 => ?_) (fun h61 => ?_)
          · -- 66
            refine an_inc (pc := 66) (z := 1) dX12_roadOf_66 rfl (Nat.le_of_ble_eq_true rfl) rfl ?_
            refine aw_goto (pc := 69) (tgt := 2) dX12_roadOf_69 rfl ?_
            exact ih (i + 1) (by omega) (by rw [← hf, findF, if_neg (by simp [roadP]; omega)])
          · -- 64
            refine aw_iload_n (pc := 64) (i := 3) dX12_roadOf_64 rfl rfl ?_
            exact aw_iret (pc := 65) dX12_roadOf_65 rfl (Nat.le_refl _) (Nat.le_refl _) (k1 i (by rw [← hf, findF, if_pos (by simp [roadP]; omega)]))
      · -- 25
        refine aw_aload_n (pc := 25) (i := 0) dX12_roadOf_25 rfl rfl ?_
        refine mg_s (pc := 26) dX12_roadOf_26 rfl ?_
        refine aw_bipush (pc := 29) dX12_roadOf_29 bipush_36 ?_
        refine aw_iload_n (pc := 31) (i := 3) dX12_roadOf_31 rfl rfl ?_
        refine an_add (pc := 32) dX12_roadOf_32 ?_
        refine ml_s (pc := 33) dX12_roadOf_33 (by omega) ?_
        refine aw_iload_n (pc := 34) (i := 2) dX12_roadOf_34 rfl rfl ?_
        refine an_icmp_eq (pc := 35) (tgt := 64) dX12_roadOf_35 rfl (Nat.lt_trans (hb _) (by decide)) (by omega) (fun h35 => ?_) (fun h35 => ?_)
        · -- 64
          refine aw_iload_n (pc := 64) (i := 3) dX12_roadOf_64 rfl rfl ?_
          exact aw_iret (pc := 65) dX12_roadOf_65 rfl (Nat.le_refl _) (Nat.le_refl _) (k1 i (by rw [← hf, findF, if_pos (by simp [roadP]; omega)]))
        · -- 38
          refine aw_aload_n (pc := 38) (i := 0) dX12_roadOf_38 rfl rfl ?_
          refine mg_s (pc := 39) dX12_roadOf_39 rfl ?_
          refine aw_bipush (pc := 42) dX12_roadOf_42 bipush_24 ?_
          refine aw_iload_n (pc := 44) (i := 3) dX12_roadOf_44 rfl rfl ?_
          refine an_add (pc := 45) dX12_roadOf_45 ?_
          refine ml_s (pc := 46) dX12_roadOf_46 (by omega) ?_
          refine aw_iload_n (pc := 47) (i := 2) dX12_roadOf_47 rfl rfl ?_
          refine an_icmp_ne (pc := 48) (tgt := 66) dX12_roadOf_48 rfl (Nat.lt_trans (hb _) (by decide)) (by omega) (fun h48 => ?_) (fun h48 => ?_)
          · -- 66
            refine an_inc (pc := 66) (z := 1) dX12_roadOf_66 rfl (Nat.le_of_ble_eq_true rfl) rfl ?_
            refine aw_goto (pc := 69) (tgt := 2) dX12_roadOf_69 rfl ?_
            exact ih (i + 1) (by omega) (by rw [← hf, findF, if_neg (by simp [roadP]; omega)])
          · -- 51
            refine aw_aload_n (pc := 51) (i := 0) dX12_roadOf_51 rfl rfl ?_
            refine mg_s (pc := 52) dX12_roadOf_52 rfl ?_
            refine aw_bipush (pc := 55) dX12_roadOf_55 bipush_36 ?_
            refine aw_iload_n (pc := 57) (i := 3) dX12_roadOf_57 rfl rfl ?_
            refine an_add (pc := 58) dX12_roadOf_58 ?_
            refine ml_s (pc := 59) dX12_roadOf_59 (by omega) ?_
            refine aw_iload_n (pc := 60) (i := 1) dX12_roadOf_60 rfl rfl ?_
            refine an_icmp_ne (pc := 61) (tgt := 66) dX12_roadOf_61 rfl (Nat.lt_trans (hb _) (by decide)) (by omega) (fun h61 => ?_) (fun h61 => ?_)
            · -- 66
              refine an_inc (pc := 66) (z := 1) dX12_roadOf_66 rfl (Nat.le_of_ble_eq_true rfl) rfl ?_
              refine aw_goto (pc := 69) (tgt := 2) dX12_roadOf_69 rfl ?_
              exact ih (i + 1) (by omega) (by rw [← hf, findF, if_neg (by simp [roadP]; omega)])
            · -- 64
              refine aw_iload_n (pc := 64) (i := 3) dX12_roadOf_64 rfl rfl ?_
              exact aw_iret (pc := 65) dX12_roadOf_65 rfl (Nat.le_refl _) (Nat.le_refl _) (k1 i (by rw [← hf, findF, if_pos (by simp [roadP]; omega)]))
set_option maxHeartbeats 1000000 in
set_option maxRecDepth 20000 in
theorem s_roadOf {G : xG} {d : Nat} {Q : xQ} {a : Nat → Nat} {σ : mS} {x y : Nat} (hb : ∀ j, σ.2.1 6 j < 2 ^ 30) (hx : x < 2 ^ 31) (hy : y < 2 ^ 31) (h1 : σ.2.1 6 1 ≤ 12) (k1 : ∀ r, roadF (σ.2.1 6) x y = some r → Q (some (.int (nI r))) (mW G.2.2.1 a σ)) (k0 : roadF (σ.2.1 6) x y = none → Q (some (.int (-1))) (mW G.2.2.1 a σ)) : MT G MX12_roadOf d 0 0 [.ref (a 60), .int (nI x), .int (nI y)] (mW G.2.2.1 a σ) Q := by
  refine mt_start (L := [some (.ref (a 60)), some (.int (nI x)), some (.int (nI y)), none]) rfl (Nat.le_of_ble_eq_true rfl) rfl ?_
  refine aw_iconst (pc := 0) dX12_roadOf_0 iconst_0 ?_
  refine aw_istore_n (pc := 1) (i := 3) dX12_roadOf_1 rfl (Nat.le_of_ble_eq_true rfl) rfl ?_
  exact roadOf_loop hb hx hy h1 k1 k0 (σ.2.1 6 1) 0 (by omega) rfl
set_option maxHeartbeats 1000000 in
set_option maxRecDepth 20000 in
theorem s_isOpen {G : xG} {d : Nat} {Q : xQ} {a : Nat → Nat} {σ : mS} {r : Nat} (hb : ∀ j, σ.2.1 6 j < 2 ^ 30) (hr : r < 12) (kk : Q (some (.int (bI (!(σ.2.1 6 93).testBit r)))) (mW G.2.2.1 a σ)) : MT G MX12_isOpen (d + 1) 0 0 [.ref (a 60), .int (nI r)] (mW G.2.2.1 a σ) Q := by
  refine mt_start (L := [some (.ref (a 60)), some (.int (nI r))]) rfl (Nat.le_of_ble_eq_true rfl) rfl ?_
  refine aw_aload_n (pc := 0) (i := 0) dX12_isOpen_0 rfl rfl ?_
  refine mg_s (pc := 1) dX12_isOpen_1 rfl ?_
  refine aw_bipush (pc := 4) dX12_isOpen_4 bipush_93 ?_
  refine ml_s (pc := 6) dX12_isOpen_6 (by decide) ?_
  refine aw_iload_n (pc := 7) (i := 1) dX12_isOpen_7 rfl rfl ?_
  refine mt_I (pc := 8) (As := [.int (nI (σ.2.1 6 93)), .int (nI r)]) (rest := []) dX12_isOpen_8 rfl ok_X12_257 rfl rfl rfl (Nat.le_of_ble_eq_true rfl) (s_bitOf (Nat.lt_trans (hb _) (by decide)) (by omega) ⟨_, _, rfl, rfl, ?_⟩)
  refine ab_if_ne (pc := 11) (tgt := 18) dX12_isOpen_11 rfl (fun h11 => ?_) (fun h11 => ?_)
  · -- 18
    refine aw_iconst (pc := 18) dX12_isOpen_18 iconst_0 ?_
    exact ab_ret0 (pc := 19) dX12_isOpen_19 rfl (Nat.le_refl _) (Nat.le_refl _) (by rw [show (!(σ.2.1 6 93).testBit r) = false by simp [*]] at kk; exact kk)
  · -- 14
    refine aw_iconst (pc := 14) dX12_isOpen_14 iconst_1 ?_
    refine aw_goto (pc := 15) (tgt := 19) dX12_isOpen_15 rfl ?_
    exact ab_ret1 (pc := 19) dX12_isOpen_19 rfl (Nat.le_refl _) (Nat.le_refl _) (by rw [show (!(σ.2.1 6 93).testBit r) = true by simp [*]] at kk; exact kk)
set_option maxHeartbeats 1000000 in
set_option maxRecDepth 20000 in
theorem s_sparedIn {G : xG} {d : Nat} {Q : xQ} {a : Nat → Nat} {σ : mS} {q : Nat} (hb : ∀ j, σ.2.1 6 j < 2 ^ 30) (hq : q < 6) (hh : σ.2.1 6 (79 + q) < 7) (kk : Q (some (.int (nI (sparedF (σ.2.1 6) q)))) (mW G.2.2.1 a σ)) : MT G MX12_sparedIn (d) 0 0 [.ref (a 60), .int (nI q)] (mW G.2.2.1 a σ) Q := by
  refine mt_start (L := [some (.ref (a 60)), some (.int (nI q))]) rfl (Nat.le_of_ble_eq_true rfl) rfl ?_
  refine aw_aload_n (pc := 0) (i := 0) dX12_sparedIn_0 rfl rfl ?_
  refine mg_s (pc := 1) dX12_sparedIn_1 rfl ?_
  refine aw_bipush (pc := 4) dX12_sparedIn_4 bipush_101 ?_
  refine aw_aload_n (pc := 6) (i := 0) dX12_sparedIn_6 rfl rfl ?_
  refine mg_s (pc := 7) dX12_sparedIn_7 rfl ?_
  refine aw_bipush (pc := 10) dX12_sparedIn_10 bipush_79 ?_
  refine aw_iload_n (pc := 12) (i := 1) dX12_sparedIn_12 rfl rfl ?_
  refine an_add (pc := 13) dX12_sparedIn_13 ?_
  refine ml_s (pc := 14) dX12_sparedIn_14 (by omega) ?_
  refine an_add (pc := 15) dX12_sparedIn_15 ?_
  refine ml_s (pc := 16) dX12_sparedIn_16 (by omega) ?_
  refine aw_iconst (pc := 17) dX12_sparedIn_17 iconst_1 ?_
  refine aw_aload_n (pc := 18) (i := 0) dX12_sparedIn_18 rfl rfl ?_
  refine mg_s (pc := 19) dX12_sparedIn_19 rfl ?_
  refine aw_bipush (pc := 22) dX12_sparedIn_22 bipush_79 ?_
  refine aw_iload_n (pc := 24) (i := 1) dX12_sparedIn_24 rfl rfl ?_
  refine an_add (pc := 25) dX12_sparedIn_25 ?_
  refine ml_s (pc := 26) dX12_sparedIn_26 (by omega) ?_
  refine aw_ishl (pc := 27) dX12_sparedIn_27 ?_
  refine aw_ior (pc := 28) dX12_sparedIn_28 ?_
  exact aw_iret (pc := 29) dX12_sparedIn_29 rfl (Nat.le_refl _) (Nat.le_refl _) (by rw [nI_1shl (by omega), nI_or _ _ (Nat.lt_trans (hb _) (by decide)) (Nat.lt_trans (Nat.pow_lt_pow_right (a := 2) (by omega) hh) (by decide))]; exact kk)
set_option maxHeartbeats 1000000 in
set_option maxRecDepth 20000 in
theorem s_whyBy {G : xG} {d : Nat} {Q : xQ} {a : Nat → Nat} {σ : mS} {x y m sp : Nat} (hb : ∀ j, σ.2.1 6 j < 2 ^ 30) (h1 : σ.2.1 6 1 ≤ 12) (hx : x < 2 ^ 31) (hy : y < 7) (hm : m < 2 ^ 31) (hsp : sp < 2 ^ 31) (kk : Q (some (.int (nI (whyBy (σ.2.1 6) x y m sp)))) (mW G.2.2.1 a σ)) : MT G MX12_whyBy (d + 2) 0 0 [.ref (a 60), .int (nI x), .int (nI y), .int (nI m), .int (nI sp)] (mW G.2.2.1 a σ) Q := by
  refine mt_start (L := [some (.ref (a 60)), some (.int (nI x)), some (.int (nI y)), some (.int (nI m)), some (.int (nI sp)), none]) rfl (Nat.le_of_ble_eq_true rfl) rfl ?_
  refine aw_aload_n (pc := 0) (i := 0) dX12_whyBy_0 rfl rfl ?_
  refine aw_iload_n (pc := 1) (i := 1) dX12_whyBy_1 rfl rfl ?_
  refine aw_iload_n (pc := 2) (i := 2) dX12_whyBy_2 rfl rfl ?_
  refine mc_I (pc := 3) (As := [.int (nI x), .int (nI y)]) (rest := []) dX12_whyBy_3 rfl ok_X12_278 rfl rfl rfl (Nat.le_of_ble_eq_true rfl) (s_roadOf hb (by omega) (by omega) h1 (fun r hr => ⟨_, _, rfl, rfl, ?_⟩) (fun hr => ⟨_, _, rfl, rfl, ?_⟩))
  · -- call
    have hrl := (findF_lt _ _ _ hr).2.1
    refine aw_istore (pc := 6) (i := 5) dX12_whyBy_6 (Nat.le_of_ble_eq_true rfl) rfl ?_
    refine aw_iload (pc := 8) dX12_whyBy_8 rfl ?_
    refine an_if_ge (pc := 10) (tgt := 15) dX12_whyBy_10 rfl (by omega) ?_
    refine aw_aload_n (pc := 15) (i := 0) dX12_whyBy_15 rfl rfl ?_
    refine aw_iload (pc := 16) dX12_whyBy_16 rfl ?_
    refine mc_I (pc := 18) (As := [.int (nI r)]) (rest := []) dX12_whyBy_18 rfl ok_X12_281 rfl rfl rfl (Nat.le_of_ble_eq_true rfl) (s_isOpen hb (by omega) ⟨_, _, rfl, rfl, ?_⟩)
    refine ab_if_ne (pc := 21) (tgt := 26) dX12_whyBy_21 rfl (fun h21 => ?_) (fun h21 => ?_)
    · -- 26
      refine aw_iload_n (pc := 26) (i := 3) dX12_whyBy_26 rfl rfl ?_
      refine aw_aload_n (pc := 27) (i := 0) dX12_whyBy_27 rfl rfl ?_
      refine mg_s (pc := 28) dX12_whyBy_28 rfl ?_
      refine aw_bipush (pc := 31) dX12_whyBy_31 bipush_48 ?_
      refine aw_iload (pc := 33) dX12_whyBy_33 rfl ?_
      refine an_add (pc := 35) dX12_whyBy_35 ?_
      refine ml_s (pc := 36) dX12_whyBy_36 (by omega) ?_
      refine an_icmp_ge (pc := 37) (tgt := 42) dX12_whyBy_37 rfl (by omega) (Nat.lt_trans (hb _) (by decide)) (fun h37 => ?_) (fun h37 => ?_)
      · -- 42
        refine aw_iload_n (pc := 42) (i := 3) dX12_whyBy_42 rfl rfl ?_
        refine aw_aload_n (pc := 43) (i := 0) dX12_whyBy_43 rfl rfl ?_
        refine mg_s (pc := 44) dX12_whyBy_44 rfl ?_
        refine aw_bipush (pc := 47) dX12_whyBy_47 bipush_60 ?_
        refine aw_iload (pc := 49) dX12_whyBy_49 rfl ?_
        refine an_add (pc := 51) dX12_whyBy_51 ?_
        refine ml_s (pc := 52) dX12_whyBy_52 (by omega) ?_
        refine an_icmp_le (pc := 53) (tgt := 58) dX12_whyBy_53 rfl (by omega) (Nat.lt_trans (hb _) (by decide)) (fun h53 => ?_) (fun h53 => ?_)
        · -- 58
          refine aw_iload (pc := 58) dX12_whyBy_58 rfl ?_
          refine aw_iload_n (pc := 60) (i := 2) dX12_whyBy_60 rfl rfl ?_
          refine mt_I (pc := 61) (As := [.int (nI sp), .int (nI y)]) (rest := []) dX12_whyBy_61 rfl ok_X12_257 rfl rfl rfl (Nat.le_of_ble_eq_true rfl) (s_bitOf (by omega) (by omega) ⟨_, _, rfl, rfl, ?_⟩)
          refine ab_if_ne (pc := 64) (tgt := 83) dX12_whyBy_64 rfl (fun h64 => ?_) (fun h64 => ?_)
          · -- 83
            refine aw_iconst (pc := 83) dX12_whyBy_83 iconst_0 ?_
            exact aw_iret (pc := 84) dX12_whyBy_84 rfl (Nat.le_refl _) (Nat.le_refl _) (by rw [show whyBy (σ.2.1 6) x y m sp = 0 by (unfold whyBy; rw [hr]; try (dsimp only; repeat' split)); all_goals first | rfl | omega | simp_all] at kk; exact kk)
          · -- 67
            refine aw_aload_n (pc := 67) (i := 0) dX12_whyBy_67 rfl rfl ?_
            refine mg_s (pc := 68) dX12_whyBy_68 rfl ?_
            refine aw_iconst (pc := 71) dX12_whyBy_71 iconst_3 ?_
            refine aw_iload_n (pc := 72) (i := 2) dX12_whyBy_72 rfl rfl ?_
            refine an_add (pc := 73) dX12_whyBy_73 ?_
            refine ml_s (pc := 74) dX12_whyBy_74 (by omega) ?_
            refine aw_iload_n (pc := 75) (i := 3) dX12_whyBy_75 rfl rfl ?_
            refine an_icmp_lt (pc := 76) (tgt := 83) dX12_whyBy_76 rfl (Nat.lt_trans (hb _) (by decide)) (by omega) (fun h76 => ?_) (fun h76 => ?_)
            · -- 83
              refine aw_iconst (pc := 83) dX12_whyBy_83 iconst_0 ?_
              exact aw_iret (pc := 84) dX12_whyBy_84 rfl (Nat.le_refl _) (Nat.le_refl _) (by rw [show whyBy (σ.2.1 6) x y m sp = 0 by (unfold whyBy; rw [hr]; try (dsimp only; repeat' split)); all_goals first | rfl | omega | simp_all] at kk; exact kk)
            · -- 79
              refine aw_iconst (pc := 79) dX12_whyBy_79 iconst_5 ?_
              refine aw_goto (pc := 80) (tgt := 84) dX12_whyBy_80 rfl ?_
              exact aw_iret (pc := 84) dX12_whyBy_84 rfl (Nat.le_refl _) (Nat.le_refl _) (by rw [show whyBy (σ.2.1 6) x y m sp = 5 by (unfold whyBy; rw [hr]; try (dsimp only; repeat' split)); all_goals first | rfl | omega | simp_all] at kk; exact kk)
        · -- 56
          refine aw_iconst (pc := 56) dX12_whyBy_56 iconst_4 ?_
          exact aw_iret (pc := 57) dX12_whyBy_57 rfl (Nat.le_refl _) (Nat.le_refl _) (by rw [show whyBy (σ.2.1 6) x y m sp = 4 by (unfold whyBy; rw [hr]; try (dsimp only; repeat' split)); all_goals first | rfl | omega | simp_all] at kk; exact kk)
      · -- 40
        refine aw_iconst (pc := 40) dX12_whyBy_40 iconst_3 ?_
        exact aw_iret (pc := 41) dX12_whyBy_41 rfl (Nat.le_refl _) (Nat.le_refl _) (by rw [show whyBy (σ.2.1 6) x y m sp = 3 by (unfold whyBy; rw [hr]; try (dsimp only; repeat' split)); all_goals first | rfl | omega | simp_all] at kk; exact kk)
    · -- 24
      refine aw_iconst (pc := 24) dX12_whyBy_24 iconst_2 ?_
      exact aw_iret (pc := 25) dX12_whyBy_25 rfl (Nat.le_refl _) (Nat.le_refl _) (by rw [show whyBy (σ.2.1 6) x y m sp = 2 by (unfold whyBy; rw [hr]; try (dsimp only; repeat' split)); all_goals first | rfl | omega | simp_all] at kk; exact kk)
  · -- call
    refine aw_istore (pc := 6) (i := 5) dX12_whyBy_6 (Nat.le_of_ble_eq_true rfl) rfl ?_
    refine aw_iload (pc := 8) dX12_whyBy_8 rfl ?_
    refine an_ifm_ge (pc := 10) (tgt := 15) dX12_whyBy_10 rfl ?_
    refine aw_iconst (pc := 13) dX12_whyBy_13 iconst_1 ?_
    exact aw_iret (pc := 14) dX12_whyBy_14 rfl (Nat.le_refl _) (Nat.le_refl _) (by rw [show whyBy (σ.2.1 6) x y m sp = 1 by (unfold whyBy; rw [hr]; try (dsimp only; repeat' split)); all_goals first | rfl | omega | simp_all] at kk; exact kk)
theorem sparedF_lt {t : Nat → Nat} {q : Nat} (hb : ∀ j, t j < 2 ^ 30) (hh : t (79 + q) < 7) : sparedF t q < 2 ^ 31 := Nat.lt_trans (Nat.or_lt_two_pow (n := 30) (hb _) (Nat.pow_lt_pow_right (by omega) (by omega))) (by decide)
set_option maxHeartbeats 1000000 in
set_option maxRecDepth 20000 in
theorem s_whyCross {G : xG} {d : Nat} {Q : xQ} {a : Nat → Nat} {σ : mS} {q l : Nat} (hb : ∀ j, σ.2.1 6 j < 2 ^ 30) (h1 : σ.2.1 6 1 ≤ 12) (hq : q < 6) (hh : σ.2.1 6 (79 + q) < 7) (hl : l < 7) (kk : Q (some (.int (nI (whyX (σ.2.1 6) q l)))) (mW G.2.2.1 a σ)) : MT G MX12_whyCross (d + 3) 0 0 [.ref (a 60), .int (nI q), .int (nI l)] (mW G.2.2.1 a σ) Q := by
  refine mt_start (L := [some (.ref (a 60)), some (.int (nI q)), some (.int (nI l))]) rfl (Nat.le_of_ble_eq_true rfl) rfl ?_
  refine aw_aload_n (pc := 0) (i := 0) dX12_whyCross_0 rfl rfl ?_
  refine aw_aload_n (pc := 1) (i := 0) dX12_whyCross_1 rfl rfl ?_
  refine mg_s (pc := 2) dX12_whyCross_2 rfl ?_
  refine aw_bipush (pc := 5) dX12_whyCross_5 bipush_108 ?_
  refine aw_iload_n (pc := 7) (i := 1) dX12_whyCross_7 rfl rfl ?_
  refine an_add (pc := 8) dX12_whyCross_8 ?_
  refine ml_s (pc := 9) dX12_whyCross_9 (by omega) ?_
  refine aw_iload_n (pc := 10) (i := 2) dX12_whyCross_10 rfl rfl ?_
  refine aw_aload_n (pc := 11) (i := 0) dX12_whyCross_11 rfl rfl ?_
  refine mg_s (pc := 12) dX12_whyCross_12 rfl ?_
  refine aw_bipush (pc := 15) dX12_whyCross_15 bipush_114 ?_
  refine aw_iload_n (pc := 17) (i := 1) dX12_whyCross_17 rfl rfl ?_
  refine an_add (pc := 18) dX12_whyCross_18 ?_
  refine ml_s (pc := 19) dX12_whyCross_19 (by omega) ?_
  refine aw_aload_n (pc := 20) (i := 0) dX12_whyCross_20 rfl rfl ?_
  refine aw_iload_n (pc := 21) (i := 1) dX12_whyCross_21 rfl rfl ?_
  refine mc_I (pc := 22) (As := [.int (nI q)]) (rest := [.int (nI (σ.2.1 6 (114 + q))), .int (nI l), .int (nI (σ.2.1 6 (108 + q))), .ref (a 60)]) dX12_whyCross_22 rfl ok_X12_284 rfl rfl rfl (Nat.le_of_ble_eq_true rfl) (s_sparedIn hb (by omega) hh ⟨_, _, rfl, rfl, ?_⟩)
  refine mc_I (pc := 25) (As := [.int (nI (σ.2.1 6 (108 + q))), .int (nI l), .int (nI (σ.2.1 6 (114 + q))), .int (nI (sparedF (σ.2.1 6) q))]) (rest := []) dX12_whyCross_25 rfl ok_X12_288 rfl rfl rfl (Nat.le_of_ble_eq_true rfl) (s_whyBy hb h1 (Nat.lt_trans (hb _) (by decide)) (by omega) (Nat.lt_trans (hb _) (by decide)) (sparedF_lt hb hh) ⟨_, _, rfl, rfl, ?_⟩)
  exact aw_iret (pc := 28) dX12_whyCross_28 rfl (Nat.le_refl _) (Nat.le_refl _) (kk)
theorem whyX_lt (t : Nat → Nat) (q l : Nat) : whyX t q l < 2 ^ 31 := Nat.lt_of_le_of_lt (whyBy_le _ _ _ _ _) (by decide)
set_option maxHeartbeats 1000000 in
set_option maxRecDepth 20000 in
theorem couldOf_loop {G : xG} {d : Nat} {Q : xQ} {a : Nat → Nat} {σ : mS} {q : Nat} (hb : ∀ j, σ.2.1 6 j < 2 ^ 30) (h0 : σ.2.1 6 0 ≤ 7) (h1 : σ.2.1 6 1 ≤ 12) (hq : q < 6) (hh : σ.2.1 6 (79 + q) < 7) (kk : Q (some (.int (nI (couldF (σ.2.1 6) q)))) (mW G.2.2.1 a σ)) : ∀ (n i : Nat), i + n = σ.2.1 6 0 → AW G MX12_couldOf (d + 4) 0 0 Q 4 [some (.ref (a 60)), some (.int (nI q)), some (.int (nI (orF (fun l => decide (whyX (σ.2.1 6) q l = 0)) i))), some (.int (nI i))] [] (mW G.2.2.1 a σ) 0 0 := by
  intro n
  induction n with
  | zero =>
    intro i hi
    refine aw_iload_n (pc := 4) (i := 3) dX12_couldOf_4 rfl rfl ?_
    refine aw_aload_n (pc := 5) (i := 0) dX12_couldOf_5 rfl rfl ?_
    refine mg_s (pc := 6) dX12_couldOf_6 rfl ?_
    refine aw_iconst (pc := 9) dX12_couldOf_9 iconst_0 ?_
    refine ml_s (pc := 10) dX12_couldOf_10 (by decide) ?_
    refine an_icmp_ge (pc := 11) (tgt := 39) dX12_couldOf_11 rfl (by omega) (Nat.lt_trans (hb _) (by decide)) (fun h11 => ?_) (fun h11 => ?_)
    · -- 39
      refine aw_iload_n (pc := 39) (i := 2) dX12_couldOf_39 rfl rfl ?_
      exact aw_iret (pc := 40) dX12_couldOf_40 rfl (Nat.le_refl _) (Nat.le_refl _) (by have e : i = σ.2.1 6 0 := (by omega); subst e; exact kk)
    · -- 14
      exfalso; omega
  | succ n ih =>
    intro i hi
    have hlt := orF_lt (fun l => decide (whyX (σ.2.1 6) q l = 0)) i
    have hp : 2 ^ i ≤ 64 := Nat.pow_le_pow_right (n := 2) (by omega) (show i ≤ 6 by omega)
    refine aw_iload_n (pc := 4) (i := 3) dX12_couldOf_4 rfl rfl ?_
    refine aw_aload_n (pc := 5) (i := 0) dX12_couldOf_5 rfl rfl ?_
    refine mg_s (pc := 6) dX12_couldOf_6 rfl ?_
    refine aw_iconst (pc := 9) dX12_couldOf_9 iconst_0 ?_
    refine ml_s (pc := 10) dX12_couldOf_10 (by decide) ?_
    refine an_icmp_ge (pc := 11) (tgt := 39) dX12_couldOf_11 rfl (by omega) (Nat.lt_trans (hb _) (by decide)) (fun h11 => ?_) (fun h11 => ?_)
    · -- 39
      exfalso; omega
    · -- 14
      refine aw_iload_n (pc := 14) (i := 2) dX12_couldOf_14 rfl rfl ?_
      refine aw_aload_n (pc := 15) (i := 0) dX12_couldOf_15 rfl rfl ?_
      refine aw_iload_n (pc := 16) (i := 1) dX12_couldOf_16 rfl rfl ?_
      refine aw_iload_n (pc := 17) (i := 3) dX12_couldOf_17 rfl rfl ?_
      refine mc_I (pc := 18) (As := [.int (nI q), .int (nI i)]) (rest := [.int (nI (orF (fun l => decide (whyX (σ.2.1 6) q l = 0)) i))]) dX12_couldOf_18 rfl ok_X12_292 rfl rfl rfl (Nat.le_of_ble_eq_true rfl) (s_whyCross hb h1 hq hh (by omega) ⟨_, _, rfl, rfl, ?_⟩)
      refine an_if_ne (pc := 21) (tgt := 30) dX12_couldOf_21 rfl (whyX_lt _ _ _) (fun h21 => ?_) (fun h21 => ?_)
      · -- 30
        refine aw_iconst (pc := 30) dX12_couldOf_30 iconst_0 ?_
        refine aw_ior (pc := 31) dX12_couldOf_31 ?_
        refine aw_istore_n (pc := 32) (i := 2) dX12_couldOf_32 rfl (Nat.le_of_ble_eq_true rfl) rfl ?_
        refine an_inc (pc := 33) (z := 1) dX12_couldOf_33 rfl (Nat.le_of_ble_eq_true rfl) rfl ?_
        refine aw_goto (pc := 36) (tgt := 4) dX12_couldOf_36 rfl ?_
        refine aw_L (L9 := [some (.ref (a 60)), some (.int (nI q)), some (.int (nI (orF (fun l => decide (whyX (σ.2.1 6) q l = 0)) (i + 1)))), some (.int (nI (i + 1)))]) (by rw [nI_or _ _ (by omega) (by decide), Nat.or_zero, orF, if_neg (by simp; omega)]; rfl) ?_
        exact ih (i + 1) (by omega)
      · -- 24
        refine aw_iconst (pc := 24) dX12_couldOf_24 iconst_1 ?_
        refine aw_iload_n (pc := 25) (i := 3) dX12_couldOf_25 rfl rfl ?_
        refine aw_ishl (pc := 26) dX12_couldOf_26 ?_
        refine aw_goto (pc := 27) (tgt := 31) dX12_couldOf_27 rfl ?_
        refine aw_ior (pc := 31) dX12_couldOf_31 ?_
        refine aw_istore_n (pc := 32) (i := 2) dX12_couldOf_32 rfl (Nat.le_of_ble_eq_true rfl) rfl ?_
        refine an_inc (pc := 33) (z := 1) dX12_couldOf_33 rfl (Nat.le_of_ble_eq_true rfl) rfl ?_
        refine aw_goto (pc := 36) (tgt := 4) dX12_couldOf_36 rfl ?_
        refine aw_L (L9 := [some (.ref (a 60)), some (.int (nI q)), some (.int (nI (orF (fun l => decide (whyX (σ.2.1 6) q l = 0)) (i + 1)))), some (.int (nI (i + 1)))]) (by rw [nI_1shl (by omega), nI_or _ _ (by omega) (by omega), orF, if_pos (by simp [h21])]; rfl) ?_
        exact ih (i + 1) (by omega)
set_option maxHeartbeats 1000000 in
set_option maxRecDepth 20000 in
theorem s_couldOf {G : xG} {d : Nat} {Q : xQ} {a : Nat → Nat} {σ : mS} {q : Nat} (hb : ∀ j, σ.2.1 6 j < 2 ^ 30) (h0 : σ.2.1 6 0 ≤ 7) (h1 : σ.2.1 6 1 ≤ 12) (hq : q < 6) (hh : σ.2.1 6 (79 + q) < 7) (kk : Q (some (.int (nI (couldF (σ.2.1 6) q)))) (mW G.2.2.1 a σ)) : MT G MX12_couldOf (d + 4) 0 0 [.ref (a 60), .int (nI q)] (mW G.2.2.1 a σ) Q := by
  refine mt_start (L := [some (.ref (a 60)), some (.int (nI q)), none, none]) rfl (Nat.le_of_ble_eq_true rfl) rfl ?_
  refine aw_iconst (pc := 0) dX12_couldOf_0 iconst_0 ?_
  refine aw_istore_n (pc := 1) (i := 2) dX12_couldOf_1 rfl (Nat.le_of_ble_eq_true rfl) rfl ?_
  refine aw_iconst (pc := 2) dX12_couldOf_2 iconst_0 ?_
  refine aw_istore_n (pc := 3) (i := 3) dX12_couldOf_3 rfl (Nat.le_of_ble_eq_true rfl) rfl ?_
  exact couldOf_loop hb h0 h1 hq hh kk (σ.2.1 6 0) 0 (by omega)
