theorem nI_ush {x j : Nat} (hx : x < 2 ^ 31) (hj : j < 32) : ((nI x).toUInt32 >>> ((nI j).toUInt32 &&& Int32.toUInt32 31)).toInt32 = nI (x / 2 ^ j) := by
  apply Int32.toBitVec_inj.mp
  have e : ∀ z, (nI z).toBitVec = BitVec.ofNat 32 z := fun z => rfl
  show ((nI x).toBitVec >>> (((nI j).toBitVec &&& BitVec.ofNat 32 31) % 32#32)) = BitVec.ofNat 32 (x / 2 ^ j)
  have hm : ((nI j).toBitVec &&& BitVec.ofNat 32 31) % 32#32 = BitVec.ofNat 32 j := by
    have : ∀ j, j < 32 → ((nI j).toBitVec &&& BitVec.ofNat 32 31) % 32#32 = BitVec.ofNat 32 j := by decide +kernel
    exact this j hj
  rw [hm, e]
  apply BitVec.eq_of_toNat_eq
  have h2 : x / 2 ^ j < 2 ^ 32 := Nat.lt_of_le_of_lt (Nat.div_le_self _ _) (by omega)
  rw [BitVec.toNat_ofNat, Nat.mod_eq_of_lt h2]
  show (BitVec.ofNat 32 x >>> (BitVec.ofNat 32 j).toNat).toNat = _
  rw [BitVec.toNat_ushiftRight, BitVec.toNat_ofNat, BitVec.toNat_ofNat, Nat.mod_eq_of_lt (by omega : x < 2 ^ 32), Nat.mod_eq_of_lt (by omega : j < 2 ^ 32), Nat.shiftRight_eq_div_pow]
set_option maxHeartbeats 1000000 in
set_option maxRecDepth 20000 in
theorem c_hasBit {G : xG} {d : Nat} {Q : xQ} {ws : va_W} {x j : Nat} (hx : x < 2 ^ 31) (hj : j < 32) (kk : Q (some (.int (bI (x.testBit j)))) ws) : MT G MX11_hasBit (d) 0 0 [.int (nI x), .int (nI j)] ws Q := by
  refine mt_start (L := [some (.int (nI x)), some (.int (nI j))]) rfl (Nat.le_of_ble_eq_true rfl) rfl ?_
  refine aw_iload_n (pc := 0) (i := 0) dX11_hasBit_0 rfl rfl ?_
  refine aw_iload_n (pc := 1) (i := 1) dX11_hasBit_1 rfl rfl ?_
  refine aw_iushr (pc := 2) dX11_hasBit_2 ?_
  refine aw_top (y := (nI (x / 2 ^ j))) (nI_ush hx hj) ?_
  refine aw_iconst (pc := 3) dX11_hasBit_3 iconst_1 ?_
  refine aw_iand (pc := 4) dX11_hasBit_4 ?_
  refine aw_top (y := (nI (x / 2 ^ j % 2))) (nI_and1 (Nat.lt_of_le_of_lt (Nat.div_le_self _ _) (by omega))) ?_
  refine aw_iconst (pc := 5) dX11_hasBit_5 iconst_1 ?_
  refine an_icmp_ne (pc := 6) (tgt := 13) dX11_hasBit_6 rfl (by omega) (by decide) (fun h6 => ?_) (fun h6 => ?_)
  · -- 13
    refine aw_iconst (pc := 13) dX11_hasBit_13 iconst_0 ?_
    exact ab_ret0 (pc := 14) dX11_hasBit_14 rfl (Nat.le_refl _) (Nat.le_refl _) (by rw [bit_div, decide_eq_false h6] at kk; exact kk)
  · -- 9
    refine aw_iconst (pc := 9) dX11_hasBit_9 iconst_1 ?_
    refine aw_goto (pc := 10) (tgt := 14) dX11_hasBit_10 rfl ?_
    exact ab_ret1 (pc := 14) dX11_hasBit_14 rfl (Nat.le_refl _) (Nat.le_refl _) (by rw [bit_div, decide_eq_true h6] at kk; exact kk)
theorem mm_min : (Cond.code Lib.Math.min.name Lib.Math.min.code 2 (some .int)) ∈ gtbl := gtbl_in (List.mem_of_getElem? (i := 587) (by decide +kernel)) rfl
theorem mm_max : (Cond.code Lib.Math.max.name Lib.Math.max.code 2 (some .int)) ∈ gtbl := gtbl_in (List.mem_of_getElem? (i := 210) (by decide +kernel)) rfl
theorem mm_mins : (Cond.static Lib.Math.min.name) ∈ gtbl := gtbl_in (List.mem_of_getElem? (i := 586) (by decide +kernel)) rfl
theorem mm_maxs : (Cond.static Lib.Math.max.name) ∈ gtbl := gtbl_in (List.mem_of_getElem? (i := 209) (by decide +kernel)) rfl
theorem mm_ini : (Cond.initialized "java/lang/Math") ∈ gtbl := gtbl_in (List.mem_of_getElem? (i := 112) (by decide +kernel)) rfl
theorem mk_X8_59 : (Cond.methodLink "InchBorders$Tape" 59 Lib.Math.min.name) ∈ gtbl := gtbl_in (List.mem_of_getElem? (i := 585) (by decide +kernel)) rfl
theorem mk_X11_232 : (Cond.methodLink "InchBorders" 232 Lib.Math.min.name) ∈ gtbl := gtbl_in (List.mem_of_getElem? (i := 822) (by decide +kernel)) rfl
theorem mk_X3_57 : (Cond.methodLink "InchBorders$Chart" 57 Lib.Math.min.name) ∈ gtbl := gtbl_in (List.mem_of_getElem? (i := 835) (by decide +kernel)) rfl
theorem mk_X5_15 : (Cond.methodLink "InchBorders$Row" 15 Lib.Math.max.name) ∈ gtbl := gtbl_in (List.mem_of_getElem? (i := 208) (by decide +kernel)) rfl
theorem mk_X9_110 : (Cond.methodLink "InchBorders$Walk" 110 Lib.Math.max.name) ∈ gtbl := gtbl_in (List.mem_of_getElem? (i := 911) (by decide +kernel)) rfl
theorem aw_min {G : xG} {μ : xM} {d mc ms : Nat} {Q : xQ} {pc : Nat} {L : List (Option Value)} {st : List Value} {ws : va_W} {n k : Nat} {own : String} {idx : Nat} {x y : Int32} (hd : decode μ.2.1 pc = .ok (.invokestatic idx, 3)) (ho : μ.1.cls = own) (hlk : Cond.methodLink own idx Lib.Math.min.name ∈ gtbl) (hcat : (st.map fun v => v.category).sum ≤ 8) (hf1 : n ≤ mc) (hf2 : k ≤ ms) (kk : AW G μ (d + 1) mc ms Q (pc + 3) L (.int (if y < x then y else x) :: st) ws n k) : AW G μ (d + 1) mc ms Q pc L (.int y :: .int x :: st) ws n k := by
  intro p e s m args below meth c H locs A ls C hS hP hD hl
  subst ho
  exact va_mmin C.1 C.2.1 (C.2.2.2.1.trans hl.1.symm) C.2.2.2.2.1 (C.2.2.2.2.2.1 _ hlk) (C.2.2.2.2.2.1 _ mm_mins) (C.2.2.2.2.2.1 _ mm_ini) (C.2.2.2.2.2.1 _ mm_min) (by simp only [xR]; omega) (by simp only [xR]; omega) hf1 hf2 hd (kk p e s m args below meth c H locs A ls C hS hP hD hl)
theorem aw_max {G : xG} {μ : xM} {d mc ms : Nat} {Q : xQ} {pc : Nat} {L : List (Option Value)} {st : List Value} {ws : va_W} {n k : Nat} {own : String} {idx : Nat} {x y : Int32} (hd : decode μ.2.1 pc = .ok (.invokestatic idx, 3)) (ho : μ.1.cls = own) (hlk : Cond.methodLink own idx Lib.Math.max.name ∈ gtbl) (hcat : (st.map fun v => v.category).sum ≤ 8) (hf1 : n ≤ mc) (hf2 : k ≤ ms) (kk : AW G μ (d + 1) mc ms Q (pc + 3) L (.int (if x < y then y else x) :: st) ws n k) : AW G μ (d + 1) mc ms Q pc L (.int y :: .int x :: st) ws n k := by
  intro p e s m args below meth c H locs A ls C hS hP hD hl
  subst ho
  exact va_mmax C.1 C.2.1 (C.2.2.2.1.trans hl.1.symm) C.2.2.2.2.1 (C.2.2.2.2.2.1 _ hlk) (C.2.2.2.2.2.1 _ mm_maxs) (C.2.2.2.2.2.1 _ mm_ini) (C.2.2.2.2.2.1 _ mm_max) (by simp only [xR]; omega) (by simp only [xR]; omega) hf1 hf2 hd (kk p e s m args below meth c H locs A ls C hS hP hD hl)
theorem min_nI {x y : Nat} (hx : x < 2 ^ 31) (hy : y < 2 ^ 31) : (if nI y < nI x then nI y else nI x) = nI (min x y) := by
  by_cases h : y < x
  · rw [if_pos ((nI_ltI hy hx).mpr h), Nat.min_eq_right (by omega)]
  · rw [if_neg (fun e => h ((nI_ltI hy hx).mp e)), Nat.min_eq_left (by omega)]
def bcF (x : Int32) : Int32 :=
  let x1 := x - ((x.toUInt32 >>> ((nI 1).toUInt32 &&& Int32.toUInt32 31)).toInt32 &&& (1431655765 : Int32))
  let x2 := (x1 &&& (858993459 : Int32)) + ((x1.toUInt32 >>> ((nI 2).toUInt32 &&& Int32.toUInt32 31)).toInt32 &&& (858993459 : Int32))
  let x3 := (x2 + (x2.toUInt32 >>> ((nI 4).toUInt32 &&& Int32.toUInt32 31)).toInt32) &&& (252645135 : Int32)
  let x4 := x3 + (x3.toUInt32 >>> ((nI 8).toUInt32 &&& Int32.toUInt32 31)).toInt32
  let x5 := x4 + (x4.toUInt32 >>> ((nI 16).toUInt32 &&& Int32.toUInt32 31)).toInt32
  x5 &&& nI 63
theorem bcF_ok : ∀ x, x < 4096 → bcF (nI x) = nI (bitsN x) := all4096 (by decide +kernel)
set_option maxHeartbeats 1000000 in
set_option maxRecDepth 20000 in
theorem c_bitCount {G : xG} {d : Nat} {Q : xQ} {ws : va_W} {x : Nat} (hx : x < 4096) (kk : Q (some (.int (nI (bitsN x)))) ws) : MT G MJ6_bitCount_0f7a4 (d) 0 0 [.int (nI x)] ws Q := by
  refine mt_start (L := [some (.int (nI x))]) rfl (Nat.le_of_ble_eq_true rfl) rfl ?_
  refine aw_iload_n (pc := 0) (i := 0) dJ6_bitCount_0f7a4_0 rfl rfl ?_
  refine aw_iload_n (pc := 1) (i := 0) dJ6_bitCount_0f7a4_1 rfl rfl ?_
  refine aw_iconst (pc := 2) dJ6_bitCount_0f7a4_2 iconst_1 ?_
  refine aw_iushr (pc := 3) dJ6_bitCount_0f7a4_3 ?_
  refine aw_ldcw (pc := 4) (v := (1431655765 : Int32)) dJ6_bitCount_0f7a4_4 (gtbl_in (List.mem_of_getElem? (i := 798) (by decide +kernel)) rfl) ?_
  refine aw_iand (pc := 7) dJ6_bitCount_0f7a4_7 ?_
  refine aw_isub (pc := 8) dJ6_bitCount_0f7a4_8 ?_
  refine aw_istore_n (pc := 9) (i := 0) dJ6_bitCount_0f7a4_9 rfl (Nat.le_of_ble_eq_true rfl) rfl ?_
  refine aw_iload_n (pc := 10) (i := 0) dJ6_bitCount_0f7a4_10 rfl rfl ?_
  refine aw_ldcw (pc := 11) (v := (858993459 : Int32)) dJ6_bitCount_0f7a4_11 (gtbl_in (List.mem_of_getElem? (i := 799) (by decide +kernel)) rfl) ?_
  refine aw_iand (pc := 14) dJ6_bitCount_0f7a4_14 ?_
  refine aw_iload_n (pc := 15) (i := 0) dJ6_bitCount_0f7a4_15 rfl rfl ?_
  refine aw_iconst (pc := 16) dJ6_bitCount_0f7a4_16 iconst_2 ?_
  refine aw_iushr (pc := 17) dJ6_bitCount_0f7a4_17 ?_
  refine aw_ldcw (pc := 18) (v := (858993459 : Int32)) dJ6_bitCount_0f7a4_18 (gtbl_in (List.mem_of_getElem? (i := 799) (by decide +kernel)) rfl) ?_
  refine aw_iand (pc := 21) dJ6_bitCount_0f7a4_21 ?_
  refine aw_iadd (pc := 22) dJ6_bitCount_0f7a4_22 ?_
  refine aw_istore_n (pc := 23) (i := 0) dJ6_bitCount_0f7a4_23 rfl (Nat.le_of_ble_eq_true rfl) rfl ?_
  refine aw_iload_n (pc := 24) (i := 0) dJ6_bitCount_0f7a4_24 rfl rfl ?_
  refine aw_iload_n (pc := 25) (i := 0) dJ6_bitCount_0f7a4_25 rfl rfl ?_
  refine aw_iconst (pc := 26) dJ6_bitCount_0f7a4_26 iconst_4 ?_
  refine aw_iushr (pc := 27) dJ6_bitCount_0f7a4_27 ?_
  refine aw_iadd (pc := 28) dJ6_bitCount_0f7a4_28 ?_
  refine aw_ldcw (pc := 29) (v := (252645135 : Int32)) dJ6_bitCount_0f7a4_29 (gtbl_in (List.mem_of_getElem? (i := 800) (by decide +kernel)) rfl) ?_
  refine aw_iand (pc := 32) dJ6_bitCount_0f7a4_32 ?_
  refine aw_istore_n (pc := 33) (i := 0) dJ6_bitCount_0f7a4_33 rfl (Nat.le_of_ble_eq_true rfl) rfl ?_
  refine aw_iload_n (pc := 34) (i := 0) dJ6_bitCount_0f7a4_34 rfl rfl ?_
  refine aw_iload_n (pc := 35) (i := 0) dJ6_bitCount_0f7a4_35 rfl rfl ?_
  refine aw_bipush (pc := 36) dJ6_bitCount_0f7a4_36 bipush_8 ?_
  refine aw_iushr (pc := 38) dJ6_bitCount_0f7a4_38 ?_
  refine aw_iadd (pc := 39) dJ6_bitCount_0f7a4_39 ?_
  refine aw_istore_n (pc := 40) (i := 0) dJ6_bitCount_0f7a4_40 rfl (Nat.le_of_ble_eq_true rfl) rfl ?_
  refine aw_iload_n (pc := 41) (i := 0) dJ6_bitCount_0f7a4_41 rfl rfl ?_
  refine aw_iload_n (pc := 42) (i := 0) dJ6_bitCount_0f7a4_42 rfl rfl ?_
  refine aw_bipush (pc := 43) dJ6_bitCount_0f7a4_43 bipush_16 ?_
  refine aw_iushr (pc := 45) dJ6_bitCount_0f7a4_45 ?_
  refine aw_iadd (pc := 46) dJ6_bitCount_0f7a4_46 ?_
  refine aw_istore_n (pc := 47) (i := 0) dJ6_bitCount_0f7a4_47 rfl (Nat.le_of_ble_eq_true rfl) rfl ?_
  refine aw_iload_n (pc := 48) (i := 0) dJ6_bitCount_0f7a4_48 rfl rfl ?_
  refine aw_bipush (pc := 49) dJ6_bitCount_0f7a4_49 bipush_63 ?_
  refine aw_iand (pc := 51) dJ6_bitCount_0f7a4_51 ?_
  exact aw_iret (pc := 52) dJ6_bitCount_0f7a4_52 rfl (Nat.le_refl _) (Nat.le_refl _) (by rw [← bcF_ok x hx] at kk; exact kk)
/-- a row that holds these numbers -/
def RwR (κ : kS) (l : List Int32) : Prop := κ.1 1 = .int (nI l.length) ∧ ∀ i, i < l.length → κ.2.1 0 i = l.getD i 0
def rowL (l : List Int32) (x : Int32) : Int32 := if 0 ≤ x ∧ x.toNatClampNeg < l.length then l.getD x.toNatClampNeg 0 else -1
theorem i32_nat {x : Int32} (h : ¬ x < 0) : x = nI x.toNatClampNeg ∧ x.toNatClampNeg < 2 ^ 31 := by
  have hlt : x.toInt < 2 ^ 31 := by have := x.toInt_lt; omega
  have h0 : 0 ≤ x.toInt := by
    simp only [Int32.lt_iff_toInt_lt] at h
    have : (0 : Int32).toInt = 0 := rfl
    omega
  have hc : (x.toNatClampNeg : Int) = x.toInt := by
    rw [Int32.toNatClampNeg]; omega
  refine ⟨?_, by omega⟩
  apply Int32.toInt_inj.mp
  rw [← hc]
  show _ = (Int32.ofNat x.toNatClampNeg).toInt
  rw [Int32.toInt_ofNat_of_lt (by omega)]
set_option maxHeartbeats 1000000 in
set_option maxRecDepth 20000 in
theorem c5_at {G : xG} {d : Nat} {Q : xQ} {a : Nat → Nat} {N : Nat} {κ : kS} {R : va_W} {l : List Int32} {x : Int32} (h : RwR κ l) (hl : l.length ≤ N) (hN : N < 2 ^ 31) (kk : Q (some (.int (rowL l x))) (wRw G.2.2.1 a N κ ++ R)) : MT G MX5_at (d) 0 0 [.ref (a 2), .int x] (wRw G.2.2.1 a N κ ++ R) Q := by
  refine mt_start (L := [some (.ref (a 2)), some (.int x)]) rfl (Nat.le_of_ble_eq_true rfl) rfl ?_
  refine aw_iload_n (pc := 0) (i := 1) dX5_at_0 rfl rfl ?_
  refine aw_if_lt (pc := 1) (tgt := 30) dX5_at_1 rfl (fun h1 => ?_) (fun h1 => ?_)
  · -- 30
    refine aw_iconst (pc := 30) dX5_at_30 iconst_m1 ?_
    exact aw_iret (pc := 31) dX5_at_31 rfl (Nat.le_refl _) (Nat.le_refl _) (by unfold rowL at kk; rw [if_neg (by rintro ⟨q1, q2⟩; first | (simp only [Int32.lt_iff_toInt_lt, Int32.le_iff_toInt_le] at *; omega) | (rw [nI_clamp (by omega)] at q2; omega))] at kk; exact kk)
  · -- 4
    obtain ⟨hx1, hx2⟩ := i32_nat h1
    generalize x.toNatClampNeg = j at *
    subst hx1
    refine aw_iload_n (pc := 4) (i := 1) dX5_at_4 rfl rfl ?_
    refine aw_aload_n (pc := 5) (i := 0) dX5_at_5 rfl rfl ?_
    refine pg_X5_9 (pc := 6) (v := .int (nI l.length)) dX5_at_6 rfl h.1 ?_
    refine an_icmp_ge (pc := 9) (tgt := 30) dX5_at_9 rfl (by omega) (by omega) (fun h9 => ?_) (fun h9 => ?_)
    · -- 30
      refine aw_iconst (pc := 30) dX5_at_30 iconst_m1 ?_
      exact aw_iret (pc := 31) dX5_at_31 rfl (Nat.le_refl _) (Nat.le_refl _) (by unfold rowL at kk; rw [if_neg (by rintro ⟨q1, q2⟩; first | (simp only [Int32.lt_iff_toInt_lt, Int32.le_iff_toInt_le] at *; omega) | (rw [nI_clamp (by omega)] at q2; omega))] at kk; exact kk)
    · -- 12
      refine aw_iload_n (pc := 12) (i := 1) dX5_at_12 rfl rfl ?_
      refine aw_aload_n (pc := 13) (i := 0) dX5_at_13 rfl rfl ?_
      refine pg_X5_21 (pc := 14) dX5_at_14 rfl ?_
      refine pn_X5_cells (pc := 17) (j := 0) dX5_at_17 ?_
      refine an_icmp_ge (pc := 18) (tgt := 30) dX5_at_18 rfl (by omega) (by omega) (fun h18 => ?_) (fun h18 => ?_)
      · -- 30
        refine aw_iconst (pc := 30) dX5_at_30 iconst_m1 ?_
        exact aw_iret (pc := 31) dX5_at_31 rfl (Nat.le_refl _) (Nat.le_refl _) (by unfold rowL at kk; rw [if_neg (by rintro ⟨q1, q2⟩; first | (simp only [Int32.lt_iff_toInt_lt, Int32.le_iff_toInt_le] at *; omega) | (rw [nI_clamp (by omega)] at q2; omega))] at kk; exact kk)
      · -- 21
        refine aw_aload_n (pc := 21) (i := 0) dX5_at_21 rfl rfl ?_
        refine pg_X5_21 (pc := 22) dX5_at_22 rfl ?_
        refine aw_iload_n (pc := 25) (i := 1) dX5_at_25 rfl rfl ?_
        refine pl_X5_cells (pc := 26) (x := (l.getD j 0)) dX5_at_26 hN (by omega) (h.2 _ (by omega)) ?_
        refine aw_goto (pc := 27) (tgt := 31) dX5_at_27 rfl ?_
        exact aw_iret (pc := 31) dX5_at_31 rfl (Nat.le_refl _) (Nat.le_refl _) (by unfold rowL at kk; rw [if_pos ⟨nI_pos' (by omega), by rw [nI_clamp (by omega)]; omega⟩, nI_clamp (by omega)] at kk; exact kk)
    -- 
theorem RwR.add {κ : kS} {l : List Int32} (h : RwR κ l) (v : Int32) : RwR (kF (kI κ 0 l.length v) 1 (.int (nI (l.length + 1)))) (l ++ [v]) := by
  refine ⟨by rw [List.length_append]; rfl, fun i hi => ?_⟩
  rw [List.length_append, List.length_singleton] at hi
  show upN (κ.2.1 0) l.length v i = _
  by_cases e : i = l.length
  · subst e
    rw [upN_s, List.getD_eq_getElem?_getD, List.getElem?_append_right (Nat.le_refl _), Nat.sub_self]; rfl
  · rw [upN_n _ _ _ _ e, h.2 i (by omega), List.getD_eq_getElem?_getD, List.getD_eq_getElem?_getD, List.getElem?_append_left (by omega)]
set_option maxHeartbeats 1000000 in
set_option maxRecDepth 20000 in
theorem c5_add {G : xG} {d : Nat} {Q : xQ} {a : Nat → Nat} {N : Nat} {κ : kS} {R : va_W} {l : List Int32} {v : Int32} (h : RwR κ l) (hl : l.length < N) (hN : N < 2 ^ 31) (kk : ∀ κ9, RwR κ9 (l ++ [v]) → Q none (wRw G.2.2.1 a N κ9 ++ R)) : MT G MX5_add (d) 0 0 [.ref (a 2), .int v] (wRw G.2.2.1 a N κ ++ R) Q := by
  refine mt_start (L := [some (.ref (a 2)), some (.int v)]) rfl (Nat.le_of_ble_eq_true rfl) rfl ?_
  refine aw_aload_n (pc := 0) (i := 0) dX5_add_0 rfl rfl ?_
  refine pg_X5_9 (pc := 1) (v := .int (nI l.length)) dX5_add_1 rfl h.1 ?_
  refine aw_aload_n (pc := 4) (i := 0) dX5_add_4 rfl rfl ?_
  refine pg_X5_21 (pc := 5) dX5_add_5 rfl ?_
  refine pn_X5_cells (pc := 8) (j := 0) dX5_add_8 ?_
  refine an_icmp_ge (pc := 9) (tgt := 32) dX5_add_9 rfl (by omega) (by omega) (fun h9 => ?_) (fun h9 => ?_)
  · -- 32
    exfalso; omega
  · -- 12
    refine aw_aload_n (pc := 12) (i := 0) dX5_add_12 rfl rfl ?_
    refine pg_X5_21 (pc := 13) dX5_add_13 rfl ?_
    refine aw_aload_n (pc := 16) (i := 0) dX5_add_16 rfl rfl ?_
    refine pg_X5_9 (pc := 17) (v := .int (nI l.length)) dX5_add_17 rfl h.1 ?_
    refine aw_iload_n (pc := 20) (i := 1) dX5_add_20 rfl rfl ?_
    refine ps_X5_cells (pc := 21) dX5_add_21 hN (by omega) ?_
    refine aw_aload_n (pc := 22) (i := 0) dX5_add_22 rfl rfl ?_
    refine aw_dup (pc := 23) dX5_add_23 rfl ?_
    refine pg_X5_9 (pc := 24) (v := .int (nI l.length)) dX5_add_24 rfl h.1 ?_
    refine aw_iconst (pc := 27) dX5_add_27 iconst_1 ?_
    refine an_add (pc := 28) dX5_add_28 ?_
    refine pp_X5_9 (pc := 29) dX5_add_29 rfl ?_
    exact aw_vret (pc := 32) dX5_add_32 rfl (Nat.le_refl _) (Nat.le_refl _) (kk _ (h.add v))
set_option maxHeartbeats 1000000 in
set_option maxRecDepth 20000 in
theorem take_loop {G : xG} {d : Nat} {Q : xQ} {a : Nat → Nat} {N : Nat} {R : va_W} {b M K m : Nat} {f : Nat → Int32} (hN : N < 2 ^ 31) (hM : M < 2 ^ 31) (hv : IV G R 1 b M K f) (hm : m ≤ K) (hmN : m ≤ N) (kk : ∀ κ9, RwR κ9 ((List.range m).map f) → Q none (wRw G.2.2.1 a N κ9 ++ R)) : ∀ (z i : Nat) (κ : kS), i + z = m → RwR κ ((List.range i).map f) → AW G MX5_take (d + 1) 0 0 Q 7 [some (.ref (a 2)), some (.ref b), some (.int (nI m)), some (.int (nI i))] [] (wRw G.2.2.1 a N κ ++ R) 0 0 := by
  have hKM : K ≤ M := by obtain ⟨_, _, h, _⟩ := hv; exact h
  have hv2 : ∀ X : va_W, IV G (X ++ R) 1 b M K f := fun X => hv.sub (fun _ h => List.mem_append_right _ h)
  intro z
  induction z with
  | zero =>
    intro i κ hi h
    refine aw_iload_n (pc := 7) (i := 3) dX5_take_7 rfl rfl ?_
    refine aw_iload_n (pc := 8) (i := 2) dX5_take_8 rfl rfl ?_
    refine an_icmp_ge (pc := 9) (tgt := 31) dX5_take_9 rfl (by omega) (by omega) (fun h9 => ?_) (fun h9 => ?_)
    · -- 31
      exact aw_vret (pc := 31) dX5_take_31 rfl (Nat.le_refl _) (Nat.le_refl _) (kk _ (by rw [show m = i by omega]; exact h))
    · -- 12
      exfalso; omega
  | succ z ih =>
    intro i κ hi h
    have hln : ((List.range i).map f).length = i := by simp
    refine aw_iload_n (pc := 7) (i := 3) dX5_take_7 rfl rfl ?_
    refine aw_iload_n (pc := 8) (i := 2) dX5_take_8 rfl rfl ?_
    refine an_icmp_ge (pc := 9) (tgt := 31) dX5_take_9 rfl (by omega) (by omega) (fun h9 => ?_) (fun h9 => ?_)
    · -- 31
      exfalso; omega
    · -- 12
      refine aw_iload_n (pc := 12) (i := 3) dX5_take_12 rfl rfl ?_
      refine aw_aload_n (pc := 13) (i := 1) dX5_take_13 rfl rfl ?_
      refine av_ilen (pc := 14) dX5_take_14 (hv2 _) ?_
      refine an_icmp_ge (pc := 15) (tgt := 31) dX5_take_15 rfl (by omega) (by omega) (fun h15 => ?_) (fun h15 => ?_)
      · -- 31
        exfalso; omega
      · -- 18
        refine aw_aload_n (pc := 18) (i := 0) dX5_take_18 rfl rfl ?_
        refine aw_aload_n (pc := 19) (i := 1) dX5_take_19 rfl rfl ?_
        refine aw_iload_n (pc := 20) (i := 3) dX5_take_20 rfl rfl ?_
        refine av_iald (pc := 21) (x := f i) dX5_take_21 (hv2 _) (by omega) hM rfl ?_
        refine cVv (pc := 22) (As := [.int (f i)]) (rest := []) dX5_take_22 rfl oc_X5_25 rfl rfl (Nat.le_of_ble_eq_true rfl) rfl rfl ovX5 (Nat.le_refl _) (Nat.le_refl _) (c5_add h (by omega) hN ?_)
        intro κ9 h9
        refine ⟨rfl, ?_⟩
        refine an_inc (pc := 25) (z := 1) dX5_take_25 rfl (Nat.le_of_ble_eq_true rfl) rfl ?_
        refine aw_goto (pc := 28) (tgt := 7) dX5_take_28 rfl ?_
        exact ih (i + 1) κ9 (by omega) (by rw [List.range_succ, List.map_append]; exact h9)
set_option maxHeartbeats 1000000 in
set_option maxRecDepth 20000 in
theorem c5_take {G : xG} {d : Nat} {Q : xQ} {a : Nat → Nat} {N : Nat} {κ : kS} {R : va_W} {b M K m : Nat} {f : Nat → Int32} (hN : N < 2 ^ 31) (hM : M < 2 ^ 31) (hv : IV G R 1 b M K f) (hm : m ≤ K) (hmN : m ≤ N) (kk : ∀ κ9, RwR κ9 ((List.range m).map f) → Q none (wRw G.2.2.1 a N κ9 ++ R)) : MT G MX5_take (d + 1) 0 0 [.ref (a 2), .ref b, .int (nI m)] (wRw G.2.2.1 a N κ ++ R) Q := by
  refine mt_start (L := [some (.ref (a 2)), some (.ref b), some (.int (nI m)), none]) rfl (Nat.le_of_ble_eq_true rfl) rfl ?_
  refine aw_aload_n (pc := 0) (i := 0) dX5_take_0 rfl rfl ?_
  refine aw_iconst (pc := 1) dX5_take_1 iconst_0 ?_
  refine pp_X5_9 (pc := 2) dX5_take_2 rfl ?_
  refine aw_iconst (pc := 5) dX5_take_5 iconst_0 ?_
  refine aw_istore_n (pc := 6) (i := 3) dX5_take_6 rfl (Nat.le_of_ble_eq_true rfl) rfl ?_
  exact take_loop hN hM hv hm hmN kk m 0 _ (by omega) ⟨rfl, fun i hi => absurd hi (Nat.not_lt_zero _)⟩
/-- a row that may be read -/
def RwV (G : xG) (ws : va_W) (a : Nat → Nat) (N : Nat) (l : List Int32) : Prop := OV G ws 4 (a 2) (fun k => match k with | 0 => .ref (a 0) | _ => .int (nI l.length)) ∧ IV G ws 1 (a 0) N l.length (fun i => l.getD i 0)
theorem RwV.of {G : xG} {R : va_W} {a : Nat → Nat} {N : Nat} {κ : kS} {l : List Int32} (h : RwR κ l) (hl : l.length ≤ N) : RwV G (wRw G.2.2.1 a N κ ++ R) a N l := ⟨OV.of 0 rfl (fun r hr k hk => by cases hr; have hk : k < 2 := hk; rcases (show k = 0 ∨ k = 1 by omega) with rfl | rfl; rfl; exact congrArg some h.1), IV.of 1 rfl hl h.2⟩
theorem RwV.sub {G : xG} {R R' : va_W} {a : Nat → Nat} {N : Nat} {l : List Int32} (hs : ∀ x ∈ R, x ∈ R') (h : RwV G R a N l) : RwV G R' a N l := ⟨h.1.sub hs, h.2.sub hs⟩
theorem map_range_getD (l : List Int32) : (List.range l.length).map (fun i => l.getD i 0) = l := by
  apply List.ext_getElem
  · simp
  · intro i h1 h2
    simp [List.getD_eq_getElem?_getD, List.getElem?_eq_getElem h2]
set_option maxHeartbeats 1000000 in
set_option maxRecDepth 20000 in
theorem c5_copy {G : xG} {d : Nat} {Q : xQ} {a : Nat → Nat} {N : Nat} {κ : kS} {R : va_W} {b : Nat → Nat} {M : Nat} {l2 : List Int32} (hN : N < 2 ^ 31) (hM : M < 2 ^ 31) (h2 : RwV G R b M l2) (hl : l2.length ≤ N) (kk : ∀ κ9, RwR κ9 l2 → Q none (wRw G.2.2.1 a N κ9 ++ R)) : MT G MX5_copy (d + 2) 0 0 [.ref (a 2), .ref (b 2)] (wRw G.2.2.1 a N κ ++ R) Q := by
  have hq : RwV G (wRw G.2.2.1 a N κ ++ R) b M l2 := h2.sub (fun _ h => List.mem_append_right _ h)
  refine mt_start (L := [some (.ref (a 2)), some (.ref (b 2))]) rfl (Nat.le_of_ble_eq_true rfl) rfl ?_
  refine aw_aload_n (pc := 0) (i := 0) dX5_copy_0 rfl rfl ?_
  refine aw_aload_n (pc := 1) (i := 1) dX5_copy_1 rfl rfl ?_
  refine av_get (pc := 2) (x := .ref (b 0)) dX5_copy_2 rfl og_X5_21 rfl hq.1 rfl ?_
  refine aw_aload_n (pc := 5) (i := 1) dX5_copy_5 rfl rfl ?_
  refine av_get (pc := 6) (x := .int (nI l2.length)) dX5_copy_6 rfl og_X5_9 rfl hq.1 rfl ?_
  refine cVv (pc := 9) (As := [.ref (b 0), .int (nI l2.length)]) (rest := []) dX5_copy_9 rfl oc_X5_29 rfl rfl (Nat.le_of_ble_eq_true rfl) rfl rfl ovX5 (Nat.le_refl _) (Nat.le_refl _) (c5_take hN hM h2.2 (Nat.le_refl _) hl ?_)
  intro κ9 h9
  refine ⟨rfl, ?_⟩
  rw [map_range_getD] at h9
  exact aw_vret (pc := 12) dX5_copy_12 rfl (Nat.le_refl _) (Nat.le_refl _) (kk _ h9)
