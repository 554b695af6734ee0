section AND
variable {G : xG} {μ : xM} {d mc ms : Nat} {Q : xQ} {pc : Nat} {L : List (Option Value)} {st : List Value} {ws : va_W} {n k : Nat}
theorem an_dec {i : Nat} {z : Int} {x v y : Int32} (hd : decode μ.2.1 pc = .ok (.iinc i z, 3)) (hl9 : L[i]? = some (some (.int x))) (hv : Int32.ofInt z = v) (hy : x + v = y) (hn : i < μ.2.2.1) (hk : lk1 L i) (kk : AW G μ d mc ms Q (pc + 3) (L.set i (some (.int y))) st ws n k) : AW G μ d mc ms Q pc L st ws n k := aw_iinc hd hl9 hv hn hk (by rw [hy]; exact kk)
end AND
/-- the state with a raw array -/
def sA (σ : mS) (k : Nat) (u : Nat → Int32) : mS := (σ.1, σ.2.1, upN σ.2.2.1 k u, σ.2.2.2)
def byF (v : Int32) (k : Nat) : Int32 := vp_nar .byte ((v >>> (nI k &&& 31)).toInt8.toInt32)
def fourT (τ : Nat → Int32) (n : Nat) (v : Int32) : Nat → Int32 := upN (upN (upN (upN τ n (byF v 24)) (n + 1) (byF v 16)) (n + 2) (byF v 8)) (n + 3) (byF v 0)
def fourS (σ : mS) (n : Nat) (v : Int32) : mS := mI (sA σ 1 (fourT (σ.2.2.1 1) n v)) 2 (nI (n + 4))
def feedS (σ : mS) (n : Nat) (v1 v2 v3 v4 v5 : Int32) : mS := if n + 20 ≤ 940 then fourS (fourS (fourS (fourS (fourS (mI σ 0 (nI 0)) n v1) (n + 4) v2) (n + 8) v3) (n + 12) v4) (n + 16) v5 else mI σ 0 (nI 0)
def feedA (n : Nat) : Int32 := if n + 20 ≤ 940 then nI (n + 20) else -1
def endOK (n : Nat) (x : Int32) : Bool := decide (0 ≤ x) && decide (x ≤ nI n)
def endS (σ : mS) (n : Nat) (x : Int32) : mS := if endOK n x = true then mI (mI σ 0 (nI 0)) 2 x else mI σ 0 (nI 0)
def takenS (σ : mS) (n lim : Nat) : mS := mI (mI (mI (mI σ 3 (nI n)) 2 (nI 0)) 4 (nI 0)) 5 (nI lim)
/-- a byte of the tape as a count -/
def octN (x : Int32) : Nat := x.toBitVec.toNat % 256
theorem octN_lt (x : Int32) : octN x < 256 := Nat.mod_lt _ (by decide)
theorem octN_and (x : Int32) : x &&& nI 255 = nI (octN x) := pk_and x (m := nI 255) 8 (by decide)
def isL (c : Nat) : Bool := decide (97 ≤ c) && decide (c ≤ 122)
def isD (c : Nat) : Bool := decide (48 ≤ c) && decide (c ≤ 57)
def isB (c : Nat) : Bool := decide (c = 32) || decide (c = 10)
set_option maxHeartbeats 1000000 in
set_option maxRecDepth 20000 in
theorem s_four {G : xG} {d : Nat} {Q : xQ} {a : Nat → Nat} {σ : mS} {n : Nat} {v : Int32} (hn : σ.1 2 = nI n) (hn9 : n + 4 ≤ 940) (kk : Q none (mW G.2.2.1 a (fourS σ n v))) : MT G MX12_four (d) 0 0 [.ref (a 60), .int v] (mW G.2.2.1 a σ) Q := by
  refine mt_start (L := [some (.ref (a 60)), some (.int v), none]) rfl (Nat.le_of_ble_eq_true rfl) rfl ?_
  refine aw_bipush (pc := 0) dX12_four_0 bipush_24 ?_
  refine aw_istore_n (pc := 2) (i := 2) dX12_four_2 rfl (Nat.le_of_ble_eq_true rfl) rfl ?_
  refine aw_iload_n (pc := 3) (i := 2) dX12_four_3 rfl rfl ?_
  refine an_if_lt (pc := 4) (tgt := 36) dX12_four_4 rfl (by decide) ?_
  refine aw_aload_n (pc := 7) (i := 0) dX12_four_7 rfl rfl ?_
  refine mg_tape (pc := 8) dX12_four_8 rfl ?_
  refine aw_aload_n (pc := 11) (i := 0) dX12_four_11 rfl rfl ?_
  refine mg_length (pc := 12) dX12_four_12 rfl ?_
  refine aw_top (y := (nI n)) hn ?_
  refine aw_iload_n (pc := 15) (i := 1) dX12_four_15 rfl rfl ?_
  refine aw_iload_n (pc := 16) (i := 2) dX12_four_16 rfl rfl ?_
  refine aw_ishr (pc := 17) dX12_four_17 ?_
  refine aw_i2b (pc := 18) dX12_four_18 ?_
  refine ms_tape (pc := 19) dX12_four_19 (by omega) ?_
  refine aw_aload_n (pc := 20) (i := 0) dX12_four_20 rfl rfl ?_
  refine aw_dup (pc := 21) dX12_four_21 rfl ?_
  refine mg_length (pc := 22) dX12_four_22 rfl ?_
  refine aw_top (y := σ.1 2) rfl ?_
  refine aw_top (y := (nI n)) hn ?_
  refine aw_iconst (pc := 25) dX12_four_25 iconst_1 ?_
  refine an_add (pc := 26) dX12_four_26 ?_
  refine mp_length (pc := 27) dX12_four_27 rfl ?_
  refine an_dec (pc := 30) (v := (-8 : Int32)) (y := nI 16) dX12_four_30 rfl (by decide) (by decide) (Nat.le_of_ble_eq_true rfl) rfl ?_
  refine aw_goto (pc := 33) (tgt := 3) dX12_four_33 rfl ?_
  refine aw_iload_n (pc := 3) (i := 2) dX12_four_3 rfl rfl ?_
  refine an_if_lt (pc := 4) (tgt := 36) dX12_four_4 rfl (by decide) ?_
  refine aw_aload_n (pc := 7) (i := 0) dX12_four_7 rfl rfl ?_
  refine mg_tape (pc := 8) dX12_four_8 rfl ?_
  refine aw_aload_n (pc := 11) (i := 0) dX12_four_11 rfl rfl ?_
  refine mg_length (pc := 12) dX12_four_12 rfl ?_
  refine aw_top (y := nI (n + 1)) rfl ?_
  refine aw_iload_n (pc := 15) (i := 1) dX12_four_15 rfl rfl ?_
  refine aw_iload_n (pc := 16) (i := 2) dX12_four_16 rfl rfl ?_
  refine aw_ishr (pc := 17) dX12_four_17 ?_
  refine aw_i2b (pc := 18) dX12_four_18 ?_
  refine ms_tape (pc := 19) dX12_four_19 (by omega) ?_
  refine aw_aload_n (pc := 20) (i := 0) dX12_four_20 rfl rfl ?_
  refine aw_dup (pc := 21) dX12_four_21 rfl ?_
  refine mg_length (pc := 22) dX12_four_22 rfl ?_
  refine aw_top (y := nI (n + 1)) rfl ?_
  refine aw_iconst (pc := 25) dX12_four_25 iconst_1 ?_
  refine an_add (pc := 26) dX12_four_26 ?_
  refine mp_length (pc := 27) dX12_four_27 rfl ?_
  refine an_dec (pc := 30) (v := (-8 : Int32)) (y := nI 8) dX12_four_30 rfl (by decide) (by decide) (Nat.le_of_ble_eq_true rfl) rfl ?_
  refine aw_goto (pc := 33) (tgt := 3) dX12_four_33 rfl ?_
  refine aw_iload_n (pc := 3) (i := 2) dX12_four_3 rfl rfl ?_
  refine an_if_lt (pc := 4) (tgt := 36) dX12_four_4 rfl (by decide) ?_
  refine aw_aload_n (pc := 7) (i := 0) dX12_four_7 rfl rfl ?_
  refine mg_tape (pc := 8) dX12_four_8 rfl ?_
  refine aw_aload_n (pc := 11) (i := 0) dX12_four_11 rfl rfl ?_
  refine mg_length (pc := 12) dX12_four_12 rfl ?_
  refine aw_top (y := nI ((n + 1) + 1)) rfl ?_
  refine aw_iload_n (pc := 15) (i := 1) dX12_four_15 rfl rfl ?_
  refine aw_iload_n (pc := 16) (i := 2) dX12_four_16 rfl rfl ?_
  refine aw_ishr (pc := 17) dX12_four_17 ?_
  refine aw_i2b (pc := 18) dX12_four_18 ?_
  refine ms_tape (pc := 19) dX12_four_19 (by omega) ?_
  refine aw_aload_n (pc := 20) (i := 0) dX12_four_20 rfl rfl ?_
  refine aw_dup (pc := 21) dX12_four_21 rfl ?_
  refine mg_length (pc := 22) dX12_four_22 rfl ?_
  refine aw_top (y := nI ((n + 1) + 1)) rfl ?_
  refine aw_iconst (pc := 25) dX12_four_25 iconst_1 ?_
  refine an_add (pc := 26) dX12_four_26 ?_
  refine mp_length (pc := 27) dX12_four_27 rfl ?_
  refine an_dec (pc := 30) (v := (-8 : Int32)) (y := nI 0) dX12_four_30 rfl (by decide) (by decide) (Nat.le_of_ble_eq_true rfl) rfl ?_
  refine aw_goto (pc := 33) (tgt := 3) dX12_four_33 rfl ?_
  refine aw_iload_n (pc := 3) (i := 2) dX12_four_3 rfl rfl ?_
  refine an_if_lt (pc := 4) (tgt := 36) dX12_four_4 rfl (by decide) ?_
  refine aw_aload_n (pc := 7) (i := 0) dX12_four_7 rfl rfl ?_
  refine mg_tape (pc := 8) dX12_four_8 rfl ?_
  refine aw_aload_n (pc := 11) (i := 0) dX12_four_11 rfl rfl ?_
  refine mg_length (pc := 12) dX12_four_12 rfl ?_
  refine aw_top (y := nI (((n + 1) + 1) + 1)) rfl ?_
  refine aw_iload_n (pc := 15) (i := 1) dX12_four_15 rfl rfl ?_
  refine aw_iload_n (pc := 16) (i := 2) dX12_four_16 rfl rfl ?_
  refine aw_ishr (pc := 17) dX12_four_17 ?_
  refine aw_i2b (pc := 18) dX12_four_18 ?_
  refine ms_tape (pc := 19) dX12_four_19 (by omega) ?_
  refine aw_aload_n (pc := 20) (i := 0) dX12_four_20 rfl rfl ?_
  refine aw_dup (pc := 21) dX12_four_21 rfl ?_
  refine mg_length (pc := 22) dX12_four_22 rfl ?_
  refine aw_top (y := nI (((n + 1) + 1) + 1)) rfl ?_
  refine aw_iconst (pc := 25) dX12_four_25 iconst_1 ?_
  refine an_add (pc := 26) dX12_four_26 ?_
  refine mp_length (pc := 27) dX12_four_27 rfl ?_
  refine an_dec (pc := 30) (v := (-8 : Int32)) (y := (-8 : Int32)) dX12_four_30 rfl (by decide) (by decide) (Nat.le_of_ble_eq_true rfl) rfl ?_
  refine aw_goto (pc := 33) (tgt := 3) dX12_four_33 rfl ?_
  refine aw_iload_n (pc := 3) (i := 2) dX12_four_3 rfl rfl ?_
  refine aw_if_lt (pc := 4) (tgt := 36) dX12_four_4 rfl (fun _ => ?_) (fun h => absurd (by decide) h)
  exact aw_vret (pc := 36) dX12_four_36 rfl (Nat.le_refl _) (Nat.le_refl _) (kk)
set_option maxHeartbeats 1000000 in
set_option maxRecDepth 20000 in
theorem s_feed {G : xG} {d : Nat} {Q : xQ} {a : Nat → Nat} {σ : mS} {n : Nat} {v1 v2 v3 v4 v5 : Int32} (hn : σ.1 2 = nI n) (hn9 : n ≤ 940) (kk : Q (some (.int (feedA n))) (mW G.2.2.1 a (feedS σ n v1 v2 v3 v4 v5))) : MT G MX12_feed (d + 1) 0 0 [.ref (a 60), .int v1, .int v2, .int v3, .int v4, .int v5] (mW G.2.2.1 a σ) Q := by
  refine mt_start (L := [some (.ref (a 60)), some (.int v1), some (.int v2), some (.int v3), some (.int v4), some (.int v5)]) rfl (Nat.le_of_ble_eq_true rfl) rfl ?_
  refine aw_aload_n (pc := 0) (i := 0) dX12_feed_0 rfl rfl ?_
  refine aw_iconst (pc := 1) dX12_feed_1 iconst_0 ?_
  refine mp_thrown (pc := 2) dX12_feed_2 rfl ?_
  refine aw_aload_n (pc := 5) (i := 0) dX12_feed_5 rfl rfl ?_
  refine mg_length (pc := 6) dX12_feed_6 rfl ?_
  refine aw_top (y := σ.1 2) rfl ?_
  refine aw_top (y := (nI n)) hn ?_
  refine aw_bipush (pc := 9) dX12_feed_9 bipush_20 ?_
  refine an_add (pc := 11) dX12_feed_11 ?_
  refine aw_sipush (pc := 12) dX12_feed_12 sipush_940 ?_
  refine an_icmp_le (pc := 15) (tgt := 20) dX12_feed_15 rfl (by omega) (by decide) (fun h15 => ?_) (fun h15 => ?_)
  · -- 20
    refine aw_aload_n (pc := 20) (i := 0) dX12_feed_20 rfl rfl ?_
    refine aw_iload_n (pc := 21) (i := 1) dX12_feed_21 rfl rfl ?_
    refine mc_V (pc := 22) (As := [.int v1]) (rest := []) dX12_feed_22 rfl ok_X12_10 rfl rfl rfl (Nat.le_of_ble_eq_true rfl) (s_four (n := n) hn (by omega) ⟨_, rfl, rfl, ?_⟩)
    refine aw_aload_n (pc := 25) (i := 0) dX12_feed_25 rfl rfl ?_
    refine aw_iload_n (pc := 26) (i := 2) dX12_feed_26 rfl rfl ?_
    refine mc_V (pc := 27) (As := [.int v2]) (rest := []) dX12_feed_27 rfl ok_X12_10 rfl rfl rfl (Nat.le_of_ble_eq_true rfl) (s_four (n := n + 4) rfl (by omega) ⟨_, rfl, rfl, ?_⟩)
    refine aw_aload_n (pc := 30) (i := 0) dX12_feed_30 rfl rfl ?_
    refine aw_iload_n (pc := 31) (i := 3) dX12_feed_31 rfl rfl ?_
    refine mc_V (pc := 32) (As := [.int v3]) (rest := []) dX12_feed_32 rfl ok_X12_10 rfl rfl rfl (Nat.le_of_ble_eq_true rfl) (s_four (n := n + 8) rfl (by omega) ⟨_, rfl, rfl, ?_⟩)
    refine aw_aload_n (pc := 35) (i := 0) dX12_feed_35 rfl rfl ?_
    refine aw_iload (pc := 36) dX12_feed_36 rfl ?_
    refine mc_V (pc := 38) (As := [.int v4]) (rest := []) dX12_feed_38 rfl ok_X12_10 rfl rfl rfl (Nat.le_of_ble_eq_true rfl) (s_four (n := n + 12) rfl (by omega) ⟨_, rfl, rfl, ?_⟩)
    refine aw_aload_n (pc := 41) (i := 0) dX12_feed_41 rfl rfl ?_
    refine aw_iload (pc := 42) dX12_feed_42 rfl ?_
    refine mc_V (pc := 44) (As := [.int v5]) (rest := []) dX12_feed_44 rfl ok_X12_10 rfl rfl rfl (Nat.le_of_ble_eq_true rfl) (s_four (n := n + 16) rfl (by omega) ⟨_, rfl, rfl, ?_⟩)
    refine aw_aload_n (pc := 47) (i := 0) dX12_feed_47 rfl rfl ?_
    refine mg_length (pc := 48) dX12_feed_48 rfl ?_
    refine aw_top (y := (nI (n + 20))) rfl ?_
    exact aw_iret (pc := 51) dX12_feed_51 rfl (Nat.le_refl _) (Nat.le_refl _) (by simp only [feedA, feedS, if_pos h15] at kk; exact kk)
  · -- 18
    refine aw_iconst (pc := 18) dX12_feed_18 iconst_m1 ?_
    exact aw_iret (pc := 19) dX12_feed_19 rfl (Nat.le_refl _) (Nat.le_refl _) (by simp only [feedA, feedS, if_neg (Nat.not_le.mpr h15)] at kk; exact kk)
set_option maxHeartbeats 1000000 in
set_option maxRecDepth 20000 in
theorem s_end {G : xG} {d : Nat} {Q : xQ} {a : Nat → Nat} {σ : mS} {n : Nat} {x : Int32} (hn : σ.1 2 = nI n) (kk : Q (some (.int (bI (endOK n x)))) (mW G.2.2.1 a (endS σ n x))) : MT G MX12_end (d) 0 0 [.ref (a 60), .int x] (mW G.2.2.1 a σ) Q := by
  refine mt_start (L := [some (.ref (a 60)), some (.int x)]) rfl (Nat.le_of_ble_eq_true rfl) rfl ?_
  refine aw_aload_n (pc := 0) (i := 0) dX12_end_0 rfl rfl ?_
  refine aw_iconst (pc := 1) dX12_end_1 iconst_0 ?_
  refine mp_thrown (pc := 2) dX12_end_2 rfl ?_
  refine aw_iload_n (pc := 5) (i := 1) dX12_end_5 rfl rfl ?_
  refine aw_if_lt (pc := 6) (tgt := 17) dX12_end_6 rfl (fun h6 => ?_) (fun h6 => ?_)
  · -- 17
    refine aw_iconst (pc := 17) dX12_end_17 iconst_0 ?_
    exact ab_ret0 (pc := 18) dX12_end_18 rfl (Nat.le_refl _) (Nat.le_refl _) (by have e : endOK n x = false := (by simp only [endOK, Bool.and_eq_false_iff, Bool.and_eq_true, decide_eq_true_eq, decide_eq_false_iff_not, Int32.lt_iff_toInt_lt, Int32.le_iff_toInt_le] at *; omega); simp only [endS, e, Bool.true_and, Bool.and_true, Bool.false_and, Bool.and_false, Bool.not_true, Bool.not_false, Bool.or_true, Bool.or_false, Bool.true_or, Bool.false_or, Bool.false_eq_true, Bool.true_eq_false, if_true, if_false, ite_true, ite_false, reduceIte, reduceCtorEq] at kk; exact kk)
  · -- 9
    refine aw_iload_n (pc := 9) (i := 1) dX12_end_9 rfl rfl ?_
    refine aw_aload_n (pc := 10) (i := 0) dX12_end_10 rfl rfl ?_
    refine mg_length (pc := 11) dX12_end_11 rfl ?_
    refine aw_top (y := σ.1 2) rfl ?_
    refine aw_top (y := (nI n)) hn ?_
    refine aw_icmp_le (pc := 14) (tgt := 19) dX12_end_14 rfl (fun h14 => ?_) (fun h14 => ?_)
    · -- 19
      refine aw_aload_n (pc := 19) (i := 0) dX12_end_19 rfl rfl ?_
      refine aw_iload_n (pc := 20) (i := 1) dX12_end_20 rfl rfl ?_
      refine mp_length (pc := 21) dX12_end_21 rfl ?_
      refine aw_iconst (pc := 24) dX12_end_24 iconst_1 ?_
      exact ab_ret1 (pc := 25) dX12_end_25 rfl (Nat.le_refl _) (Nat.le_refl _) (by have e : endOK n x = true := (by simp only [endOK, Bool.and_eq_false_iff, Bool.and_eq_true, decide_eq_true_eq, decide_eq_false_iff_not, Int32.lt_iff_toInt_lt, Int32.le_iff_toInt_le] at *; omega); simp only [endS, e, Bool.true_and, Bool.and_true, Bool.false_and, Bool.and_false, Bool.not_true, Bool.not_false, Bool.or_true, Bool.or_false, Bool.true_or, Bool.false_or, Bool.false_eq_true, Bool.true_eq_false, if_true, if_false, ite_true, ite_false, reduceIte, reduceCtorEq] at kk; exact kk)
    · -- 17
      refine aw_iconst (pc := 17) dX12_end_17 iconst_0 ?_
      exact ab_ret0 (pc := 18) dX12_end_18 rfl (Nat.le_refl _) (Nat.le_refl _) (by have e : endOK n x = false := (by simp only [endOK, Bool.and_eq_false_iff, Bool.and_eq_true, decide_eq_true_eq, decide_eq_false_iff_not, Int32.lt_iff_toInt_lt, Int32.le_iff_toInt_le] at *; omega); simp only [endS, e, Bool.true_and, Bool.and_true, Bool.false_and, Bool.and_false, Bool.not_true, Bool.not_false, Bool.or_true, Bool.or_false, Bool.true_or, Bool.false_or, Bool.false_eq_true, Bool.true_eq_false, if_true, if_false, ite_true, ite_false, reduceIte, reduceCtorEq] at kk; exact kk)
set_option maxHeartbeats 1000000 in
set_option maxRecDepth 20000 in
theorem s_taken {G : xG} {d : Nat} {Q : xQ} {a : Nat → Nat} {σ : mS} {n lim : Nat} (hn : σ.1 2 = nI n) (kk : Q none (mW G.2.2.1 a (takenS σ n lim))) : MT G MX12_taken (d) 0 0 [.ref (a 60), .int (nI lim)] (mW G.2.2.1 a σ) Q := by
  refine mt_start (L := [some (.ref (a 60)), some (.int (nI lim))]) rfl (Nat.le_of_ble_eq_true rfl) rfl ?_
  refine aw_aload_n (pc := 0) (i := 0) dX12_taken_0 rfl rfl ?_
  refine aw_aload_n (pc := 1) (i := 0) dX12_taken_1 rfl rfl ?_
  refine mg_length (pc := 2) dX12_taken_2 rfl ?_
  refine aw_top (y := (nI n)) hn ?_
  refine mp_size (pc := 5) dX12_taken_5 rfl ?_
  refine aw_aload_n (pc := 8) (i := 0) dX12_taken_8 rfl rfl ?_
  refine aw_iconst (pc := 9) dX12_taken_9 iconst_0 ?_
  refine mp_length (pc := 10) dX12_taken_10 rfl ?_
  refine aw_aload_n (pc := 13) (i := 0) dX12_taken_13 rfl rfl ?_
  refine aw_iconst (pc := 14) dX12_taken_14 iconst_0 ?_
  refine mp_p (pc := 15) dX12_taken_15 rfl ?_
  refine aw_aload_n (pc := 18) (i := 0) dX12_taken_18 rfl rfl ?_
  refine aw_iload_n (pc := 19) (i := 1) dX12_taken_19 rfl rfl ?_
  refine mp_limit (pc := 20) dX12_taken_20 rfl ?_
  exact aw_vret (pc := 23) dX12_taken_23 rfl (Nat.le_refl _) (Nat.le_refl _) (kk)
set_option maxHeartbeats 1000000 in
set_option maxRecDepth 20000 in
theorem s_peek1 {G : xG} {d : Nat} {Q : xQ} {a : Nat → Nat} {σ : mS} {p s : Nat} (hp : σ.1 4 = nI p) (hs : σ.1 3 = nI s) (hs9 : s ≤ 940) (hlt : p < s) (kk : Q (some (.int (nI (octN (σ.2.2.1 1 p))))) (mW G.2.2.1 a σ)) : MT G MX12_peek (d) 0 0 [.ref (a 60)] (mW G.2.2.1 a σ) Q := by
  refine mt_start (L := [some (.ref (a 60))]) rfl (Nat.le_of_ble_eq_true rfl) rfl ?_
  refine aw_aload_n (pc := 0) (i := 0) dX12_peek_0 rfl rfl ?_
  refine mg_p (pc := 1) dX12_peek_1 rfl ?_
  refine aw_top (y := (nI p)) hp ?_
  refine aw_aload_n (pc := 4) (i := 0) dX12_peek_4 rfl rfl ?_
  refine mg_size (pc := 5) dX12_peek_5 rfl ?_
  refine aw_top (y := (nI s)) hs ?_
  refine an_icmp_ge (pc := 8) (tgt := 27) dX12_peek_8 rfl (by omega) (by omega) (fun h8 => ?_) (fun h8 => ?_)
  · -- 27
    exfalso; omega
  · -- 11
    refine aw_aload_n (pc := 11) (i := 0) dX12_peek_11 rfl rfl ?_
    refine mg_tape (pc := 12) dX12_peek_12 rfl ?_
    refine aw_aload_n (pc := 15) (i := 0) dX12_peek_15 rfl rfl ?_
    refine mg_p (pc := 16) dX12_peek_16 rfl ?_
    refine aw_top (y := (nI p)) hp ?_
    refine ml_tape (pc := 19) dX12_peek_19 (by omega) ?_
    refine aw_sipush (pc := 20) dX12_peek_20 sipush_255 ?_
    refine aw_iand (pc := 23) dX12_peek_23 ?_
    refine aw_goto (pc := 24) (tgt := 28) dX12_peek_24 rfl ?_
    exact aw_iret (pc := 28) dX12_peek_28 rfl (Nat.le_refl _) (Nat.le_refl _) (by rw [octN_and]; exact kk)
set_option maxHeartbeats 1000000 in
set_option maxRecDepth 20000 in
theorem s_peek0 {G : xG} {d : Nat} {Q : xQ} {a : Nat → Nat} {σ : mS} {p s : Nat} (hp : σ.1 4 = nI p) (hs : σ.1 3 = nI s) (hs9 : s ≤ 940) (hge : s ≤ p) (hp9 : p < 2 ^ 31) (kk : Q (some (.int (-1))) (mW G.2.2.1 a σ)) : MT G MX12_peek (d) 0 0 [.ref (a 60)] (mW G.2.2.1 a σ) Q := by
  refine mt_start (L := [some (.ref (a 60))]) rfl (Nat.le_of_ble_eq_true rfl) rfl ?_
  refine aw_aload_n (pc := 0) (i := 0) dX12_peek_0 rfl rfl ?_
  refine mg_p (pc := 1) dX12_peek_1 rfl ?_
  refine aw_top (y := (nI p)) hp ?_
  refine aw_aload_n (pc := 4) (i := 0) dX12_peek_4 rfl rfl ?_
  refine mg_size (pc := 5) dX12_peek_5 rfl ?_
  refine aw_top (y := (nI s)) hs ?_
  refine an_icmp_ge (pc := 8) (tgt := 27) dX12_peek_8 rfl (by omega) (by omega) (fun h8 => ?_) (fun h8 => ?_)
  · -- 27
    refine aw_iconst (pc := 27) dX12_peek_27 iconst_m1 ?_
    exact aw_iret (pc := 28) dX12_peek_28 rfl (Nat.le_refl _) (Nat.le_refl _) (kk)
  · -- 11
    exfalso; omega
set_option maxHeartbeats 1000000 in
set_option maxRecDepth 20000 in
theorem s_isSmallN {G : xG} {d : Nat} {Q : xQ} {ws : va_W} {c : Nat} (hc : c < 2 ^ 31) (kk : Q (some (.int (bI (isL c)))) ws) : MT G MX12_isSmall (d) 0 0 [.int (nI c)] ws Q := by
  refine mt_start (L := [some (.int (nI c))]) rfl (Nat.le_of_ble_eq_true rfl) rfl ?_
  refine aw_iload_n (pc := 0) (i := 0) dX12_isSmall_0 rfl rfl ?_
  refine aw_bipush (pc := 1) dX12_isSmall_1 bipush_97 ?_
  refine an_icmp_lt (pc := 3) (tgt := 16) dX12_isSmall_3 rfl (by omega) (by decide) (fun h3 => ?_) (fun h3 => ?_)
  · -- 16
    refine aw_iconst (pc := 16) dX12_isSmall_16 iconst_0 ?_
    exact ab_ret0 (pc := 17) dX12_isSmall_17 rfl (Nat.le_refl _) (Nat.le_refl _) (by rw [show isL c = false by simp only [isL, Bool.and_eq_true, Bool.and_eq_false_iff, decide_eq_true_eq, decide_eq_false_iff_not]; omega] at kk; exact kk)
  · -- 6
    refine aw_iload_n (pc := 6) (i := 0) dX12_isSmall_6 rfl rfl ?_
    refine aw_bipush (pc := 7) dX12_isSmall_7 bipush_122 ?_
    refine an_icmp_gt (pc := 9) (tgt := 16) dX12_isSmall_9 rfl (by omega) (by decide) (fun h9 => ?_) (fun h9 => ?_)
    · -- 16
      refine aw_iconst (pc := 16) dX12_isSmall_16 iconst_0 ?_
      exact ab_ret0 (pc := 17) dX12_isSmall_17 rfl (Nat.le_refl _) (Nat.le_refl _) (by rw [show isL c = false by simp only [isL, Bool.and_eq_true, Bool.and_eq_false_iff, decide_eq_true_eq, decide_eq_false_iff_not]; omega] at kk; exact kk)
    · -- 12
      refine aw_iconst (pc := 12) dX12_isSmall_12 iconst_1 ?_
      refine aw_goto (pc := 13) (tgt := 17) dX12_isSmall_13 rfl ?_
      exact ab_ret1 (pc := 17) dX12_isSmall_17 rfl (Nat.le_refl _) (Nat.le_refl _) (by rw [show isL c = true by simp only [isL, Bool.and_eq_true, Bool.and_eq_false_iff, decide_eq_true_eq, decide_eq_false_iff_not]; omega] at kk; exact kk)
set_option maxHeartbeats 1000000 in
set_option maxRecDepth 20000 in
theorem s_isSmallM {G : xG} {d : Nat} {Q : xQ} {ws : va_W} (kk : Q (some (.int (bI false))) ws) : MT G MX12_isSmall (d) 0 0 [.int ((-1))] ws Q := by
  refine mt_start (L := [some (.int ((-1)))]) rfl (Nat.le_of_ble_eq_true rfl) rfl ?_
  refine aw_iload_n (pc := 0) (i := 0) dX12_isSmall_0 rfl rfl ?_
  refine aw_bipush (pc := 1) dX12_isSmall_1 bipush_97 ?_
  refine aw_icmp_lt (pc := 3) (tgt := 16) dX12_isSmall_3 rfl (fun h3 => ?_) (fun h3 => ?_)
  · -- 16
    refine aw_iconst (pc := 16) dX12_isSmall_16 iconst_0 ?_
    exact ab_ret0 (pc := 17) dX12_isSmall_17 rfl (Nat.le_refl _) (Nat.le_refl _) (kk)
  · -- 6
    refine aw_iload_n (pc := 6) (i := 0) dX12_isSmall_6 rfl rfl ?_
    refine aw_bipush (pc := 7) dX12_isSmall_7 bipush_122 ?_
    refine aw_icmp_gt (pc := 9) (tgt := 16) dX12_isSmall_9 rfl (fun h9 => ?_) (fun h9 => ?_)
    · -- 16
      refine aw_iconst (pc := 16) dX12_isSmall_16 iconst_0 ?_
      exact ab_ret0 (pc := 17) dX12_isSmall_17 rfl (Nat.le_refl _) (Nat.le_refl _) (kk)
    · -- 12
      refine aw_iconst (pc := 12) dX12_isSmall_12 iconst_1 ?_
      refine aw_goto (pc := 13) (tgt := 17) dX12_isSmall_13 rfl ?_
      exact ab_ret1 (pc := 17) dX12_isSmall_17 rfl (Nat.le_refl _) (Nat.le_refl _) (by exfalso; revert h3; decide)
set_option maxHeartbeats 1000000 in
set_option maxRecDepth 20000 in
theorem s_isDigitN {G : xG} {d : Nat} {Q : xQ} {ws : va_W} {c : Nat} (hc : c < 2 ^ 31) (kk : Q (some (.int (bI (isD c)))) ws) : MT G MX12_isDigit (d) 0 0 [.int (nI c)] ws Q := by
  refine mt_start (L := [some (.int (nI c))]) rfl (Nat.le_of_ble_eq_true rfl) rfl ?_
  refine aw_iload_n (pc := 0) (i := 0) dX12_isDigit_0 rfl rfl ?_
  refine aw_bipush (pc := 1) dX12_isDigit_1 bipush_48 ?_
  refine an_icmp_lt (pc := 3) (tgt := 16) dX12_isDigit_3 rfl (by omega) (by decide) (fun h3 => ?_) (fun h3 => ?_)
  · -- 16
    refine aw_iconst (pc := 16) dX12_isDigit_16 iconst_0 ?_
    exact ab_ret0 (pc := 17) dX12_isDigit_17 rfl (Nat.le_refl _) (Nat.le_refl _) (by rw [show isD c = false by simp only [isD, Bool.and_eq_true, Bool.and_eq_false_iff, decide_eq_true_eq, decide_eq_false_iff_not]; omega] at kk; exact kk)
  · -- 6
    refine aw_iload_n (pc := 6) (i := 0) dX12_isDigit_6 rfl rfl ?_
    refine aw_bipush (pc := 7) dX12_isDigit_7 bipush_57 ?_
    refine an_icmp_gt (pc := 9) (tgt := 16) dX12_isDigit_9 rfl (by omega) (by decide) (fun h9 => ?_) (fun h9 => ?_)
    · -- 16
      refine aw_iconst (pc := 16) dX12_isDigit_16 iconst_0 ?_
      exact ab_ret0 (pc := 17) dX12_isDigit_17 rfl (Nat.le_refl _) (Nat.le_refl _) (by rw [show isD c = false by simp only [isD, Bool.and_eq_true, Bool.and_eq_false_iff, decide_eq_true_eq, decide_eq_false_iff_not]; omega] at kk; exact kk)
    · -- 12
      refine aw_iconst (pc := 12) dX12_isDigit_12 iconst_1 ?_
      refine aw_goto (pc := 13) (tgt := 17) dX12_isDigit_13 rfl ?_
      exact ab_ret1 (pc := 17) dX12_isDigit_17 rfl (Nat.le_refl _) (Nat.le_refl _) (by rw [show isD c = true by simp only [isD, Bool.and_eq_true, Bool.and_eq_false_iff, decide_eq_true_eq, decide_eq_false_iff_not]; omega] at kk; exact kk)
set_option maxHeartbeats 1000000 in
set_option maxRecDepth 20000 in
theorem s_isDigitM {G : xG} {d : Nat} {Q : xQ} {ws : va_W} (kk : Q (some (.int (bI false))) ws) : MT G MX12_isDigit (d) 0 0 [.int ((-1))] ws Q := by
  refine mt_start (L := [some (.int ((-1)))]) rfl (Nat.le_of_ble_eq_true rfl) rfl ?_
  refine aw_iload_n (pc := 0) (i := 0) dX12_isDigit_0 rfl rfl ?_
  refine aw_bipush (pc := 1) dX12_isDigit_1 bipush_48 ?_
  refine aw_icmp_lt (pc := 3) (tgt := 16) dX12_isDigit_3 rfl (fun h3 => ?_) (fun h3 => ?_)
  · -- 16
    refine aw_iconst (pc := 16) dX12_isDigit_16 iconst_0 ?_
    exact ab_ret0 (pc := 17) dX12_isDigit_17 rfl (Nat.le_refl _) (Nat.le_refl _) (kk)
  · -- 6
    refine aw_iload_n (pc := 6) (i := 0) dX12_isDigit_6 rfl rfl ?_
    refine aw_bipush (pc := 7) dX12_isDigit_7 bipush_57 ?_
    refine aw_icmp_gt (pc := 9) (tgt := 16) dX12_isDigit_9 rfl (fun h9 => ?_) (fun h9 => ?_)
    · -- 16
      refine aw_iconst (pc := 16) dX12_isDigit_16 iconst_0 ?_
      exact ab_ret0 (pc := 17) dX12_isDigit_17 rfl (Nat.le_refl _) (Nat.le_refl _) (kk)
    · -- 12
      refine aw_iconst (pc := 12) dX12_isDigit_12 iconst_1 ?_
      refine aw_goto (pc := 13) (tgt := 17) dX12_isDigit_13 rfl ?_
      exact ab_ret1 (pc := 17) dX12_isDigit_17 rfl (Nat.le_refl _) (Nat.le_refl _) (by exfalso; revert h3; decide)
