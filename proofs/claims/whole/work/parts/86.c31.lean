/-- a row holds what the reference has laid -/
def RTx (κ : kS) (p : (Nat → Nat) × Nat) : Prop := RwR κ ((List.range p.2).map (fun i => nI (p.1 i)))
theorem RTl (p : (Nat → Nat) × Nat) : ((List.range p.2).map (fun i => nI (p.1 i))).length = p.2 := by simp
theorem RTx_lay {p : (Nat → Nat) × Nat} {v : Nat} : (List.range p.2).map (fun i => nI (p.1 i)) ++ [nI v] = (List.range (layP p v).2).map (fun i => nI ((layP p v).1 i)) := by
  show _ = (List.range (p.2 + 1)).map (fun i => nI (upN p.1 p.2 v i))
  rw [List.range_succ, List.map_append]
  congr 1
  · apply List.map_congr_left
    intro i hi
    rw [upN_n _ _ _ _ (by have := List.mem_range.mp hi; omega)]
  · simp [upN_s]
theorem c5_lay {G : xG} {d : Nat} {Q : xQ} {a : Nat → Nat} {N : Nat} {κ : kS} {R : va_W} {p : (Nat → Nat) × Nat} {v : Nat} (h : RTx κ p) (hl : p.2 < N) (hN : N < 2 ^ 31) (kk : ∀ κ9, RTx κ9 (layP p v) → Q none (wRw G.2.2.1 a N κ9 ++ R)) : MT G MX5_add d 0 0 [.ref (a 2), .int (nI v)] (wRw G.2.2.1 a N κ ++ R) Q := by
  refine c5_add h (by rw [RTl]; exact hl) hN (fun κ9 h9 => kk κ9 ?_)
  unfold RTx
  rw [← RTx_lay]; exact h9
theorem lay_2 (p : (Nat → Nat) × Nat) (v : Nat) : (layP p v).2 = p.2 + 1 := rfl
set_option maxHeartbeats 1000000 in
set_option maxRecDepth 20000 in
theorem c5_digits {G : xG} {d : Nat} {Q : xQ} {a : Nat → Nat} {N : Nat} {κ : kS} {R : va_W} {p : (Nat → Nat) × Nat} {v : Nat} (h : RTx κ p) (hl : p.2 + 3 ≤ N) (hN : N < 2 ^ 31) (hv : v < 1000) (kk : ∀ κ9, RTx κ9 (digG v p) → Q none (wRw G.2.2.1 a N κ9 ++ R)) : MT G MX5_addDigits (d + 1) 0 0 [.ref (a 2), .int (nI v)] (wRw G.2.2.1 a N κ ++ R) Q := by
  refine mt_start (L := [some (.ref (a 2)), some (.int (nI v))]) rfl (Nat.le_of_ble_eq_true rfl) rfl ?_
  refine aw_iload_n (pc := 0) (i := 1) dX5_addDigits_0 rfl rfl ?_
  refine aw_bipush (pc := 1) dX5_addDigits_1 bipush_100 ?_
  refine an_icmp_lt (pc := 3) (tgt := 17) dX5_addDigits_3 rfl (by omega) (by decide) (fun h3 => ?_) (fun h3 => ?_)
  · -- 17
    refine aw_iload_n (pc := 17) (i := 1) dX5_addDigits_17 rfl rfl ?_
    refine aw_bipush (pc := 18) dX5_addDigits_18 bipush_10 ?_
    refine an_icmp_lt (pc := 20) (tgt := 37) dX5_addDigits_20 rfl (by omega) (by decide) (fun h20 => ?_) (fun h20 => ?_)
    · -- 37
      refine aw_aload_n (pc := 37) (i := 0) dX5_addDigits_37 rfl rfl ?_
      refine aw_bipush (pc := 38) dX5_addDigits_38 bipush_48 ?_
      refine aw_iload_n (pc := 40) (i := 1) dX5_addDigits_40 rfl rfl ?_
      refine aw_bipush (pc := 41) dX5_addDigits_41 bipush_10 ?_
      refine an_rem (pc := 43) dX5_addDigits_43 (by omega) (by decide) (by decide) ?_
      refine an_add (pc := 44) dX5_addDigits_44 ?_
      refine cVv (pc := 45) (As := [.int (nI (48 + (v % 10)))]) (rest := []) dX5_addDigits_45 rfl oc_X5_25 rfl rfl (Nat.le_of_ble_eq_true rfl) rfl rfl ovX5 (Nat.le_refl _) (Nat.le_refl _) (c5_lay (p := p) h (by (try simp only [lay_2]); omega) hN ?_)
      intro κ1 g1
      refine ⟨rfl, ?_⟩
      refine aw_vret (pc := 48) dX5_addDigits_48 rfl (Nat.le_refl _) (Nat.le_refl _) ?_
      have e : digG v p = (layP p (48 + (v % 10))) := by unfold digG; rw [if_neg (show ¬ 9 < v by omega), if_neg (show ¬ 99 < v by omega)]
      exact kk _ (by rw [e]; exact g1)
    · -- 23
      refine aw_aload_n (pc := 23) (i := 0) dX5_addDigits_23 rfl rfl ?_
      refine aw_bipush (pc := 24) dX5_addDigits_24 bipush_48 ?_
      refine aw_iload_n (pc := 26) (i := 1) dX5_addDigits_26 rfl rfl ?_
      refine aw_bipush (pc := 27) dX5_addDigits_27 bipush_10 ?_
      refine an_div (pc := 29) dX5_addDigits_29 (by omega) (by decide) (by decide) ?_
      refine aw_bipush (pc := 30) dX5_addDigits_30 bipush_10 ?_
      refine an_rem (pc := 32) dX5_addDigits_32 (by omega) (by decide) (by decide) ?_
      refine an_add (pc := 33) dX5_addDigits_33 ?_
      refine cVv (pc := 34) (As := [.int (nI (48 + ((v / 10) % 10)))]) (rest := []) dX5_addDigits_34 rfl oc_X5_25 rfl rfl (Nat.le_of_ble_eq_true rfl) rfl rfl ovX5 (Nat.le_refl _) (Nat.le_refl _) (c5_lay (p := p) h (by (try simp only [lay_2]); omega) hN ?_)
      intro κ1 g1
      refine ⟨rfl, ?_⟩
      refine aw_aload_n (pc := 37) (i := 0) dX5_addDigits_37 rfl rfl ?_
      refine aw_bipush (pc := 38) dX5_addDigits_38 bipush_48 ?_
      refine aw_iload_n (pc := 40) (i := 1) dX5_addDigits_40 rfl rfl ?_
      refine aw_bipush (pc := 41) dX5_addDigits_41 bipush_10 ?_
      refine an_rem (pc := 43) dX5_addDigits_43 (by omega) (by decide) (by decide) ?_
      refine an_add (pc := 44) dX5_addDigits_44 ?_
      refine cVv (pc := 45) (As := [.int (nI (48 + (v % 10)))]) (rest := []) dX5_addDigits_45 rfl oc_X5_25 rfl rfl (Nat.le_of_ble_eq_true rfl) rfl rfl ovX5 (Nat.le_refl _) (Nat.le_refl _) (c5_lay (p := (layP p (48 + ((v / 10) % 10)))) g1 (by (try simp only [lay_2]); omega) hN ?_)
      intro κ2 g2
      refine ⟨rfl, ?_⟩
      refine aw_vret (pc := 48) dX5_addDigits_48 rfl (Nat.le_refl _) (Nat.le_refl _) ?_
      have e : digG v p = (layP (layP p (48 + ((v / 10) % 10))) (48 + (v % 10))) := by unfold digG; rw [if_pos (show 9 < v by omega), if_neg (show ¬ 99 < v by omega)]
      exact kk _ (by rw [e]; exact g2)
  · -- 6
    refine aw_aload_n (pc := 6) (i := 0) dX5_addDigits_6 rfl rfl ?_
    refine aw_bipush (pc := 7) dX5_addDigits_7 bipush_48 ?_
    refine aw_iload_n (pc := 9) (i := 1) dX5_addDigits_9 rfl rfl ?_
    refine aw_bipush (pc := 10) dX5_addDigits_10 bipush_100 ?_
    refine an_div (pc := 12) dX5_addDigits_12 (by omega) (by decide) (by decide) ?_
    refine an_add (pc := 13) dX5_addDigits_13 ?_
    refine cVv (pc := 14) (As := [.int (nI (48 + (v / 100)))]) (rest := []) dX5_addDigits_14 rfl oc_X5_25 rfl rfl (Nat.le_of_ble_eq_true rfl) rfl rfl ovX5 (Nat.le_refl _) (Nat.le_refl _) (c5_lay (p := p) h (by (try simp only [lay_2]); omega) hN ?_)
    intro κ1 g1
    refine ⟨rfl, ?_⟩
    refine aw_iload_n (pc := 17) (i := 1) dX5_addDigits_17 rfl rfl ?_
    refine aw_bipush (pc := 18) dX5_addDigits_18 bipush_10 ?_
    refine an_icmp_lt (pc := 20) (tgt := 37) dX5_addDigits_20 rfl (by omega) (by decide) (fun h20 => ?_) (fun h20 => ?_)
    · -- 37
      refine aw_aload_n (pc := 37) (i := 0) dX5_addDigits_37 rfl rfl ?_
      refine aw_bipush (pc := 38) dX5_addDigits_38 bipush_48 ?_
      refine aw_iload_n (pc := 40) (i := 1) dX5_addDigits_40 rfl rfl ?_
      refine aw_bipush (pc := 41) dX5_addDigits_41 bipush_10 ?_
      refine an_rem (pc := 43) dX5_addDigits_43 (by omega) (by decide) (by decide) ?_
      refine an_add (pc := 44) dX5_addDigits_44 ?_
      refine cVv (pc := 45) (As := [.int (nI (48 + (v % 10)))]) (rest := []) dX5_addDigits_45 rfl oc_X5_25 rfl rfl (Nat.le_of_ble_eq_true rfl) rfl rfl ovX5 (Nat.le_refl _) (Nat.le_refl _) (c5_lay (p := (layP p (48 + (v / 100)))) g1 (by (try simp only [lay_2]); omega) hN ?_)
      intro κ2 g2
      refine ⟨rfl, ?_⟩
      refine aw_vret (pc := 48) dX5_addDigits_48 rfl (Nat.le_refl _) (Nat.le_refl _) ?_
      have e : digG v p = (layP (layP p (48 + (v / 100))) (48 + (v % 10))) := by unfold digG; rw [if_neg (show ¬ 9 < v by omega), if_pos (show 99 < v by omega)]
      exact kk _ (by rw [e]; exact g2)
    · -- 23
      refine aw_aload_n (pc := 23) (i := 0) dX5_addDigits_23 rfl rfl ?_
      refine aw_bipush (pc := 24) dX5_addDigits_24 bipush_48 ?_
      refine aw_iload_n (pc := 26) (i := 1) dX5_addDigits_26 rfl rfl ?_
      refine aw_bipush (pc := 27) dX5_addDigits_27 bipush_10 ?_
      refine an_div (pc := 29) dX5_addDigits_29 (by omega) (by decide) (by decide) ?_
      refine aw_bipush (pc := 30) dX5_addDigits_30 bipush_10 ?_
      refine an_rem (pc := 32) dX5_addDigits_32 (by omega) (by decide) (by decide) ?_
      refine an_add (pc := 33) dX5_addDigits_33 ?_
      refine cVv (pc := 34) (As := [.int (nI (48 + ((v / 10) % 10)))]) (rest := []) dX5_addDigits_34 rfl oc_X5_25 rfl rfl (Nat.le_of_ble_eq_true rfl) rfl rfl ovX5 (Nat.le_refl _) (Nat.le_refl _) (c5_lay (p := (layP p (48 + (v / 100)))) g1 (by (try simp only [lay_2]); omega) hN ?_)
      intro κ2 g2
      refine ⟨rfl, ?_⟩
      refine aw_aload_n (pc := 37) (i := 0) dX5_addDigits_37 rfl rfl ?_
      refine aw_bipush (pc := 38) dX5_addDigits_38 bipush_48 ?_
      refine aw_iload_n (pc := 40) (i := 1) dX5_addDigits_40 rfl rfl ?_
      refine aw_bipush (pc := 41) dX5_addDigits_41 bipush_10 ?_
      refine an_rem (pc := 43) dX5_addDigits_43 (by omega) (by decide) (by decide) ?_
      refine an_add (pc := 44) dX5_addDigits_44 ?_
      refine cVv (pc := 45) (As := [.int (nI (48 + (v % 10)))]) (rest := []) dX5_addDigits_45 rfl oc_X5_25 rfl rfl (Nat.le_of_ble_eq_true rfl) rfl rfl ovX5 (Nat.le_refl _) (Nat.le_refl _) (c5_lay (p := (layP (layP p (48 + (v / 100))) (48 + ((v / 10) % 10)))) g2 (by (try simp only [lay_2]); omega) hN ?_)
      intro κ3 g3
      refine ⟨rfl, ?_⟩
      refine aw_vret (pc := 48) dX5_addDigits_48 rfl (Nat.le_refl _) (Nat.le_refl _) ?_
      have e : digG v p = (layP (layP (layP p (48 + (v / 100))) (48 + ((v / 10) % 10))) (48 + (v % 10))) := by unfold digG; rw [if_pos (show 9 < v by omega), if_pos (show 99 < v by omega)]
      exact kk _ (by rw [e]; exact g3)
theorem ush5 {V k : Nat} (hV : V < 2 ^ 62) (hk : k < 64) : ((lN V).toUInt64 >>> ((nI k).toInt64.toUInt64 &&& Int64.toUInt64 63)).toInt64.toInt32 &&& nI 31 = nI (V / 2 ^ k % 32) := by
  have e63 : ∀ k, k < 64 → ((nI k).toInt64.toUInt64 &&& Int64.toUInt64 63).toBitVec % 64 = BitVec.ofNat 64 k := by decide +kernel
  rw [pk_and _ (m := nI 31) 5 (by decide)]
  congr 1
  show (BitVec.signExtend 32 (BitVec.ofNat 64 V >>> (((nI k).toInt64.toUInt64 &&& Int64.toUInt64 63).toBitVec % 64))).toNat % 2 ^ 5 = _
  rw [e63 k hk, BitVec.signExtend_eq_setWidth_of_le _ (by decide), BitVec.toNat_setWidth, Nat.mod_mod_of_dvd _ (by decide), BitVec.ushiftRight_eq', BitVec.toNat_ushiftRight, BitVec.toNat_ofNat, BitVec.toNat_ofNat, Nat.mod_eq_of_lt (show V < 2 ^ 64 by omega), Nat.mod_eq_of_lt (show k < 2 ^ 64 by omega), Nat.shiftRight_eq_div_pow]
def sp5 (V : Nat) : Nat → (Nat → Nat) × Nat → (Nat → Nat) × Nat
  | 0, p => p
  | n + 1, p => sp5 V n (if V / 2 ^ (5 * n) % 32 = 0 then p else layP p (96 + V / 2 ^ (5 * n) % 32))
set_option maxHeartbeats 1000000 in
set_option maxRecDepth 20000 in
theorem nI_p5 (n : Nat) : nI (n + 5) + (-5) = nI n := by
  apply Int32.toBitVec_inj.mp
  show BitVec.ofNat 32 (n + 5) + BitVec.ofInt 32 (-5) = BitVec.ofNat 32 n
  rw [BitVec.ofNat_add, BitVec.add_assoc, show BitVec.ofNat 32 5 + BitVec.ofInt 32 (-5) = 0#32 from by decide, BitVec.add_zero]
theorem name_loop {G : xG} {d : Nat} {Q : xQ} {a : Nat → Nat} {N V : Nat} {R : va_W} (hN : N < 2 ^ 31) (hV : V < 2 ^ 62) : ∀ (n : Nat) (κ : kS) (p : (Nat → Nat) × Nat) (o4 : Option Value), n < 7 → RTx κ p → p.2 + n + 1 ≤ N → (∀ κ9, RTx κ9 (sp5 V (n + 1) p) → Q none (wRw G.2.2.1 a N κ9 ++ R)) → AW G MX5_addName (d + 1) 0 0 Q 3 [some (.ref (a 2)), some (.long (lN V)), none, some (.int (nI (5 * n))), o4] [] (wRw G.2.2.1 a N κ ++ R) 0 0 := by
  intro n
  induction n with
  | zero =>
    intro κ p o4 hn h hl kk
    have hm : V / 2 ^ (5 * 0) % 32 < 32 := Nat.mod_lt _ (by decide)
    refine aw_iload_n (pc := 3) (i := 3) dX5_addName_3 rfl rfl ?_
    refine an_if_lt (pc := 4) (tgt := 36) dX5_addName_4 rfl (by decide) ?_
    refine aw_lload_n (pc := 7) (i := 1) dX5_addName_7 rfl rfl ?_
    refine aw_iload_n (pc := 8) (i := 3) dX5_addName_8 rfl rfl ?_
    refine aw_lushr (pc := 9) dX5_addName_9 ?_
    refine aw_l2i (pc := 10) dX5_addName_10 ?_
    refine aw_bipush (pc := 11) dX5_addName_11 bipush_31 ?_
    refine aw_iand (pc := 13) dX5_addName_13 ?_
    refine aw_top (y := (nI (V / 2 ^ (5 * 0) % 32))) (ush5 hV (by omega)) ?_
    refine aw_istore (pc := 14) (i := 4) dX5_addName_14 (Nat.le_of_ble_eq_true rfl) rfl ?_
    refine aw_iload (pc := 16) dX5_addName_16 rfl ?_
    refine an_if_eq (pc := 18) (tgt := 30) dX5_addName_18 rfl (by omega) (fun h18 => ?_) (fun h18 => ?_)
    · -- 30
      refine an_dec (pc := 30) (v := (-5 : Int32)) (y := (-5 : Int32)) dX5_addName_30 rfl (by decide) (by decide) (Nat.le_of_ble_eq_true rfl) trivial ?_
      refine aw_goto (pc := 33) (tgt := 3) dX5_addName_33 rfl ?_
      have e9 : sp5 V (0 + 1) p = p := by rw [sp5, if_pos h18]; rfl
      rw [e9] at kk
      refine aw_iload_n (pc := 3) (i := 3) dX5_addName_3 rfl rfl ?_
      refine aw_if_lt (pc := 4) (tgt := 36) dX5_addName_4 rfl (fun h4 => ?_) (fun h4 => ?_)
      · -- 36
        exact aw_vret (pc := 36) dX5_addName_36 rfl (Nat.le_refl _) (Nat.le_refl _) (kk _ h)
      · -- 7
        exact absurd h4 (by decide)
    · -- 21
      refine aw_aload_n (pc := 21) (i := 0) dX5_addName_21 rfl rfl ?_
      refine aw_bipush (pc := 22) dX5_addName_22 bipush_96 ?_
      refine aw_iload (pc := 24) dX5_addName_24 rfl ?_
      refine an_add (pc := 26) dX5_addName_26 ?_
      refine cVv (pc := 27) (As := [.int (nI (96 + (V / 2 ^ (5 * 0) % 32)))]) (rest := []) dX5_addName_27 rfl oc_X5_25 rfl rfl (Nat.le_of_ble_eq_true rfl) rfl rfl ovX5 (Nat.le_refl _) (Nat.le_refl _) (c5_lay (p := p) h (by (try simp only [lay_2]); omega) hN ?_)
      intro κ1 g1
      refine ⟨rfl, ?_⟩
      refine an_dec (pc := 30) (v := (-5 : Int32)) (y := (-5 : Int32)) dX5_addName_30 rfl (by decide) (by decide) (Nat.le_of_ble_eq_true rfl) trivial ?_
      refine aw_goto (pc := 33) (tgt := 3) dX5_addName_33 rfl ?_
      have e9 : sp5 V (0 + 1) p = (layP p (96 + (V / 2 ^ (5 * 0) % 32))) := by rw [sp5, if_neg (show ¬ V / 2 ^ (5 * 0) % 32 = 0 by omega)]; rfl
      rw [e9] at kk
      refine aw_iload_n (pc := 3) (i := 3) dX5_addName_3 rfl rfl ?_
      refine aw_if_lt (pc := 4) (tgt := 36) dX5_addName_4 rfl (fun h4 => ?_) (fun h4 => ?_)
      · -- 36
        exact aw_vret (pc := 36) dX5_addName_36 rfl (Nat.le_refl _) (Nat.le_refl _) (kk _ g1)
      · -- 7
        exact absurd h4 (by decide)
  | succ n ih =>
    intro κ p o4 hn h hl kk
    have hm : V / 2 ^ (5 * (n + 1)) % 32 < 32 := Nat.mod_lt _ (by decide)
    refine aw_iload_n (pc := 3) (i := 3) dX5_addName_3 rfl rfl ?_
    refine an_if_lt (pc := 4) (tgt := 36) dX5_addName_4 rfl (by omega) ?_
    refine aw_lload_n (pc := 7) (i := 1) dX5_addName_7 rfl rfl ?_
    refine aw_iload_n (pc := 8) (i := 3) dX5_addName_8 rfl rfl ?_
    refine aw_lushr (pc := 9) dX5_addName_9 ?_
    refine aw_l2i (pc := 10) dX5_addName_10 ?_
    refine aw_bipush (pc := 11) dX5_addName_11 bipush_31 ?_
    refine aw_iand (pc := 13) dX5_addName_13 ?_
    refine aw_top (y := (nI (V / 2 ^ (5 * (n + 1)) % 32))) (ush5 hV (by omega)) ?_
    refine aw_istore (pc := 14) (i := 4) dX5_addName_14 (Nat.le_of_ble_eq_true rfl) rfl ?_
    refine aw_iload (pc := 16) dX5_addName_16 rfl ?_
    refine an_if_eq (pc := 18) (tgt := 30) dX5_addName_18 rfl (by omega) (fun h18 => ?_) (fun h18 => ?_)
    · -- 30
      refine aw_iinc (pc := 30) (v := -5) dX5_addName_30 rfl (by rfl) (Nat.le_of_ble_eq_true rfl) trivial ?_
      refine aw_goto (pc := 33) (tgt := 3) dX5_addName_33 rfl ?_
      have e9 : sp5 V (n + 1 + 1) p = sp5 V (n + 1) p := by rw [sp5, if_pos h18]
      rw [e9] at kk
      refine aw_L (L9 := [some (.ref (a 2)), some (.long (lN V)), none, some (.int (nI (5 * n))), some (.int (nI (V / 2 ^ (5 * (n + 1)) % 32)))]) (by rw [show nI (5 * (n + 1)) + (-5) = nI (5 * n) from by rw [show 5 * (n + 1) = 5 * n + 5 by omega]; exact nI_p5 _]; rfl) ?_
      exact ih _ _ _ (by omega) h (by (try simp only [lay_2]); omega) kk
    · -- 21
      refine aw_aload_n (pc := 21) (i := 0) dX5_addName_21 rfl rfl ?_
      refine aw_bipush (pc := 22) dX5_addName_22 bipush_96 ?_
      refine aw_iload (pc := 24) dX5_addName_24 rfl ?_
      refine an_add (pc := 26) dX5_addName_26 ?_
      refine cVv (pc := 27) (As := [.int (nI (96 + (V / 2 ^ (5 * (n + 1)) % 32)))]) (rest := []) dX5_addName_27 rfl oc_X5_25 rfl rfl (Nat.le_of_ble_eq_true rfl) rfl rfl ovX5 (Nat.le_refl _) (Nat.le_refl _) (c5_lay (p := p) h (by (try simp only [lay_2]); omega) hN ?_)
      intro κ1 g1
      refine ⟨rfl, ?_⟩
      refine aw_iinc (pc := 30) (v := -5) dX5_addName_30 rfl (by rfl) (Nat.le_of_ble_eq_true rfl) trivial ?_
      refine aw_goto (pc := 33) (tgt := 3) dX5_addName_33 rfl ?_
      have e9 : sp5 V (n + 1 + 1) p = sp5 V (n + 1) ((layP p (96 + (V / 2 ^ (5 * (n + 1)) % 32)))) := by rw [sp5, if_neg (show ¬ V / 2 ^ (5 * (n + 1)) % 32 = 0 by omega)]
      rw [e9] at kk
      refine aw_L (L9 := [some (.ref (a 2)), some (.long (lN V)), none, some (.int (nI (5 * n))), some (.int (nI (V / 2 ^ (5 * (n + 1)) % 32)))]) (by rw [show nI (5 * (n + 1)) + (-5) = nI (5 * n) from by rw [show 5 * (n + 1) = 5 * n + 5 by omega]; exact nI_p5 _]; rfl) ?_
      exact ih _ _ _ (by omega) g1 (by (try simp only [lay_2]); omega) kk
theorem er5_div {l : List Nat} (h : okL l) : ∀ k, er5 l / 2 ^ (5 * k) % 32 = match l[k]? with | none => 0 | some c => c - 96 := by
  induction l with
  | nil => intro k; simp [er5]
  | cons c l ih =>
    intro k
    have hc := h.2 c (List.mem_cons_self)
    have ht := okL_t h
    cases k with
    | zero =>
      show (er5 l * 32 + (c - 96)) / 2 ^ (5 * 0) % 32 = c - 96
      rw [Nat.mul_zero, Nat.pow_zero, Nat.div_one]; omega
    | succ k =>
      rw [List.getElem?_cons_succ, ← ih ht k, show 5 * (k + 1) = 5 + 5 * k by omega, Nat.pow_add, ← Nat.div_div_eq_div_mul]
      congr 2
      show (er5 l * 32 + (c - 96)) / 2 ^ 5 = er5 l
      omega
theorem er8_div {l : List Nat} (h : okL l) : ∀ k, byW (er8 l) k = match l[k]? with | none => 0 | some c => c := by
  unfold byW
  induction l with
  | nil => intro k; simp [er8]
  | cons c l ih =>
    intro k
    have hc := h.2 c (List.mem_cons_self)
    have ht := okL_t h
    cases k with
    | zero =>
      show (er8 l * 256 + c) / 256 ^ 0 % 256 = c
      rw [Nat.pow_zero, Nat.div_one]; omega
    | succ k =>
      rw [List.getElem?_cons_succ, ← ih ht k, Nat.pow_succ, Nat.mul_comm, ← Nat.div_div_eq_div_mul]
      congr 2
      show (er8 l * 256 + c) / 256 = er8 l
      omega
theorem sp_eq {l : List Nat} (h : okL l) : ∀ n p, sp5 (er5 l) n p = spellG (er8 l) n p := by
  intro n
  induction n with
  | zero => intro p; rfl
  | succ n ih =>
    intro p
    rw [sp5, spellG, er5_div h, er8_div h]
    cases e : l[n]? with
    | none => exact ih p
    | some c =>
      have hc := h.2 c (List.mem_of_getElem? e)
      dsimp only
      rw [if_neg (show ¬ c - 96 = 0 by omega), if_neg (show ¬ c = 0 by omega), show 96 + (c - 96) = c by omega]
      exact ih _
theorem sp_8 {l : List Nat} (h : okL l) (p : (Nat → Nat) × Nat) : spellG (er8 l) 8 p = sp5 (er5 l) 7 p := by
  rw [spellG, er8_div h, List.getElem?_eq_none (by have := h.1; omega), sp_eq h]; rfl
theorem er5_62 {l : List Nat} (h : okL l) : er5 l < 2 ^ 62 := by
  have : ∀ l : List Nat, okL l → er5 l < 32 ^ l.length := by
    intro l
    induction l with
    | nil => intro _; exact Nat.one_pos
    | cons c l ih =>
      intro h
      have := ih (okL_t h)
      have hc := h.2 c (List.mem_cons_self)
      rw [List.length_cons, Nat.pow_succ]
      show er5 l * 32 + (c - 96) < _
      omega
  exact Nat.lt_of_lt_of_le (this l h) (Nat.le_trans (Nat.pow_le_pow_right (by decide) h.1) (by decide))
set_option maxHeartbeats 1000000 in
set_option maxRecDepth 20000 in
theorem c5_name0 {G : xG} {d : Nat} {Q : xQ} {a : Nat → Nat} {N : Nat} {κ : kS} {R : va_W} {p : (Nat → Nat) × Nat} {l : List Nat} (hL : okL l) (h : RTx κ p) (hl : p.2 + 7 ≤ N) (hN : N < 2 ^ 31) (kk : ∀ κ9, RTx κ9 (spellG (er8 l) 8 p) → Q none (wRw G.2.2.1 a N κ9 ++ R)) : MT G MX5_addName (d + 1) 0 0 [.ref (a 2), .long (lN (er5 l))] (wRw G.2.2.1 a N κ ++ R) Q := by
  refine mt_start (L := [some (.ref (a 2)), some (.long (lN (er5 l))), none, none, none]) rfl (Nat.le_of_ble_eq_true rfl) rfl ?_
  refine aw_bipush (pc := 0) dX5_addName_0 bipush_30 ?_
  refine aw_istore_n (pc := 2) (i := 3) dX5_addName_2 rfl (Nat.le_of_ble_eq_true rfl) trivial ?_
  exact name_loop hN (er5_62 hL) 6 κ p _ (by decide) h hl (fun κ9 h9 => kk κ9 (by rw [sp_8 hL]; exact h9))
