theorem rlen_in (τ : Nat → Int32) : ∀ m p i, i < rlen τ m p → isA (chr τ (p + i)) = true := by
  intro m
  induction m with
  | zero => intro p i h; exact absurd h (Nat.not_lt_zero _)
  | succ m ih =>
    intro p i h
    rw [rlen] at h
    split at h
    · rename_i ha
      cases i with
      | zero => exact ha
      | succ i => have := ih (p + 1) i (by omega); rw [show p + 1 + i = p + (i + 1) by omega] at this; exact this
    · exact absurd h (Nat.not_lt_zero _)
theorem rlen_out (τ : Nat → Int32) : ∀ m p, rlen τ m p = m ∨ isA (chr τ (p + rlen τ m p)) = false := by
  intro m
  induction m with
  | zero => intro p; exact Or.inl rfl
  | succ m ih =>
    intro p
    rw [rlen]
    split
    · rcases ih (p + 1) with h | h
      · left; omega
      · right; rw [show p + (rlen τ m (p + 1) + 1) = p + 1 + rlen τ m (p + 1) by omega]; exact h
    · rename_i ha
      right; simpa using ha
set_option maxHeartbeats 1000000 in
set_option maxRecDepth 20000 in
theorem run_tail {G : xG} {d : Nat} {Q : xQ} {a ad : Nat → Nat} {tw ts : Nat} {κ : kS} {R : va_W} {τ : Nat → Int32} {n : Nat} {m p r : Nat} {v8 : Option Value} (hE : EB ad tw ts G) (hN : NB G) (h : TB κ τ n) (h6 : κ.1 6 = .int (nI m)) (hm : m < 941) (hpr : p + r ≤ 940) (kk : Q (some (.int (nI (p + r)))) (wTp G.2.2.1 a (tAdd ad κ m (tkR τ p r).1 p (tkR τ p r).2.1 (tkR τ p r).2.2) ++ R)) : AW G MX8_readRun (d + 1) 0 0 Q 103 [some (.ref (a 13)), some (.int (nI p)), some (.int (nI (cLs τ p r))), some (.long (nm5 τ p r)), none, some (.int (nI (cDs τ p r))), some (.int (nmD τ p r)), some (.int (nI (p + r))), v8] [] (wTp G.2.2.1 a κ ++ R) 0 0 := by
  have hLD := cLD τ p r
  refine aw_iload (pc := 103) dX8_readRun_103 rfl ?_
  refine an_if_ne (pc := 105) (tgt := 128) dX8_readRun_105 rfl (by omega) (fun h105 => ?_) (fun h105 => ?_)
  · -- 128
    refine aw_iload_n (pc := 128) (i := 2) dX8_readRun_128 rfl rfl ?_
    refine an_if_ne (pc := 129) (tgt := 151) dX8_readRun_129 rfl (by omega) (fun h129 => ?_) (fun h129 => ?_)
    · -- 151
      refine aw_aload_n (pc := 151) (i := 0) dX8_readRun_151 rfl rfl ?_
      refine aw_iconst (pc := 152) dX8_readRun_152 iconst_3 ?_
      refine aw_iload_n (pc := 153) (i := 1) dX8_readRun_153 rfl rfl ?_
      refine aw_lconst (pc := 154) (v := 0) dX8_readRun_154 rfl ?_
      refine aw_null (pc := 155) dX8_readRun_155 ?_
      refine aw_topV (y := va_rf none) rfl ?_
      refine cVv (pc := 156) (As := [.int (nI 3), .int (nI p), .long 0, va_rf none]) (rest := []) dX8_readRun_156 rfl oc_X8_72 rfl rfl (Nat.le_of_ble_eq_true rfl) rfl rfl ovX8 (Nat.le_refl _) (Nat.le_refl _) (c8_addToken hE h6 hm wOK_none ?_)
      refine ⟨rfl, ?_⟩
      refine aw_iload (pc := 159) dX8_readRun_159 rfl ?_
      exact aw_iret (pc := 161) dX8_readRun_161 rfl (Nat.le_refl _) (Nat.le_refl _) (by unfold tkR at kk; rw [if_neg (Nat.ne_of_gt h105), if_neg (Nat.ne_of_gt h129)] at kk; exact kk)
    · -- 132
      refine aw_iload (pc := 132) dX8_readRun_132 rfl ?_
      refine aw_iconst (pc := 134) dX8_readRun_134 iconst_3 ?_
      refine an_icmp_gt (pc := 135) (tgt := 151) dX8_readRun_135 rfl (by omega) (by decide) (fun h135 => ?_) (fun h135 => ?_)
      · -- 151
        refine aw_aload_n (pc := 151) (i := 0) dX8_readRun_151 rfl rfl ?_
        refine aw_iconst (pc := 152) dX8_readRun_152 iconst_3 ?_
        refine aw_iload_n (pc := 153) (i := 1) dX8_readRun_153 rfl rfl ?_
        refine aw_lconst (pc := 154) (v := 0) dX8_readRun_154 rfl ?_
        refine aw_null (pc := 155) dX8_readRun_155 ?_
        refine aw_topV (y := va_rf none) rfl ?_
        refine cVv (pc := 156) (As := [.int (nI 3), .int (nI p), .long 0, va_rf none]) (rest := []) dX8_readRun_156 rfl oc_X8_72 rfl rfl (Nat.le_of_ble_eq_true rfl) rfl rfl ovX8 (Nat.le_refl _) (Nat.le_refl _) (c8_addToken hE h6 hm wOK_none ?_)
        refine ⟨rfl, ?_⟩
        refine aw_iload (pc := 159) dX8_readRun_159 rfl ?_
        exact aw_iret (pc := 161) dX8_readRun_161 rfl (Nat.le_refl _) (Nat.le_refl _) (by unfold tkR at kk; rw [if_neg (Nat.ne_of_gt h105), if_pos h129, if_neg (Nat.not_le.mpr h135)] at kk; exact kk)
      · -- 138
        refine aw_aload_n (pc := 138) (i := 0) dX8_readRun_138 rfl rfl ?_
        refine aw_iconst (pc := 139) dX8_readRun_139 iconst_2 ?_
        refine aw_iload_n (pc := 140) (i := 1) dX8_readRun_140 rfl rfl ?_
        refine aw_iload (pc := 141) dX8_readRun_141 rfl ?_
        refine aw_i2l (pc := 143) dX8_readRun_143 ?_
        refine aw_null (pc := 144) dX8_readRun_144 ?_
        refine aw_topV (y := va_rf none) rfl ?_
        refine cVv (pc := 145) (As := [.int (nI 2), .int (nI p), .long (((nmD τ p r)).toInt64), va_rf none]) (rest := []) dX8_readRun_145 rfl oc_X8_72 rfl rfl (Nat.le_of_ble_eq_true rfl) rfl rfl ovX8 (Nat.le_refl _) (Nat.le_refl _) (c8_addToken hE h6 hm wOK_none ?_)
        refine ⟨rfl, ?_⟩
        refine aw_goto (pc := 148) (tgt := 159) dX8_readRun_148 rfl ?_
        refine aw_iload (pc := 159) dX8_readRun_159 rfl ?_
        exact aw_iret (pc := 161) dX8_readRun_161 rfl (Nat.le_refl _) (Nat.le_refl _) (by unfold tkR at kk; rw [if_neg (Nat.ne_of_gt h105), if_pos h129, if_pos h135] at kk; exact kk)
  · -- 108
    refine aw_iload_n (pc := 108) (i := 2) dX8_readRun_108 rfl rfl ?_
    refine aw_bipush (pc := 109) dX8_readRun_109 bipush_7 ?_
    refine an_icmp_gt (pc := 111) (tgt := 128) dX8_readRun_111 rfl (by omega) (by decide) (fun h111 => ?_) (fun h111 => ?_)
    · -- 128
      refine aw_iload_n (pc := 128) (i := 2) dX8_readRun_128 rfl rfl ?_
      refine an_if_ne (pc := 129) (tgt := 151) dX8_readRun_129 rfl (by omega) (fun h129 => ?_) (fun h129 => ?_)
      · -- 151
        refine aw_aload_n (pc := 151) (i := 0) dX8_readRun_151 rfl rfl ?_
        refine aw_iconst (pc := 152) dX8_readRun_152 iconst_3 ?_
        refine aw_iload_n (pc := 153) (i := 1) dX8_readRun_153 rfl rfl ?_
        refine aw_lconst (pc := 154) (v := 0) dX8_readRun_154 rfl ?_
        refine aw_null (pc := 155) dX8_readRun_155 ?_
        refine aw_topV (y := va_rf none) rfl ?_
        refine cVv (pc := 156) (As := [.int (nI 3), .int (nI p), .long 0, va_rf none]) (rest := []) dX8_readRun_156 rfl oc_X8_72 rfl rfl (Nat.le_of_ble_eq_true rfl) rfl rfl ovX8 (Nat.le_refl _) (Nat.le_refl _) (c8_addToken hE h6 hm wOK_none ?_)
        refine ⟨rfl, ?_⟩
        refine aw_iload (pc := 159) dX8_readRun_159 rfl ?_
        exact aw_iret (pc := 161) dX8_readRun_161 rfl (Nat.le_refl _) (Nat.le_refl _) (by unfold tkR at kk; rw [if_pos h105, if_neg (Nat.not_le.mpr h111), if_neg (Nat.ne_of_gt h129)] at kk; exact kk)
      · -- 132
        refine aw_iload (pc := 132) dX8_readRun_132 rfl ?_
        refine aw_iconst (pc := 134) dX8_readRun_134 iconst_3 ?_
        refine an_icmp_gt (pc := 135) (tgt := 151) dX8_readRun_135 rfl (by omega) (by decide) (fun h135 => ?_) (fun h135 => ?_)
        · -- 151
          refine aw_aload_n (pc := 151) (i := 0) dX8_readRun_151 rfl rfl ?_
          refine aw_iconst (pc := 152) dX8_readRun_152 iconst_3 ?_
          refine aw_iload_n (pc := 153) (i := 1) dX8_readRun_153 rfl rfl ?_
          refine aw_lconst (pc := 154) (v := 0) dX8_readRun_154 rfl ?_
          refine aw_null (pc := 155) dX8_readRun_155 ?_
          refine aw_topV (y := va_rf none) rfl ?_
          refine cVv (pc := 156) (As := [.int (nI 3), .int (nI p), .long 0, va_rf none]) (rest := []) dX8_readRun_156 rfl oc_X8_72 rfl rfl (Nat.le_of_ble_eq_true rfl) rfl rfl ovX8 (Nat.le_refl _) (Nat.le_refl _) (c8_addToken hE h6 hm wOK_none ?_)
          refine ⟨rfl, ?_⟩
          refine aw_iload (pc := 159) dX8_readRun_159 rfl ?_
          exact aw_iret (pc := 161) dX8_readRun_161 rfl (Nat.le_refl _) (Nat.le_refl _) (by unfold tkR at kk; rw [if_pos h105, if_neg (Nat.not_le.mpr h111), if_pos h129, if_neg (Nat.not_le.mpr h135)] at kk; exact kk)
        · -- 138
          refine aw_aload_n (pc := 138) (i := 0) dX8_readRun_138 rfl rfl ?_
          refine aw_iconst (pc := 139) dX8_readRun_139 iconst_2 ?_
          refine aw_iload_n (pc := 140) (i := 1) dX8_readRun_140 rfl rfl ?_
          refine aw_iload (pc := 141) dX8_readRun_141 rfl ?_
          refine aw_i2l (pc := 143) dX8_readRun_143 ?_
          refine aw_null (pc := 144) dX8_readRun_144 ?_
          refine aw_topV (y := va_rf none) rfl ?_
          refine cVv (pc := 145) (As := [.int (nI 2), .int (nI p), .long (((nmD τ p r)).toInt64), va_rf none]) (rest := []) dX8_readRun_145 rfl oc_X8_72 rfl rfl (Nat.le_of_ble_eq_true rfl) rfl rfl ovX8 (Nat.le_refl _) (Nat.le_refl _) (c8_addToken hE h6 hm wOK_none ?_)
          refine ⟨rfl, ?_⟩
          refine aw_goto (pc := 148) (tgt := 159) dX8_readRun_148 rfl ?_
          refine aw_iload (pc := 159) dX8_readRun_159 rfl ?_
          exact aw_iret (pc := 161) dX8_readRun_161 rfl (Nat.le_refl _) (Nat.le_refl _) (by unfold tkR at kk; rw [if_pos h105, if_neg (Nat.not_le.mpr h111), if_pos h129, if_pos h135] at kk; exact kk)
    · -- 114
      refine aw_aload_n (pc := 114) (i := 0) dX8_readRun_114 rfl rfl ?_
      refine aw_iconst (pc := 115) dX8_readRun_115 iconst_1 ?_
      refine aw_iload_n (pc := 116) (i := 1) dX8_readRun_116 rfl rfl ?_
      refine aw_lload_n (pc := 117) (i := 3) dX8_readRun_117 rfl rfl ?_
      refine aw_lload_n (pc := 118) (i := 3) dX8_readRun_118 rfl rfl ?_
      refine cSr (pc := 119) (As := [.long (nm5 τ p r)]) (rest := [.long (nm5 τ p r), .int (nI p), .int (nI 1), .ref (a 13)]) dX8_readRun_119 rfl oc_X8_94 rfl rfl (Nat.le_of_ble_eq_true rfl) (Nat.le_refl _) (Nat.le_refl _) (c8_wordOf hE hN ⟨_, rfl, ?_⟩)
      refine cVv (pc := 122) (As := [.int (nI 1), .int (nI p), .long (nm5 τ p r), va_rf (Option.map ad (wOf (nm5 τ p r)))]) (rest := []) dX8_readRun_122 rfl oc_X8_72 rfl rfl (Nat.le_of_ble_eq_true rfl) rfl rfl ovX8 (Nat.le_refl _) (Nat.le_refl _) (c8_addToken hE h6 hm (wOf_ok _) ?_)
      refine ⟨rfl, ?_⟩
      refine aw_goto (pc := 125) (tgt := 159) dX8_readRun_125 rfl ?_
      refine aw_iload (pc := 159) dX8_readRun_159 rfl ?_
      exact aw_iret (pc := 161) dX8_readRun_161 rfl (Nat.le_refl _) (Nat.le_refl _) (by unfold tkR at kk; rw [if_pos h105, if_pos h111] at kk; exact kk)
set_option maxHeartbeats 1000000 in
set_option maxRecDepth 20000 in
theorem trun_loop {G : xG} {d : Nat} {Q : xQ} {a ad : Nat → Nat} {tw ts : Nat} {κ : kS} {R : va_W} {τ : Nat → Int32} {n : Nat} {m p : Nat} (hE : EB ad tw ts G) (hN : NB G) (h : TB κ τ n) (h6 : κ.1 6 = .int (nI m)) (hm : m < 941) (hp : p < n) (kk : Q (some (.int (nI (p + rlen τ (n - p) p)))) (wTp G.2.2.1 a (tAdd ad κ m (tkR τ p (rlen τ (n - p) p)).1 p (tkR τ p (rlen τ (n - p) p)).2.1 (tkR τ p (rlen τ (n - p) p)).2.2) ++ R)) : ∀ (z i : Nat) (v8 : Option Value), i + z = rlen τ (n - p) p → AW G MX8_readRun (d + 1) 0 0 Q 13 [some (.ref (a 13)), some (.int (nI p)), some (.int (nI (cLs τ p i))), some (.long (nm5 τ p i)), none, some (.int (nI (cDs τ p i))), some (.int (nmD τ p i)), some (.int (nI (p + i))), v8] [] (wTp G.2.2.1 a κ ++ R) 0 0 := by
  have hn9 := h.2.1
  have hrl := rlen_le τ (n - p) p
  intro z
  induction z with
  | zero =>
    intro i v8 hi
    have ho := rlen_out τ (n - p) p
    have ei : i = rlen τ (n - p) p := by omega
    rw [← ei] at ho kk
    refine aw_iload (pc := 13) dX8_readRun_13 rfl ?_
    refine aw_aload_n (pc := 15) (i := 0) dX8_readRun_15 rfl rfl ?_
    refine pg_X8_15 (pc := 16) (v := .int (nI n)) dX8_readRun_16 rfl h.1 ?_
    refine an_icmp_ge (pc := 19) (tgt := 103) dX8_readRun_19 rfl (by omega) (by omega) (fun h19 => ?_) (fun h19 => ?_)
    · -- 103
      exact run_tail hE hN h h6 hm (by omega) kk
    · -- 22
      refine aw_aload_n (pc := 22) (i := 0) dX8_readRun_22 rfl rfl ?_
      refine aw_iload (pc := 23) dX8_readRun_23 rfl ?_
      refine cVi (pc := 25) (As := [.int (nI (p + i))]) (rest := []) dX8_readRun_25 rfl oc_X8_79 rfl rfl (Nat.le_of_ble_eq_true rfl) rfl rfl ovX8 (Nat.le_refl _) (Nat.le_refl _) (c8_byteOf h (by omega) ⟨_, rfl, ?_⟩)
      refine cSi (pc := 28) (As := [.int (nI (chr τ (p + i)))]) (rest := []) dX8_readRun_28 rfl oc_X8_82 rfl rfl (Nat.le_of_ble_eq_true rfl) (Nat.le_refl _) (Nat.le_refl _) (c8_isLetter (Nat.lt_trans (chr_lt _ _) (by decide)) ⟨_, rfl, ?_⟩)
      refine ab_if_ne (pc := 31) (tgt := 46) dX8_readRun_31 rfl (fun h31 => ?_) (fun h31 => ?_)
      · -- 46
        exfalso
        rcases ho with ho | ho
        · omega
        · unfold isA at ho; rw [h31] at ho; simp at ho
      · -- 34
        refine aw_aload_n (pc := 34) (i := 0) dX8_readRun_34 rfl rfl ?_
        refine aw_iload (pc := 35) dX8_readRun_35 rfl ?_
        refine cVi (pc := 37) (As := [.int (nI (p + i))]) (rest := []) dX8_readRun_37 rfl oc_X8_79 rfl rfl (Nat.le_of_ble_eq_true rfl) rfl rfl ovX8 (Nat.le_refl _) (Nat.le_refl _) (c8_byteOf h (by omega) ⟨_, rfl, ?_⟩)
        refine cSi (pc := 40) (As := [.int (nI (chr τ (p + i)))]) (rest := []) dX8_readRun_40 rfl oc_X8_86 rfl rfl (Nat.le_of_ble_eq_true rfl) (Nat.le_refl _) (Nat.le_refl _) (c8_isDigit (Nat.lt_trans (chr_lt _ _) (by decide)) ⟨_, rfl, ?_⟩)
        refine ab_if_eq (pc := 43) (tgt := 103) dX8_readRun_43 rfl (fun h43 => ?_) (fun h43 => ?_)
        · -- 103
          exact run_tail hE hN h h6 hm (by omega) kk
        · -- 46
          exfalso
          rcases ho with ho | ho
          · omega
          · unfold isA at ho; rw [h43] at ho; simp at ho
  | succ z ih =>
    intro i v8 hi
    have hA := rlen_in τ (n - p) p i (by omega)
    refine aw_iload (pc := 13) dX8_readRun_13 rfl ?_
    refine aw_aload_n (pc := 15) (i := 0) dX8_readRun_15 rfl rfl ?_
    refine pg_X8_15 (pc := 16) (v := .int (nI n)) dX8_readRun_16 rfl h.1 ?_
    refine an_icmp_ge (pc := 19) (tgt := 103) dX8_readRun_19 rfl (by omega) (by omega) (fun h19 => ?_) (fun h19 => ?_)
    · -- 103
      exfalso
      omega
    · -- 22
      refine aw_aload_n (pc := 22) (i := 0) dX8_readRun_22 rfl rfl ?_
      refine aw_iload (pc := 23) dX8_readRun_23 rfl ?_
      refine cVi (pc := 25) (As := [.int (nI (p + i))]) (rest := []) dX8_readRun_25 rfl oc_X8_79 rfl rfl (Nat.le_of_ble_eq_true rfl) rfl rfl ovX8 (Nat.le_refl _) (Nat.le_refl _) (c8_byteOf h (by omega) ⟨_, rfl, ?_⟩)
      refine cSi (pc := 28) (As := [.int (nI (chr τ (p + i)))]) (rest := []) dX8_readRun_28 rfl oc_X8_82 rfl rfl (Nat.le_of_ble_eq_true rfl) (Nat.le_refl _) (Nat.le_refl _) (c8_isLetter (Nat.lt_trans (chr_lt _ _) (by decide)) ⟨_, rfl, ?_⟩)
      refine ab_if_ne (pc := 31) (tgt := 46) dX8_readRun_31 rfl (fun h31 => ?_) (fun h31 => ?_)
      · -- 46
        refine aw_aload_n (pc := 46) (i := 0) dX8_readRun_46 rfl rfl ?_
        refine aw_iload (pc := 47) dX8_readRun_47 rfl ?_
        refine cVi (pc := 49) (As := [.int (nI (p + i))]) (rest := []) dX8_readRun_49 rfl oc_X8_79 rfl rfl (Nat.le_of_ble_eq_true rfl) rfl rfl ovX8 (Nat.le_refl _) (Nat.le_refl _) (c8_byteOf h (by omega) ⟨_, rfl, ?_⟩)
        refine aw_istore (pc := 52) (i := 8) dX8_readRun_52 (Nat.le_of_ble_eq_true rfl) rfl ?_
        refine aw_iload (pc := 54) dX8_readRun_54 rfl ?_
        refine cSi (pc := 56) (As := [.int (nI (chr τ (p + i)))]) (rest := []) dX8_readRun_56 rfl oc_X8_82 rfl rfl (Nat.le_of_ble_eq_true rfl) (Nat.le_refl _) (Nat.le_refl _) (c8_isLetter (Nat.lt_trans (chr_lt _ _) (by decide)) ⟨_, rfl, ?_⟩)
        refine ab_if_eq (pc := 59) (tgt := 81) dX8_readRun_59 rfl (fun h59 => ?_) (fun h59 => ?_)
        · -- 81
          refine an_inc (pc := 81) (z := 1) dX8_readRun_81 rfl (Nat.le_of_ble_eq_true rfl) trivial ?_
          refine aw_iload (pc := 84) dX8_readRun_84 rfl ?_
          refine aw_bipush (pc := 86) dX8_readRun_86 bipush_10 ?_
          refine aw_imul (pc := 88) dX8_readRun_88 ?_
          refine aw_iload (pc := 89) dX8_readRun_89 rfl ?_
          refine aw_bipush (pc := 91) dX8_readRun_91 bipush_48 ?_
          refine aw_isub (pc := 93) dX8_readRun_93 ?_
          refine aw_iadd (pc := 94) dX8_readRun_94 ?_
          refine aw_istore (pc := 95) (i := 6) dX8_readRun_95 (Nat.le_of_ble_eq_true rfl) rfl ?_
          refine an_inc (pc := 97) (z := 1) dX8_readRun_97 rfl (Nat.le_of_ble_eq_true rfl) rfl ?_
          refine aw_goto (pc := 100) (tgt := 13) dX8_readRun_100 rfl ?_
          have e1 := show cLs τ p (i + 1) = _ by rw [cLs, if_neg (by rw [h59]; decide)]
          have e2 := show cDs τ p (i + 1) = _ by rw [cDs, if_neg (by rw [h59]; decide)]
          have e3 := show nm5 τ p (i + 1) = _ by rw [nm5, if_neg (by rw [h59]; decide)]
          have e4 := show nmD τ p (i + 1) = _ by rw [nmD, if_neg (by rw [h59]; decide)]
          refine aw_L (L9 := [some (.ref (a 13)), some (.int (nI p)), some (.int (nI (cLs τ p (i + 1)))), some (.long (nm5 τ p (i + 1))), none, some (.int (nI (cDs τ p (i + 1)))), some (.int (nmD τ p (i + 1))), some (.int (nI (p + (i + 1)))), some (.int (nI (chr τ (p + i))))]) (by rw [e1, e2, e3, e4]; rfl) ?_
          exact ih (i + 1) _ (by omega)
        · -- 62
          refine an_inc (pc := 62) (z := 1) dX8_readRun_62 rfl (Nat.le_of_ble_eq_true rfl) rfl ?_
          refine aw_lload_n (pc := 65) (i := 3) dX8_readRun_65 rfl rfl ?_
          refine aw_ldc2 (pc := 66) (v := (32 : Int64)) dX8_readRun_66 (gtbl_in (List.mem_of_getElem? (i := 610) (by decide +kernel)) rfl) ?_
          refine aw_lmul (pc := 69) dX8_readRun_69 ?_
          refine aw_iload (pc := 70) dX8_readRun_70 rfl ?_
          refine aw_bipush (pc := 72) dX8_readRun_72 bipush_96 ?_
          refine aw_isub (pc := 74) dX8_readRun_74 ?_
          refine aw_i2l (pc := 75) dX8_readRun_75 ?_
          refine aw_ladd (pc := 76) dX8_readRun_76 ?_
          refine aw_lstore_n (pc := 77) (i := 3) dX8_readRun_77 rfl (Nat.le_of_ble_eq_true rfl) rfl ?_
          refine aw_goto (pc := 78) (tgt := 97) dX8_readRun_78 rfl ?_
          refine an_inc (pc := 97) (z := 1) dX8_readRun_97 rfl (Nat.le_of_ble_eq_true rfl) rfl ?_
          refine aw_goto (pc := 100) (tgt := 13) dX8_readRun_100 rfl ?_
          have e1 := show cLs τ p (i + 1) = _ by rw [cLs, if_pos h59]
          have e2 := show cDs τ p (i + 1) = _ by rw [cDs, if_pos h59]
          have e3 := show nm5 τ p (i + 1) = _ by rw [nm5, if_pos h59]
          have e4 := show nmD τ p (i + 1) = _ by rw [nmD, if_pos h59]
          refine aw_L (L9 := [some (.ref (a 13)), some (.int (nI p)), some (.int (nI (cLs τ p (i + 1)))), some (.long (nm5 τ p (i + 1))), none, some (.int (nI (cDs τ p (i + 1)))), some (.int (nmD τ p (i + 1))), some (.int (nI (p + (i + 1)))), some (.int (nI (chr τ (p + i))))]) (by rw [e1, e2, e3, e4]; rfl) ?_
          exact ih (i + 1) _ (by omega)
      · -- 34
        refine aw_aload_n (pc := 34) (i := 0) dX8_readRun_34 rfl rfl ?_
        refine aw_iload (pc := 35) dX8_readRun_35 rfl ?_
        refine cVi (pc := 37) (As := [.int (nI (p + i))]) (rest := []) dX8_readRun_37 rfl oc_X8_79 rfl rfl (Nat.le_of_ble_eq_true rfl) rfl rfl ovX8 (Nat.le_refl _) (Nat.le_refl _) (c8_byteOf h (by omega) ⟨_, rfl, ?_⟩)
        refine cSi (pc := 40) (As := [.int (nI (chr τ (p + i)))]) (rest := []) dX8_readRun_40 rfl oc_X8_86 rfl rfl (Nat.le_of_ble_eq_true rfl) (Nat.le_refl _) (Nat.le_refl _) (c8_isDigit (Nat.lt_trans (chr_lt _ _) (by decide)) ⟨_, rfl, ?_⟩)
        refine ab_if_eq (pc := 43) (tgt := 103) dX8_readRun_43 rfl (fun h43 => ?_) (fun h43 => ?_)
        · -- 103
          exfalso
          unfold isA at hA; rw [h31, h43] at hA; simp at hA
        · -- 46
          refine aw_aload_n (pc := 46) (i := 0) dX8_readRun_46 rfl rfl ?_
          refine aw_iload (pc := 47) dX8_readRun_47 rfl ?_
          refine cVi (pc := 49) (As := [.int (nI (p + i))]) (rest := []) dX8_readRun_49 rfl oc_X8_79 rfl rfl (Nat.le_of_ble_eq_true rfl) rfl rfl ovX8 (Nat.le_refl _) (Nat.le_refl _) (c8_byteOf h (by omega) ⟨_, rfl, ?_⟩)
          refine aw_istore (pc := 52) (i := 8) dX8_readRun_52 (Nat.le_of_ble_eq_true rfl) rfl ?_
          refine aw_iload (pc := 54) dX8_readRun_54 rfl ?_
          refine cSi (pc := 56) (As := [.int (nI (chr τ (p + i)))]) (rest := []) dX8_readRun_56 rfl oc_X8_82 rfl rfl (Nat.le_of_ble_eq_true rfl) (Nat.le_refl _) (Nat.le_refl _) (c8_isLetter (Nat.lt_trans (chr_lt _ _) (by decide)) ⟨_, rfl, ?_⟩)
          refine ab_if_eq (pc := 59) (tgt := 81) dX8_readRun_59 rfl (fun h59 => ?_) (fun h59 => ?_)
          · -- 81
            refine an_inc (pc := 81) (z := 1) dX8_readRun_81 rfl (Nat.le_of_ble_eq_true rfl) trivial ?_
            refine aw_iload (pc := 84) dX8_readRun_84 rfl ?_
            refine aw_bipush (pc := 86) dX8_readRun_86 bipush_10 ?_
            refine aw_imul (pc := 88) dX8_readRun_88 ?_
            refine aw_iload (pc := 89) dX8_readRun_89 rfl ?_
            refine aw_bipush (pc := 91) dX8_readRun_91 bipush_48 ?_
            refine aw_isub (pc := 93) dX8_readRun_93 ?_
            refine aw_iadd (pc := 94) dX8_readRun_94 ?_
            refine aw_istore (pc := 95) (i := 6) dX8_readRun_95 (Nat.le_of_ble_eq_true rfl) rfl ?_
            refine an_inc (pc := 97) (z := 1) dX8_readRun_97 rfl (Nat.le_of_ble_eq_true rfl) rfl ?_
            refine aw_goto (pc := 100) (tgt := 13) dX8_readRun_100 rfl ?_
            have e1 := show cLs τ p (i + 1) = _ by rw [cLs, if_neg (by rw [h59]; decide)]
            have e2 := show cDs τ p (i + 1) = _ by rw [cDs, if_neg (by rw [h59]; decide)]
            have e3 := show nm5 τ p (i + 1) = _ by rw [nm5, if_neg (by rw [h59]; decide)]
            have e4 := show nmD τ p (i + 1) = _ by rw [nmD, if_neg (by rw [h59]; decide)]
            refine aw_L (L9 := [some (.ref (a 13)), some (.int (nI p)), some (.int (nI (cLs τ p (i + 1)))), some (.long (nm5 τ p (i + 1))), none, some (.int (nI (cDs τ p (i + 1)))), some (.int (nmD τ p (i + 1))), some (.int (nI (p + (i + 1)))), some (.int (nI (chr τ (p + i))))]) (by rw [e1, e2, e3, e4]; rfl) ?_
            exact ih (i + 1) _ (by omega)
          · -- 62
            refine an_inc (pc := 62) (z := 1) dX8_readRun_62 rfl (Nat.le_of_ble_eq_true rfl) rfl ?_
            refine aw_lload_n (pc := 65) (i := 3) dX8_readRun_65 rfl rfl ?_
            refine aw_ldc2 (pc := 66) (v := (32 : Int64)) dX8_readRun_66 (gtbl_in (List.mem_of_getElem? (i := 610) (by decide +kernel)) rfl) ?_
            refine aw_lmul (pc := 69) dX8_readRun_69 ?_
            refine aw_iload (pc := 70) dX8_readRun_70 rfl ?_
            refine aw_bipush (pc := 72) dX8_readRun_72 bipush_96 ?_
            refine aw_isub (pc := 74) dX8_readRun_74 ?_
            refine aw_i2l (pc := 75) dX8_readRun_75 ?_
            refine aw_ladd (pc := 76) dX8_readRun_76 ?_
            refine aw_lstore_n (pc := 77) (i := 3) dX8_readRun_77 rfl (Nat.le_of_ble_eq_true rfl) rfl ?_
            refine aw_goto (pc := 78) (tgt := 97) dX8_readRun_78 rfl ?_
            refine an_inc (pc := 97) (z := 1) dX8_readRun_97 rfl (Nat.le_of_ble_eq_true rfl) rfl ?_
            refine aw_goto (pc := 100) (tgt := 13) dX8_readRun_100 rfl ?_
            have e1 := show cLs τ p (i + 1) = _ by rw [cLs, if_pos h59]
            have e2 := show cDs τ p (i + 1) = _ by rw [cDs, if_pos h59]
            have e3 := show nm5 τ p (i + 1) = _ by rw [nm5, if_pos h59]
            have e4 := show nmD τ p (i + 1) = _ by rw [nmD, if_pos h59]
            refine aw_L (L9 := [some (.ref (a 13)), some (.int (nI p)), some (.int (nI (cLs τ p (i + 1)))), some (.long (nm5 τ p (i + 1))), none, some (.int (nI (cDs τ p (i + 1)))), some (.int (nmD τ p (i + 1))), some (.int (nI (p + (i + 1)))), some (.int (nI (chr τ (p + i))))]) (by rw [e1, e2, e3, e4]; rfl) ?_
            exact ih (i + 1) _ (by omega)
set_option maxHeartbeats 1000000 in
set_option maxRecDepth 20000 in
theorem c8_readRun {G : xG} {d : Nat} {Q : xQ} {a ad : Nat → Nat} {tw ts : Nat} {κ : kS} {R : va_W} {τ : Nat → Int32} {n : Nat} {m p : Nat} (hE : EB ad tw ts G) (hN : NB G) (h : TB κ τ n) (h6 : κ.1 6 = .int (nI m)) (hm : m < 941) (hp : p < n) (kk : Q (some (.int (nI (p + rlen τ (n - p) p)))) (wTp G.2.2.1 a (tAdd ad κ m (tkR τ p (rlen τ (n - p) p)).1 p (tkR τ p (rlen τ (n - p) p)).2.1 (tkR τ p (rlen τ (n - p) p)).2.2) ++ R)) : MT G MX8_readRun (d + 1) 0 0 [.ref (a 13), .int (nI p)] (wTp G.2.2.1 a κ ++ R) Q := by
  refine mt_start (L := [some (.ref (a 13)), some (.int (nI p)), none, none, none, none, none, none, none]) rfl (Nat.le_of_ble_eq_true rfl) rfl ?_
  refine aw_iconst (pc := 0) dX8_readRun_0 iconst_0 ?_
  refine aw_istore_n (pc := 1) (i := 2) dX8_readRun_1 rfl (Nat.le_of_ble_eq_true rfl) rfl ?_
  refine aw_lconst (pc := 2) (v := 0) dX8_readRun_2 rfl ?_
  refine aw_lstore_n (pc := 3) (i := 3) dX8_readRun_3 rfl (Nat.le_of_ble_eq_true rfl) rfl ?_
  refine aw_iconst (pc := 4) dX8_readRun_4 iconst_0 ?_
  refine aw_istore (pc := 5) (i := 5) dX8_readRun_5 (Nat.le_of_ble_eq_true rfl) trivial ?_
  refine aw_iconst (pc := 7) dX8_readRun_7 iconst_0 ?_
  refine aw_istore (pc := 8) (i := 6) dX8_readRun_8 (Nat.le_of_ble_eq_true rfl) rfl ?_
  refine aw_iload_n (pc := 10) (i := 1) dX8_readRun_10 rfl rfl ?_
  refine aw_istore (pc := 11) (i := 7) dX8_readRun_11 (Nat.le_of_ble_eq_true rfl) rfl ?_
  exact trun_loop hE hN h h6 hm hp kk (rlen τ (n - p) p) 0 _ (by omega)
set_option maxHeartbeats 1000000 in
set_option maxRecDepth 20000 in
theorem c8_readToken {G : xG} {d : Nat} {Q : xQ} {a ad : Nat → Nat} {tw ts : Nat} {κ : kS} {R : va_W} {τ : Nat → Int32} {n : Nat} {m p lim : Nat} (hE : EB ad tw ts G) (hN : NB G) (h : TB κ τ n) (h6 : κ.1 6 = .int (nI m)) (hm : m < 941) (hp : p < min n lim) (kk : Q (some (.int (nI (tkE τ n p)))) (wTp G.2.2.1 a (tAdd ad κ m (tkD τ n lim p).1 (tkD τ n lim p).2.1 (tkD τ n lim p).2.2.1 (tkD τ n lim p).2.2.2) ++ R)) : MT G MX8_readToken (d + 2) 0 0 [.ref (a 13), .int (nI p)] (wTp G.2.2.1 a κ ++ R) Q := by
  have hn9 := h.2.1
  refine mt_start (L := [some (.ref (a 13)), some (.int (nI p)), none, none]) rfl (Nat.le_of_ble_eq_true rfl) rfl ?_
  refine aw_aload_n (pc := 0) (i := 0) dX8_readToken_0 rfl rfl ?_
  refine aw_iload_n (pc := 1) (i := 1) dX8_readToken_1 rfl rfl ?_
  refine cVi (pc := 2) (As := [.int (nI p)]) (rest := []) dX8_readToken_2 rfl oc_X8_79 rfl rfl (Nat.le_of_ble_eq_true rfl) rfl rfl ovX8 (Nat.le_refl _) (Nat.le_refl _) (c8_byteOf h (by omega) ⟨_, rfl, ?_⟩)
  refine aw_istore_n (pc := 5) (i := 2) dX8_readToken_5 rfl (Nat.le_of_ble_eq_true rfl) rfl ?_
  refine aw_iload_n (pc := 6) (i := 2) dX8_readToken_6 rfl rfl ?_
  refine cSi (pc := 7) (As := [.int (nI (chr τ p))]) (rest := []) dX8_readToken_7 rfl oc_X8_82 rfl rfl (Nat.le_of_ble_eq_true rfl) (Nat.le_refl _) (Nat.le_refl _) (c8_isLetter (Nat.lt_trans (chr_lt _ _) (by decide)) ⟨_, rfl, ?_⟩)
  refine ab_if_ne (pc := 10) (tgt := 20) dX8_readToken_10 rfl (fun h10 => ?_) (fun h10 => ?_)
  · -- 20
    refine aw_aload_n (pc := 20) (i := 0) dX8_readToken_20 rfl rfl ?_
    refine aw_iload_n (pc := 21) (i := 1) dX8_readToken_21 rfl rfl ?_
    refine cVi (pc := 22) (As := [.int (nI p)]) (rest := []) dX8_readToken_22 rfl oc_X8_89 rfl rfl (Nat.le_of_ble_eq_true rfl) rfl rfl ovX8 (Nat.le_refl _) (Nat.le_refl _) (c8_readRun hE hN h h6 hm (by omega) ⟨_, rfl, ?_⟩)
    exact aw_iret (pc := 25) dX8_readToken_25 rfl (Nat.le_refl _) (Nat.le_refl _) (by unfold tkE tkD at kk; rw [if_pos (show isA (chr τ p) = true by unfold isA; rw [h10]; rfl), if_neg (by omega), if_pos (show isA (chr τ p) = true by unfold isA; rw [h10]; rfl)] at kk; exact kk)
  · -- 13
    refine aw_iload_n (pc := 13) (i := 2) dX8_readToken_13 rfl rfl ?_
    refine cSi (pc := 14) (As := [.int (nI (chr τ p))]) (rest := []) dX8_readToken_14 rfl oc_X8_86 rfl rfl (Nat.le_of_ble_eq_true rfl) (Nat.le_refl _) (Nat.le_refl _) (c8_isDigit (Nat.lt_trans (chr_lt _ _) (by decide)) ⟨_, rfl, ?_⟩)
    refine ab_if_eq (pc := 17) (tgt := 26) dX8_readToken_17 rfl (fun h17 => ?_) (fun h17 => ?_)
    · -- 26
      refine aw_iload_n (pc := 26) (i := 2) dX8_readToken_26 rfl rfl ?_
      refine aw_bipush (pc := 27) dX8_readToken_27 bipush_59 ?_
      refine an_icmp_eq (pc := 29) (tgt := 62) dX8_readToken_29 rfl (Nat.lt_trans (chr_lt _ _) (by decide)) (by decide) (fun h29 => ?_) (fun h29 => ?_)
      · -- 62
        refine aw_iconst (pc := 62) dX8_readToken_62 iconst_1 ?_
        refine aw_goto (pc := 63) (tgt := 67) dX8_readToken_63 rfl ?_
        refine aw_istore_n (pc := 67) (i := 3) dX8_readToken_67 rfl (Nat.le_of_ble_eq_true rfl) rfl ?_
        refine aw_aload_n (pc := 68) (i := 0) dX8_readToken_68 rfl rfl ?_
        refine aw_iload_n (pc := 69) (i := 3) dX8_readToken_69 rfl rfl ?_
        refine an_if_eq (pc := 70) (tgt := 77) dX8_readToken_70 rfl (by decide) (fun h70 => absurd h70 (by decide)) (fun h70 => ?_)
        refine aw_iload_n (pc := 73) (i := 2) dX8_readToken_73 rfl rfl ?_
        refine aw_goto (pc := 74) (tgt := 78) dX8_readToken_74 rfl ?_
        refine aw_iload_n (pc := 78) (i := 1) dX8_readToken_78 rfl rfl ?_
        refine aw_lconst (pc := 79) (v := 0) dX8_readToken_79 rfl ?_
        refine aw_null (pc := 80) dX8_readToken_80 ?_
        refine aw_topV (y := va_rf none) rfl ?_
        refine cVv (pc := 81) (As := [.int (nI (chr τ p)), .int (nI p), .long 0, va_rf none]) (rest := []) dX8_readToken_81 rfl oc_X8_72 rfl rfl (Nat.le_of_ble_eq_true rfl) rfl rfl ovX8 (Nat.le_refl _) (Nat.le_refl _) (c8_addToken hE h6 hm wOK_none ?_)
        refine ⟨rfl, ?_⟩
        refine aw_iload_n (pc := 84) (i := 1) dX8_readToken_84 rfl rfl ?_
        refine aw_iconst (pc := 85) dX8_readToken_85 iconst_1 ?_
        refine an_add (pc := 86) dX8_readToken_86 ?_
        exact aw_iret (pc := 87) dX8_readToken_87 rfl (Nat.le_refl _) (Nat.le_refl _) (by unfold tkE tkD at kk; rw [if_neg (show ¬ isA (chr τ p) = true by unfold isA; rw [h10, h17]; simp), if_neg (by omega), if_neg (show ¬ isA (chr τ p) = true by unfold isA; rw [h10, h17]; simp), if_pos (show sgnC (chr τ p) = true by unfold sgnC; simp; omega)] at kk; exact kk)
      · -- 32
        refine aw_iload_n (pc := 32) (i := 2) dX8_readToken_32 rfl rfl ?_
        refine aw_bipush (pc := 33) dX8_readToken_33 bipush_60 ?_
        refine an_icmp_eq (pc := 35) (tgt := 62) dX8_readToken_35 rfl (Nat.lt_trans (chr_lt _ _) (by decide)) (by decide) (fun h35 => ?_) (fun h35 => ?_)
        · -- 62
          refine aw_iconst (pc := 62) dX8_readToken_62 iconst_1 ?_
          refine aw_goto (pc := 63) (tgt := 67) dX8_readToken_63 rfl ?_
          refine aw_istore_n (pc := 67) (i := 3) dX8_readToken_67 rfl (Nat.le_of_ble_eq_true rfl) rfl ?_
          refine aw_aload_n (pc := 68) (i := 0) dX8_readToken_68 rfl rfl ?_
          refine aw_iload_n (pc := 69) (i := 3) dX8_readToken_69 rfl rfl ?_
          refine an_if_eq (pc := 70) (tgt := 77) dX8_readToken_70 rfl (by decide) (fun h70 => absurd h70 (by decide)) (fun h70 => ?_)
          refine aw_iload_n (pc := 73) (i := 2) dX8_readToken_73 rfl rfl ?_
          refine aw_goto (pc := 74) (tgt := 78) dX8_readToken_74 rfl ?_
          refine aw_iload_n (pc := 78) (i := 1) dX8_readToken_78 rfl rfl ?_
          refine aw_lconst (pc := 79) (v := 0) dX8_readToken_79 rfl ?_
          refine aw_null (pc := 80) dX8_readToken_80 ?_
          refine aw_topV (y := va_rf none) rfl ?_
          refine cVv (pc := 81) (As := [.int (nI (chr τ p)), .int (nI p), .long 0, va_rf none]) (rest := []) dX8_readToken_81 rfl oc_X8_72 rfl rfl (Nat.le_of_ble_eq_true rfl) rfl rfl ovX8 (Nat.le_refl _) (Nat.le_refl _) (c8_addToken hE h6 hm wOK_none ?_)
          refine ⟨rfl, ?_⟩
          refine aw_iload_n (pc := 84) (i := 1) dX8_readToken_84 rfl rfl ?_
          refine aw_iconst (pc := 85) dX8_readToken_85 iconst_1 ?_
          refine an_add (pc := 86) dX8_readToken_86 ?_
          exact aw_iret (pc := 87) dX8_readToken_87 rfl (Nat.le_refl _) (Nat.le_refl _) (by unfold tkE tkD at kk; rw [if_neg (show ¬ isA (chr τ p) = true by unfold isA; rw [h10, h17]; simp), if_neg (by omega), if_neg (show ¬ isA (chr τ p) = true by unfold isA; rw [h10, h17]; simp), if_pos (show sgnC (chr τ p) = true by unfold sgnC; simp; omega)] at kk; exact kk)
        · -- 38
          refine aw_iload_n (pc := 38) (i := 2) dX8_readToken_38 rfl rfl ?_
          refine aw_bipush (pc := 39) dX8_readToken_39 bipush_61 ?_
          refine an_icmp_eq (pc := 41) (tgt := 62) dX8_readToken_41 rfl (Nat.lt_trans (chr_lt _ _) (by decide)) (by decide) (fun h41 => ?_) (fun h41 => ?_)
          · -- 62
            refine aw_iconst (pc := 62) dX8_readToken_62 iconst_1 ?_
            refine aw_goto (pc := 63) (tgt := 67) dX8_readToken_63 rfl ?_
            refine aw_istore_n (pc := 67) (i := 3) dX8_readToken_67 rfl (Nat.le_of_ble_eq_true rfl) rfl ?_
            refine aw_aload_n (pc := 68) (i := 0) dX8_readToken_68 rfl rfl ?_
            refine aw_iload_n (pc := 69) (i := 3) dX8_readToken_69 rfl rfl ?_
            refine an_if_eq (pc := 70) (tgt := 77) dX8_readToken_70 rfl (by decide) (fun h70 => absurd h70 (by decide)) (fun h70 => ?_)
            refine aw_iload_n (pc := 73) (i := 2) dX8_readToken_73 rfl rfl ?_
            refine aw_goto (pc := 74) (tgt := 78) dX8_readToken_74 rfl ?_
            refine aw_iload_n (pc := 78) (i := 1) dX8_readToken_78 rfl rfl ?_
            refine aw_lconst (pc := 79) (v := 0) dX8_readToken_79 rfl ?_
            refine aw_null (pc := 80) dX8_readToken_80 ?_
            refine aw_topV (y := va_rf none) rfl ?_
            refine cVv (pc := 81) (As := [.int (nI (chr τ p)), .int (nI p), .long 0, va_rf none]) (rest := []) dX8_readToken_81 rfl oc_X8_72 rfl rfl (Nat.le_of_ble_eq_true rfl) rfl rfl ovX8 (Nat.le_refl _) (Nat.le_refl _) (c8_addToken hE h6 hm wOK_none ?_)
            refine ⟨rfl, ?_⟩
            refine aw_iload_n (pc := 84) (i := 1) dX8_readToken_84 rfl rfl ?_
            refine aw_iconst (pc := 85) dX8_readToken_85 iconst_1 ?_
            refine an_add (pc := 86) dX8_readToken_86 ?_
            exact aw_iret (pc := 87) dX8_readToken_87 rfl (Nat.le_refl _) (Nat.le_refl _) (by unfold tkE tkD at kk; rw [if_neg (show ¬ isA (chr τ p) = true by unfold isA; rw [h10, h17]; simp), if_neg (by omega), if_neg (show ¬ isA (chr τ p) = true by unfold isA; rw [h10, h17]; simp), if_pos (show sgnC (chr τ p) = true by unfold sgnC; simp; omega)] at kk; exact kk)
          · -- 44
            refine aw_iload_n (pc := 44) (i := 2) dX8_readToken_44 rfl rfl ?_
            refine aw_bipush (pc := 45) dX8_readToken_45 bipush_62 ?_
            refine an_icmp_eq (pc := 47) (tgt := 62) dX8_readToken_47 rfl (Nat.lt_trans (chr_lt _ _) (by decide)) (by decide) (fun h47 => ?_) (fun h47 => ?_)
            · -- 62
              refine aw_iconst (pc := 62) dX8_readToken_62 iconst_1 ?_
              refine aw_goto (pc := 63) (tgt := 67) dX8_readToken_63 rfl ?_
              refine aw_istore_n (pc := 67) (i := 3) dX8_readToken_67 rfl (Nat.le_of_ble_eq_true rfl) rfl ?_
              refine aw_aload_n (pc := 68) (i := 0) dX8_readToken_68 rfl rfl ?_
              refine aw_iload_n (pc := 69) (i := 3) dX8_readToken_69 rfl rfl ?_
              refine an_if_eq (pc := 70) (tgt := 77) dX8_readToken_70 rfl (by decide) (fun h70 => absurd h70 (by decide)) (fun h70 => ?_)
              refine aw_iload_n (pc := 73) (i := 2) dX8_readToken_73 rfl rfl ?_
              refine aw_goto (pc := 74) (tgt := 78) dX8_readToken_74 rfl ?_
              refine aw_iload_n (pc := 78) (i := 1) dX8_readToken_78 rfl rfl ?_
              refine aw_lconst (pc := 79) (v := 0) dX8_readToken_79 rfl ?_
              refine aw_null (pc := 80) dX8_readToken_80 ?_
              refine aw_topV (y := va_rf none) rfl ?_
              refine cVv (pc := 81) (As := [.int (nI (chr τ p)), .int (nI p), .long 0, va_rf none]) (rest := []) dX8_readToken_81 rfl oc_X8_72 rfl rfl (Nat.le_of_ble_eq_true rfl) rfl rfl ovX8 (Nat.le_refl _) (Nat.le_refl _) (c8_addToken hE h6 hm wOK_none ?_)
              refine ⟨rfl, ?_⟩
              refine aw_iload_n (pc := 84) (i := 1) dX8_readToken_84 rfl rfl ?_
              refine aw_iconst (pc := 85) dX8_readToken_85 iconst_1 ?_
              refine an_add (pc := 86) dX8_readToken_86 ?_
              exact aw_iret (pc := 87) dX8_readToken_87 rfl (Nat.le_refl _) (Nat.le_refl _) (by unfold tkE tkD at kk; rw [if_neg (show ¬ isA (chr τ p) = true by unfold isA; rw [h10, h17]; simp), if_neg (by omega), if_neg (show ¬ isA (chr τ p) = true by unfold isA; rw [h10, h17]; simp), if_pos (show sgnC (chr τ p) = true by unfold sgnC; simp; omega)] at kk; exact kk)
            · -- 50
              refine aw_iload_n (pc := 50) (i := 2) dX8_readToken_50 rfl rfl ?_
              refine aw_bipush (pc := 51) dX8_readToken_51 bipush_40 ?_
              refine an_icmp_eq (pc := 53) (tgt := 62) dX8_readToken_53 rfl (Nat.lt_trans (chr_lt _ _) (by decide)) (by decide) (fun h53 => ?_) (fun h53 => ?_)
              · -- 62
                refine aw_iconst (pc := 62) dX8_readToken_62 iconst_1 ?_
                refine aw_goto (pc := 63) (tgt := 67) dX8_readToken_63 rfl ?_
                refine aw_istore_n (pc := 67) (i := 3) dX8_readToken_67 rfl (Nat.le_of_ble_eq_true rfl) rfl ?_
                refine aw_aload_n (pc := 68) (i := 0) dX8_readToken_68 rfl rfl ?_
                refine aw_iload_n (pc := 69) (i := 3) dX8_readToken_69 rfl rfl ?_
                refine an_if_eq (pc := 70) (tgt := 77) dX8_readToken_70 rfl (by decide) (fun h70 => absurd h70 (by decide)) (fun h70 => ?_)
                refine aw_iload_n (pc := 73) (i := 2) dX8_readToken_73 rfl rfl ?_
                refine aw_goto (pc := 74) (tgt := 78) dX8_readToken_74 rfl ?_
                refine aw_iload_n (pc := 78) (i := 1) dX8_readToken_78 rfl rfl ?_
                refine aw_lconst (pc := 79) (v := 0) dX8_readToken_79 rfl ?_
                refine aw_null (pc := 80) dX8_readToken_80 ?_
                refine aw_topV (y := va_rf none) rfl ?_
                refine cVv (pc := 81) (As := [.int (nI (chr τ p)), .int (nI p), .long 0, va_rf none]) (rest := []) dX8_readToken_81 rfl oc_X8_72 rfl rfl (Nat.le_of_ble_eq_true rfl) rfl rfl ovX8 (Nat.le_refl _) (Nat.le_refl _) (c8_addToken hE h6 hm wOK_none ?_)
                refine ⟨rfl, ?_⟩
                refine aw_iload_n (pc := 84) (i := 1) dX8_readToken_84 rfl rfl ?_
                refine aw_iconst (pc := 85) dX8_readToken_85 iconst_1 ?_
                refine an_add (pc := 86) dX8_readToken_86 ?_
                exact aw_iret (pc := 87) dX8_readToken_87 rfl (Nat.le_refl _) (Nat.le_refl _) (by unfold tkE tkD at kk; rw [if_neg (show ¬ isA (chr τ p) = true by unfold isA; rw [h10, h17]; simp), if_neg (by omega), if_neg (show ¬ isA (chr τ p) = true by unfold isA; rw [h10, h17]; simp), if_pos (show sgnC (chr τ p) = true by unfold sgnC; simp; omega)] at kk; exact kk)
              · -- 56
                refine aw_iload_n (pc := 56) (i := 2) dX8_readToken_56 rfl rfl ?_
                refine aw_bipush (pc := 57) dX8_readToken_57 bipush_41 ?_
                refine an_icmp_ne (pc := 59) (tgt := 66) dX8_readToken_59 rfl (Nat.lt_trans (chr_lt _ _) (by decide)) (by decide) (fun h59 => ?_) (fun h59 => ?_)
                · -- 66
                  refine aw_iconst (pc := 66) dX8_readToken_66 iconst_0 ?_
                  refine aw_istore_n (pc := 67) (i := 3) dX8_readToken_67 rfl (Nat.le_of_ble_eq_true rfl) rfl ?_
                  refine aw_aload_n (pc := 68) (i := 0) dX8_readToken_68 rfl rfl ?_
                  refine aw_iload_n (pc := 69) (i := 3) dX8_readToken_69 rfl rfl ?_
                  refine an_if_eq (pc := 70) (tgt := 77) dX8_readToken_70 rfl (by decide) (fun h70 => ?_) (fun h70 => absurd h70 (by decide))
                  refine aw_iconst (pc := 77) dX8_readToken_77 iconst_3 ?_
                  refine aw_iload_n (pc := 78) (i := 1) dX8_readToken_78 rfl rfl ?_
                  refine aw_lconst (pc := 79) (v := 0) dX8_readToken_79 rfl ?_
                  refine aw_null (pc := 80) dX8_readToken_80 ?_
                  refine aw_topV (y := va_rf none) rfl ?_
                  refine cVv (pc := 81) (As := [.int (nI 3), .int (nI p), .long 0, va_rf none]) (rest := []) dX8_readToken_81 rfl oc_X8_72 rfl rfl (Nat.le_of_ble_eq_true rfl) rfl rfl ovX8 (Nat.le_refl _) (Nat.le_refl _) (c8_addToken hE h6 hm wOK_none ?_)
                  refine ⟨rfl, ?_⟩
                  refine aw_iload_n (pc := 84) (i := 1) dX8_readToken_84 rfl rfl ?_
                  refine aw_iconst (pc := 85) dX8_readToken_85 iconst_1 ?_
                  refine an_add (pc := 86) dX8_readToken_86 ?_
                  exact aw_iret (pc := 87) dX8_readToken_87 rfl (Nat.le_refl _) (Nat.le_refl _) (by unfold tkE tkD at kk; rw [if_neg (show ¬ isA (chr τ p) = true by unfold isA; rw [h10, h17]; simp), if_neg (by omega), if_neg (show ¬ isA (chr τ p) = true by unfold isA; rw [h10, h17]; simp), if_neg (by rw [show sgnC (chr τ p) = false by unfold sgnC; simp; omega]; decide)] at kk; exact kk)
                · -- 62
                  refine aw_iconst (pc := 62) dX8_readToken_62 iconst_1 ?_
                  refine aw_goto (pc := 63) (tgt := 67) dX8_readToken_63 rfl ?_
                  refine aw_istore_n (pc := 67) (i := 3) dX8_readToken_67 rfl (Nat.le_of_ble_eq_true rfl) rfl ?_
                  refine aw_aload_n (pc := 68) (i := 0) dX8_readToken_68 rfl rfl ?_
                  refine aw_iload_n (pc := 69) (i := 3) dX8_readToken_69 rfl rfl ?_
                  refine an_if_eq (pc := 70) (tgt := 77) dX8_readToken_70 rfl (by decide) (fun h70 => absurd h70 (by decide)) (fun h70 => ?_)
                  refine aw_iload_n (pc := 73) (i := 2) dX8_readToken_73 rfl rfl ?_
                  refine aw_goto (pc := 74) (tgt := 78) dX8_readToken_74 rfl ?_
                  refine aw_iload_n (pc := 78) (i := 1) dX8_readToken_78 rfl rfl ?_
                  refine aw_lconst (pc := 79) (v := 0) dX8_readToken_79 rfl ?_
                  refine aw_null (pc := 80) dX8_readToken_80 ?_
                  refine aw_topV (y := va_rf none) rfl ?_
                  refine cVv (pc := 81) (As := [.int (nI (chr τ p)), .int (nI p), .long 0, va_rf none]) (rest := []) dX8_readToken_81 rfl oc_X8_72 rfl rfl (Nat.le_of_ble_eq_true rfl) rfl rfl ovX8 (Nat.le_refl _) (Nat.le_refl _) (c8_addToken hE h6 hm wOK_none ?_)
                  refine ⟨rfl, ?_⟩
                  refine aw_iload_n (pc := 84) (i := 1) dX8_readToken_84 rfl rfl ?_
                  refine aw_iconst (pc := 85) dX8_readToken_85 iconst_1 ?_
                  refine an_add (pc := 86) dX8_readToken_86 ?_
                  exact aw_iret (pc := 87) dX8_readToken_87 rfl (Nat.le_refl _) (Nat.le_refl _) (by unfold tkE tkD at kk; rw [if_neg (show ¬ isA (chr τ p) = true by unfold isA; rw [h10, h17]; simp), if_neg (by omega), if_neg (show ¬ isA (chr τ p) = true by unfold isA; rw [h10, h17]; simp), if_pos (show sgnC (chr τ p) = true by unfold sgnC; simp; omega)] at kk; exact kk)
    · -- 20
      refine aw_aload_n (pc := 20) (i := 0) dX8_readToken_20 rfl rfl ?_
      refine aw_iload_n (pc := 21) (i := 1) dX8_readToken_21 rfl rfl ?_
      refine cVi (pc := 22) (As := [.int (nI p)]) (rest := []) dX8_readToken_22 rfl oc_X8_89 rfl rfl (Nat.le_of_ble_eq_true rfl) rfl rfl ovX8 (Nat.le_refl _) (Nat.le_refl _) (c8_readRun hE hN h h6 hm (by omega) ⟨_, rfl, ?_⟩)
      exact aw_iret (pc := 25) dX8_readToken_25 rfl (Nat.le_refl _) (Nat.le_refl _) (by unfold tkE tkD at kk; rw [if_pos (show isA (chr τ p) = true by unfold isA; rw [h17]; simp), if_neg (by omega), if_pos (show isA (chr τ p) = true by unfold isA; rw [h17]; simp)] at kk; exact kk)
