/-- the state with array k as u -/
def sN (σ : mS) (k : Nat) (u : Nat → Nat) : mS := (σ.1, upN σ.2.1 k u, σ.2.2)
theorem upN_lt {t : Nat → Nat} {b i v : Nat} (h : ∀ j, t j < b) (hv : v < b) : ∀ j, upN t i v j < b := fun j => by
  unfold upN
  split
  · exact hv
  · exact h j
def crossG (t : Nat → Nat) (q l : Nat) : Nat → Nat := upN (upN (upN t (108 + q) l) (132 + q) (t (132 + q) + 1)) 92 (t 92 + 1)
def crossF (t : Nat → Nat) (q l : Nat) : Nat → Nat :=
  if l = t (79 + q) then upN (upN (upN (crossG t q l) (94 + l) (t (94 + l) - givenF t l (t (114 + q)) (t (94 + l)))) (114 + q) (t (114 + q) + givenF t l (t (114 + q)) (t (94 + l)))) (126 + q) (t (126 + q) + givenF t l (t (114 + q)) (t (94 + l)))
  else if (sparedF t q).testBit l = true then crossG t q l
  else upN (upN (upN (crossG t q l) (114 + q) (t (114 + q) - t (3 + l))) (94 + l) (t (94 + l) + t (3 + l))) (120 + q) (t (120 + q) + t (3 + l))
theorem sparedF_congr {t u : Nat → Nat} {q : Nat} (h1 : u (79 + q) = t (79 + q)) (h2 : u (101 + t (79 + q)) = t (101 + t (79 + q))) : sparedF u q = sparedF t q := by
  unfold sparedF
  rw [h1, h2]
def inB (n : Nat) (x : Int32) : Bool := decide (nI 0 ≤ x) && decide (x ≤ nI n - nI 1)
theorem inB_t {n : Nat} (hn : n < 2 ^ 30) {x : Int32} (h : inB n x = true) : ∃ j, j < n ∧ x = nI j := by
  simp only [inB, Bool.and_eq_true, decide_eq_true_eq, Int32.le_iff_toInt_le] at h
  have e := pk_sub_toInt (a := n) (b := 1) hn (by decide)
  have e0 : (nI 0).toInt = 0 := by decide
  rw [e, e0] at h
  obtain ⟨j, hj, rfl⟩ := nI_of (x := x) (by rw [Int32.lt_iff_toInt_lt]; exact Int.not_lt.mpr h.1)
  rw [nI_toInt hj] at h
  exact ⟨j, by omega, rfl⟩
theorem inB_nI {n j : Nat} (hn : n < 2 ^ 30) (hj : j < 2 ^ 31) : inB n (nI j) = decide (j < n) := by
  have e := pk_sub_toInt (a := n) (b := 1) hn (by decide)
  have e0 : (nI 0).toInt = 0 := by decide
  have e1 := nI_toInt hj
  rw [Bool.eq_iff_iff]
  simp only [inB, Bool.and_eq_true, decide_eq_true_eq, Int32.le_iff_toInt_le]
  rw [e, e0, e1]
  omega
def growsF (t : Nat → Nat) (q : Nat) : Bool := decide (t (108 + q) = t (79 + q)) && decide (t (114 + q) < 240) && decide (0 < t (94 + t (79 + q)))
def dayS (t : Nat → Nat) (q : Nat) : Nat → Nat := if growsF t q = true then upN (upN t (114 + q) (t (114 + q) + 1)) (94 + t (79 + q)) (t (94 + t (79 + q)) - 1) else t
def dayG (t : Nat → Nat) : Nat → Nat → Nat
  | 0 => t
  | n + 1 => dayS (dayG t n) n
def dayF (t : Nat → Nat) : Nat → Nat := upN (dayG t (t 2)) 91 (dayG t (t 2) 91 + 1)
def daysF (t : Nat → Nat) : Nat → Nat → Nat
  | 0 => t
  | n + 1 => dayF (daysF t n)
theorem dayS_keep {t : Nat → Nat} {q : Nat} (hh : t (79 + q) < 7) (hq : q < 6) {j : Nat} (hj : ¬ j = 114 + q ∧ ¬ (94 ≤ j ∧ j < 101)) : dayS t q j = t j := by
  unfold dayS
  split
  · rw [upN_n _ _ _ _ (by omega), upN_n _ _ _ _ (by omega)]
  · rfl
theorem dayG_keep {t : Nat → Nat} : ∀ n, n ≤ 6 → (∀ q, q < n → t (79 + q) < 7) → ∀ j, ¬ (114 ≤ j ∧ j < 120) → ¬ (94 ≤ j ∧ j < 101) → dayG t n j = t j := by
  intro n
  induction n with
  | zero => intro _ _ j _ _; rfl
  | succ n ih =>
    intro hn hh j h1 h2
    unfold dayG
    have e := ih (by omega) (fun q hq => hh q (by omega))
    rw [dayS_keep (by rw [e _ (by omega) (by omega)]; exact hh n (by omega)) (by omega) (by omega)]
    exact e j h1 h2
theorem dayS_lt {t : Nat → Nat} {q b : Nat} (hb : ∀ j, t j < b) (h : 241 ≤ b) : ∀ j, dayS t q j < b := by
  intro j
  unfold dayS
  split
  · rename_i hg
    simp only [growsF, Bool.and_eq_true, decide_eq_true_eq] at hg
    exact upN_lt (upN_lt hb (by omega)) (Nat.lt_of_le_of_lt (Nat.sub_le _ _) (hb _)) j
  · exact hb j
theorem dayG_lt {t : Nat → Nat} {b : Nat} (hb : ∀ j, t j < b) (h : 241 ≤ b) : ∀ n j, dayG t n j < b := by
  intro n
  induction n with
  | zero => exact hb
  | succ n ih => exact dayS_lt ih h

set_option maxHeartbeats 1000000 in
set_option maxRecDepth 20000 in
theorem s_given {G : xG} {d : Nat} {Q : xQ} {a : Nat → Nat} {σ : mS} {l m st : Nat} (hb : ∀ j, σ.2.1 6 j < 2 ^ 30) (hl : l < 7) (hm : m ≤ 240) (hst : st < 2 ^ 31) (kk : Q (some (.int (nI (givenF (σ.2.1 6) l m st)))) (mW G.2.2.1 a σ)) : MT G MX12_given (d + 1) 0 0 [.ref (a 60), .int (nI l), .int (nI m), .int (nI st)] (mW G.2.2.1 a σ) Q := by
  refine mt_start (L := [some (.ref (a 60)), some (.int (nI l)), some (.int (nI m)), some (.int (nI st))]) rfl (Nat.le_of_ble_eq_true rfl) rfl ?_
  refine aw_aload_n (pc := 0) (i := 0) dX12_given_0 rfl rfl ?_
  refine mg_s (pc := 1) dX12_given_1 rfl ?_
  refine aw_bipush (pc := 4) dX12_given_4 bipush_10 ?_
  refine aw_iload_n (pc := 6) (i := 1) dX12_given_6 rfl rfl ?_
  refine an_add (pc := 7) dX12_given_7 ?_
  refine ml_s (pc := 8) dX12_given_8 (by omega) ?_
  refine aw_iload_n (pc := 9) (i := 3) dX12_given_9 rfl rfl ?_
  refine aw_sipush (pc := 10) dX12_given_10 sipush_240 ?_
  refine aw_iload_n (pc := 13) (i := 2) dX12_given_13 rfl rfl ?_
  refine an_sub (pc := 14) dX12_given_14 (by omega) ?_
  refine mt_I (pc := 15) (As := [.int (nI st), .int (nI (240 - m))]) (rest := [.int (nI (σ.2.1 6 (10 + l)))]) dX12_given_15 rfl ok_X12_295 rfl rfl rfl (Nat.le_of_ble_eq_true rfl) (s_lesser (by omega) (by omega) ⟨_, _, rfl, rfl, ?_⟩)
  refine mt_I (pc := 18) (As := [.int (nI (σ.2.1 6 (10 + l))), .int (nI (min st (240 - m)))]) (rest := []) dX12_given_18 rfl ok_X12_295 rfl rfl rfl (Nat.le_of_ble_eq_true rfl) (s_lesser (Nat.lt_trans (hb _) (by decide)) (by omega) ⟨_, _, rfl, rfl, ?_⟩)
  exact aw_iret (pc := 21) dX12_given_21 rfl (Nat.le_refl _) (Nat.le_refl _) (kk)
set_option maxHeartbeats 1000000 in
set_option maxRecDepth 20000 in
theorem s_crosses {G : xG} {d : Nat} {Q : xQ} {a : Nat → Nat} {σ : mS} {q l : Nat} (hb : ∀ j, σ.2.1 6 j < 2 ^ 29) (hq : q < 6) (hl : l < 7) (hh : σ.2.1 6 (79 + q) < 7) (hm : σ.2.1 6 (114 + q) ≤ 240) (htk : l = σ.2.1 6 (79 + q) ∨ (sparedF (σ.2.1 6) q).testBit l = true ∨ σ.2.1 6 (3 + l) ≤ σ.2.1 6 (114 + q)) (kk : Q none (mW G.2.2.1 a (sN σ 6 (crossF (σ.2.1 6) q l)))) : MT G MX12_crosses (d + 2) 0 0 [.ref (a 60), .int (nI q), .int (nI l)] (mW G.2.2.1 a σ) Q := by
  have hb0 : ∀ j, σ.2.1 6 j < 2 ^ 30 := fun j => Nat.lt_trans (hb j) (by decide)
  refine mt_start (L := [some (.ref (a 60)), some (.int (nI q)), some (.int (nI l)), none]) rfl (Nat.le_of_ble_eq_true rfl) rfl ?_
  refine aw_aload_n (pc := 0) (i := 0) dX12_crosses_0 rfl rfl ?_
  refine mg_s (pc := 1) dX12_crosses_1 rfl ?_
  refine aw_bipush (pc := 4) dX12_crosses_4 bipush_108 ?_
  refine aw_iload_n (pc := 6) (i := 1) dX12_crosses_6 rfl rfl ?_
  refine an_add (pc := 7) dX12_crosses_7 ?_
  refine aw_iload_n (pc := 8) (i := 2) dX12_crosses_8 rfl rfl ?_
  refine ms_s (pc := 9) dX12_crosses_9 (by omega) ?_
  refine aw_aload_n (pc := 10) (i := 0) dX12_crosses_10 rfl rfl ?_
  refine mg_s (pc := 11) dX12_crosses_11 rfl ?_
  refine aw_sipush (pc := 14) dX12_crosses_14 sipush_132 ?_
  refine aw_iload_n (pc := 17) (i := 1) dX12_crosses_17 rfl rfl ?_
  refine an_add (pc := 18) dX12_crosses_18 ?_
  refine aw_dup2 (pc := 19) dX12_crosses_19 rfl rfl ?_
  refine ml_s (pc := 20) dX12_crosses_20 (by omega) ?_
  refine aw_top (y := (nI (σ.2.1 6 (132 + q)))) (congrArg nI (upN_n _ _ _ _ (by omega))) ?_
  refine aw_iconst (pc := 21) dX12_crosses_21 iconst_1 ?_
  refine an_add (pc := 22) dX12_crosses_22 ?_
  refine ms_s (pc := 23) dX12_crosses_23 (by omega) ?_
  refine aw_aload_n (pc := 24) (i := 0) dX12_crosses_24 rfl rfl ?_
  refine mg_s (pc := 25) dX12_crosses_25 rfl ?_
  refine aw_bipush (pc := 28) dX12_crosses_28 bipush_92 ?_
  refine aw_dup2 (pc := 30) dX12_crosses_30 rfl rfl ?_
  refine ml_s (pc := 31) dX12_crosses_31 (by decide) ?_
  refine aw_top (y := (nI (σ.2.1 6 92))) (congrArg nI ((upN_n _ _ _ _ (by omega)).trans (upN_n _ _ _ _ (by omega)))) ?_
  refine aw_iconst (pc := 32) dX12_crosses_32 iconst_1 ?_
  refine an_add (pc := 33) dX12_crosses_33 ?_
  refine ms_s (pc := 34) dX12_crosses_34 (by decide) ?_
  refine aw_iload_n (pc := 35) (i := 2) dX12_crosses_35 rfl rfl ?_
  refine aw_aload_n (pc := 36) (i := 0) dX12_crosses_36 rfl rfl ?_
  refine mg_s (pc := 37) dX12_crosses_37 rfl ?_
  refine aw_bipush (pc := 40) dX12_crosses_40 bipush_79 ?_
  refine aw_iload_n (pc := 42) (i := 1) dX12_crosses_42 rfl rfl ?_
  refine an_add (pc := 43) dX12_crosses_43 ?_
  refine ml_s (pc := 44) dX12_crosses_44 (by omega) ?_
  refine aw_top (y := (nI (σ.2.1 6 (79 + q)))) (congrArg nI (((upN_n _ _ _ _ (by omega)).trans (upN_n _ _ _ _ (by omega))).trans (upN_n _ _ _ _ (by omega)))) ?_
  refine an_icmp_ne (pc := 45) (tgt := 114) dX12_crosses_45 rfl (by omega) (Nat.lt_trans (hb _) (by decide)) (fun h45 => ?_) (fun h45 => ?_)
  · -- 114
    refine aw_aload_n (pc := 114) (i := 0) dX12_crosses_114 rfl rfl ?_
    refine aw_iload_n (pc := 115) (i := 1) dX12_crosses_115 rfl rfl ?_
    refine mc_I (pc := 116) (As := [.int (nI q)]) (rest := []) dX12_crosses_116 rfl ok_X12_284 rfl rfl rfl (Nat.le_of_ble_eq_true rfl) (s_sparedIn (upN_lt (upN_lt (upN_lt hb0 (by omega)) (by have := hb (132 + q); omega)) (by have := hb 92; omega)) hq (Nat.lt_of_le_of_lt (Nat.le_of_eq (((upN_n _ _ _ _ (by omega)).trans (upN_n _ _ _ _ (by omega))).trans (upN_n _ _ _ _ (by omega)))) hh) ⟨_, _, rfl, rfl, ?_⟩)
    refine aw_top (y := nI (sparedF (σ.2.1 6) q)) (congrArg nI (sparedF_congr (((upN_n _ _ _ _ (by omega)).trans (upN_n _ _ _ _ (by omega))).trans (upN_n _ _ _ _ (by omega))) (((upN_n _ _ _ _ (by omega)).trans (upN_n _ _ _ _ (by omega))).trans (upN_n _ _ _ _ (by omega))))) ?_
    refine aw_iload_n (pc := 119) (i := 2) dX12_crosses_119 rfl rfl ?_
    refine mt_I (pc := 120) (As := [.int (nI (sparedF (σ.2.1 6) q)), .int (nI l)]) (rest := []) dX12_crosses_120 rfl ok_X12_257 rfl rfl rfl (Nat.le_of_ble_eq_true rfl) (s_bitOf (sparedF_lt hb0 hh) (by omega) ⟨_, _, rfl, rfl, ?_⟩)
    refine ab_if_ne (pc := 123) (tgt := 186) dX12_crosses_123 rfl (fun h123 => ?_) (fun h123 => ?_)
    · -- 186
      exact aw_vret (pc := 186) dX12_crosses_186 rfl (Nat.le_refl _) (Nat.le_refl _) (by unfold crossF at kk; first | (rw [if_pos h45] at kk; exact kk) | (rw [if_neg h45, if_pos h123] at kk; exact kk) | (rw [if_neg h45, if_neg (by rw [h123]; decide)] at kk; exact kk))
    · -- 126
      refine aw_aload_n (pc := 126) (i := 0) dX12_crosses_126 rfl rfl ?_
      refine mg_s (pc := 127) dX12_crosses_127 rfl ?_
      refine aw_bipush (pc := 130) dX12_crosses_130 bipush_114 ?_
      refine aw_iload_n (pc := 132) (i := 1) dX12_crosses_132 rfl rfl ?_
      refine an_add (pc := 133) dX12_crosses_133 ?_
      refine aw_dup2 (pc := 134) dX12_crosses_134 rfl rfl ?_
      refine ml_s (pc := 135) dX12_crosses_135 (by omega) ?_
      refine aw_top (y := (nI (σ.2.1 6 (114 + q)))) (congrArg nI (((upN_n _ _ _ _ (by omega)).trans (upN_n _ _ _ _ (by omega))).trans (upN_n _ _ _ _ (by omega)))) ?_
      refine aw_aload_n (pc := 136) (i := 0) dX12_crosses_136 rfl rfl ?_
      refine mg_s (pc := 137) dX12_crosses_137 rfl ?_
      refine aw_iconst (pc := 140) dX12_crosses_140 iconst_3 ?_
      refine aw_iload_n (pc := 141) (i := 2) dX12_crosses_141 rfl rfl ?_
      refine an_add (pc := 142) dX12_crosses_142 ?_
      refine ml_s (pc := 143) dX12_crosses_143 (by omega) ?_
      refine aw_top (y := (nI (σ.2.1 6 (3 + l)))) (congrArg nI (((upN_n _ _ _ _ (by omega)).trans (upN_n _ _ _ _ (by omega))).trans (upN_n _ _ _ _ (by omega)))) ?_
      refine an_sub (pc := 144) dX12_crosses_144 (by rcases htk with h | h | h; exact absurd h h45; rw [h123] at h; exact absurd h (by decide); exact h) ?_
      refine ms_s (pc := 145) dX12_crosses_145 (by omega) ?_
      refine aw_aload_n (pc := 146) (i := 0) dX12_crosses_146 rfl rfl ?_
      refine mg_s (pc := 147) dX12_crosses_147 rfl ?_
      refine aw_bipush (pc := 150) dX12_crosses_150 bipush_94 ?_
      refine aw_iload_n (pc := 152) (i := 2) dX12_crosses_152 rfl rfl ?_
      refine an_add (pc := 153) dX12_crosses_153 ?_
      refine aw_dup2 (pc := 154) dX12_crosses_154 rfl rfl ?_
      refine ml_s (pc := 155) dX12_crosses_155 (by omega) ?_
      refine aw_top (y := (nI (σ.2.1 6 (94 + l)))) (congrArg nI ((((upN_n _ _ _ _ (by omega)).trans (upN_n _ _ _ _ (by omega))).trans (upN_n _ _ _ _ (by omega))).trans (upN_n _ _ _ _ (by omega)))) ?_
      refine aw_aload_n (pc := 156) (i := 0) dX12_crosses_156 rfl rfl ?_
      refine mg_s (pc := 157) dX12_crosses_157 rfl ?_
      refine aw_iconst (pc := 160) dX12_crosses_160 iconst_3 ?_
      refine aw_iload_n (pc := 161) (i := 2) dX12_crosses_161 rfl rfl ?_
      refine an_add (pc := 162) dX12_crosses_162 ?_
      refine ml_s (pc := 163) dX12_crosses_163 (by omega) ?_
      refine aw_top (y := (nI (σ.2.1 6 (3 + l)))) (congrArg nI ((((upN_n _ _ _ _ (by omega)).trans (upN_n _ _ _ _ (by omega))).trans (upN_n _ _ _ _ (by omega))).trans (upN_n _ _ _ _ (by omega)))) ?_
      refine an_add (pc := 164) dX12_crosses_164 ?_
      refine ms_s (pc := 165) dX12_crosses_165 (by omega) ?_
      refine aw_aload_n (pc := 166) (i := 0) dX12_crosses_166 rfl rfl ?_
      refine mg_s (pc := 167) dX12_crosses_167 rfl ?_
      refine aw_bipush (pc := 170) dX12_crosses_170 bipush_120 ?_
      refine aw_iload_n (pc := 172) (i := 1) dX12_crosses_172 rfl rfl ?_
      refine an_add (pc := 173) dX12_crosses_173 ?_
      refine aw_dup2 (pc := 174) dX12_crosses_174 rfl rfl ?_
      refine ml_s (pc := 175) dX12_crosses_175 (by omega) ?_
      refine aw_top (y := (nI (σ.2.1 6 (120 + q)))) (congrArg nI (((((upN_n _ _ _ _ (by omega)).trans (upN_n _ _ _ _ (by omega))).trans (upN_n _ _ _ _ (by omega))).trans (upN_n _ _ _ _ (by omega))).trans (upN_n _ _ _ _ (by omega)))) ?_
      refine aw_aload_n (pc := 176) (i := 0) dX12_crosses_176 rfl rfl ?_
      refine mg_s (pc := 177) dX12_crosses_177 rfl ?_
      refine aw_iconst (pc := 180) dX12_crosses_180 iconst_3 ?_
      refine aw_iload_n (pc := 181) (i := 2) dX12_crosses_181 rfl rfl ?_
      refine an_add (pc := 182) dX12_crosses_182 ?_
      refine ml_s (pc := 183) dX12_crosses_183 (by omega) ?_
      refine aw_top (y := (nI (σ.2.1 6 (3 + l)))) (congrArg nI (((((upN_n _ _ _ _ (by omega)).trans (upN_n _ _ _ _ (by omega))).trans (upN_n _ _ _ _ (by omega))).trans (upN_n _ _ _ _ (by omega))).trans (upN_n _ _ _ _ (by omega)))) ?_
      refine an_add (pc := 184) dX12_crosses_184 ?_
      refine ms_s (pc := 185) dX12_crosses_185 (by omega) ?_
      exact aw_vret (pc := 186) dX12_crosses_186 rfl (Nat.le_refl _) (Nat.le_refl _) (by unfold crossF at kk; first | (rw [if_pos h45] at kk; exact kk) | (rw [if_neg h45, if_pos h123] at kk; exact kk) | (rw [if_neg h45, if_neg (by rw [h123]; decide)] at kk; exact kk))
  · -- 48
    refine aw_aload_n (pc := 48) (i := 0) dX12_crosses_48 rfl rfl ?_
    refine aw_iload_n (pc := 49) (i := 2) dX12_crosses_49 rfl rfl ?_
    refine aw_aload_n (pc := 50) (i := 0) dX12_crosses_50 rfl rfl ?_
    refine mg_s (pc := 51) dX12_crosses_51 rfl ?_
    refine aw_bipush (pc := 54) dX12_crosses_54 bipush_114 ?_
    refine aw_iload_n (pc := 56) (i := 1) dX12_crosses_56 rfl rfl ?_
    refine an_add (pc := 57) dX12_crosses_57 ?_
    refine ml_s (pc := 58) dX12_crosses_58 (by omega) ?_
    refine aw_top (y := (nI (σ.2.1 6 (114 + q)))) (congrArg nI (((upN_n _ _ _ _ (by omega)).trans (upN_n _ _ _ _ (by omega))).trans (upN_n _ _ _ _ (by omega)))) ?_
    refine aw_aload_n (pc := 59) (i := 0) dX12_crosses_59 rfl rfl ?_
    refine mg_s (pc := 60) dX12_crosses_60 rfl ?_
    refine aw_bipush (pc := 63) dX12_crosses_63 bipush_94 ?_
    refine aw_iload_n (pc := 65) (i := 2) dX12_crosses_65 rfl rfl ?_
    refine an_add (pc := 66) dX12_crosses_66 ?_
    refine ml_s (pc := 67) dX12_crosses_67 (by omega) ?_
    refine aw_top (y := (nI (σ.2.1 6 (94 + l)))) (congrArg nI (((upN_n _ _ _ _ (by omega)).trans (upN_n _ _ _ _ (by omega))).trans (upN_n _ _ _ _ (by omega)))) ?_
    refine mc_I (pc := 68) (As := [.int (nI l), .int (nI (σ.2.1 6 (114 + q))), .int (nI (σ.2.1 6 (94 + l)))]) (rest := []) dX12_crosses_68 rfl ok_X12_298 rfl rfl rfl (Nat.le_of_ble_eq_true rfl) (s_given (upN_lt (upN_lt (upN_lt hb0 (by omega)) (by have := hb (132 + q); omega)) (by have := hb 92; omega)) hl hm (Nat.lt_trans (hb _) (by decide)) ⟨_, _, rfl, rfl, ?_⟩)
    refine aw_top (y := nI (givenF (σ.2.1 6) l (σ.2.1 6 (114 + q)) (σ.2.1 6 (94 + l)))) (congrArg (fun z => nI (min z _)) (((upN_n _ _ _ _ (by omega)).trans (upN_n _ _ _ _ (by omega))).trans (upN_n _ _ _ _ (by omega)))) ?_
    refine aw_istore_n (pc := 71) (i := 3) dX12_crosses_71 rfl (Nat.le_of_ble_eq_true rfl) rfl ?_
    refine aw_aload_n (pc := 72) (i := 0) dX12_crosses_72 rfl rfl ?_
    refine mg_s (pc := 73) dX12_crosses_73 rfl ?_
    refine aw_bipush (pc := 76) dX12_crosses_76 bipush_94 ?_
    refine aw_iload_n (pc := 78) (i := 2) dX12_crosses_78 rfl rfl ?_
    refine an_add (pc := 79) dX12_crosses_79 ?_
    refine aw_dup2 (pc := 80) dX12_crosses_80 rfl rfl ?_
    refine ml_s (pc := 81) dX12_crosses_81 (by omega) ?_
    refine aw_top (y := (nI (σ.2.1 6 (94 + l)))) (congrArg nI (((upN_n _ _ _ _ (by omega)).trans (upN_n _ _ _ _ (by omega))).trans (upN_n _ _ _ _ (by omega)))) ?_
    refine aw_iload_n (pc := 82) (i := 3) dX12_crosses_82 rfl rfl ?_
    refine an_sub (pc := 83) dX12_crosses_83 (by unfold givenF; omega) ?_
    refine ms_s (pc := 84) dX12_crosses_84 (by omega) ?_
    refine aw_aload_n (pc := 85) (i := 0) dX12_crosses_85 rfl rfl ?_
    refine mg_s (pc := 86) dX12_crosses_86 rfl ?_
    refine aw_bipush (pc := 89) dX12_crosses_89 bipush_114 ?_
    refine aw_iload_n (pc := 91) (i := 1) dX12_crosses_91 rfl rfl ?_
    refine an_add (pc := 92) dX12_crosses_92 ?_
    refine aw_dup2 (pc := 93) dX12_crosses_93 rfl rfl ?_
    refine ml_s (pc := 94) dX12_crosses_94 (by omega) ?_
    refine aw_top (y := (nI (σ.2.1 6 (114 + q)))) (congrArg nI ((((upN_n _ _ _ _ (by omega)).trans (upN_n _ _ _ _ (by omega))).trans (upN_n _ _ _ _ (by omega))).trans (upN_n _ _ _ _ (by omega)))) ?_
    refine aw_iload_n (pc := 95) (i := 3) dX12_crosses_95 rfl rfl ?_
    refine an_add (pc := 96) dX12_crosses_96 ?_
    refine ms_s (pc := 97) dX12_crosses_97 (by omega) ?_
    refine aw_aload_n (pc := 98) (i := 0) dX12_crosses_98 rfl rfl ?_
    refine mg_s (pc := 99) dX12_crosses_99 rfl ?_
    refine aw_bipush (pc := 102) dX12_crosses_102 bipush_126 ?_
    refine aw_iload_n (pc := 104) (i := 1) dX12_crosses_104 rfl rfl ?_
    refine an_add (pc := 105) dX12_crosses_105 ?_
    refine aw_dup2 (pc := 106) dX12_crosses_106 rfl rfl ?_
    refine ml_s (pc := 107) dX12_crosses_107 (by omega) ?_
    refine aw_top (y := (nI (σ.2.1 6 (126 + q)))) (congrArg nI (((((upN_n _ _ _ _ (by omega)).trans (upN_n _ _ _ _ (by omega))).trans (upN_n _ _ _ _ (by omega))).trans (upN_n _ _ _ _ (by omega))).trans (upN_n _ _ _ _ (by omega)))) ?_
    refine aw_iload_n (pc := 108) (i := 3) dX12_crosses_108 rfl rfl ?_
    refine an_add (pc := 109) dX12_crosses_109 ?_
    refine ms_s (pc := 110) dX12_crosses_110 (by omega) ?_
    refine aw_goto (pc := 111) (tgt := 186) dX12_crosses_111 rfl ?_
    exact aw_vret (pc := 186) dX12_crosses_186 rfl (Nat.le_refl _) (Nat.le_refl _) (by unfold crossF at kk; first | (rw [if_pos h45] at kk; exact kk) | (rw [if_neg h45, if_pos h123] at kk; exact kk) | (rw [if_neg h45, if_neg (by rw [h123]; decide)] at kk; exact kk))
set_option maxHeartbeats 1000000 in
set_option maxRecDepth 20000 in
theorem allLong_loop {G : xG} {d : Nat} {Q : xQ} {a : Nat → Nat} {σ : mS} (h2 : σ.2.1 6 2 ≤ 6) (kk : Q (some (.int (nI (allLongF (σ.2.1 6))))) (mW G.2.2.1 a σ)) : ∀ (n i : Nat), i + n = σ.2.1 6 2 → AW G MX12_allLong d 0 0 Q 4 [some (.ref (a 60)), some (.int (nI (sumF (fun q => σ.2.1 6 (114 + q)) i))), some (.int (nI i))] [] (mW G.2.2.1 a σ) 0 0 := by
  intro n
  induction n with
  | zero =>
    intro i hi
    refine aw_iload_n (pc := 4) (i := 2) dX12_allLong_4 rfl rfl ?_
    refine aw_aload_n (pc := 5) (i := 0) dX12_allLong_5 rfl rfl ?_
    refine mg_s (pc := 6) dX12_allLong_6 rfl ?_
    refine aw_iconst (pc := 9) dX12_allLong_9 iconst_2 ?_
    refine ml_s (pc := 10) dX12_allLong_10 (by decide) ?_
    refine an_icmp_ge (pc := 11) (tgt := 32) dX12_allLong_11 rfl (by omega) (by omega) (fun h11 => ?_) (fun h11 => ?_)
    · -- 32
      refine aw_iload_n (pc := 32) (i := 1) dX12_allLong_32 rfl rfl ?_
      exact aw_iret (pc := 33) dX12_allLong_33 rfl (Nat.le_refl _) (Nat.le_refl _) (by have e : i = σ.2.1 6 2 := (by omega); subst e; exact kk)
    · -- 14
      exfalso; omega
  | succ n ih =>
    intro i hi
    refine aw_iload_n (pc := 4) (i := 2) dX12_allLong_4 rfl rfl ?_
    refine aw_aload_n (pc := 5) (i := 0) dX12_allLong_5 rfl rfl ?_
    refine mg_s (pc := 6) dX12_allLong_6 rfl ?_
    refine aw_iconst (pc := 9) dX12_allLong_9 iconst_2 ?_
    refine ml_s (pc := 10) dX12_allLong_10 (by decide) ?_
    refine an_icmp_ge (pc := 11) (tgt := 32) dX12_allLong_11 rfl (by omega) (by omega) (fun h11 => ?_) (fun h11 => ?_)
    · -- 32
      exfalso; omega
    · -- 14
      refine aw_iload_n (pc := 14) (i := 1) dX12_allLong_14 rfl rfl ?_
      refine aw_aload_n (pc := 15) (i := 0) dX12_allLong_15 rfl rfl ?_
      refine mg_s (pc := 16) dX12_allLong_16 rfl ?_
      refine aw_bipush (pc := 19) dX12_allLong_19 bipush_114 ?_
      refine aw_iload_n (pc := 21) (i := 2) dX12_allLong_21 rfl rfl ?_
      refine an_add (pc := 22) dX12_allLong_22 ?_
      refine ml_s (pc := 23) dX12_allLong_23 (by omega) ?_
      refine an_add (pc := 24) dX12_allLong_24 ?_
      refine aw_istore_n (pc := 25) (i := 1) dX12_allLong_25 rfl (Nat.le_of_ble_eq_true rfl) rfl ?_
      refine an_inc (pc := 26) (z := 1) dX12_allLong_26 rfl (Nat.le_of_ble_eq_true rfl) rfl ?_
      refine aw_goto (pc := 29) (tgt := 4) dX12_allLong_29 rfl ?_
      exact ih (i + 1) (by omega)
set_option maxHeartbeats 1000000 in
set_option maxRecDepth 20000 in
theorem s_allLong {G : xG} {d : Nat} {Q : xQ} {a : Nat → Nat} {σ : mS} (h2 : σ.2.1 6 2 ≤ 6) (kk : Q (some (.int (nI (allLongF (σ.2.1 6))))) (mW G.2.2.1 a σ)) : MT G MX12_allLong (d) 0 0 [.ref (a 60)] (mW G.2.2.1 a σ) Q := by
  refine mt_start (L := [some (.ref (a 60)), none, none]) rfl (Nat.le_of_ble_eq_true rfl) rfl ?_
  refine aw_iconst (pc := 0) dX12_allLong_0 iconst_0 ?_
  refine aw_istore_n (pc := 1) (i := 1) dX12_allLong_1 rfl (Nat.le_of_ble_eq_true rfl) rfl ?_
  refine aw_iconst (pc := 2) dX12_allLong_2 iconst_0 ?_
  refine aw_istore_n (pc := 3) (i := 2) dX12_allLong_3 rfl (Nat.le_of_ble_eq_true rfl) rfl ?_
  exact allLong_loop h2 kk (σ.2.1 6 2) 0 (by omega)
set_option maxHeartbeats 1000000 in
set_option maxRecDepth 20000 in
theorem s_isLand {G : xG} {d : Nat} {Q : xQ} {a : Nat → Nat} {σ : mS} {x : Int32} (kk : Q (some (.int (bI (inB (σ.2.1 6 0) x)))) (mW G.2.2.1 a σ)) : MT G MX12_isLand (d + 1) 0 0 [.ref (a 60), .int x] (mW G.2.2.1 a σ) Q := by
  refine mt_start (L := [some (.ref (a 60)), some (.int x)]) rfl (Nat.le_of_ble_eq_true rfl) rfl ?_
  refine aw_iload_n (pc := 0) (i := 1) dX12_isLand_0 rfl rfl ?_
  refine aw_iconst (pc := 1) dX12_isLand_1 iconst_0 ?_
  refine aw_aload_n (pc := 2) (i := 0) dX12_isLand_2 rfl rfl ?_
  refine mg_s (pc := 3) dX12_isLand_3 rfl ?_
  refine aw_iconst (pc := 6) dX12_isLand_6 iconst_0 ?_
  refine ml_s (pc := 7) dX12_isLand_7 (by decide) ?_
  refine aw_iconst (pc := 8) dX12_isLand_8 iconst_1 ?_
  refine aw_isub (pc := 9) dX12_isLand_9 ?_
  refine mt_I (pc := 10) (As := [.int x, .int (nI 0), .int ((nI (σ.2.1 6 0)) - (nI 1))]) (rest := []) dX12_isLand_10 rfl ok_X12_207 rfl rfl rfl (Nat.le_of_ble_eq_true rfl) (s_isIn ⟨_, _, rfl, rfl, ?_⟩)
  refine aw_top (y := bI (inB (σ.2.1 6 0) x)) rfl ?_
  exact ab_ret (pc := 13) dX12_isLand_13 rfl (Nat.le_refl _) (Nat.le_refl _) (kk)
set_option maxHeartbeats 1000000 in
set_option maxRecDepth 20000 in
theorem s_isPerson {G : xG} {d : Nat} {Q : xQ} {a : Nat → Nat} {σ : mS} {x : Int32} (kk : Q (some (.int (bI (inB (σ.2.1 6 2) x)))) (mW G.2.2.1 a σ)) : MT G MX12_isPerson (d + 1) 0 0 [.ref (a 60), .int x] (mW G.2.2.1 a σ) Q := by
  refine mt_start (L := [some (.ref (a 60)), some (.int x)]) rfl (Nat.le_of_ble_eq_true rfl) rfl ?_
  refine aw_iload_n (pc := 0) (i := 1) dX12_isPerson_0 rfl rfl ?_
  refine aw_iconst (pc := 1) dX12_isPerson_1 iconst_0 ?_
  refine aw_aload_n (pc := 2) (i := 0) dX12_isPerson_2 rfl rfl ?_
  refine mg_s (pc := 3) dX12_isPerson_3 rfl ?_
  refine aw_iconst (pc := 6) dX12_isPerson_6 iconst_2 ?_
  refine ml_s (pc := 7) dX12_isPerson_7 (by decide) ?_
  refine aw_iconst (pc := 8) dX12_isPerson_8 iconst_1 ?_
  refine aw_isub (pc := 9) dX12_isPerson_9 ?_
  refine mt_I (pc := 10) (As := [.int x, .int (nI 0), .int ((nI (σ.2.1 6 2)) - (nI 1))]) (rest := []) dX12_isPerson_10 rfl ok_X12_207 rfl rfl rfl (Nat.le_of_ble_eq_true rfl) (s_isIn ⟨_, _, rfl, rfl, ?_⟩)
  refine aw_top (y := bI (inB (σ.2.1 6 2) x)) rfl ?_
  exact ab_ret (pc := 13) dX12_isPerson_13 rfl (Nat.le_refl _) (Nat.le_refl _) (kk)
set_option maxHeartbeats 1000000 in
set_option maxRecDepth 20000 in
theorem s_grows {G : xG} {d : Nat} {Q : xQ} {a : Nat → Nat} {σ : mS} {q : Nat} (hb : ∀ j, σ.2.1 6 j < 2 ^ 30) (hq : q < 6) (hh : σ.2.1 6 (79 + q) < 7) (kk : Q (some (.int (bI (growsF (σ.2.1 6) q)))) (mW G.2.2.1 a σ)) : MT G MX12_grows (d) 0 0 [.ref (a 60), .int (nI q)] (mW G.2.2.1 a σ) Q := by
  refine mt_start (L := [some (.ref (a 60)), some (.int (nI q))]) rfl (Nat.le_of_ble_eq_true rfl) rfl ?_
  refine aw_aload_n (pc := 0) (i := 0) dX12_grows_0 rfl rfl ?_
  refine mg_s (pc := 1) dX12_grows_1 rfl ?_
  refine aw_bipush (pc := 4) dX12_grows_4 bipush_108 ?_
  refine aw_iload_n (pc := 6) (i := 1) dX12_grows_6 rfl rfl ?_
  refine an_add (pc := 7) dX12_grows_7 ?_
  refine ml_s (pc := 8) dX12_grows_8 (by omega) ?_
  refine aw_aload_n (pc := 9) (i := 0) dX12_grows_9 rfl rfl ?_
  refine mg_s (pc := 10) dX12_grows_10 rfl ?_
  refine aw_bipush (pc := 13) dX12_grows_13 bipush_79 ?_
  refine aw_iload_n (pc := 15) (i := 1) dX12_grows_15 rfl rfl ?_
  refine an_add (pc := 16) dX12_grows_16 ?_
  refine ml_s (pc := 17) dX12_grows_17 (by omega) ?_
  refine an_icmp_ne (pc := 18) (tgt := 60) dX12_grows_18 rfl (Nat.lt_trans (hb _) (by decide)) (Nat.lt_trans (hb _) (by decide)) (fun h18 => ?_) (fun h18 => ?_)
  · -- 60
    refine aw_iconst (pc := 60) dX12_grows_60 iconst_0 ?_
    exact ab_ret0 (pc := 61) dX12_grows_61 rfl (Nat.le_refl _) (Nat.le_refl _) (by rw [show growsF (σ.2.1 6) q = false by simp [growsF]; omega] at kk; exact kk)
  · -- 21
    refine aw_aload_n (pc := 21) (i := 0) dX12_grows_21 rfl rfl ?_
    refine mg_s (pc := 22) dX12_grows_22 rfl ?_
    refine aw_bipush (pc := 25) dX12_grows_25 bipush_114 ?_
    refine aw_iload_n (pc := 27) (i := 1) dX12_grows_27 rfl rfl ?_
    refine an_add (pc := 28) dX12_grows_28 ?_
    refine ml_s (pc := 29) dX12_grows_29 (by omega) ?_
    refine aw_sipush (pc := 30) dX12_grows_30 sipush_240 ?_
    refine an_icmp_ge (pc := 33) (tgt := 60) dX12_grows_33 rfl (Nat.lt_trans (hb _) (by decide)) (by decide) (fun h33 => ?_) (fun h33 => ?_)
    · -- 60
      refine aw_iconst (pc := 60) dX12_grows_60 iconst_0 ?_
      exact ab_ret0 (pc := 61) dX12_grows_61 rfl (Nat.le_refl _) (Nat.le_refl _) (by rw [show growsF (σ.2.1 6) q = false by simp [growsF]; omega] at kk; exact kk)
    · -- 36
      refine aw_aload_n (pc := 36) (i := 0) dX12_grows_36 rfl rfl ?_
      refine mg_s (pc := 37) dX12_grows_37 rfl ?_
      refine aw_bipush (pc := 40) dX12_grows_40 bipush_94 ?_
      refine aw_aload_n (pc := 42) (i := 0) dX12_grows_42 rfl rfl ?_
      refine mg_s (pc := 43) dX12_grows_43 rfl ?_
      refine aw_bipush (pc := 46) dX12_grows_46 bipush_79 ?_
      refine aw_iload_n (pc := 48) (i := 1) dX12_grows_48 rfl rfl ?_
      refine an_add (pc := 49) dX12_grows_49 ?_
      refine ml_s (pc := 50) dX12_grows_50 (by omega) ?_
      refine an_add (pc := 51) dX12_grows_51 ?_
      refine ml_s (pc := 52) dX12_grows_52 (by omega) ?_
      refine an_if_le (pc := 53) (tgt := 60) dX12_grows_53 rfl (Nat.lt_trans (hb _) (by decide)) (fun h53 => ?_) (fun h53 => ?_)
      · -- 60
        refine aw_iconst (pc := 60) dX12_grows_60 iconst_0 ?_
        exact ab_ret0 (pc := 61) dX12_grows_61 rfl (Nat.le_refl _) (Nat.le_refl _) (by rw [show growsF (σ.2.1 6) q = false by simp [growsF]; omega] at kk; exact kk)
      · -- 56
        refine aw_iconst (pc := 56) dX12_grows_56 iconst_1 ?_
        refine aw_goto (pc := 57) (tgt := 61) dX12_grows_57 rfl ?_
        exact ab_ret1 (pc := 61) dX12_grows_61 rfl (Nat.le_refl _) (Nat.le_refl _) (by rw [show growsF (σ.2.1 6) q = true by simp [growsF]; omega] at kk; exact kk)
