theorem tc_372 : (Cond.constant "InchBordersModel" 372 (1000000 : Int32)) ∈ gtbl := gtbl_in (List.mem_of_getElem? (i := 1849) (by decide +kernel)) rfl
theorem tc_431 : (Cond.constant "InchBordersModel" 431 (1103515245 : Int32)) ∈ gtbl := gtbl_in (List.mem_of_getElem? (i := 1958) (by decide +kernel)) rfl
section ALD
variable {G : xG} {μ : xM} {d mc ms : Nat} {Q : xQ} {pc : Nat} {L : List (Option Value)} {st : List Value} {ws : va_W} {n k : Nat}
theorem aw_ldcw {idx : Nat} {v : Int32} (hd : decode μ.2.1 pc = .ok (.ldc_w idx, 3)) (hc : Cond.constant μ.1.cls idx v ∈ gtbl) (kk : AW G μ d mc ms Q (pc + 3) L (.int v :: st) ws n k) : AW G μ d mc ms Q pc L st ws n k := by
  intro p e s m args below meth c H locs A ls C hS hP hD hl
  exact lv_ldcw C.1 C.2.1 C.2.2.2.2.1 (C.2.2.2.2.2.1 _ hc) hd (kk p e s m args below meth c H locs A ls C hS hP hD hl)
end ALD
/-- in bounds, every number below b -/
def W2 (t : Nat → Nat) (b : Nat) : Prop := WT t ∧ ∀ j, t j < b
theorem W2_mono {t : Nat → Nat} {b c : Nat} (h : W2 t b) (hc : b ≤ c) : W2 t c := ⟨h.1, fun j => Nat.lt_of_lt_of_le (h.2 j) hc⟩
theorem WT_DK {t : Nat → Nat} (h : WT t) : DK t := by
  obtain ⟨hb, h0, h1, h2, hR, hP, hD, hC, hT⟩ := h
  exact ⟨hb, h2, fun q hq => by have := hP q hq; omega⟩
theorem whyX_lt0 {t : Nat → Nat} {q l : Nat} (h : whyX t q l = 0) : (sparedF t q).testBit l = true ∨ t (3 + l) < t (114 + q) := by
  unfold whyX whyBy at h
  split at h
  · omega
  · repeat' split at h
    all_goals first | omega | skip
    rename_i h5
    cases hs : (sparedF t q).testBit l
    · exact Or.inr (by simp only [hs, true_and] at h5; omega)
    · exact Or.inl rfl
theorem spared_home (t : Nat → Nat) (q : Nat) : (sparedF t q).testBit (t (79 + q)) = true := by
  unfold sparedF
  rw [Nat.testBit_or, Nat.testBit_two_pow_self, Bool.or_true]
/-- only places from 91 on change, and what they hold -/
theorem crossF_lo {t : Nat → Nat} {q l j : Nat} (hq : q < 6) (hl : l < 7) (hj : ¬ j = 92 ∧ ¬ (94 ≤ j ∧ j < 101) ∧ ¬ (108 ≤ j ∧ j < 138)) : crossF t q l j = t j := by
  unfold crossF
  split
  · unfold crossG
    rw [upN_n _ _ _ _ (by omega), upN_n _ _ _ _ (by omega), upN_n _ _ _ _ (by omega), upN_n _ _ _ _ (by omega), upN_n _ _ _ _ (by omega), upN_n _ _ _ _ (by omega)]
  · split
    · unfold crossG
      rw [upN_n _ _ _ _ (by omega), upN_n _ _ _ _ (by omega), upN_n _ _ _ _ (by omega)]
    · unfold crossG
      rw [upN_n _ _ _ _ (by omega), upN_n _ _ _ _ (by omega), upN_n _ _ _ _ (by omega), upN_n _ _ _ _ (by omega), upN_n _ _ _ _ (by omega), upN_n _ _ _ _ (by omega)]
theorem crossF_at {t : Nat → Nat} {q l p : Nat} (hq : q < 6) (hl : l < 7) (hp : p < 6) : crossF t q l (108 + p) = if p = q then l else t (108 + p) := by
  have hG : crossG t q l (108 + p) = if p = q then l else t (108 + p) := by
    unfold crossG
    rw [upN_n _ _ _ _ (by omega), upN_n _ _ _ _ (by omega)]
    by_cases h : p = q
    · subst h; rw [upN_s, if_pos rfl]
    · rw [upN_n _ _ _ _ (by omega), if_neg h]
  unfold crossF
  split
  · rw [upN_n _ _ _ _ (by omega), upN_n _ _ _ _ (by omega), upN_n _ _ _ _ (by omega), hG]
  · split
    · exact hG
    · rw [upN_n _ _ _ _ (by omega), upN_n _ _ _ _ (by omega), upN_n _ _ _ _ (by omega), hG]
theorem crossF_long {t : Nat → Nat} {q l p : Nat} (hq : q < 6) (hl : l < 7) (hp : p < 6) : crossF t q l (114 + p) = if p = q then (if l = t (79 + q) then t (114 + q) + givenF t l (t (114 + q)) (t (94 + l)) else if (sparedF t q).testBit l = true then t (114 + q) else t (114 + q) - t (3 + l)) else t (114 + p) := by
  have hG : crossG t q l (114 + p) = t (114 + p) := by
    unfold crossG
    rw [upN_n _ _ _ _ (by omega), upN_n _ _ _ _ (by omega), upN_n _ _ _ _ (by omega)]
  unfold crossF
  split
  · rename_i h1
    rw [upN_n _ _ _ _ (by omega)]
    by_cases h : p = q
    · subst h; rw [upN_s, if_pos rfl]
    · rw [upN_n _ _ _ _ (by omega), upN_n _ _ _ _ (by omega), hG, if_neg h]
  · rename_i h1
    split
    · rename_i h2
      rw [hG]
      by_cases h : p = q
      · subst h; rw [if_pos rfl]
      · rw [if_neg h]
    · rename_i h2
      rw [upN_n _ _ _ _ (by omega), upN_n _ _ _ _ (by omega)]
      by_cases h : p = q
      · subst h; rw [upN_s, if_pos rfl]
      · rw [upN_n _ _ _ _ (by omega), hG, if_neg h]
theorem crossF_lt {t : Nat → Nat} {q l b : Nat} (hb : ∀ j, t j < b) (hl : l < b) (h20 : t (3 + l) ≤ 20) (hg : t (10 + l) ≤ 20) : ∀ j, crossF t q l j < b + 21 := by
  have hb2 : ∀ j, t j < b + 21 := fun j => Nat.lt_of_lt_of_le (hb j) (by omega)
  have hG : ∀ j, crossG t q l j < b + 21 := upN_lt (upN_lt (upN_lt hb2 (by omega)) (by have := hb (132 + q); omega)) (by have := hb 92; omega)
  have hgv : givenF t l (t (114 + q)) (t (94 + l)) ≤ 20 := Nat.le_trans (Nat.min_le_left _ _) hg
  unfold crossF
  split
  · exact upN_lt (upN_lt (upN_lt hG (Nat.lt_of_le_of_lt (Nat.sub_le _ _) (hb2 _))) (by have := hb (114 + q); omega)) (by have := hb (126 + q); omega)
  · split
    · exact hG
    · exact upN_lt (upN_lt (upN_lt hG (Nat.lt_of_le_of_lt (Nat.sub_le _ _) (hb2 _))) (by have := hb (94 + l); omega)) (by have := hb (120 + q); omega)
/-- the map's small numbers -/
def W20 (t : Nat → Nat) : Prop := ∀ l, l < 7 → t (3 + l) ≤ 20 ∧ t (10 + l) ≤ 20
theorem W2_cross {t : Nat → Nat} {b q l : Nat} (H : W2 t b) (h20 : W20 t) (hb : b ≤ 2 ^ 29) (hb7 : 400 ≤ b) (hq : q < t 2) (hl : l < t 0) (hw : whyX t q l = 0) : W2 (crossF t q l) (b + 21) := by
  obtain ⟨⟨hb0, h0, h1, h2, hR, hP, hD, hC, hT⟩, hB⟩ := H
  have hlt := crossF_lt (q := q) hB (show l < b by omega) (h20 l (by omega)).1 (h20 l (by omega)).2
  have e := fun j hj => crossF_lo (t := t) (q := q) (l := l) (j := j) (by omega) (by omega) hj
  refine ⟨⟨fun j => Nat.lt_of_lt_of_le (hlt j) (by omega), by rw [e 0 (by omega)]; exact h0, by rw [e 1 (by omega)]; exact h1, by rw [e 2 (by omega)]; exact h2, fun r hr => ?_, fun p hp => ?_, by rw [e 91 (by omega)]; exact hD, by rw [e 93 (by omega), e 1 (by omega)]; exact hC, fun l2 hl2 => by rw [e _ (by omega)]; exact hT l2 hl2⟩, hlt⟩
  · rw [e 1 (by omega)] at hr
    rw [e 0 (by omega), e (24 + r) (by omega), e (36 + r) (by omega)]
    exact hR r hr
  · rw [e 2 (by omega)] at hp
    have hpp := hP p hp
    have hqq := hP q hq
    rw [e 0 (by omega), e (79 + p) (by omega), crossF_at (by omega) (by omega) (by omega), crossF_long (by omega) (by omega) (by omega)]
    refine ⟨hpp.1, by split <;> omega, ?_⟩
    by_cases h : p = q
    · rw [if_pos h]
      split
      · have : givenF t l (t (114 + q)) (t (94 + l)) ≤ 240 - t (114 + q) := Nat.le_trans (Nat.min_le_right _ _) (Nat.min_le_right _ _)
        omega
      · split
        · omega
        · rename_i h4
          rcases whyX_lt0 hw with h5 | h5
          · exact absurd h5 h4
          · omega
    · rw [if_neg h]
      omega
theorem W20_cross {t : Nat → Nat} {q l : Nat} (h20 : W20 t) (hq : q < 6) (hl : l < 7) : W20 (crossF t q l) := fun x hx => by
  rw [crossF_lo hq hl (by omega), crossF_lo hq hl (by omega)]
  exact h20 x hx
theorem dayG_long {t : Nat → Nat} : ∀ n, n ≤ 6 → (∀ q, q < n → t (79 + q) < 7) → (∀ q, q < 6 → t (114 + q) ≤ 240) → ∀ q, q < 6 → t (114 + q) ≤ dayG t n (114 + q) ∧ dayG t n (114 + q) ≤ 240 := by
  intro n
  induction n with
  | zero => intro _ _ h q hq; exact ⟨Nat.le_refl _, h q hq⟩
  | succ n ih =>
    intro hn hh h q hq
    have hi := ih (by omega) (fun q hq => hh q (by omega)) h q hq
    have ek := dayG_keep n (by omega) (fun q hq => hh q (by omega)) (79 + n) (by omega) (by omega)
    unfold dayG dayS
    split
    · rename_i hg
      rw [upN_n _ _ _ _ (by rw [ek]; have := hh n (by omega); omega)]
      by_cases hqn : q = n
      · subst hqn
        rw [upN_s]
        simp only [growsF, Bool.and_eq_true, decide_eq_true_eq] at hg
        omega
      · rw [upN_n _ _ _ _ (by omega)]
        exact hi
    · exact hi
theorem W2_day {t : Nat → Nat} {b : Nat} (H : W2 t b) (hb : 500 ≤ b) (h6 : ∀ q, q < 6 → t (114 + q) ≤ 240) (h9 : t 91 < 400) : W2 (dayF t) b ∧ ∀ q, q < 6 → dayF t (114 + q) ≤ 240 := by
  have hk := WT_DK H.1
  obtain ⟨⟨hb0, h0, h1, h2, hR, hP, hD, hC, hT⟩, hB⟩ := H
  have e := fun j hj => dayF_keep (j := j) hk hj
  have hg := dayG_long (t 2) h2 hk.2.2 h6
  have el : ∀ q, q < 6 → dayF t (114 + q) = dayG t (t 2) (114 + q) := fun q hq => by unfold dayF; rw [upN_n _ _ _ _ (by omega)]
  have ek : ∀ j, ¬ j = 91 → ¬ (114 ≤ j ∧ j < 120) → ¬ (94 ≤ j ∧ j < 101) → dayF t j = t j := fun j a b c => by unfold dayF; rw [upN_n _ _ _ _ a]; exact dayG_keep _ h2 hk.2.2 j b c
  have hlt : ∀ j, dayF t j < b := by
    unfold dayF
    exact upN_lt (dayG_lt hB (by omega) _) (by rw [dayG_91 hk]; omega)
  refine ⟨⟨⟨fun j => ?_, by rw [ek 0 (by omega) (by omega) (by omega)]; exact h0, by rw [ek 1 (by omega) (by omega) (by omega)]; exact h1, by rw [ek 2 (by omega) (by omega) (by omega)]; exact h2, fun r hr => ?_, fun p hp => ?_, by rw [dayF_91 hk]; omega, by rw [ek 93 (by omega) (by omega) (by omega), ek 1 (by omega) (by omega) (by omega)]; exact hC, fun l hl => by rw [ek _ (by omega) (by omega) (by omega)]; exact hT l hl⟩, hlt⟩, fun q hq => by rw [el q hq]; exact (hg q hq).2⟩
  · unfold dayF
    exact upN_lt (dayG_lt hb0 (by decide) _) (by rw [dayG_91 hk]; omega) j
  · rw [ek 1 (by omega) (by omega) (by omega)] at hr
    rw [ek 0 (by omega) (by omega) (by omega), ek (24 + r) (by omega) (by omega) (by omega), ek (36 + r) (by omega) (by omega) (by omega)]
    exact hR r hr
  · rw [ek 2 (by omega) (by omega) (by omega)] at hp
    rw [ek 0 (by omega) (by omega) (by omega), ek (79 + p) (by omega) (by omega) (by omega), ek (108 + p) (by omega) (by omega) (by omega), el p (by omega)]
    have h3 := hP p hp
    have h4 := hg p (by omega)
    omega

def W6 (t : Nat → Nat) : Prop := ∀ q, q < 6 → t (114 + q) ≤ 240
def WV (t : Nat → Nat) (b : Nat) : Prop := W2 t b ∧ W20 t ∧ W6 t
theorem WV_cross {t : Nat → Nat} {b q l : Nat} (H : WV t b) (hb : b ≤ 2 ^ 29) (hb7 : 500 ≤ b) (hq : q < t 2) (hl : l < t 0) (hw : whyX t q l = 0) : WV (crossF t q l) (b + 21) := by
  have h0 := H.1.1.2.1
  have h2 := H.1.1.2.2.2.1
  refine ⟨W2_cross H.1 H.2.1 hb (by omega) hq hl hw, W20_cross H.2.1 (by omega) (by omega), fun p hp => ?_⟩
  have hp2 := H.2.2 p hp
  rw [crossF_long (by omega) (by omega) hp]
  by_cases h : p = q
  · rw [if_pos h]
    subst h
    split
    · have : givenF t l (t (114 + p)) (t (94 + l)) ≤ 240 - t (114 + p) := Nat.le_trans (Nat.min_le_right _ _) (Nat.min_le_right _ _)
      omega
    · split <;> omega
  · rw [if_neg h]; exact hp2
theorem WV_day {t : Nat → Nat} {b : Nat} (H : WV t b) (hb : 500 ≤ b) (h9 : t 91 < 400) : WV (dayF t) b := by
  obtain ⟨h1, h2⟩ := W2_day H.1 hb H.2.2 h9
  refine ⟨h1, fun l hl => ?_, h2⟩
  have hk := WT_DK H.1.1
  rw [dayF_keep hk (by omega), dayF_keep hk (by omega)]
  exact H.2.1 l hl
theorem WV_mono {t : Nat → Nat} {b c : Nat} (H : WV t b) (h : b ≤ c) : WV t c := ⟨W2_mono H.1 h, H.2⟩
theorem WV_turn {t : Nat → Nat} {b r : Nat} (H : WV t b) (hb : 4096 ≤ b) (hr : r < t 1) : WV (upN t 93 (t 93 ^^^ 2 ^ r)) b := by
  obtain ⟨⟨⟨hb0, h0, h1, h2, hR, hP, hD, hC, hT⟩, hB⟩, h20, h6⟩ := H
  have e : ∀ j, ¬ j = 93 → upN t 93 (t 93 ^^^ 2 ^ r) j = t j := fun j hj => upN_n _ _ _ _ hj
  have hx : t 93 ^^^ 2 ^ r < 2 ^ t 1 := Nat.xor_lt_two_pow hC (Nat.pow_lt_pow_right (by decide) hr)
  have h12 : 2 ^ t 1 ≤ 4096 := Nat.pow_le_pow_right (n := 2) (by decide) h1
  refine ⟨⟨⟨upN_lt hb0 (by omega), by rw [e 0 (by omega)]; exact h0, by rw [e 1 (by omega)]; exact h1, by rw [e 2 (by omega)]; exact h2, fun r hr => ?_, fun q hq => ?_, by rw [e 91 (by omega)]; exact hD, by rw [upN_s, e 1 (by omega)]; exact hx, fun l hl => by rw [e _ (by omega)]; exact hT l hl⟩, upN_lt hB (by omega)⟩, fun l hl => by rw [e _ (by omega), e _ (by omega)]; exact h20 l hl, fun q hq => by rw [e _ (by omega)]; exact h6 q hq⟩
  · rw [e 1 (by omega)] at hr
    rw [e 0 (by omega), e _ (by omega), e _ (by omega)]
    exact hR r hr
  · rw [e 2 (by omega)] at hq
    rw [e 0 (by omega), e _ (by omega), e _ (by omega), e _ (by omega)]
    exact hP q hq
/-- draws -/
theorem sd_ex : ∃ f : Int32 → Int32, ∀ x, f x = x * 1103515245 + nI 12345 := ⟨fun x => x * 1103515245 + nI 12345, fun _ => rfl⟩
noncomputable def sdF : Int32 → Int32 := Classical.choose sd_ex
theorem sdF_eq (x : Int32) : sdF x = x * 1103515245 + nI 12345 := Classical.choose_spec sd_ex x
theorem dr_ex : ∃ f : Int32 → Nat → Nat, ∀ x n, f x n = (x * 1103515245 + nI 12345).toBitVec.toNat / 256 % n := ⟨fun x n => (x * 1103515245 + nI 12345).toBitVec.toNat / 256 % n, fun _ _ => rfl⟩
noncomputable def drN : Int32 → Nat → Nat := Classical.choose dr_ex
theorem drN_eq (x : Int32) (n : Nat) : drN x n = (x * 1103515245 + nI 12345).toBitVec.toNat / 256 % n := Classical.choose_spec dr_ex x n
noncomputable def perS (x : Int32 × (Nat → Nat)) (q : Nat) : Int32 × (Nat → Nat) := (sdF x.1, if whyX x.2 q (drN x.1 (x.2 0)) = 0 then crossF x.2 q (drN x.1 (x.2 0)) else x.2)
noncomputable def perG (x : Int32 × (Nat → Nat)) : Nat → Int32 × (Nat → Nat)
  | 0 => x
  | n + 1 => perS (perG x n) n
noncomputable def turD (x : Int32 × (Nat → Nat)) : Int32 × (Nat → Nat) := if drN x.1 4 = 0 then (if 0 < x.2 1 then (sdF (sdF x.1), upN x.2 93 (x.2 93 ^^^ 2 ^ drN (sdF x.1) (x.2 1))) else (sdF x.1, x.2)) else (sdF x.1, x.2)
noncomputable def dayD (x : Int32 × (Nat → Nat)) : Int32 × (Nat → Nat) := ((perG (turD x) ((turD x).2 2)).1, dayF (perG (turD x) ((turD x).2 2)).2)
noncomputable def drawsG : Nat → Int32 × (Nat → Nat) → Nat × (Int32 × (Nat → Nat))
  | 0, x => (0, x)
  | n + 1, x => if x.2 91 < 400 then ((drawsG n (dayD x)).1 + 1, (drawsG n (dayD x)).2) else (0, x)
def drS (σ : mS) (x : Int32 × (Nat → Nat)) : mS := mI (sN σ 6 x.2) 46 x.1
theorem ush8 (x : Int32) : (x.toUInt32 >>> ((nI 8).toUInt32 &&& Int32.toUInt32 31)).toInt32 = nI (x.toBitVec.toNat / 256) := by
  have h := pk_ushr x (nI 8) 8 (by decide)
  apply Int32.toBitVec_inj.mp
  apply BitVec.eq_of_toNat_eq
  rw [h]
  have : x.toBitVec.toNat < 2 ^ 32 := x.toBitVec.isLt
  exact (pk_tn (by omega)).symm
theorem drN_lt (x : Int32) {n : Nat} (h : 0 < n) : drN x n < n := by rw [drN_eq]; exact Nat.mod_lt _ h
theorem turD_1 {x : Int32 × (Nat → Nat)} (h : drN x.1 4 = 0) (h1 : 0 < x.2 1) : turD x = (sdF (sdF x.1), upN x.2 93 (x.2 93 ^^^ 2 ^ drN (sdF x.1) (x.2 1))) := by unfold turD; rw [if_pos h, if_pos h1]
theorem turD_2 {x : Int32 × (Nat → Nat)} (h : drN x.1 4 = 0) (h1 : ¬ 0 < x.2 1) : turD x = (sdF x.1, x.2) := by unfold turD; rw [if_pos h, if_neg h1]
theorem turD_3 {x : Int32 × (Nat → Nat)} (h : ¬ drN x.1 4 = 0) : turD x = (sdF x.1, x.2) := by unfold turD; rw [if_neg h]
theorem perG_keep {x : Int32 × (Nat → Nat)} {b : Nat} (hb : b + 126 ≤ 2 ^ 29) (hb5 : 500 ≤ b) (H : WV x.2 b) : ∀ n, n ≤ x.2 2 → WV (perG x n).2 (b + 21 * n) ∧ (perG x n).2 2 = x.2 2 ∧ (perG x n).2 0 = x.2 0 ∧ (perG x n).2 91 = x.2 91 ∧ ∀ j, ¬ (91 ≤ j ∧ j < 138) → (perG x n).2 j = x.2 j := by
  intro n
  induction n with
  | zero => intro _; exact ⟨H, rfl, rfl, rfl, fun _ _ => rfl⟩
  | succ n ih =>
    intro hn
    obtain ⟨h1, h2, h3, h4, h5⟩ := ih (by omega)
    have hn6 := H.1.1.2.2.2.1
    have h07 := H.1.1.2.1
    unfold perG perS
    dsimp only
    split
    · rename_i hw
      have hl : drN (perG x n).1 ((perG x n).2 0) < (perG x n).2 0 := by
        refine drN_lt _ ?_
        rw [h3]
        have := H.1.1.2.2.2.2.2.1 n (by omega)
        omega
      have hl7 : drN (perG x n).1 ((perG x n).2 0) < 7 := by rw [h3] at *; omega
      have e := fun j hj => crossF_lo (t := (perG x n).2) (q := n) (l := drN (perG x n).1 ((perG x n).2 0)) (j := j) (by omega) hl7 hj
      refine ⟨WV_mono (WV_cross h1 (by omega) (by omega) (by omega) hl hw) (by omega), by rw [e 2 (by omega)]; exact h2, by rw [e 0 (by omega)]; exact h3, by rw [e 91 (by omega)]; exact h4, fun j hj => by rw [e j (by omega)]; exact h5 j hj⟩
    · exact ⟨WV_mono h1 (by omega), h2, h3, h4, h5⟩
theorem turD_keep {x : Int32 × (Nat → Nat)} {b : Nat} (hb5 : 4096 ≤ b) (H : WV x.2 b) : WV (turD x).2 b ∧ (turD x).2 2 = x.2 2 ∧ (turD x).2 91 = x.2 91 ∧ (turD x).2 0 = x.2 0 ∧ ∀ j, ¬ (91 ≤ j ∧ j < 138) → (turD x).2 j = x.2 j := by
  by_cases h : drN x.1 4 = 0
  · by_cases h1 : 0 < x.2 1
    · rw [turD_1 h h1]
      have hr := drN_lt (sdF x.1) h1
      generalize drN (sdF x.1) (x.2 1) = r at hr
      generalize sdF (sdF x.1) = y
      exact ⟨WV_turn H hb5 hr, rfl, rfl, rfl, fun j hj => upN_n x.2 93 j (x.2 93 ^^^ 2 ^ r) (by omega)⟩
    · rw [turD_2 h h1]
      exact ⟨H, rfl, rfl, rfl, fun _ _ => rfl⟩
  · rw [turD_3 h]
    exact ⟨H, rfl, rfl, rfl, fun _ _ => rfl⟩
theorem dayD_keep {x : Int32 × (Nat → Nat)} {b : Nat} (hb : b + 126 ≤ 2 ^ 29) (hb5 : 4096 ≤ b) (H : WV x.2 b) (h9 : x.2 91 < 400) : WV (dayD x).2 (b + 126) ∧ (dayD x).2 91 = x.2 91 + 1 ∧ ∀ j, ¬ (91 ≤ j ∧ j < 138) → (dayD x).2 j = x.2 j := by
  obtain ⟨h1, h2, h3, h4, h5⟩ := turD_keep hb5 H
  obtain ⟨p1, p2, p3, p4, p5⟩ := perG_keep hb (by omega) h1 _ (Nat.le_refl _)
  have h6 := H.1.1.2.2.2.1
  have hv : WV (perG (turD x) ((turD x).2 2)).2 (b + 126) := WV_mono p1 (by omega)
  have hk := WT_DK hv.1.1
  refine ⟨WV_day hv (by omega) (by rw [p4, h3]; exact h9), ?_, fun j hj => ?_⟩
  · show dayF _ 91 = _
    rw [dayF_91 hk, p4, h3]
  · show dayF _ j = _
    rw [dayF_keep hk hj, p5 j hj, h5 j hj]

set_option maxHeartbeats 1000000 in
set_option maxRecDepth 20000 in
theorem s_draw {G : xG} {d : Nat} {Q : xQ} {a : Nat → Nat} {σ : mS} {n : Nat} (hn : 0 < n) (hn9 : n < 2 ^ 31) (kk : Q (some (.int (nI (drN (σ.1 46) n)))) (mW G.2.2.1 a (mI σ 46 (sdF (σ.1 46))))) : MT G MX12_draw (d) 0 0 [.ref (a 60), .int (nI n)] (mW G.2.2.1 a σ) Q := by
  refine mt_start (L := [some (.ref (a 60)), some (.int (nI n))]) rfl (Nat.le_of_ble_eq_true rfl) rfl ?_
  refine aw_aload_n (pc := 0) (i := 0) dX12_draw_0 rfl rfl ?_
  refine aw_aload_n (pc := 1) (i := 0) dX12_draw_1 rfl rfl ?_
  refine mg_seed (pc := 2) dX12_draw_2 rfl ?_
  refine aw_ldcw (pc := 5) dX12_draw_5 tc_431 ?_
  refine aw_imul (pc := 8) dX12_draw_8 ?_
  refine aw_sipush (pc := 9) dX12_draw_9 sipush_12345 ?_
  refine aw_iadd (pc := 12) dX12_draw_12 ?_
  refine mp_seed (pc := 13) dX12_draw_13 rfl ?_
  refine aw_aload_n (pc := 16) (i := 0) dX12_draw_16 rfl rfl ?_
  refine mg_seed (pc := 17) dX12_draw_17 rfl ?_
  refine aw_top (y := ((σ.1 46) * ((1103515245 : Int32))) + (nI 12345)) rfl ?_
  refine aw_bipush (pc := 20) dX12_draw_20 bipush_8 ?_
  refine aw_iushr (pc := 22) dX12_draw_22 ?_
  refine aw_top (y := nI (((σ.1 46) * 1103515245 + nI 12345).toBitVec.toNat / 256)) (ush8 _) ?_
  refine aw_iload_n (pc := 23) (i := 1) dX12_draw_23 rfl rfl ?_
  refine an_rem (pc := 24) dX12_draw_24 (by have := ((σ.1 46) * 1103515245 + nI 12345).toBitVec.isLt; omega) (by omega) (by omega) ?_
  exact aw_iret (pc := 25) dX12_draw_25 rfl (Nat.le_refl _) (Nat.le_refl _) (by rw [drN_eq, sdF_eq] at kk; exact kk)
