theorem orF_bit (p : Nat → Bool) : ∀ n q, q < n → (orF p n).testBit q = p q := by
  intro n
  induction n with
  | zero => intro q h; exact absurd h (Nat.not_lt_zero _)
  | succ n ih =>
    intro q hq
    have hz : (orF p n).testBit n = false := Nat.testBit_lt_two_pow (orF_lt p n)
    rw [orF]
    by_cases e : q = n
    · subst e
      split
      · rename_i h; rw [Nat.testBit_or, hz, Nat.testBit_two_pow_self, h]; rfl
      · rename_i h; rw [hz]; simpa using h
    · have := ih q (by omega)
      split
      · rw [Nat.testBit_or, this, Nat.testBit_two_pow_of_ne (by omega), Bool.or_false]
      · exact this
theorem nIxor (v e : Nat) : nI v ^^^ nI e = nI (v ^^^ e) := by
  apply Int32.toBitVec_inj.mp
  have q : ∀ z, (nI z).toBitVec = BitVec.ofNat 32 z := fun z => rfl
  rw [Int32.toBitVec_xor, q, q, q]
  apply BitVec.eq_of_getLsbD_eq
  intro i hi
  simp only [BitVec.getLsbD_xor, BitVec.getLsbD_ofNat, hi, decide_true, Bool.true_and, Nat.testBit_xor]
/-- the truths that lie open, in both -/
def OPN (κ : kS) (t : Nat → Nat) (U : Nat → Nat → Nat) (i tp : Nat) : Prop := ∀ j, j < tp → ∃ v, κ.2.1 6 j = nI v ∧ v < 2 ^ t 2 ∧ ∀ q, q < t 2 → v.testBit q = decide ((evF t q (U q) i).2 j = 1)
theorem kI_6n (κ : kS) (m j : Nat) (v : Int32) (h : ¬ j = m) : (kI κ 6 m v).2.1 6 j = κ.2.1 6 j := by
  show upN κ.2.1 6 (upN (κ.2.1 6) m v) 6 j = _
  rw [upN_s, upN_n _ _ _ _ h]
theorem OPN_put {κ : kS} {t : Nat → Nat} {U : Nat → Nat → Nat} {i tp tp' m v : Nat} (H : OPN κ t U i tp) (hm : m + 1 = tp') (hm2 : m ≤ tp) (hv : v < 2 ^ t 2) (hb : ∀ q, q < t 2 → v.testBit q = decide ((evF t q (U q) (i + 1)).2 m = 1)) (ho : ∀ q, q < t 2 → ∀ j, j < m → (evF t q (U q) (i + 1)).2 j = (evF t q (U q) i).2 j) : OPN (kI κ 6 m (nI v)) t U (i + 1) tp' := by
  intro j hj
  by_cases e : j = m
  · subst e; exact ⟨v, kI_s _ _ _ _, hv, hb⟩
  · obtain ⟨v9, a1, a2, a3⟩ := H j (by omega)
    exact ⟨v9, (kI_6n _ _ _ _ e).trans a1, a2, fun q hq => by rw [ho q hq j (by omega)]; exact a3 q hq⟩
theorem STq.kI6 {ad : Nat → Nat} {κ : kS} {f : Nat → Nat} {b i m : Nat} {v : Int32} (h : STq ad κ f b i) : STq ad (kI κ 6 m v) f b i := by
  obtain ⟨w, a1, a2, a3, a4, a5, a6⟩ := h
  exact ⟨w, a1, a2, a3, a4, by rw [kI_n _ _ _ _ _ (by decide)]; exact a5, by rw [kI_n _ _ _ _ _ (by decide)]; exact a6⟩
theorem ev_not {t : Nat → Nat} {q i m : Nat} {u : Nat → Nat} (hx : t (139 + 3 * i) = 20) (htp : (evF t q u i).1 = m + 1) : (evF t q u (i + 1)).2 = upN (evF t q u i).2 m (notV ((evF t q u i).2 m)) := by
  rw [evF]; unfold evS; rw [if_pos hx, htp]; rfl
theorem ev_and {t : Nat → Nat} {q i m : Nat} {u : Nat → Nat} (hx : t (139 + 3 * i) = 21) (htp : (evF t q u i).1 = m + 2) : (evF t q u (i + 1)).2 = upN (evF t q u i).2 m (andV ((evF t q u i).2 m) ((evF t q u i).2 (m + 1))) := by
  rw [evF]; unfold evS; rw [if_neg (by omega), if_pos hx, htp]; rfl
theorem ev_or {t : Nat → Nat} {q i m : Nat} {u : Nat → Nat} (hx : t (139 + 3 * i) = 22) (htp : (evF t q u i).1 = m + 2) : (evF t q u (i + 1)).2 = upN (evF t q u i).2 m (orV ((evF t q u i).2 m) ((evF t q u i).2 (m + 1))) := by
  rw [evF]; unfold evS; rw [if_neg (by omega), if_neg (by omega), if_pos hx, htp]; rfl
theorem ev_leaf {t : Nat → Nat} {q i m : Nat} {u : Nat → Nat} (hx : t (139 + 3 * i) ≤ 8) (htp : (evF t q u i).1 = m) : (evF t q u (i + 1)).2 = upN (evF t q u i).2 m (b1 (lfB t q (t (139 + 3 * i)) (t (139 + 3 * i + 1)) (t (139 + 3 * i + 2)))) := by
  rw [evF]; unfold evS; rw [if_neg (by omega), if_neg (by omega), if_neg (by omega), htp]
theorem dec_not {a : Nat} (h : a < 2) : decide (notV a = 1) = !decide (a = 1) := by
  rcases (show a = 0 ∨ a = 1 by omega) with rfl | rfl <;> rfl
theorem dec_and {a c : Nat} (h : a < 2) (h2 : c < 2) : decide (andV a c = 1) = (decide (a = 1) && decide (c = 1)) := by
  rcases (show a = 0 ∨ a = 1 by omega) with rfl | rfl <;> rcases (show c = 0 ∨ c = 1 by omega) with rfl | rfl <;> rfl
theorem dec_or {a c : Nat} (h : a < 2) (h2 : c < 2) : decide (orV a c = 1) = (decide (a = 1) || decide (c = 1)) := by
  rcases (show a = 0 ∨ a = 1 by omega) with rfl | rfl <;> rcases (show c = 0 ∨ c = 1 by omega) with rfl | rfl <;> rfl
theorem dec_b1 (b : Bool) : decide (b1 b = 1) = b := by cases b <;> rfl
theorem dp_need {f : Nat → Nat} {i tp w : Nat} (h : dpF f 139 i = some tp) (hs : ∃ n, dpF f 139 (i + 1) = some n) (hw : f (139 + 3 * i) = cwd w) (h1 : 12 ≤ w) (h2 : w < 24) : (w = 14 → 1 ≤ tp ∧ dpF f 139 (i + 1) = some tp) ∧ (w = 13 ∨ w = 12 → 2 ≤ tp ∧ dpF f 139 (i + 1) = some (tp - 1)) ∧ (15 ≤ w → dpF f 139 (i + 1) = some (tp + 1) ∧ (cwd w = 4 → f (139 + 3 * i + 2) < 7)) := by
  obtain ⟨n, hn⟩ := hs
  have e : dpF f 139 (i + 1) = dpS tp (cwd w) (f (139 + 3 * i + 2)) := by rw [dpF, h, hw]
  rw [e] at hn ⊢
  unfold dpS at *
  refine ⟨fun q => ?_, fun q => ?_, fun q => ?_⟩
  · subst q
    rw [if_pos (show cwd 14 = 20 from rfl)] at hn ⊢
    by_cases c : 1 ≤ tp
    · rw [if_pos c]; exact ⟨c, rfl⟩
    · rw [if_neg c] at hn; cases hn
  · have hc : cwd w = 21 ∨ cwd w = 22 := by rcases q with rfl | rfl; exact Or.inl rfl; exact Or.inr rfl
    rw [if_neg (by omega), if_pos hc] at hn ⊢
    by_cases c : 2 ≤ tp
    · rw [if_pos c]; exact ⟨c, rfl⟩
    · rw [if_neg c] at hn; cases hn
  · have hc := cwd_leaf q
    rw [if_neg (by omega), if_neg (by omega)] at hn ⊢
    by_cases c : cwd w ≤ 8 ∧ (cwd w = 4 → f (139 + 3 * i + 2) < 7)
    · rw [if_pos c]; exact ⟨rfl, c.2⟩
    · rw [if_neg c] at hn; cases hn
theorem dp_pos {f : Nat → Nat} : ∀ i n, dpF f 139 (i + 1) = some n → 1 ≤ n := by
  intro i
  induction i with
  | zero =>
    intro n h
    rw [dpF, dpF] at h
    change dpS 0 _ _ = _ at h
    unfold dpS at h
    split at h
    · rw [if_neg (by decide)] at h; cases h
    · split at h
      · rw [if_neg (by decide)] at h; cases h
      · split at h
        · cases h; decide
        · cases h
  | succ i ih =>
    intro n h
    rw [dpF] at h
    cases e : dpF f 139 (i + 1) with
    | none => rw [e] at h; cases h
    | some k =>
      rw [e] at h
      have hk := ih k e
      change dpS k _ _ = _ at h
      unfold dpS at h
      split at h
      · first
          | (cases h; exact hk)
          | (split at h; cases h; exact hk; cases h)
      · split at h
        · split at h
          · cases h; omega
          · cases h
        · split at h
          · cases h; omega
          · cases h
set_option maxHeartbeats 1000000 in
set_option maxRecDepth 20000 in
theorem sper_loop {G : xG} {d : Nat} {Q : xQ} {x ad b c : Nat → Nat} {tw ts : Nat} {R : va_W} {t : Nat → Nat} {NM : Nat → Int64} {sn : Option Nat} {U : Nat → Nat → Nat} {κX0 : kS} (hE : EB ad tw ts G) (hNB : NB G) (hS : STR G R b c sn t) (hC : CHR G R c t NM) (hw : WT t) (hK : SK t) (hU : ∀ q j, U q j < 2) (h138 : 1 ≤ t 138) (hX50 : κX0.1 5 = .int (nI (t 138))) (kk : ∀ v κX9, v < 2 ^ t 2 → (∀ q, q < t 2 → v.testBit q = decide ((evF t q (U q) (t 138)).2 0 = 1)) → (∀ k, κX9.1 k = κX0.1 k) → (∀ i, i < t 138 → STq ad κX9 t 139 i) → Q (some (.int (nI v))) (wSe G.2.2.1 x κX9 ++ R)) : ∀ (z i tp : Nat) (κX : kS) (o5 : Option Value), i + z = t 138 → (∀ k, κX.1 k = κX0.1 k) → (∀ i, i < t 138 → STq ad κX t 139 i) → dpF t 139 i = some tp → OPN κX t U i tp → AW G MX6_persons (d + 6) 0 0 Q 17 [some (.ref (x 8)), some (.ref (b 12)), some (.int (nI (2 ^ t 2 - 1))), some (.int (nI tp)), some (.int (nI i)), o5] [] (wSe G.2.2.1 x κX ++ R) 0 0 := by
  obtain ⟨hb, h0, h1, h2, hR, hP, hD, hCl, hT⟩ := id hw
  have hp7 : 2 ^ t 2 ≤ 2 ^ 6 := Nat.pow_le_pow_right (by decide) h2
  have hk4 := hK.1
  intro z
  induction z with
  | zero =>
    intro i tp κX o5 hi hF hSt hdp hO
    have hS9 : STR G (wSe G.2.2.1 x κX ++ R) b c sn t := hS.sub (fun x hx => List.mem_append_right _ hx)
    have hC9 : CHR G (wSe G.2.2.1 x κX ++ R) c t NM := hC.sub (fun x hx => List.mem_append_right _ hx)
    have hX5 : κX.1 5 = .int (nI (t 138)) := (hF 5).trans hX50
    have hle : tp ≤ i := by have := dpF_ev (q := 0) (u := U 0) hK.2.1 i (by omega); have h9 := ev_le (t := t) (q := 0) (u := U 0) i; rw [hdp] at this; have := Option.some.inj this; omega
    have htp : 1 ≤ tp := by obtain ⟨k9, rfl⟩ : ∃ k, i = k + 1 := ⟨i - 1, by omega⟩; exact dp_pos k9 tp hdp
    obtain ⟨v0, hv0, hb0, hq0⟩ := hO 0 (by omega)
    refine aw_iload (pc := 17) dX6_persons_17 rfl ?_
    refine aw_aload_n (pc := 19) (i := 0) dX6_persons_19 rfl rfl ?_
    refine pg_X6_24 (pc := 20) (v := .int (nI (t 138))) dX6_persons_20 rfl hX5 ?_
    refine an_icmp_ge (pc := 23) (tgt := 162) dX6_persons_23 rfl (by omega) (Nat.lt_trans (hb _) (by decide)) (fun h23 => ?_) (fun h23 => ?_)
    · -- 162
      refine aw_iload_n (pc := 162) (i := 3) dX6_persons_162 rfl rfl ?_
      refine an_if_le (pc := 163) (tgt := 175) dX6_persons_163 rfl (by omega) (fun h163 => ?_) (fun h163 => ?_)
      · -- 175
        exfalso; omega
      · -- 166
        refine aw_aload_n (pc := 166) (i := 0) dX6_persons_166 rfl rfl ?_
        refine pg_X6_28 (pc := 167) dX6_persons_167 rfl ?_
        refine aw_iconst (pc := 170) dX6_persons_170 iconst_0 ?_
        refine pl_X6_open (pc := 171) (x := (nI v0)) dX6_persons_171 (by decide) hv0 ?_
        refine aw_goto (pc := 172) (tgt := 176) dX6_persons_172 rfl ?_
        exact aw_iret (pc := 176) dX6_persons_176 rfl (Nat.le_refl _) (Nat.le_refl _) (kk v0 κX hb0 (by rw [show t 138 = i by omega]; exact hq0) hF hSt)
    · -- 26
      exfalso; omega
  | succ z ih =>
    intro i tp κX o5 hi hF hSt hdp hO
    have hS9 : STR G (wSe G.2.2.1 x κX ++ R) b c sn t := hS.sub (fun x hx => List.mem_append_right _ hx)
    have hC9 : CHR G (wSe G.2.2.1 x κX ++ R) c t NM := hC.sub (fun x hx => List.mem_append_right _ hx)
    have hX5 : κX.1 5 = .int (nI (t 138)) := (hF 5).trans hX50
    have hle : tp ≤ i := by have := dpF_ev (q := 0) (u := U 0) hK.2.1 i (by omega); have h9 := ev_le (t := t) (q := 0) (u := U 0) i; rw [hdp] at this; have := Option.some.inj this; omega
    obtain ⟨w, hw1, hw2, hwh, hcw, hy, hz⟩ := hSt i (by omega)
    have hnd := dp_need hdp (dpF_pre hK.2.1 (i + 1) (by omega)) hcw hw1 hw2
    have hev : ∀ q, (evF t q (U q) i).1 = tp := fun q => by have := dpF_ev (q := q) (u := U q) hK.2.1 i (by omega); rw [hdp] at this; exact (Option.some.inj this).symm
    have hlt : ∀ q j, (evF t q (U q) i).2 j < 2 := fun q => ev_lt (hU q) i
    refine aw_iload (pc := 17) dX6_persons_17 rfl ?_
    refine aw_aload_n (pc := 19) (i := 0) dX6_persons_19 rfl rfl ?_
    refine pg_X6_24 (pc := 20) (v := .int (nI (t 138))) dX6_persons_20 rfl hX5 ?_
    refine an_icmp_ge (pc := 23) (tgt := 162) dX6_persons_23 rfl (by omega) (Nat.lt_trans (hb _) (by decide)) (fun h23 => ?_) (fun h23 => ?_)
    · -- 162
      exfalso; omega
    · -- 26
      refine aw_aload_n (pc := 26) (i := 0) dX6_persons_26 rfl rfl ?_
      refine pg_X6_13 (pc := 27) dX6_persons_27 rfl ?_
      refine aw_iload (pc := 30) dX6_persons_30 rfl ?_
      refine pl_X6_what (pc := 32) (x := Option.map ad (some w)) dX6_persons_32 (by omega) hwh ?_
      refine aw_qstore (pc := 33) (i := 5) dX6_persons_33 (Nat.le_of_ble_eq_true rfl) rfl ?_
      refine aw_qload (pc := 35) dX6_persons_35 rfl ?_
      refine aw_gsw (pc := 37) (i := 14) dX6_persons_37 rfl hE (by decide) rfl gs_X6_92 ?_
      refine aw_wcmp_ne (pc := 40) (tgt := 62) dX6_persons_40 rfl hE (wOK_some hw2) (wOK_some (by decide)) (fun h40 => ?_) (fun h40 => ?_)
      · -- 62
        have n40 : ¬ w = 14 := fun e => h40 (by rw [e])
        refine aw_qload (pc := 62) dX6_persons_62 rfl ?_
        refine aw_gsw (pc := 64) (i := 13) dX6_persons_64 rfl hE (by decide) rfl gs_X6_79 ?_
        refine aw_wcmp_ne (pc := 67) (tgt := 98) dX6_persons_67 rfl hE (wOK_some hw2) (wOK_some (by decide)) (fun h67 => ?_) (fun h67 => ?_)
        · -- 98
          have n67 : ¬ w = 13 := fun e => h67 (by rw [e])
          refine aw_qload (pc := 98) dX6_persons_98 rfl ?_
          refine aw_gsw (pc := 100) (i := 12) dX6_persons_100 rfl hE (by decide) rfl gs_X6_66 ?_
          refine aw_wcmp_ne (pc := 103) (tgt := 134) dX6_persons_103 rfl hE (wOK_some hw2) (wOK_some (by decide)) (fun h103 => ?_) (fun h103 => ?_)
          · -- 134
            have n103 : ¬ w = 12 := fun e => h103 (by rw [e])
            have h15 : 15 ≤ w := by omega
            refine aw_iload_n (pc := 134) (i := 3) dX6_persons_134 rfl rfl ?_
            refine aw_bipush (pc := 135) dX6_persons_135 bipush_40 ?_
            refine an_icmp_ge (pc := 137) (tgt := 156) dX6_persons_137 rfl (by omega) (by decide) (fun h137 => ?_) (fun h137 => ?_)
            · -- 156
              exfalso; omega
            · -- 140
              refine aw_aload_n (pc := 140) (i := 0) dX6_persons_140 rfl rfl ?_
              refine pg_X6_28 (pc := 141) dX6_persons_141 rfl ?_
              refine aw_iload_n (pc := 144) (i := 3) dX6_persons_144 rfl rfl ?_
              refine aw_aload_n (pc := 145) (i := 0) dX6_persons_145 rfl rfl ?_
              refine aw_aload_n (pc := 146) (i := 1) dX6_persons_146 rfl rfl ?_
              refine aw_iload (pc := 147) dX6_persons_147 rfl ?_
              refine cVi (pc := 149) (As := [.ref (b 12), .int (nI i)]) (rest := [.int (nI tp), .ref (x 6)]) dX6_persons_149 rfl oc_X6_138 rfl rfl (Nat.le_of_ble_eq_true rfl) rfl rfl ovX6 (Nat.le_refl _) (Nat.le_refl _) (c6_by hE hNB hS hC hw (by omega) hy hz (by have := hK.2.2 (3 * i + 1) (by omega); rw [show 139 + 3 * i + 1 = 139 + (3 * i + 1) by omega]; exact this) (by have := hK.2.2 (3 * i + 2) (by omega); rw [show 139 + 3 * i + 2 = 139 + (3 * i + 2) by omega]; exact this) hwh h15 hw2 (hnd.2.2 h15).2 ⟨_, rfl, ?_⟩)
              refine ps_X6_open (pc := 152) dX6_persons_152 (by omega) ?_
              refine an_inc (pc := 153) (z := 1) dX6_persons_153 rfl (Nat.le_of_ble_eq_true rfl) rfl ?_
              refine an_inc (pc := 156) (z := 1) dX6_persons_156 rfl (Nat.le_of_ble_eq_true rfl) rfl ?_
              refine aw_goto (pc := 159) (tgt := 17) dX6_persons_159 rfl ?_
              have hx8 : t (139 + 3 * i) ≤ 8 := by rw [hcw, cwd_leaf h15]; omega
              refine ih (i + 1) (tp + 1) _ _ (by omega) hF (fun k hk => (hSt k hk).kI6) (hnd.2.2 h15).1 (OPN_put hO rfl (Nat.le_refl _) (orF_lt _ _) (fun q hq => ?_) (fun q hq j hj => by rw [ev_leaf hx8 (hev q), upN_n _ _ _ _ (by omega)]))
              rw [ev_leaf hx8 (hev q), upN_s, dec_b1, hcw]
              exact orF_bit _ (t 2) q hq
          · -- 106
            obtain rfl : w = 12 := Option.some.inj h103
            refine aw_iload_n (pc := 106) (i := 3) dX6_persons_106 rfl rfl ?_
            refine aw_iconst (pc := 107) dX6_persons_107 iconst_1 ?_
            refine an_icmp_le (pc := 108) (tgt := 134) dX6_persons_108 rfl (by omega) (by decide) (fun h108 => ?_) (fun h108 => ?_)
            · -- 134
              exfalso; have := (hnd.2.1 (by decide)).1; omega
            · -- 111
              obtain ⟨m, rfl⟩ : ∃ m, tp = m + 2 := ⟨tp - 2, by omega⟩
              obtain ⟨v1, hv1, hb1, hq1⟩ := hO m (by omega)
              obtain ⟨v2, hv2, hb2, hq2⟩ := hO (m + 1) (by omega)
              refine an_dec (pc := 111) (v := (-1 : Int32)) (y := nI ((m + 2) - 1)) dX6_persons_111 rfl (by decide) (nI_dec (by omega)) (Nat.le_of_ble_eq_true rfl) rfl ?_
              refine aw_L (L9 := [some (.ref (x 8)), some (.ref (b 12)), some (.int (nI (2 ^ t 2 - 1))), some (.int (nI (m + 1))), some (.int (nI i)), some (va_rf (Option.map ad (some 12)))]) rfl ?_
              refine aw_aload_n (pc := 114) (i := 0) dX6_persons_114 rfl rfl ?_
              refine pg_X6_28 (pc := 115) dX6_persons_115 rfl ?_
              refine aw_iload_n (pc := 118) (i := 3) dX6_persons_118 rfl rfl ?_
              refine aw_iconst (pc := 119) dX6_persons_119 iconst_1 ?_
              refine an_sub (pc := 120) dX6_persons_120 (by omega) ?_
              refine aw_top (y := (nI m)) rfl ?_
              refine aw_dup2 (pc := 121) dX6_persons_121 rfl rfl ?_
              refine pl_X6_open (pc := 122) (x := (nI v1)) dX6_persons_122 (by omega) hv1 ?_
              refine aw_aload_n (pc := 123) (i := 0) dX6_persons_123 rfl rfl ?_
              refine pg_X6_28 (pc := 124) dX6_persons_124 rfl ?_
              refine aw_iload_n (pc := 127) (i := 3) dX6_persons_127 rfl rfl ?_
              refine pl_X6_open (pc := 128) (x := (nI v2)) dX6_persons_128 (by omega) hv2 ?_
              refine aw_ior (pc := 129) dX6_persons_129 ?_
              refine aw_top (y := (nI (v1 ||| v2))) (nI_or _ _ (by omega) (by omega)) ?_
              refine ps_X6_open (pc := 130) dX6_persons_130 (by omega) ?_
              refine aw_goto (pc := 131) (tgt := 156) dX6_persons_131 rfl ?_
              refine an_inc (pc := 156) (z := 1) dX6_persons_156 rfl (Nat.le_of_ble_eq_true rfl) rfl ?_
              refine aw_goto (pc := 159) (tgt := 17) dX6_persons_159 rfl ?_
              refine ih (i + 1) (m + 1) _ _ (by omega) hF (fun k hk => (hSt k hk).kI6) (hnd.2.1 (by decide)).2 (OPN_put hO rfl (by omega) (Nat.or_lt_two_pow hb1 hb2) (fun q hq => ?_) (fun q hq j hj => by rw [ev_or hcw (hev q), upN_n _ _ _ _ (by omega)]))
              rw [ev_or hcw (hev q), upN_s, dec_or (hlt q m) (hlt q (m + 1)), Nat.testBit_or, hq1 q hq, hq2 q hq]
        · -- 70
          obtain rfl : w = 13 := Option.some.inj h67
          refine aw_iload_n (pc := 70) (i := 3) dX6_persons_70 rfl rfl ?_
          refine aw_iconst (pc := 71) dX6_persons_71 iconst_1 ?_
          refine an_icmp_le (pc := 72) (tgt := 98) dX6_persons_72 rfl (by omega) (by decide) (fun h72 => ?_) (fun h72 => ?_)
          · -- 98
            exfalso; have := (hnd.2.1 (by decide)).1; omega
          · -- 75
            obtain ⟨m, rfl⟩ : ∃ m, tp = m + 2 := ⟨tp - 2, by omega⟩
            obtain ⟨v1, hv1, hb1, hq1⟩ := hO m (by omega)
            obtain ⟨v2, hv2, hb2, hq2⟩ := hO (m + 1) (by omega)
            refine an_dec (pc := 75) (v := (-1 : Int32)) (y := nI ((m + 2) - 1)) dX6_persons_75 rfl (by decide) (nI_dec (by omega)) (Nat.le_of_ble_eq_true rfl) rfl ?_
            refine aw_L (L9 := [some (.ref (x 8)), some (.ref (b 12)), some (.int (nI (2 ^ t 2 - 1))), some (.int (nI (m + 1))), some (.int (nI i)), some (va_rf (Option.map ad (some 13)))]) rfl ?_
            refine aw_aload_n (pc := 78) (i := 0) dX6_persons_78 rfl rfl ?_
            refine pg_X6_28 (pc := 79) dX6_persons_79 rfl ?_
            refine aw_iload_n (pc := 82) (i := 3) dX6_persons_82 rfl rfl ?_
            refine aw_iconst (pc := 83) dX6_persons_83 iconst_1 ?_
            refine an_sub (pc := 84) dX6_persons_84 (by omega) ?_
            refine aw_top (y := (nI m)) rfl ?_
            refine aw_dup2 (pc := 85) dX6_persons_85 rfl rfl ?_
            refine pl_X6_open (pc := 86) (x := (nI v1)) dX6_persons_86 (by omega) hv1 ?_
            refine aw_aload_n (pc := 87) (i := 0) dX6_persons_87 rfl rfl ?_
            refine pg_X6_28 (pc := 88) dX6_persons_88 rfl ?_
            refine aw_iload_n (pc := 91) (i := 3) dX6_persons_91 rfl rfl ?_
            refine pl_X6_open (pc := 92) (x := (nI v2)) dX6_persons_92 (by omega) hv2 ?_
            refine aw_iand (pc := 93) dX6_persons_93 ?_
            refine aw_top (y := (nI (v1 &&& v2))) (nI_and _ _ (by omega) (by omega)) ?_
            refine ps_X6_open (pc := 94) dX6_persons_94 (by omega) ?_
            refine aw_goto (pc := 95) (tgt := 156) dX6_persons_95 rfl ?_
            refine an_inc (pc := 156) (z := 1) dX6_persons_156 rfl (Nat.le_of_ble_eq_true rfl) rfl ?_
            refine aw_goto (pc := 159) (tgt := 17) dX6_persons_159 rfl ?_
            refine ih (i + 1) (m + 1) _ _ (by omega) hF (fun k hk => (hSt k hk).kI6) (hnd.2.1 (by decide)).2 (OPN_put hO rfl (by omega) (Nat.and_lt_two_pow _ hb2) (fun q hq => ?_) (fun q hq j hj => by rw [ev_and hcw (hev q), upN_n _ _ _ _ (by omega)]))
            rw [ev_and hcw (hev q), upN_s, dec_and (hlt q m) (hlt q (m + 1)), Nat.testBit_and, hq1 q hq, hq2 q hq]
      · -- 43
        obtain rfl : w = 14 := Option.some.inj h40
        refine aw_iload_n (pc := 43) (i := 3) dX6_persons_43 rfl rfl ?_
        refine an_if_le (pc := 44) (tgt := 62) dX6_persons_44 rfl (by omega) (fun h44 => ?_) (fun h44 => ?_)
        · -- 62
          exfalso; have := (hnd.1 rfl).1; omega
        · -- 47
          obtain ⟨m, rfl⟩ : ∃ m, tp = m + 1 := ⟨tp - 1, by omega⟩
          obtain ⟨v1, hv1, hb1, hq1⟩ := hO m (by omega)
          refine aw_aload_n (pc := 47) (i := 0) dX6_persons_47 rfl rfl ?_
          refine pg_X6_28 (pc := 48) dX6_persons_48 rfl ?_
          refine aw_iload_n (pc := 51) (i := 3) dX6_persons_51 rfl rfl ?_
          refine aw_iconst (pc := 52) dX6_persons_52 iconst_1 ?_
          refine an_sub (pc := 53) dX6_persons_53 (by omega) ?_
          refine aw_top (y := (nI m)) rfl ?_
          refine aw_dup2 (pc := 54) dX6_persons_54 rfl rfl ?_
          refine pl_X6_open (pc := 55) (x := (nI v1)) dX6_persons_55 (by omega) hv1 ?_
          refine aw_iload_n (pc := 56) (i := 2) dX6_persons_56 rfl rfl ?_
          refine aw_ixor (pc := 57) dX6_persons_57 ?_
          refine aw_top (y := (nI (v1 ^^^ (2 ^ t 2 - 1)))) (nIxor _ _) ?_
          refine ps_X6_open (pc := 58) dX6_persons_58 (by omega) ?_
          refine aw_goto (pc := 59) (tgt := 156) dX6_persons_59 rfl ?_
          refine an_inc (pc := 156) (z := 1) dX6_persons_156 rfl (Nat.le_of_ble_eq_true rfl) rfl ?_
          refine aw_goto (pc := 159) (tgt := 17) dX6_persons_159 rfl ?_
          refine ih (i + 1) (m + 1) _ _ (by omega) hF (fun k hk => (hSt k hk).kI6) (hnd.1 rfl).2 (OPN_put hO rfl (by omega) (Nat.xor_lt_two_pow hb1 (by omega)) (fun q hq => ?_) (fun q hq j hj => by rw [ev_not hcw (hev q), upN_n _ _ _ _ (by omega)]))
          rw [ev_not hcw (hev q), upN_s, dec_not (hlt q m), Nat.testBit_xor, hq1 q hq, Nat.testBit_two_pow_sub_one, decide_eq_true hq, Bool.xor_true]
set_option maxHeartbeats 1000000 in
set_option maxRecDepth 20000 in
theorem c6_persons {G : xG} {d : Nat} {Q : xQ} {x ad b c : Nat → Nat} {tw ts : Nat} {R : va_W} {t : Nat → Nat} {NM : Nat → Int64} {sn : Option Nat} {U : Nat → Nat → Nat} {κX : kS} (hE : EB ad tw ts G) (hNB : NB G) (hS : STR G R b c sn t) (hC : CHR G R c t NM) (hw : WT t) (hK : SK t) (hU : ∀ q j, U q j < 2) (h138 : 1 ≤ t 138) (hX5 : κX.1 5 = .int (nI (t 138))) (hSt : ∀ i, i < t 138 → STq ad κX t 139 i) (kk : ∀ v κX9, v < 2 ^ t 2 → (∀ q, q < t 2 → v.testBit q = decide ((evF t q (U q) (t 138)).2 0 = 1)) → (∀ k, κX9.1 k = κX.1 k) → (∀ i, i < t 138 → STq ad κX9 t 139 i) → Q (some (.int (nI v))) (wSe G.2.2.1 x κX9 ++ R)) : MT G MX6_persons (d + 6) 0 0 [.ref (x 8), .ref (b 12)] (wSe G.2.2.1 x κX ++ R) Q := by
  obtain ⟨hb, h0, h1, h2, hR, hP, hD, hCl, hT⟩ := id hw
  have hC9 : CHR G (wSe G.2.2.1 x κX ++ R) c t NM := hC.sub (fun x hx => List.mem_append_right _ hx)
  obtain ⟨sd, hSo, hS2, hS3, hS6, hS7, hS8, hS9a, hS10⟩ := hS.sub (R' := wSe G.2.2.1 x κX ++ R) (fun x hx => List.mem_append_right _ hx)
  refine mt_start (L := [some (.ref (x 8)), some (.ref (b 12)), none, none, none, none]) rfl (Nat.le_of_ble_eq_true rfl) rfl ?_
  refine aw_iconst (pc := 0) dX6_persons_0 iconst_1 ?_
  refine aw_aload_n (pc := 1) (i := 1) dX6_persons_1 rfl rfl ?_
  refine av_get (pc := 2) (x := .ref (c 13)) dX6_persons_2 rfl og_X6_130 rfl hSo rfl ?_
  refine av_get (pc := 5) (x := .int (nI (t 2))) dX6_persons_5 rfl og_X6_133 rfl hC9.ov rfl ?_
  refine aw_ishl (pc := 8) dX6_persons_8 ?_
  refine aw_top (y := (nI (2 ^ t 2))) (nI_1shl (by omega)) ?_
  refine aw_iconst (pc := 9) dX6_persons_9 iconst_1 ?_
  refine an_sub (pc := 10) dX6_persons_10 (Nat.one_le_two_pow) ?_
  refine aw_istore_n (pc := 11) (i := 2) dX6_persons_11 rfl (Nat.le_of_ble_eq_true rfl) rfl ?_
  refine aw_iconst (pc := 12) dX6_persons_12 iconst_0 ?_
  refine aw_istore_n (pc := 13) (i := 3) dX6_persons_13 rfl (Nat.le_of_ble_eq_true rfl) rfl ?_
  refine aw_iconst (pc := 14) dX6_persons_14 iconst_0 ?_
  refine aw_istore (pc := 15) (i := 4) dX6_persons_15 (Nat.le_of_ble_eq_true rfl) rfl ?_
  exact sper_loop hE hNB hS hC hw hK hU h138 hX5 kk (t 138) 0 0 κX _ (by omega) (fun _ => rfl) hSt rfl (fun j hj => absurd hj (Nat.not_lt_zero _))
