theorem p8 (n : Nat) : 1 ≤ 8 ^ n := by
  induction n with
  | zero => decide
  | succ n ih => rw [Nat.pow_succ]; omega
theorem mem_ap2 {X Y R : va_W} : ∀ x ∈ R, x ∈ X ++ (Y ++ R) := fun _ h => List.mem_append_right _ (List.mem_append_right _ h)
theorem toll_nTl {t : Nat → Nat} {l hm sp : Nat} : nTl t (sp ||| 2 ^ hm) l = tollF t l hm sp := by
  unfold nTl tollF
  rw [tb_or]
  by_cases e : l = hm
  · simp [e]
  · simp [e]
theorem gift_nGv {t : Nat → Nat} {l hm st m : Nat} : nGv t hm l m st = giftF t l hm st m := rfl
theorem giftF_le {t : Nat → Nat} {l hm st m : Nat} : giftF t l hm st m ≤ st ∧ giftF t l hm st m ≤ 240 - m := by
  unfold giftF givenF
  split
  · omega
  · omega
theorem tollF_lt {t : Nat → Nat} {l hm sp : Nat} (hb : ∀ j, t j < 2 ^ 30) : tollF t l hm sp < 2 ^ 30 := by
  unfold tollF
  split
  · decide
  · split
    · decide
    · exact hb _
theorem stN_some {t : Nat → Nat} {l hm sp : Nat} {v : nD} (h1 : 1 ≤ v.2.1) (h : chWhy t v.1 l v.2.1 (tollF t l hm sp) (t 93) = 0) : tollF t l hm sp < v.2.1 ∧ stN t hm (sp ||| 2 ^ hm) v l = some (l, v.2.1 - tollF t l hm sp + giftF t l hm v.2.2 v.2.1, v.2.2 - giftF t l hm v.2.2 v.2.1) := by
  have hlt : tollF t l hm sp < v.2.1 := by
    apply Classical.byContradiction
    intro q
    unfold chWhy at h
    split at h
    · cases h
    · rw [if_pos (show v.2.1 ≤ tollF t l hm sp by omega)] at h
      split at h
      · cases h
      · split at h
        · cases h
        · split at h
          · cases h
          · cases h
  refine ⟨hlt, ?_⟩
  unfold stN
  rw [whyBy_ch h1, if_pos h, toll_nTl, gift_nGv, show v.2.1 + giftF t l hm v.2.2 v.2.1 - tollF t l hm sp = v.2.1 - tollF t l hm sp + giftF t l hm v.2.2 v.2.1 by omega]
theorem stN_none {t : Nat → Nat} {l hm sp : Nat} {v : nD} (h1 : 1 ≤ v.2.1) (h : 0 < chWhy t v.1 l v.2.1 (tollF t l hm sp) (t 93)) : stN t hm (sp ||| 2 ^ hm) v l = none := by
  unfold stN
  rw [whyBy_ch h1, if_neg (by omega)]
theorem gLp_n {F : nD → List Nat → wA → wA} {t : Nat → Nat} {hm sp g tg P : Nat} {v : nD} {pa : List Nat} (hF : ∀ u p A, (F u p A).2.2.1 ≤ A.2.2.1 + P) : ∀ n l A, (gLp F t hm sp g tg v pa n l A).2.2.1 ≤ A.2.2.1 + n * P := by
  intro n
  induction n with
  | zero => intro l A; exact Nat.le_add_right _ _
  | succ n ih =>
    intro l A
    rw [gLp, Nat.succ_mul]
    split
    · split
      · have := ih (l + 1) A; omega
      · split
        · have := ih (l + 1) A; omega
        · rename_i u _
          have h1 := ih (l + 1) (F u (pa ++ [l]) A)
          have h2 := hF u (pa ++ [l]) A
          omega
    · omega
theorem gW_n {t : Nat → Nat} {hm sp g tg nd : Nat} (h0 : t 0 ≤ 7) : ∀ f v pa A, (gW t hm sp g tg nd f v pa A).2.2.1 ≤ A.2.2.1 + 8 ^ (f + 1) := by
  intro f
  induction f with
  | zero =>
    intro v pa A
    have := lookA_n (g := g) (tg := tg) (nd := nd) (A := A) (v := v) (pa := pa)
    rw [gW]
    omega
  | succ f ih =>
    intro v pa A
    have h1 := lookA_n (g := g) (tg := tg) (nd := nd) (A := A) (v := v) (pa := pa)
    have h2 := gLp_n (F := gW t hm sp g tg nd f) (t := t) (hm := hm) (sp := sp) (g := g) (tg := tg) (v := v) (pa := pa) ih (t 0) 0 (lookA g tg nd v pa A)
    have h3 : t 0 * 8 ^ (f + 1) ≤ 7 * 8 ^ (f + 1) := Nat.mul_le_mul_right _ h0
    have h4 : 1 ≤ 8 ^ (f + 1) := p8 _
    have h5 : 8 ^ (f + 1 + 1) = 8 * 8 ^ (f + 1) := by rw [Nat.pow_succ, Nat.mul_comm]
    rw [gW]
    omega
theorem WKp.pre {pa : List Nat} {l : Nat} {κ : kS} (h : WKp (pa ++ [l]) κ) : WKp pa κ := fun i hi => by
  have := h i (by rw [List.length_append]; exact Nat.lt_add_right _ hi)
  rw [this]
  congr 1
  simp [List.getElem?_append_left hi]
theorem WKp.put {pa : List Nat} {l : Nat} {κ : kS} (h : WKp pa κ) : WKp (pa ++ [l]) (kI κ 8 pa.length (nI l)) := fun i hi => by
  show upN κ.2.1 8 (upN (κ.2.1 8) pa.length (nI l)) 8 i = _
  rw [List.length_append] at hi
  rw [upN_s]
  by_cases e : i = pa.length
  · subst e; rw [upN_s]; simp
  · have h9 : i < pa.length := by simp at hi; omega
    rw [upN_n _ _ _ _ e, h i h9]
    congr 1
    simp [List.getElem?_append_left h9]
set_option maxHeartbeats 1000000 in
set_option maxRecDepth 20000 in
theorem go_loop {G : xG} {d f : Nat} {Q : xQ} {a c e : Nat → Nat} {R : va_W} {t : Nat → Nat} {NM : Nat → Int64} {hm sp g tg nd K : Nat} (hN : NB G) (hC : CHR G R c t NM) (hw : WT t) (hhm : hm < 7) (hsp : sp < 128) (hg : g ≤ 2) (htg : tg < 2 ^ 31) (hnd : nd < 2 ^ 31) (hK : K ≤ 6) (IH : ∀ (Q : xQ) (v : nD) (pa : List Nat) (A : wA) (κ κr : kS) (dp : Nat), pa.length = dp → dp + f + 1 = K → WKc c e t hm sp g tg nd κ → WKa A κ κr → WKp pa κ → WKb K A → A.2.2.1 + 8 ^ (f + 1) ≤ 2 ^ 20 → v.1 < t 0 → 1 ≤ v.2.1 → v.2.1 ≤ 240 → v.2.2 < 2 ^ 30 → (∀ κ9 κr9, WKc c e t hm sp g tg nd κ9 → WKa (gW t hm (sp ||| 2 ^ hm) g tg nd (f) v pa A) κ9 κr9 → WKb K (gW t hm (sp ||| 2 ^ hm) g tg nd (f) v pa A) → WKp pa κ9 → Q none (wWk G.2.2.1 a κ9 ++ (wRw G.2.2.1 e 5 κr9 ++ R))) → MT G MX9_goOn (d + f + 4) 0 0 [.ref (a 13), .int (nI v.1), .int (nI v.2.1), .int (nI v.2.2), .int (nI dp)] (wWk G.2.2.1 a κ ++ (wRw G.2.2.1 e 5 κr ++ R)) Q) {v : nD} {pa : List Nat} (hpK : pa.length + f + 2 = K) (hv0 : v.1 < t 0) (hv1 : 1 ≤ v.2.1) (hv2 : v.2.1 ≤ 240) (hv3 : v.2.2 < 2 ^ 30) : ∀ (n l : Nat) (A : wA) (κ κr : kS) (o6 o7 : Option Value), l + n = t 0 → WKc c e t hm sp g tg nd κ → WKa A κ κr → WKp pa κ → WKb K A → A.2.2.1 + n * 8 ^ (f + 1) ≤ 2 ^ 20 → (∀ κ9 κr9, WKc c e t hm sp g tg nd κ9 → WKa (gLp (gW t hm (sp ||| 2 ^ hm) g tg nd f) t hm (sp ||| 2 ^ hm) g tg v pa n l A) κ9 κr9 → WKb K (gLp (gW t hm (sp ||| 2 ^ hm) g tg nd f) t hm (sp ||| 2 ^ hm) g tg v pa n l A) → WKp pa κ9 → Q none (wWk G.2.2.1 a κ9 ++ (wRw G.2.2.1 e 5 κr9 ++ R))) → AW G MX9_goOn (d + f + 4 + 1) 0 0 Q 11 [some (.ref (a 13)), some (.int (nI v.1)), some (.int (nI v.2.1)), some (.int (nI v.2.2)), some (.int (nI pa.length)), some (.int (nI l)), o6, o7] [] (wWk G.2.2.1 a κ ++ (wRw G.2.2.1 e 5 κr ++ R)) 0 0 := by
  obtain ⟨hb, h0, h1, h2, hR, hP, hD, hCl, hT⟩ := id hw
  intro n
  induction n with
  | zero =>
    intro l A κ κr o6 o7 hl hWc hWa hWp hWb hB kk
    refine aw_iload (pc := 11) dX9_goOn_11 rfl ?_
    refine aw_aload_n (pc := 13) (i := 0) dX9_goOn_13 rfl rfl ?_
    refine pg_X9_55 (pc := 14) (v := .ref (c 13)) dX9_goOn_14 rfl hWc.1 ?_
    refine av_get (pc := 17) (x := .int (nI (t 0))) dX9_goOn_17 rfl og_X9_91 rfl (hC.sub mem_ap2).ov rfl ?_
    refine an_icmp_ge (pc := 20) (tgt := 164) dX9_goOn_20 rfl (by omega) (Nat.lt_trans (hb _) (by decide)) (fun h20 => ?_) (fun h20 => ?_)
    · -- 164
      exact aw_vret (pc := 164) dX9_goOn_164 rfl (Nat.le_refl _) (Nat.le_refl _) (kk _ _ hWc hWa hWb hWp)
    · -- 23
      exfalso; omega
  | succ n ih =>
    intro l A κ κr o6 o7 hl hWc hWa hWp hWb hB kk
    rw [Nat.succ_mul] at hB
    have h8 := p8 (f + 1)
    have hA6 : A.1 ≤ 6 := Nat.le_trans hWb.1 hK
    have htl := tollF_lt (l := l) (hm := hm) (sp := sp) hb
    have hgl := giftF_le (t := t) (l := l) (hm := hm) (st := v.2.2) (m := v.2.1)
    have hbody : pa.length + 1 < A.1 → ¬ (g = 0 ∧ pa.length + 2 = A.1 ∧ ¬ l = tg) → AW G MX9_goOn (d + f + 4 + 1) 0 0 Q 72 [some (.ref (a 13)), some (.int (nI v.1)), some (.int (nI v.2.1)), some (.int (nI v.2.2)), some (.int (nI pa.length)), some (.int (nI l)), o6, o7] [] (wWk G.2.2.1 a κ ++ (wRw G.2.2.1 e 5 κr ++ R)) 0 0 := by
      intro hlt hns
      refine aw_aload_n (pc := 72) (i := 0) dX9_goOn_72 rfl rfl ?_
      refine pg_X9_55 (pc := 73) (v := .ref (c 13)) dX9_goOn_73 rfl hWc.1 ?_
      refine aw_iload (pc := 76) dX9_goOn_76 rfl ?_
      refine aw_aload_n (pc := 78) (i := 0) dX9_goOn_78 rfl rfl ?_
      refine pg_X9_9 (pc := 79) (v := .int (nI hm)) dX9_goOn_79 rfl hWc.2.1 ?_
      refine aw_aload_n (pc := 82) (i := 0) dX9_goOn_82 rfl rfl ?_
      refine pg_X9_15 (pc := 83) (v := .int (nI sp)) dX9_goOn_83 rfl hWc.2.2.1 ?_
      refine cVi (pc := 86) (As := [.int (nI l), .int (nI hm), .int (nI sp)]) (rest := []) dX9_goOn_86 rfl oc_X9_94 rfl rfl (Nat.le_of_ble_eq_true rfl) rfl rfl (hC.sub mem_ap2).ov (Nat.le_refl _) (Nat.le_refl _) (c3_toll hN (hC.sub mem_ap2) (by omega) h0 hhm (by omega) ⟨_, rfl, ?_⟩)
      refine aw_istore (pc := 89) (i := 6) dX9_goOn_89 (Nat.le_of_ble_eq_true rfl) rfl ?_
      refine aw_aload_n (pc := 91) (i := 0) dX9_goOn_91 rfl rfl ?_
      refine pg_X9_55 (pc := 92) (v := .ref (c 13)) dX9_goOn_92 rfl hWc.1 ?_
      refine aw_iload_n (pc := 95) (i := 1) dX9_goOn_95 rfl rfl ?_
      refine aw_iload (pc := 96) dX9_goOn_96 rfl ?_
      refine aw_iload_n (pc := 98) (i := 2) dX9_goOn_98 rfl rfl ?_
      refine aw_iload (pc := 99) dX9_goOn_99 rfl ?_
      refine aw_aload_n (pc := 101) (i := 0) dX9_goOn_101 rfl rfl ?_
      refine pg_X9_18 (pc := 102) (v := .int (nI (t 93))) dX9_goOn_102 rfl hWc.2.2.2.1 ?_
      refine cVi (pc := 105) (As := [.int (nI v.1), .int (nI l), .int (nI v.2.1), .int (nI (tollF t l hm sp)), .int (nI (t 93))]) (rest := []) dX9_goOn_105 rfl oc_X9_98 rfl rfl (Nat.le_of_ble_eq_true rfl) rfl rfl (hC.sub mem_ap2).ov (Nat.le_refl _) (Nat.le_refl _) (c3_whyNotOver hN (hC.sub mem_ap2) hb h1 (by omega) (by omega) (by omega) (by omega) (Nat.lt_trans (hb _) (by decide)) ⟨_, rfl, ?_⟩)
      refine an_if_ne (pc := 108) (tgt := 158) dX9_goOn_108 rfl (Nat.lt_of_le_of_lt (chWhy_le _ _ _ _ _ _) (by decide)) (fun h108 => ?_) (fun h108 => ?_)
      · -- 158
        refine an_inc (pc := 158) (z := 1) dX9_goOn_158 rfl (Nat.le_of_ble_eq_true rfl) rfl ?_
        refine aw_goto (pc := 161) (tgt := 11) dX9_goOn_161 rfl ?_
        rw [show gLp (gW t hm (sp ||| 2 ^ hm) g tg nd f) t hm (sp ||| 2 ^ hm) g tg v pa (n + 1) l A = gLp (gW t hm (sp ||| 2 ^ hm) g tg nd f) t hm (sp ||| 2 ^ hm) g tg v pa n (l + 1) A from by rw [gLp, if_pos hlt, if_neg hns, stN_none hv1 h108]] at kk
        exact ih (l + 1) _ _ _ _ _ (by omega) hWc hWa hWp hWb (by omega) kk
      · -- 111
        obtain ⟨htl2, hst⟩ := stN_some (hm := hm) (sp := sp) (l := l) hv1 h108
        refine aw_aload_n (pc := 111) (i := 0) dX9_goOn_111 rfl rfl ?_
        refine pg_X9_55 (pc := 112) (v := .ref (c 13)) dX9_goOn_112 rfl hWc.1 ?_
        refine aw_iload (pc := 115) dX9_goOn_115 rfl ?_
        refine aw_aload_n (pc := 117) (i := 0) dX9_goOn_117 rfl rfl ?_
        refine pg_X9_9 (pc := 118) (v := .int (nI hm)) dX9_goOn_118 rfl hWc.2.1 ?_
        refine aw_iload_n (pc := 121) (i := 3) dX9_goOn_121 rfl rfl ?_
        refine aw_iload_n (pc := 122) (i := 2) dX9_goOn_122 rfl rfl ?_
        refine cVi (pc := 123) (As := [.int (nI l), .int (nI hm), .int (nI v.2.2), .int (nI v.2.1)]) (rest := []) dX9_goOn_123 rfl oc_X9_102 rfl rfl (Nat.le_of_ble_eq_true rfl) rfl rfl (hC.sub mem_ap2).ov (Nat.le_refl _) (Nat.le_refl _) (c3_gift (hC.sub mem_ap2) hb (by omega) h0 hhm (by omega) hv2 ⟨_, rfl, ?_⟩)
        refine aw_istore (pc := 126) (i := 7) dX9_goOn_126 (Nat.le_of_ble_eq_true rfl) rfl ?_
        refine aw_aload_n (pc := 128) (i := 0) dX9_goOn_128 rfl rfl ?_
        refine pg_X9_33 (pc := 129) dX9_goOn_129 rfl ?_
        refine aw_iload (pc := 132) dX9_goOn_132 rfl ?_
        refine aw_iload (pc := 134) dX9_goOn_134 rfl ?_
        refine ps_X9_row (pc := 136) dX9_goOn_136 (by omega) ?_
        refine aw_aload_n (pc := 137) (i := 0) dX9_goOn_137 rfl rfl ?_
        refine aw_iload (pc := 138) dX9_goOn_138 rfl ?_
        refine aw_iload_n (pc := 140) (i := 2) dX9_goOn_140 rfl rfl ?_
        refine aw_iload (pc := 141) dX9_goOn_141 rfl ?_
        refine an_sub (pc := 143) dX9_goOn_143 (by omega) ?_
        refine aw_iload (pc := 144) dX9_goOn_144 rfl ?_
        refine an_add (pc := 146) dX9_goOn_146 ?_
        refine aw_iload_n (pc := 147) (i := 3) dX9_goOn_147 rfl rfl ?_
        refine aw_iload (pc := 148) dX9_goOn_148 rfl ?_
        refine an_sub (pc := 150) dX9_goOn_150 (by omega) ?_
        refine aw_iload (pc := 151) dX9_goOn_151 rfl ?_
        refine aw_iconst (pc := 153) dX9_goOn_153 iconst_1 ?_
        refine an_add (pc := 154) dX9_goOn_154 ?_
        refine cVv (pc := 155) (As := [.int (nI l), .int (nI ((v.2.1 - (tollF t l hm sp)) + (giftF t l hm v.2.2 v.2.1))), .int (nI (v.2.2 - (giftF t l hm v.2.2 v.2.1))), .int (nI (pa.length + 1))]) (rest := []) dX9_goOn_155 rfl oc_X9_83 rfl rfl (Nat.le_of_ble_eq_true rfl) rfl rfl ovX9 (Nat.le_refl _) (Nat.le_refl _) (IH _ (l, v.2.1 - tollF t l hm sp + giftF t l hm v.2.2 v.2.1, v.2.2 - giftF t l hm v.2.2 v.2.1) (pa ++ [l]) A _ κr (pa.length + 1) (by simp) (by omega) hWc hWa hWp.put hWb (by omega) (show l < t 0 by omega) (show 1 ≤ v.2.1 - tollF t l hm sp + giftF t l hm v.2.2 v.2.1 by omega) (show v.2.1 - tollF t l hm sp + giftF t l hm v.2.2 v.2.1 ≤ 240 by omega) (show v.2.2 - giftF t l hm v.2.2 v.2.1 < 2 ^ 30 by omega) ?_)
        intro κ1 κr1 g1 g2 g3 g4
        refine ⟨rfl, ?_⟩
        refine an_inc (pc := 158) (z := 1) dX9_goOn_158 rfl (Nat.le_of_ble_eq_true rfl) rfl ?_
        refine aw_goto (pc := 161) (tgt := 11) dX9_goOn_161 rfl ?_
        rw [show gLp (gW t hm (sp ||| 2 ^ hm) g tg nd f) t hm (sp ||| 2 ^ hm) g tg v pa (n + 1) l A = gLp (gW t hm (sp ||| 2 ^ hm) g tg nd f) t hm (sp ||| 2 ^ hm) g tg v pa n (l + 1) (gW t hm (sp ||| 2 ^ hm) g tg nd f (l, v.2.1 - tollF t l hm sp + giftF t l hm v.2.2 v.2.1, v.2.2 - giftF t l hm v.2.2 v.2.1) (pa ++ [l]) A) from by rw [gLp, if_pos hlt, if_neg hns, hst]] at kk
        have hr := gW_n (hm := hm) (sp := (sp ||| 2 ^ hm)) (g := g) (tg := tg) (nd := nd) h0 f (l, v.2.1 - tollF t l hm sp + giftF t l hm v.2.2 v.2.1, v.2.2 - giftF t l hm v.2.2 v.2.1) (pa ++ [l]) A
        exact ih (l + 1) _ _ _ _ _ (by omega) g1 g2 g4.pre g3 (by omega) kk
    refine aw_iload (pc := 11) dX9_goOn_11 rfl ?_
    refine aw_aload_n (pc := 13) (i := 0) dX9_goOn_13 rfl rfl ?_
    refine pg_X9_55 (pc := 14) (v := .ref (c 13)) dX9_goOn_14 rfl hWc.1 ?_
    refine av_get (pc := 17) (x := .int (nI (t 0))) dX9_goOn_17 rfl og_X9_91 rfl (hC.sub mem_ap2).ov rfl ?_
    refine an_icmp_ge (pc := 20) (tgt := 164) dX9_goOn_20 rfl (by omega) (Nat.lt_trans (hb _) (by decide)) (fun h20 => ?_) (fun h20 => ?_)
    · -- 164
      exfalso; omega
    · -- 23
      refine aw_iload (pc := 23) dX9_goOn_23 rfl ?_
      refine aw_aload_n (pc := 25) (i := 0) dX9_goOn_25 rfl rfl ?_
      refine pg_X9_30 (pc := 26) (v := .int (dpI A.1)) dX9_goOn_26 rfl hWa.1 ?_
      refine aw_icmp_ge (pc := 29) (tgt := 164) dX9_goOn_29 rfl (fun h29 => ?_) (fun h29 => ?_)
      · -- 164
        have hq := (dpI_ge (by omega) (by omega)).mp h29
        refine aw_vret (pc := 164) dX9_goOn_164 rfl (Nat.le_refl _) (Nat.le_refl _) ?_
        rw [show gLp (gW t hm (sp ||| 2 ^ hm) g tg nd f) t hm (sp ||| 2 ^ hm) g tg v pa (n + 1) l A = A from gLp_stop (by omega) _ _] at kk
        exact kk _ _ hWc hWa hWb hWp
      · -- 32
        have hlt : pa.length + 1 < A.1 := by have : ¬ A.1 ≤ pa.length + 1 := fun q => h29 ((dpI_ge (by omega) (by omega)).mpr q); omega
        refine aw_iload (pc := 32) dX9_goOn_32 rfl ?_
        refine aw_aload_n (pc := 34) (i := 0) dX9_goOn_34 rfl rfl ?_
        refine pg_X9_33 (pc := 35) dX9_goOn_35 rfl ?_
        refine pn_X9_row (pc := 38) (j := 0) dX9_goOn_38 ?_
        refine an_icmp_ge (pc := 39) (tgt := 164) dX9_goOn_39 rfl (by omega) (by decide) (fun h39 => ?_) (fun h39 => ?_)
        · -- 164
          exfalso; omega
        · -- 42
          refine aw_aload_n (pc := 42) (i := 0) dX9_goOn_42 rfl rfl ?_
          refine pg_X9_21 (pc := 43) (v := .int (nI g)) dX9_goOn_43 rfl hWc.2.2.2.2.1 ?_
          refine an_if_ne (pc := 46) (tgt := 72) dX9_goOn_46 rfl (by omega) (fun h46 => ?_) (fun h46 => ?_)
          · -- 72
            exact hbody hlt (by omega)
          · -- 49
            refine aw_iload (pc := 49) dX9_goOn_49 rfl ?_
            refine aw_iconst (pc := 51) dX9_goOn_51 iconst_1 ?_
            refine an_add (pc := 52) dX9_goOn_52 ?_
            refine aw_aload_n (pc := 53) (i := 0) dX9_goOn_53 rfl rfl ?_
            refine pg_X9_30 (pc := 54) (v := .int (dpI A.1)) dX9_goOn_54 rfl hWa.1 ?_
            refine aw_icmp_ne (pc := 57) (tgt := 72) dX9_goOn_57 rfl (fun h57 => ?_) (fun h57 => ?_)
            · -- 72
              exact hbody hlt (fun q => h57 ((dpI_eq (by omega) (by omega)).mpr (by omega)))
            · -- 60
              refine aw_iload (pc := 60) dX9_goOn_60 rfl ?_
              refine aw_aload_n (pc := 62) (i := 0) dX9_goOn_62 rfl rfl ?_
              refine pg_X9_24 (pc := 63) (v := .int (nI tg)) dX9_goOn_63 rfl hWc.2.2.2.2.2.1 ?_
              refine an_icmp_eq (pc := 66) (tgt := 72) dX9_goOn_66 rfl (by omega) (by omega) (fun h66 => ?_) (fun h66 => ?_)
              · -- 72
                exact hbody hlt (by omega)
              · -- 69
                refine aw_goto (pc := 69) (tgt := 158) dX9_goOn_69 rfl ?_
                refine an_inc (pc := 158) (z := 1) dX9_goOn_158 rfl (Nat.le_of_ble_eq_true rfl) rfl ?_
                refine aw_goto (pc := 161) (tgt := 11) dX9_goOn_161 rfl ?_
                have hq : pa.length + 1 + 1 = A.1 := (dpI_eq (by omega) (by omega)).mp h57
                rw [show gLp (gW t hm (sp ||| 2 ^ hm) g tg nd f) t hm (sp ||| 2 ^ hm) g tg v pa (n + 1) l A = gLp (gW t hm (sp ||| 2 ^ hm) g tg nd f) t hm (sp ||| 2 ^ hm) g tg v pa n (l + 1) A from by rw [gLp, if_pos hlt, if_pos (by omega)]] at kk
                exact ih (l + 1) _ _ _ _ _ (by omega) hWc hWa hWp hWb (by omega) kk
set_option maxHeartbeats 1000000 in
set_option maxRecDepth 20000 in
theorem go_leaf {G : xG} {d : Nat} {Q : xQ} {a c e : Nat → Nat} {R : va_W} {t : Nat → Nat} {NM : Nat → Int64} {hm sp g tg nd K : Nat} (hN : NB G) (hC : CHR G R c t NM) (hw : WT t) (hhm : hm < 7) (hsp : sp < 128) (hg : g ≤ 2) (htg : tg < 2 ^ 31) (hnd : nd < 2 ^ 31) (hK : K ≤ 6) {v : nD} {pa : List Nat} (hpK : pa.length + 1 = K) (hv0 : v.1 < t 0) {A : wA} {κ κr : kS} (hWc : WKc c e t hm sp g tg nd κ) (hWa : WKa A κ κr) (hWp : WKp pa κ) (hWb : WKb K A) (kk : (∀ κ9 κr9, WKc c e t hm sp g tg nd κ9 → WKa (A) κ9 κr9 → WKb K (A) → WKp pa κ9 → Q none (wWk G.2.2.1 a κ9 ++ (wRw G.2.2.1 e 5 κr9 ++ R)))) : AW G MX9_goOn (d + 4) 0 0 Q 11 [some (.ref (a 13)), some (.int (nI v.1)), some (.int (nI v.2.1)), some (.int (nI v.2.2)), some (.int (nI pa.length)), some (.int (nI 0)), none, none] [] (wWk G.2.2.1 a κ ++ (wRw G.2.2.1 e 5 κr ++ R)) 0 0 := by
  obtain ⟨hb, h0, h1, h2, hR, hP, hD, hCl, hT⟩ := id hw
  have hA6 : A.1 ≤ 6 := Nat.le_trans hWb.1 hK
  have hAK := hWb.1
  refine aw_iload (pc := 11) dX9_goOn_11 rfl ?_
  refine aw_aload_n (pc := 13) (i := 0) dX9_goOn_13 rfl rfl ?_
  refine pg_X9_55 (pc := 14) (v := .ref (c 13)) dX9_goOn_14 rfl hWc.1 ?_
  refine av_get (pc := 17) (x := .int (nI (t 0))) dX9_goOn_17 rfl og_X9_91 rfl (hC.sub mem_ap2).ov rfl ?_
  refine an_icmp_ge (pc := 20) (tgt := 164) dX9_goOn_20 rfl (by decide) (Nat.lt_trans (hb _) (by decide)) (fun h20 => ?_) (fun h20 => ?_)
  · -- 164
    exact aw_vret (pc := 164) dX9_goOn_164 rfl (Nat.le_refl _) (Nat.le_refl _) (kk _ _ hWc hWa hWb hWp)
  · -- 23
    refine aw_iload (pc := 23) dX9_goOn_23 rfl ?_
    refine aw_aload_n (pc := 25) (i := 0) dX9_goOn_25 rfl rfl ?_
    refine pg_X9_30 (pc := 26) (v := .int (dpI A.1)) dX9_goOn_26 rfl hWa.1 ?_
    refine aw_icmp_ge (pc := 29) (tgt := 164) dX9_goOn_29 rfl (fun h29 => ?_) (fun h29 => ?_)
    · -- 164
      exact aw_vret (pc := 164) dX9_goOn_164 rfl (Nat.le_refl _) (Nat.le_refl _) (kk _ _ hWc hWa hWb hWp)
    · -- 32
      exfalso; have : ¬ A.1 ≤ pa.length + 1 := fun q => h29 ((dpI_ge (by omega) (by omega)).mpr q); omega
set_option maxHeartbeats 1000000 in
set_option maxRecDepth 20000 in
theorem c9_goOn {G : xG} {d : Nat} {a c e : Nat → Nat} {R : va_W} {t : Nat → Nat} {NM : Nat → Int64} {hm sp g tg nd K : Nat} (hN : NB G) (hC : CHR G R c t NM) (hw : WT t) (hhm : hm < 7) (hsp : sp < 128) (hg : g ≤ 2) (htg : tg < 2 ^ 31) (hnd : nd < 2 ^ 31) (hK : K ≤ 6) : ∀ f : Nat, ∀ (Q : xQ) (v : nD) (pa : List Nat) (A : wA) (κ κr : kS) (dp : Nat), pa.length = dp → dp + f + 1 = K → WKc c e t hm sp g tg nd κ → WKa A κ κr → WKp pa κ → WKb K A → A.2.2.1 + 8 ^ (f + 1) ≤ 2 ^ 20 → v.1 < t 0 → 1 ≤ v.2.1 → v.2.1 ≤ 240 → v.2.2 < 2 ^ 30 → (∀ κ9 κr9, WKc c e t hm sp g tg nd κ9 → WKa (gW t hm (sp ||| 2 ^ hm) g tg nd (f) v pa A) κ9 κr9 → WKb K (gW t hm (sp ||| 2 ^ hm) g tg nd (f) v pa A) → WKp pa κ9 → Q none (wWk G.2.2.1 a κ9 ++ (wRw G.2.2.1 e 5 κr9 ++ R))) → MT G MX9_goOn (d + f + 4) 0 0 [.ref (a 13), .int (nI v.1), .int (nI v.2.1), .int (nI v.2.2), .int (nI dp)] (wWk G.2.2.1 a κ ++ (wRw G.2.2.1 e 5 κr ++ R)) Q := by
  obtain ⟨hb, h0, h1, h2, hR, hP, hD, hCl, hT⟩ := id hw
  intro f
  induction f with
  | zero =>
    intro Q v pa A κ κr dp hdp hpK hWc hWa hWp hWb hB hv0 hv1 hv2 hv3 kk
    subst hdp
    have h8 : 1 ≤ 8 ^ (0 + 1) := by decide
    have hLb := lookA_b (g := g) (tg := tg) (nd := nd) (v := v) (pa := pa) hWb (by omega) (by omega) hv2
    refine mt_start (L := [some (.ref (a 13)), some (.int (nI v.1)), some (.int (nI v.2.1)), some (.int (nI v.2.2)), some (.int (nI pa.length)), none, none, none]) rfl (Nat.le_of_ble_eq_true rfl) rfl ?_
    refine aw_aload_n (pc := 0) (i := 0) dX9_goOn_0 rfl rfl ?_
    refine aw_iload_n (pc := 1) (i := 1) dX9_goOn_1 rfl rfl ?_
    refine aw_iload_n (pc := 2) (i := 2) dX9_goOn_2 rfl rfl ?_
    refine aw_iload (pc := 3) dX9_goOn_3 rfl ?_
    refine cVv (pc := 5) (As := [.int (nI v.1), .int (nI v.2.1), .int (nI pa.length)]) (rest := []) dX9_goOn_5 rfl oc_X9_87 rfl rfl (Nat.le_of_ble_eq_true rfl) rfl rfl ovX9 (Nat.le_refl _) (Nat.le_refl _) (c9_look hWc hWa hWp hWb.2.1 (by omega) (by omega) (by omega) hg htg hnd hv2 hWb.2.2 ?_)
    intro κ1 κr1 g1 g2 g3
    refine ⟨rfl, ?_⟩
    refine aw_iconst (pc := 8) dX9_goOn_8 iconst_0 ?_
    refine aw_istore (pc := 9) (i := 5) dX9_goOn_9 (Nat.le_of_ble_eq_true rfl) rfl ?_
    exact go_leaf hN hC hw hhm hsp hg htg hnd hK (by omega) hv0 g1 g2 g3 hLb kk
  | succ f ih =>
    intro Q v pa A κ κr dp hdp hpK hWc hWa hWp hWb hB hv0 hv1 hv2 hv3 kk
    subst hdp
    have h8 : 1 ≤ 8 ^ (f + 1 + 1) := p8 _
    have hLb := lookA_b (g := g) (tg := tg) (nd := nd) (v := v) (pa := pa) hWb (by omega) (by omega) hv2
    show MT G MX9_goOn (d + f + 4 + 1) 0 0 _ _ Q
    refine mt_start (L := [some (.ref (a 13)), some (.int (nI v.1)), some (.int (nI v.2.1)), some (.int (nI v.2.2)), some (.int (nI pa.length)), none, none, none]) rfl (Nat.le_of_ble_eq_true rfl) rfl ?_
    have hLn := lookA_n (g := g) (tg := tg) (nd := nd) (A := A) (v := v) (pa := pa)
    have h7 : t 0 * 8 ^ (f + 1) ≤ 7 * 8 ^ (f + 1) := Nat.mul_le_mul_right _ h0
    have h9 : 8 ^ (f + 1 + 1) = 8 * 8 ^ (f + 1) := by rw [Nat.pow_succ, Nat.mul_comm]
    have h10 : 1 ≤ 8 ^ (f + 1) := p8 _
    refine aw_aload_n (pc := 0) (i := 0) dX9_goOn_0 rfl rfl ?_
    refine aw_iload_n (pc := 1) (i := 1) dX9_goOn_1 rfl rfl ?_
    refine aw_iload_n (pc := 2) (i := 2) dX9_goOn_2 rfl rfl ?_
    refine aw_iload (pc := 3) dX9_goOn_3 rfl ?_
    refine cVv (pc := 5) (As := [.int (nI v.1), .int (nI v.2.1), .int (nI pa.length)]) (rest := []) dX9_goOn_5 rfl oc_X9_87 rfl rfl (Nat.le_of_ble_eq_true rfl) rfl rfl ovX9 (Nat.le_refl _) (Nat.le_refl _) (c9_look hWc hWa hWp hWb.2.1 (by omega) (by omega) (by omega) hg htg hnd hv2 hWb.2.2 ?_)
    intro κ1 κr1 g1 g2 g3
    refine ⟨rfl, ?_⟩
    refine aw_iconst (pc := 8) dX9_goOn_8 iconst_0 ?_
    refine aw_istore (pc := 9) (i := 5) dX9_goOn_9 (Nat.le_of_ble_eq_true rfl) rfl ?_
    exact go_loop hN hC hw hhm hsp hg htg hnd hK ih (by omega) hv0 hv1 hv2 hv3 (t 0) 0 _ _ _ none none (by omega) g1 g2 g3 hLb (by omega) kk
