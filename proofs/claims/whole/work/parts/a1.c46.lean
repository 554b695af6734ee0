/-- what a caravan goes by -/
def CVc (b c e : Nat → Nat) (l gs sz : Nat) (κ : kS) : Prop := κ.1 0 = .ref (b 12) ∧ κ.1 1 = .ref (c 13) ∧ κ.1 2 = .int (nI l) ∧ κ.1 3 = .int (nI gs) ∧ κ.1 4 = .int (nI sz) ∧ κ.1 7 = .ref (e 2)
/-- what it has found -/
def CVa (acc : Nat × List Nat) (κ κr : kS) : Prop := κ.1 6 = .int (dpI acc.1) ∧ ∃ b0 : List Nat, b0.length ≤ 6 ∧ RwR κr (b0.map nI) ∧ (0 < acc.1 → b0 = acc.2)
def CVp (pa : List Nat) (κ : kS) : Prop := ∀ i, i < pa.length → κ.2.1 5 i = nI (pa.getD i 0)
theorem CVp.pre {pa : List Nat} {l : Nat} {κ : kS} (h : CVp (pa ++ [l]) κ) : CVp pa κ := fun i hi => by
  have := h i (by rw [List.length_append]; exact Nat.lt_add_right _ hi)
  rw [this]
  congr 1
  simp [List.getElem?_append_left hi]
theorem CVp.put {pa : List Nat} {l : Nat} {κ : kS} (h : CVp pa κ) : CVp (pa ++ [l]) (kI κ 5 pa.length (nI l)) := fun i hi => by
  show upN κ.2.1 5 (upN (κ.2.1 5) pa.length (nI l)) 5 i = _
  rw [List.length_append] at hi
  rw [upN_s]
  by_cases e : i = pa.length
  · subst e; rw [upN_s]; simp
  · have h9 : i < pa.length := by simp at hi; omega
    rw [upN_n _ _ _ _ e, h i h9]
    congr 1
    simp [List.getElem?_append_left h9]
theorem gs_bit {t : Nat → Nat} {l p gone : Nat} (hp : p < t 2) : (andN (orF (fun q => decide (whyX t q l = 0)) (t 2)) gone).testBit p = (decide (whyX t p l = 0) && !gone.testBit p) := by
  rw [andN_bit, orF_bit _ _ _ hp]
set_option maxHeartbeats 1000000 in
set_option maxRecDepth 20000 in
theorem cv_loop {G : xG} {d f : Nat} {Q : xQ} {a b c e : Nat → Nat} {R : va_W} {t : Nat → Nat} {NM : Nat → Int64} {sn : Option Nat} {l sz : Nat} (hN : NB G) (hS : STR G R b c sn t) (hC : CHR G R c t NM) (hw : WT t) (hl : l < t 0) (hsz : sz ≤ 6) (IH : ∀ (Q : xQ) (u : Nat → Nat) (gone : Nat) (pa : List Nat) (acc : Nat × List Nat) (κ κr : kS) (dp : Nat), pa.length = dp → dp + f = sz → CVc b c e l (orF (fun q => decide (whyX t q l = 0)) (t 2)) sz κ → CVa acc κ κr → CVp pa κ → acc.1 ≤ 1441 → CVu t l gone u → gone < 64 → u (94 + l) + 256 * f ≤ 2 ^ 30 + 2048 → (∀ κ9 κr9, CVc b c e l (orF (fun q => decide (whyX t q l = 0)) (t 2)) sz κ9 → CVa (caD t l (f) u gone pa acc) κ9 κr9 → (caD t l (f) u gone pa acc).1 ≤ 1441 → CVp pa κ9 → Q none (wCv G.2.2.1 a κ9 ++ (wRw G.2.2.1 e 6 κr9 ++ R))) → MT G MX2_goOn (d + f + 2) 0 0 [.ref (a 8), .int (nI (u (94 + l))), .int (nI (allLongF u)), .int (nI gone), .int (nI dp)] (wCv G.2.2.1 a κ ++ (wRw G.2.2.1 e 6 κr ++ R)) Q) {u : Nat → Nat} {gone : Nat} {pa : List Nat} (hpK : pa.length + f + 1 = sz) (hU : CVu t l gone u) (hgo : gone < 64) (hst : u (94 + l) + 256 * (f + 1) ≤ 2 ^ 30 + 2048) : ∀ (n p : Nat) (acc : Nat × List Nat) (κ κr : kS) (o6 o7 o8 : Option Value), p + n = t 2 → CVc b c e l (orF (fun q => decide (whyX t q l = 0)) (t 2)) sz κ → CVa acc κ κr → CVp pa κ → acc.1 ≤ 1441 → (∀ κ9 κr9, CVc b c e l (orF (fun q => decide (whyX t q l = 0)) (t 2)) sz κ9 → CVa (caL (caD t l f) t l u gone pa n p acc) κ9 κr9 → (caL (caD t l f) t l u gone pa n p acc).1 ≤ 1441 → CVp pa κ9 → Q none (wCv G.2.2.1 a κ9 ++ (wRw G.2.2.1 e 6 κr9 ++ R))) → AW G MX2_goOn (d + f + 2 + 1) 0 0 Q 49 [some (.ref (a 8)), some (.int (nI (u (94 + l)))), some (.int (nI (allLongF u))), some (.int (nI gone)), some (.int (nI pa.length)), some (.int (nI p)), o6, o7, o8] [] (wCv G.2.2.1 a κ ++ (wRw G.2.2.1 e 6 κr ++ R)) 0 0 := by
  obtain ⟨hb, h0, h1, h2, hR, hP, hD, hCl, hT⟩ := id hw
  have hal := allLong_1440 hU h2
  have hgs := orF_lt (fun q => decide (whyX t q l = 0)) (t 2)
  have hg6 : 2 ^ t 2 ≤ 2 ^ 6 := Nat.pow_le_pow_right (by decide) h2
  intro n
  induction n with
  | zero =>
    intro p acc κ κr o6 o7 o8 hp hWc hWa hWp hA kk
    obtain ⟨sd, hSo, hS2, hS3, hS6, hS7, hS8, hS9, hS10⟩ := id hS
    refine aw_iload (pc := 49) dX2_goOn_49 rfl ?_
    refine aw_aload_n (pc := 51) (i := 0) dX2_goOn_51 rfl rfl ?_
    refine pg_X2_47 (pc := 52) (v := .ref (c 13)) dX2_goOn_52 rfl hWc.2.1 ?_
    refine av_get (pc := 55) (x := .int (nI (t 2))) dX2_goOn_55 rfl og_X2_48 rfl (hC.sub mem_ap2).ov rfl ?_
    refine an_icmp_ge (pc := 58) (tgt := 183) dX2_goOn_58 rfl (by omega) (Nat.lt_trans (hb _) (by decide)) (fun h58 => ?_) (fun h58 => ?_)
    · -- 183
      exact aw_vret (pc := 183) dX2_goOn_183 rfl (Nat.le_refl _) (Nat.le_refl _) (kk _ _ hWc hWa hA hWp)
    · -- 61
      exfalso; omega
  | succ n ih =>
    intro p acc κ κr o6 o7 o8 hp hWc hWa hWp hA kk
    obtain ⟨sd, hSo, hS2, hS3, hS6, hS7, hS8, hS9, hS10⟩ := id hS
    have hhp := hP p (by omega)
    have hsp7 := hT (t (79 + p)) (by omega)
    have han := andN_le (orF (fun q => decide (whyX t q l = 0)) (t 2)) gone 6 (by omega)
    refine aw_iload (pc := 49) dX2_goOn_49 rfl ?_
    refine aw_aload_n (pc := 51) (i := 0) dX2_goOn_51 rfl rfl ?_
    refine pg_X2_47 (pc := 52) (v := .ref (c 13)) dX2_goOn_52 rfl hWc.2.1 ?_
    refine av_get (pc := 55) (x := .int (nI (t 2))) dX2_goOn_55 rfl og_X2_48 rfl (hC.sub mem_ap2).ov rfl ?_
    refine an_icmp_ge (pc := 58) (tgt := 183) dX2_goOn_58 rfl (by omega) (Nat.lt_trans (hb _) (by decide)) (fun h58 => ?_) (fun h58 => ?_)
    · -- 183
      exfalso; omega
    · -- 61
      refine aw_aload_n (pc := 61) (i := 0) dX2_goOn_61 rfl rfl ?_
      refine pg_X2_15 (pc := 62) (v := .int (nI (orF (fun q => decide (whyX t q l = 0)) (t 2)))) dX2_goOn_62 rfl hWc.2.2.2.1 ?_
      refine aw_iload_n (pc := 65) (i := 3) dX2_goOn_65 rfl rfl ?_
      refine aw_iconst (pc := 66) dX2_goOn_66 iconst_m1 ?_
      refine aw_ixor (pc := 67) dX2_goOn_67 ?_
      refine aw_iand (pc := 68) dX2_goOn_68 ?_
      refine aw_top (y := (nI (andN (orF (fun q => decide (whyX t q l = 0)) (t 2)) gone))) (andN_i _ _ (by omega) (by omega)) ?_
      refine aw_iload (pc := 69) dX2_goOn_69 rfl ?_
      refine cNi (pc := 71) (As := [.int (nI (andN (orF (fun q => decide (whyX t q l = 0)) (t 2)) gone)), .int (nI p)]) (rest := []) dX2_goOn_71 rfl oc_X2_78 hN.x2 rfl rfl (Nat.le_of_ble_eq_true rfl) (Nat.le_refl _) (Nat.le_refl _) (c_hasBit (by omega) (by omega) ⟨_, rfl, ?_⟩)
      refine ab_if_eq (pc := 74) (tgt := 177) dX2_goOn_74 rfl (fun h74 => ?_) (fun h74 => ?_)
      · -- 177
        refine an_inc (pc := 177) (z := 1) dX2_goOn_177 rfl (Nat.le_of_ble_eq_true rfl) rfl ?_
        refine aw_goto (pc := 180) (tgt := 49) dX2_goOn_180 rfl ?_
        have hc : ¬ (decide (whyX t p l = 0) && !gone.testBit p) = true := by rw [← gs_bit (by omega), h74]; decide
        rw [show caL (caD t l f) t l u gone pa (n + 1) p acc = caL (caD t l f) t l u gone pa n (p + 1) acc from by rw [caL, if_neg hc]] at kk
        exact ih (p + 1) _ _ _ _ _ _ (by omega) hWc hWa hWp hA kk
      · -- 77
        have hc : (decide (whyX t p l = 0) && !gone.testBit p) = true := by rw [← gs_bit (by omega)]; exact h74
        have hy : whyX t p l = 0 := of_decide_eq_true (by revert hc; cases decide (whyX t p l = 0) <;> simp)
        have hgb : gone.testBit p = false := by revert hc; cases gone.testBit p <;> simp
        obtain ⟨hg1, hg2, hg3, hg4, hg5, hg6x⟩ := CVu.go hw hU (by omega) hgb hl hy
        have hp6 : 2 ^ p < 2 ^ 6 := Nat.pow_lt_pow_right (by decide) (by omega)
        have hgl := giftF_le (t := t) (l := l) (hm := t (79 + p)) (st := u (94 + l)) (m := t (114 + p))
        refine aw_aload_n (pc := 77) (i := 0) dX2_goOn_77 rfl rfl ?_
        refine pg_X2_47 (pc := 78) (v := .ref (c 13)) dX2_goOn_78 rfl hWc.2.1 ?_
        refine av_get (pc := 81) (x := .ref (c 12)) dX2_goOn_81 rfl og_X2_82 rfl (hC.sub mem_ap2).ov rfl ?_
        refine aw_iload (pc := 84) dX2_goOn_84 rfl ?_
        refine av_iald (pc := 86) (x := (nI (t (79 + p)))) dX2_goOn_86 (hC.sub mem_ap2).home (by omega) (by decide) rfl ?_
        refine aw_istore (pc := 87) (i := 6) dX2_goOn_87 (Nat.le_of_ble_eq_true rfl) rfl ?_
        refine aw_aload_n (pc := 89) (i := 0) dX2_goOn_89 rfl rfl ?_
        refine pg_X2_47 (pc := 90) (v := .ref (c 13)) dX2_goOn_90 rfl hWc.2.1 ?_
        refine aw_aload_n (pc := 93) (i := 0) dX2_goOn_93 rfl rfl ?_
        refine pg_X2_9 (pc := 94) (v := .int (nI l)) dX2_goOn_94 rfl hWc.2.2.1 ?_
        refine aw_iload (pc := 97) dX2_goOn_97 rfl ?_
        refine aw_aload_n (pc := 99) (i := 0) dX2_goOn_99 rfl rfl ?_
        refine pg_X2_37 (pc := 100) (v := .ref (b 12)) dX2_goOn_100 rfl hWc.1 ?_
        refine av_get (pc := 103) (x := .ref (b 3)) dX2_goOn_103 rfl og_X2_85 rfl (hSo.sub mem_ap2) rfl ?_
        refine aw_iload (pc := 106) dX2_goOn_106 rfl ?_
        refine av_iald (pc := 108) (x := (nI (t (101 + (t (79 + p)))))) dX2_goOn_108 (hS3.sub mem_ap2) (by omega) (by decide) rfl ?_
        refine cVi (pc := 109) (As := [.int (nI l), .int (nI (t (79 + p))), .int (nI (t (101 + (t (79 + p)))))]) (rest := []) dX2_goOn_109 rfl oc_X2_88 rfl rfl (Nat.le_of_ble_eq_true rfl) rfl rfl (hC.sub mem_ap2).ov (Nat.le_refl _) (Nat.le_refl _) (c3_toll hN (hC.sub mem_ap2) hl h0 (by omega) (by omega) ⟨_, rfl, ?_⟩)
        refine aw_istore (pc := 112) (i := 7) dX2_goOn_112 (Nat.le_of_ble_eq_true rfl) rfl ?_
        refine aw_aload_n (pc := 114) (i := 0) dX2_goOn_114 rfl rfl ?_
        refine pg_X2_47 (pc := 115) (v := .ref (c 13)) dX2_goOn_115 rfl hWc.2.1 ?_
        refine aw_aload_n (pc := 118) (i := 0) dX2_goOn_118 rfl rfl ?_
        refine pg_X2_9 (pc := 119) (v := .int (nI l)) dX2_goOn_119 rfl hWc.2.2.1 ?_
        refine aw_iload (pc := 122) dX2_goOn_122 rfl ?_
        refine aw_iload_n (pc := 124) (i := 1) dX2_goOn_124 rfl rfl ?_
        refine aw_aload_n (pc := 125) (i := 0) dX2_goOn_125 rfl rfl ?_
        refine pg_X2_37 (pc := 126) (v := .ref (b 12)) dX2_goOn_126 rfl hWc.1 ?_
        refine av_get (pc := 129) (x := .ref (b 7)) dX2_goOn_129 rfl og_X2_92 rfl (hSo.sub mem_ap2) rfl ?_
        refine aw_iload (pc := 132) dX2_goOn_132 rfl ?_
        refine av_iald (pc := 134) (x := (nI (t (114 + p)))) dX2_goOn_134 (hS7.sub mem_ap2) (by omega) (by decide) rfl ?_
        refine cVi (pc := 135) (As := [.int (nI l), .int (nI (t (79 + p))), .int (nI (u (94 + l))), .int (nI (t (114 + p)))]) (rest := []) dX2_goOn_135 rfl oc_X2_95 rfl rfl (Nat.le_of_ble_eq_true rfl) rfl rfl (hC.sub mem_ap2).ov (Nat.le_refl _) (Nat.le_refl _) (c3_gift (hC.sub mem_ap2) hb hl h0 (by omega) (by omega) (by omega) ⟨_, rfl, ?_⟩)
        refine aw_istore (pc := 138) (i := 8) dX2_goOn_138 (Nat.le_of_ble_eq_true rfl) rfl ?_
        refine aw_aload_n (pc := 140) (i := 0) dX2_goOn_140 rfl rfl ?_
        refine pg_X2_21 (pc := 141) dX2_goOn_141 rfl ?_
        refine aw_iload (pc := 144) dX2_goOn_144 rfl ?_
        refine aw_iload (pc := 146) dX2_goOn_146 rfl ?_
        refine ps_X2_row (pc := 148) dX2_goOn_148 (by omega) ?_
        refine aw_aload_n (pc := 149) (i := 0) dX2_goOn_149 rfl rfl ?_
        refine aw_iload_n (pc := 150) (i := 1) dX2_goOn_150 rfl rfl ?_
        refine aw_iload (pc := 151) dX2_goOn_151 rfl ?_
        refine an_add (pc := 153) dX2_goOn_153 ?_
        refine aw_iload (pc := 154) dX2_goOn_154 rfl ?_
        refine an_sub (pc := 156) dX2_goOn_156 (by omega) ?_
        refine aw_top (y := (nI (crossF u p l (94 + l)))) (congrArg nI hg4.symm) ?_
        refine aw_iload_n (pc := 157) (i := 2) dX2_goOn_157 rfl rfl ?_
        refine aw_iload (pc := 158) dX2_goOn_158 rfl ?_
        refine an_sub (pc := 160) dX2_goOn_160 (by omega) ?_
        refine aw_iload (pc := 161) dX2_goOn_161 rfl ?_
        refine an_add (pc := 163) dX2_goOn_163 ?_
        refine aw_top (y := (nI (allLongF (crossF u p l)))) (congrArg nI hg6x.symm) ?_
        refine aw_iload_n (pc := 164) (i := 3) dX2_goOn_164 rfl rfl ?_
        refine aw_iconst (pc := 165) dX2_goOn_165 iconst_1 ?_
        refine aw_iload (pc := 166) dX2_goOn_166 rfl ?_
        refine aw_ishl (pc := 168) dX2_goOn_168 ?_
        refine aw_top (y := (nI (2 ^ p))) (nI_1shl (by omega)) ?_
        refine aw_ior (pc := 169) dX2_goOn_169 ?_
        refine aw_top (y := (nI (gone ||| 2 ^ p))) (nI_or _ _ (by omega) (by omega)) ?_
        refine aw_iload (pc := 170) dX2_goOn_170 rfl ?_
        refine aw_iconst (pc := 172) dX2_goOn_172 iconst_1 ?_
        refine an_add (pc := 173) dX2_goOn_173 ?_
        refine cVv (pc := 174) (As := [.int (nI (crossF u p l (94 + l))), .int (nI (allLongF (crossF u p l))), .int (nI (gone ||| 2 ^ p)), .int (nI (pa.length + 1))]) (rest := []) dX2_goOn_174 rfl oc_X2_70 rfl rfl (Nat.le_of_ble_eq_true rfl) rfl rfl ovX2 (Nat.le_refl _) (Nat.le_refl _) (IH _ (crossF u p l) (gone ||| 2 ^ p) (pa ++ [p]) acc _ κr (pa.length + 1) (by simp) (by omega) hWc hWa hWp.put hA hg2 (Nat.or_lt_two_pow (n := 6) hgo hp6) (by omega) ?_)
        intro κ1 κr1 g1 g2 g3 g4
        refine ⟨rfl, ?_⟩
        refine an_inc (pc := 177) (z := 1) dX2_goOn_177 rfl (Nat.le_of_ble_eq_true rfl) rfl ?_
        refine aw_goto (pc := 180) (tgt := 49) dX2_goOn_180 rfl ?_
        rw [show caL (caD t l f) t l u gone pa (n + 1) p acc = caL (caD t l f) t l u gone pa n (p + 1) (caD t l f (crossF u p l) (gone ||| 2 ^ p) (pa ++ [p]) acc) from by rw [caL, if_pos hc, hg1]] at kk
        exact ih (p + 1) _ _ _ _ _ _ (by omega) g1 g2 g4.pre g3 kk
set_option maxHeartbeats 1000000 in
set_option maxRecDepth 20000 in
theorem c2_goOn {G : xG} {d : Nat} {a b c e : Nat → Nat} {R : va_W} {t : Nat → Nat} {NM : Nat → Int64} {sn : Option Nat} {l sz : Nat} (hN : NB G) (hS : STR G R b c sn t) (hC : CHR G R c t NM) (hw : WT t) (hl : l < t 0) (hsz : sz ≤ 6) : ∀ f : Nat, ∀ (Q : xQ) (u : Nat → Nat) (gone : Nat) (pa : List Nat) (acc : Nat × List Nat) (κ κr : kS) (dp : Nat), pa.length = dp → dp + f = sz → CVc b c e l (orF (fun q => decide (whyX t q l = 0)) (t 2)) sz κ → CVa acc κ κr → CVp pa κ → acc.1 ≤ 1441 → CVu t l gone u → gone < 64 → u (94 + l) + 256 * f ≤ 2 ^ 30 + 2048 → (∀ κ9 κr9, CVc b c e l (orF (fun q => decide (whyX t q l = 0)) (t 2)) sz κ9 → CVa (caD t l (f) u gone pa acc) κ9 κr9 → (caD t l (f) u gone pa acc).1 ≤ 1441 → CVp pa κ9 → Q none (wCv G.2.2.1 a κ9 ++ (wRw G.2.2.1 e 6 κr9 ++ R))) → MT G MX2_goOn (d + f + 2) 0 0 [.ref (a 8), .int (nI (u (94 + l))), .int (nI (allLongF u)), .int (nI gone), .int (nI dp)] (wCv G.2.2.1 a κ ++ (wRw G.2.2.1 e 6 κr ++ R)) Q := by
  obtain ⟨hb, h0, h1, h2, hR, hP, hD, hCl, hT⟩ := id hw
  intro f
  induction f with
  | zero =>
    intro Q u gone pa acc κ κr dp hdp hpK hWc hWa hWp hA hU hgo hst kk
    subst hdp
    have hal := allLong_1440 hU h2
    refine mt_start (L := [some (.ref (a 8)), some (.int (nI (u (94 + l)))), some (.int (nI (allLongF u))), some (.int (nI gone)), some (.int (nI pa.length)), none, none, none, none]) rfl (Nat.le_of_ble_eq_true rfl) rfl ?_
    refine aw_iload (pc := 0) dX2_goOn_0 rfl ?_
    refine aw_aload_n (pc := 2) (i := 0) dX2_goOn_2 rfl rfl ?_
    refine pg_X2_18 (pc := 3) (v := .int (nI sz)) dX2_goOn_3 rfl hWc.2.2.2.2.1 ?_
    refine an_icmp_ge (pc := 6) (tgt := 19) dX2_goOn_6 rfl (by omega) (by omega) (fun h6 => ?_) (fun h6 => ?_)
    · -- 19
      refine aw_iload_n (pc := 19) (i := 2) dX2_goOn_19 rfl rfl ?_
      refine aw_aload_n (pc := 20) (i := 0) dX2_goOn_20 rfl rfl ?_
      refine pg_X2_25 (pc := 21) (v := .int (dpI acc.1)) dX2_goOn_21 rfl hWa.1 ?_
      refine aw_icmp_le (pc := 24) (tgt := 45) dX2_goOn_24 rfl (fun h24 => ?_) (fun h24 => ?_)
      · -- 45
        refine aw_vret (pc := 45) dX2_goOn_45 rfl (Nat.le_refl _) (Nat.le_refl _) ?_
        have hq : ¬ acc.1 < allLongF u + 1 := by have := (dpI_lt (by omega) (by omega)).mp h24; omega
        rw [show caD t l 0 u gone pa acc = acc from if_neg hq] at kk
        exact kk _ _ hWc hWa hA hWp
      · -- 27
        refine aw_aload_n (pc := 27) (i := 0) dX2_goOn_27 rfl rfl ?_
        refine aw_iload_n (pc := 28) (i := 2) dX2_goOn_28 rfl rfl ?_
        refine pp_X2_25 (pc := 29) dX2_goOn_29 rfl ?_
        refine aw_aload_n (pc := 32) (i := 0) dX2_goOn_32 rfl rfl ?_
        refine pg_X2_33 (pc := 33) (v := .ref (e 2)) dX2_goOn_33 rfl hWc.2.2.2.2.2 ?_
        refine aw_aload_n (pc := 36) (i := 0) dX2_goOn_36 rfl rfl ?_
        refine pg_X2_21 (pc := 37) dX2_goOn_37 rfl ?_
        refine aw_iload (pc := 40) dX2_goOn_40 rfl ?_
        refine aw_swap ?_
        refine cVv (pc := 42) (As := [.ref (a 5), .int (nI pa.length)]) (rest := []) dX2_goOn_42 rfl oc_X2_74 rfl rfl (Nat.le_of_ble_eq_true rfl) rfl rfl ovX5 (Nat.le_refl _) (Nat.le_refl _) (c5_take (by decide) (by decide) (ivX2_row (by omega) hWp) (Nat.le_refl _) (by omega) ?_)
        intro κ1 hκ1
        rw [range_pa] at hκ1
        refine ⟨rfl, ?_⟩
        refine aw_swap ?_
        refine aw_vret (pc := 45) dX2_goOn_45 rfl (Nat.le_refl _) (Nat.le_refl _) ?_
        have hq : acc.1 < allLongF u + 1 := by have : ¬ allLongF u + 1 ≤ acc.1 := fun q => h24 ((dpI_lt (by omega) (by omega)).mpr q); omega
        rw [show caD t l 0 u gone pa acc = (allLongF u + 1, pa) from if_pos hq] at kk
        exact kk _ _ hWc ⟨by show _ = Value.int (dpI (allLongF u + 1)); rw [dpI_s]; rfl, pa, (by omega), hκ1, fun _ => rfl⟩ (by show allLongF u + 1 ≤ 1441; omega) hWp
    · -- 9
      exfalso; omega
  | succ f ih =>
    intro Q u gone pa acc κ κr dp hdp hpK hWc hWa hWp hA hU hgo hst kk
    subst hdp
    have hal := allLong_1440 hU h2
    show MT G MX2_goOn (d + f + 2 + 1) 0 0 _ _ Q
    refine mt_start (L := [some (.ref (a 8)), some (.int (nI (u (94 + l)))), some (.int (nI (allLongF u))), some (.int (nI gone)), some (.int (nI pa.length)), none, none, none, none]) rfl (Nat.le_of_ble_eq_true rfl) rfl ?_
    refine aw_iload (pc := 0) dX2_goOn_0 rfl ?_
    refine aw_aload_n (pc := 2) (i := 0) dX2_goOn_2 rfl rfl ?_
    refine pg_X2_18 (pc := 3) (v := .int (nI sz)) dX2_goOn_3 rfl hWc.2.2.2.2.1 ?_
    refine an_icmp_ge (pc := 6) (tgt := 19) dX2_goOn_6 rfl (by omega) (by omega) (fun h6 => ?_) (fun h6 => ?_)
    · -- 19
      exfalso; omega
    · -- 9
      refine aw_iload (pc := 9) dX2_goOn_9 rfl ?_
      refine aw_aload_n (pc := 11) (i := 0) dX2_goOn_11 rfl rfl ?_
      refine pg_X2_21 (pc := 12) dX2_goOn_12 rfl ?_
      refine pn_X2_row (pc := 15) (j := 0) dX2_goOn_15 ?_
      refine an_icmp_lt (pc := 16) (tgt := 46) dX2_goOn_16 rfl (by omega) (by decide) (fun h16 => ?_) (fun h16 => ?_)
      · -- 46
        refine aw_iconst (pc := 46) dX2_goOn_46 iconst_0 ?_
        refine aw_istore (pc := 47) (i := 5) dX2_goOn_47 (Nat.le_of_ble_eq_true rfl) rfl ?_
        exact cv_loop hN hS hC hw hl hsz ih (by omega) hU hgo hst (t 2) 0 _ _ _ none none none (by omega) hWc hWa hWp hA kk
      · -- 19
        exfalso; omega
theorem caF_pos {t : Nat → Nat} {l : Nat} : 0 < (caF t l).1 := by
  have h1 := PM_head (caG t l).length (caG t l) rfl
  have h2 : ∀ (V : List (List Nat)) (acc : Nat × List Nat), 0 < acc.1 → 0 < (V.foldl (bsS t l) acc).1 := by
    intro V
    induction V with
    | nil => intro acc h; exact h
    | cons x V ih =>
      intro acc h
      rw [List.foldl_cons]
      apply ih
      unfold bsS
      split
      · exact Nat.succ_pos _
      · exact h
  unfold caF
  cases e : PM (caG t l).length (caG t l) with
  | nil => rw [e] at h1; cases h1
  | cons x V =>
    rw [List.foldl_cons]
    apply h2
    unfold bsS
    rw [if_pos (Nat.succ_pos _)]
    exact Nat.succ_pos _
theorem caG_len {t : Nat → Nat} {l : Nat} (h2 : t 2 ≤ 6) : bitsN (orF (fun q => decide (whyX t q l = 0)) (t 2)) = (caG t l).length := bits_orF _ _ h2
set_option maxHeartbeats 1000000 in
set_option maxRecDepth 20000 in
theorem lt_loop {G : xG} {d : Nat} {Q : xQ} {a b c e : Nat → Nat} {κr : kS} {R : va_W} {t : Nat → Nat} {NM : Nat → Int64} {sn : Option Nat} {l : Nat} {b0 : List Nat} (hN : NB G) (hS : STR G R b c sn t) (hC : CHR G R c t NM) (hw : WT t) (hl : l < t 0) (hb0 : b0.length ≤ 6) (hRw : RwR κr (b0.map nI)) (kk : ∀ κ9 κr9, κ9.1 7 = .ref (e 2) → RwR κr9 ((caF t l).2.map nI) → (caF t l).2.length ≤ 6 → (caF t l).1 ≤ 1441 → 0 < (caF t l).1 → Q (some (.int (dpI (caF t l).1))) (wCv G.2.2.1 a κ9 ++ (wRw G.2.2.1 e 6 κr9 ++ R))) : ∀ (z i : Nat) (κ : kS), i + z = t 2 → κ.1 0 = .ref (b 12) → κ.1 1 = .ref (c 13) → κ.1 2 = .int (nI l) → κ.1 3 = .int (nI (orF (fun q => decide (whyX t q l = 0)) i)) → κ.1 6 = .int (dpI 0) → κ.1 7 = .ref (e 2) → AW G MX2_longestTogether (d + (caG t l).length + 2 + 1) 0 0 Q 30 [some (.ref (a 8)), some (.ref (b 12)), some (.int (nI l)), some (.int (nI i))] [] (wCv G.2.2.1 a κ ++ (wRw G.2.2.1 e 6 κr ++ R)) 0 0 := by
  obtain ⟨hb, h0, h1, h2, hR, hP, hD, hCl, hT⟩ := id hw
  intro z
  induction z with
  | zero =>
    intro i κ hi hf0 hf1 hf2 hf3 hf6 hf7
    obtain ⟨sd, hSo, hS2, hS3, hS6, hS7, hS8, hS9x, hS10⟩ := id hS
    obtain rfl : i = t 2 := by omega
    have hgs := orF_lt (fun q => decide (whyX t q l = 0)) (t 2)
    have hg6 : 2 ^ t 2 ≤ 2 ^ 6 := Nat.pow_le_pow_right (by decide) h2
    have hlen := caG_len (t := t) (l := l) h2
    have hle := goL_le (t := t) (l := l) (t 2)
    change (caG t l).length ≤ t 2 at hle
    refine aw_iload_n (pc := 30) (i := 3) dX2_longestTogether_30 rfl rfl ?_
    refine aw_aload_n (pc := 31) (i := 0) dX2_longestTogether_31 rfl rfl ?_
    refine pg_X2_47 (pc := 32) (v := .ref (c 13)) dX2_longestTogether_32 rfl hf1 ?_
    refine av_get (pc := 35) (x := .int (nI (t 2))) dX2_longestTogether_35 rfl og_X2_48 rfl (hC.sub mem_ap2).ov rfl ?_
    refine an_icmp_ge (pc := 38) (tgt := 74) dX2_longestTogether_38 rfl (Nat.lt_trans (hb _) (by decide)) (Nat.lt_trans (hb _) (by decide)) (fun h38 => ?_) (fun h38 => ?_)
    · -- 74
      refine aw_aload_n (pc := 74) (i := 0) dX2_longestTogether_74 rfl rfl ?_
      refine aw_aload_n (pc := 75) (i := 0) dX2_longestTogether_75 rfl rfl ?_
      refine pg_X2_15 (pc := 76) (v := .int (nI (orF (fun q => decide (whyX t q l = 0)) (t 2)))) dX2_longestTogether_76 rfl hf3 ?_
      refine cSi (pc := 79) (As := [.int (nI (orF (fun q => decide (whyX t q l = 0)) (t 2)))]) (rest := [.ref (a 8)]) dX2_longestTogether_79 rfl oc_X2_57 rfl rfl (Nat.le_of_ble_eq_true rfl) (Nat.le_refl _) (Nat.le_refl _) (c_bitCount (by omega) ⟨_, rfl, ?_⟩)
      refine aw_top (y := nI (caG t l).length) (congrArg nI hlen) ?_
      refine pp_X2_18 (pc := 82) dX2_longestTogether_82 rfl ?_
      refine aw_aload_n (pc := 85) (i := 0) dX2_longestTogether_85 rfl rfl ?_
      refine aw_aload_n (pc := 86) (i := 0) dX2_longestTogether_86 rfl rfl ?_
      refine pg_X2_37 (pc := 87) (v := .ref (b 12)) dX2_longestTogether_87 rfl hf0 ?_
      refine av_get (pc := 90) (x := .ref (b 2)) dX2_longestTogether_90 rfl og_X2_63 rfl (hSo.sub mem_ap2) rfl ?_
      refine aw_aload_n (pc := 93) (i := 0) dX2_longestTogether_93 rfl rfl ?_
      refine pg_X2_9 (pc := 94) (v := .int (nI l)) dX2_longestTogether_94 rfl hf2 ?_
      refine av_iald (pc := 97) (x := (nI (t (94 + l)))) dX2_longestTogether_97 (hS2.sub mem_ap2) (by omega) (by decide) rfl ?_
      refine aw_aload_n (pc := 98) (i := 0) dX2_longestTogether_98 rfl rfl ?_
      refine pg_X2_37 (pc := 99) (v := .ref (b 12)) dX2_longestTogether_99 rfl hf0 ?_
      refine cVi (pc := 102) (As := []) (rest := [.int (nI (t (94 + l))), .ref (a 8)]) dX2_longestTogether_102 rfl oc_X2_66 rfl rfl (Nat.le_of_ble_eq_true rfl) rfl rfl (hSo.sub mem_ap2) (Nat.le_refl _) (Nat.le_refl _) (c7_allLengths (hS.sub mem_ap2) (hC.sub mem_ap2) hw ⟨_, rfl, ?_⟩)
      change AW _ _ _ _ _ _ _ _ (.int (nI (allLongF t)) :: _) _ _ _
      refine aw_iconst (pc := 105) dX2_longestTogether_105 iconst_0 ?_
      refine aw_iconst (pc := 106) dX2_longestTogether_106 iconst_0 ?_
      refine cVv (pc := 107) (As := [.int (nI (t (94 + l))), .int (nI (allLongF t)), .int (nI 0), .int (nI 0)]) (rest := []) dX2_longestTogether_107 rfl oc_X2_70 rfl rfl (Nat.le_of_ble_eq_true rfl) rfl rfl ovX2 (Nat.le_refl _) (Nat.le_refl _) (c2_goOn hN hS hC hw hl (by omega) (caG t l).length _ t 0 [] (0, []) _ _ 0 rfl (by omega) ⟨hf0, hf1, hf2, hf3, rfl, hf7⟩ ⟨hf6, b0, hb0, hRw, fun q => absurd q (by decide)⟩ (fun i hi => absurd hi (Nat.not_lt_zero _)) (by decide) (CVu.rf hw) (by decide) (by have := hb (94 + l); omega) ?_)
      rw [caD_caF]
      intro κ1 κr1 g1 g2 g3 g4
      refine ⟨rfl, ?_⟩
      refine aw_aload_n (pc := 110) (i := 0) dX2_longestTogether_110 rfl rfl ?_
      refine pg_X2_25 (pc := 111) (v := .int (dpI (caF t l).1)) dX2_longestTogether_111 rfl g2.1 ?_
      refine aw_iret (pc := 114) dX2_longestTogether_114 rfl (Nat.le_refl _) (Nat.le_refl _) ?_
      obtain ⟨b9, hb9, hr9, he9⟩ := g2.2
      have := he9 caF_pos
      subst this
      exact kk _ _ g1.2.2.2.2.2 hr9 hb9 g3 caF_pos
    · -- 41
      exfalso; omega
  | succ z ih =>
    intro i κ hi hf0 hf1 hf2 hf3 hf6 hf7
    obtain ⟨sd, hSo, hS2, hS3, hS6, hS7, hS8, hS9x, hS10⟩ := id hS
    have hu := orF_lt (fun q => decide (whyX t q l = 0)) i
    have hu2 : orF (fun q => decide (whyX t q l = 0)) i < 2 ^ 6 := Nat.lt_of_lt_of_le hu (Nat.pow_le_pow_right (by decide) (by omega))
    have hi2 : 2 ^ i < 2 ^ 6 := Nat.pow_lt_pow_right (by decide) (by omega)
    have hwy : whyX t i l < 2 ^ 31 := by have := whyBy_le t (t (108 + i)) l (t (114 + i)) (sparedF t i); unfold whyX; omega
    refine aw_iload_n (pc := 30) (i := 3) dX2_longestTogether_30 rfl rfl ?_
    refine aw_aload_n (pc := 31) (i := 0) dX2_longestTogether_31 rfl rfl ?_
    refine pg_X2_47 (pc := 32) (v := .ref (c 13)) dX2_longestTogether_32 rfl hf1 ?_
    refine av_get (pc := 35) (x := .int (nI (t 2))) dX2_longestTogether_35 rfl og_X2_48 rfl (hC.sub mem_ap2).ov rfl ?_
    refine an_icmp_ge (pc := 38) (tgt := 74) dX2_longestTogether_38 rfl (by omega) (Nat.lt_trans (hb _) (by decide)) (fun h38 => ?_) (fun h38 => ?_)
    · -- 74
      exfalso; omega
    · -- 41
      refine aw_aload_n (pc := 41) (i := 0) dX2_longestTogether_41 rfl rfl ?_
      refine pg_X2_37 (pc := 42) (v := .ref (b 12)) dX2_longestTogether_42 rfl hf0 ?_
      refine aw_iload_n (pc := 45) (i := 3) dX2_longestTogether_45 rfl rfl ?_
      refine aw_aload_n (pc := 46) (i := 0) dX2_longestTogether_46 rfl rfl ?_
      refine pg_X2_9 (pc := 47) (v := .int (nI l)) dX2_longestTogether_47 rfl hf2 ?_
      refine cVi (pc := 50) (As := [.int (nI i), .int (nI l)]) (rest := []) dX2_longestTogether_50 rfl oc_X2_53 rfl rfl (Nat.le_of_ble_eq_true rfl) rfl rfl (hSo.sub mem_ap2) (Nat.le_refl _) (Nat.le_refl _) (c7_over hN (hS.sub mem_ap2) (hC.sub mem_ap2) hw (by omega) hl ⟨_, rfl, ?_⟩)
      refine an_if_ne (pc := 53) (tgt := 68) dX2_longestTogether_53 rfl hwy (fun h53 => ?_) (fun h53 => ?_)
      · -- 68
        refine an_inc (pc := 68) (z := 1) dX2_longestTogether_68 rfl (Nat.le_of_ble_eq_true rfl) rfl ?_
        refine aw_goto (pc := 71) (tgt := 30) dX2_longestTogether_71 rfl ?_
        exact ih (i + 1) _ (by omega) hf0 hf1 hf2 (by rw [show orF (fun q => decide (whyX t q l = 0)) (i + 1) = orF (fun q => decide (whyX t q l = 0)) i from if_neg (fun q => by have := of_decide_eq_true q; omega)]; exact hf3) hf6 hf7
      · -- 56
        refine aw_aload_n (pc := 56) (i := 0) dX2_longestTogether_56 rfl rfl ?_
        refine aw_dup (pc := 57) dX2_longestTogether_57 rfl ?_
        refine pg_X2_15 (pc := 58) (v := .int (nI (orF (fun q => decide (whyX t q l = 0)) i))) dX2_longestTogether_58 rfl hf3 ?_
        refine aw_iconst (pc := 61) dX2_longestTogether_61 iconst_1 ?_
        refine aw_iload_n (pc := 62) (i := 3) dX2_longestTogether_62 rfl rfl ?_
        refine aw_ishl (pc := 63) dX2_longestTogether_63 ?_
        refine aw_top (y := (nI (2 ^ i))) (nI_1shl (by omega)) ?_
        refine aw_ior (pc := 64) dX2_longestTogether_64 ?_
        refine aw_top (y := (nI (orF (fun q => decide (whyX t q l = 0)) i ||| 2 ^ i))) (nI_or _ _ (by omega) (by omega)) ?_
        refine pp_X2_15 (pc := 65) dX2_longestTogether_65 rfl ?_
        refine an_inc (pc := 68) (z := 1) dX2_longestTogether_68 rfl (Nat.le_of_ble_eq_true rfl) rfl ?_
        refine aw_goto (pc := 71) (tgt := 30) dX2_longestTogether_71 rfl ?_
        exact ih (i + 1) _ (by omega) hf0 hf1 hf2 (by rw [show orF (fun q => decide (whyX t q l = 0)) (i + 1) = orF (fun q => decide (whyX t q l = 0)) i ||| 2 ^ i from if_pos (decide_eq_true h53)]; rfl) hf6 hf7
set_option maxHeartbeats 1000000 in
set_option maxRecDepth 20000 in
theorem c2_longest0 {G : xG} {d : Nat} {Q : xQ} {a b c e : Nat → Nat} {κr : kS} {R : va_W} {t : Nat → Nat} {NM : Nat → Int64} {sn : Option Nat} {l : Nat} {b0 : List Nat} {κ : kS} (hN : NB G) (hS : STR G R b c sn t) (hC : CHR G R c t NM) (hw : WT t) (hl : l < t 0) (hb0 : b0.length ≤ 6) (hRw : RwR κr (b0.map nI)) (hf7 : κ.1 7 = .ref (e 2)) (kk : ∀ κ9 κr9, κ9.1 7 = .ref (e 2) → RwR κr9 ((caF t l).2.map nI) → (caF t l).2.length ≤ 6 → (caF t l).1 ≤ 1441 → 0 < (caF t l).1 → Q (some (.int (dpI (caF t l).1))) (wCv G.2.2.1 a κ9 ++ (wRw G.2.2.1 e 6 κr9 ++ R))) : MT G MX2_longestTogether (d + (caG t l).length + 2 + 1) 0 0 [.ref (a 8), .ref (b 12), .int (nI l)] (wCv G.2.2.1 a κ ++ (wRw G.2.2.1 e 6 κr ++ R)) Q := by
  obtain ⟨sd, hSo, hS2, hS3, hS6, hS7, hS8, hS9x, hS10⟩ := id hS
  obtain ⟨hb, h0, h1, h2, hR, hP, hD, hCl, hT⟩ := id hw
  refine mt_start (L := [some (.ref (a 8)), some (.ref (b 12)), some (.int (nI l)), none]) rfl (Nat.le_of_ble_eq_true rfl) rfl ?_
  refine aw_aload_n (pc := 0) (i := 0) dX2_longestTogether_0 rfl rfl ?_
  refine aw_aload_n (pc := 1) (i := 1) dX2_longestTogether_1 rfl rfl ?_
  refine aw_topV (y := va_rf (some (b 12))) rfl ?_
  refine pp_X2_37 (pc := 2) dX2_longestTogether_2 rfl ?_
  refine aw_aload_n (pc := 5) (i := 0) dX2_longestTogether_5 rfl rfl ?_
  refine aw_aload_n (pc := 6) (i := 1) dX2_longestTogether_6 rfl rfl ?_
  refine av_get (pc := 7) (x := .ref (c 13)) dX2_longestTogether_7 rfl og_X2_41 rfl (hSo.sub mem_ap2) rfl ?_
  refine aw_topV (y := va_rf (some (c 13))) rfl ?_
  refine pp_X2_47 (pc := 10) dX2_longestTogether_10 rfl ?_
  refine aw_aload_n (pc := 13) (i := 0) dX2_longestTogether_13 rfl rfl ?_
  refine aw_iload_n (pc := 14) (i := 2) dX2_longestTogether_14 rfl rfl ?_
  refine pp_X2_9 (pc := 15) dX2_longestTogether_15 rfl ?_
  refine aw_aload_n (pc := 18) (i := 0) dX2_longestTogether_18 rfl rfl ?_
  refine aw_iconst (pc := 19) dX2_longestTogether_19 iconst_0 ?_
  refine pp_X2_15 (pc := 20) dX2_longestTogether_20 rfl ?_
  refine aw_aload_n (pc := 23) (i := 0) dX2_longestTogether_23 rfl rfl ?_
  refine aw_iconst (pc := 24) dX2_longestTogether_24 iconst_m1 ?_
  refine pp_X2_25 (pc := 25) dX2_longestTogether_25 rfl ?_
  refine aw_iconst (pc := 28) dX2_longestTogether_28 iconst_0 ?_
  refine aw_istore_n (pc := 29) (i := 3) dX2_longestTogether_29 rfl (Nat.le_of_ble_eq_true rfl) rfl ?_
  exact lt_loop hN hS hC hw hl hb0 hRw kk (t 2) 0 _ (by omega) rfl rfl rfl rfl (by rw [dpI_0]; rfl) hf7
theorem c2_longest {G : xG} {d : Nat} {Q : xQ} {a b c e : Nat → Nat} {κr : kS} {R : va_W} {t : Nat → Nat} {NM : Nat → Int64} {sn : Option Nat} {l : Nat} {b0 : List Nat} {κ : kS} (hN : NB G) (hS : STR G R b c sn t) (hC : CHR G R c t NM) (hw : WT t) (hl : l < t 0) (hb0 : b0.length ≤ 6) (hRw : RwR κr (b0.map nI)) (hf7 : κ.1 7 = .ref (e 2)) (kk : ∀ κ9 κr9, κ9.1 7 = .ref (e 2) → RwR κr9 ((caF t l).2.map nI) → (caF t l).2.length ≤ 6 → (caF t l).1 ≤ 1441 → 0 < (caF t l).1 → Q (some (.int (dpI (caF t l).1))) (wCv G.2.2.1 a κ9 ++ (wRw G.2.2.1 e 6 κr9 ++ R))) : MT G MX2_longestTogether (d + 9) 0 0 [.ref (a 8), .ref (b 12), .int (nI l)] (wCv G.2.2.1 a κ ++ (wRw G.2.2.1 e 6 κr ++ R)) Q := by
  have hle : (caG t l).length ≤ 6 := Nat.le_trans (goL_le (t := t) (l := l) (t 2)) hw.2.2.2.1
  rw [show d + 9 = (d + (6 - (caG t l).length)) + (caG t l).length + 2 + 1 by omega]
  exact c2_longest0 hN hS hC hw hl hb0 hRw hf7 kk
