def bkL : Nat → mS → Nat → Bool × mS × Nat
  | 0, σ, m => (false, σ, m)
  | n + 1, σ, m => if σ.1 11 = nI 0 then (true, σ, m) else if (bookLineF σ m).1 = true then (if (signF (bookLineF σ m).2 59).1 = true then bkL n (mI (signF (bookLineF σ m).2 59).2 47 (nI (m + 1))) (m + 1) else (false, (signF (bookLineF σ m).2 59).2, m)) else (false, (bookLineF σ m).2, m)
/-- a book as far as it is read -/
def BV (t : Nat → Nat) (σ : mS) (m : Nat) : Prop := PV σ ∧ σ.2.1 6 = t ∧ σ.1 47 = nI m ∧ m ≤ 40 ∧ ∀ i, i < m → lnOK t (σ.2.1 8 (4 * i)) (σ.2.1 8 (4 * i + 1)) (σ.2.1 8 (4 * i + 2)) (σ.2.1 8 (4 * i + 3))
theorem BV_line {t : Nat → Nat} {σ : mS} {m : Nat} (H : BV t σ m) (h : (bookLineF σ m).1 = true) (h2 : (signF (bookLineF σ m).2 59).1 = true) : BV t (mI (signF (bookLineF σ m).2 59).2 47 (nI (m + 1))) (m + 1) ∧ mz (mI (signF (bookLineF σ m).2 59).2 47 (nI (m + 1))) < mz σ := by
  obtain ⟨hv, ht, hm, hm4, hl⟩ := H
  obtain ⟨h40, b1, b2, b3, b4, b5, b6⟩ := bookLine_t hv h
  generalize (bookLineF σ m).2 = ρ at *
  rw [(sign_t h2).2]
  refine ⟨⟨PV_mI (PV_nx b1) (by decide), by rw [mI_n, nx_n, b2]; exact ht, mI_k _ _ _, by omega, fun i hi => ?_⟩, ?_⟩
  · rw [mI_n, nx_n]
    by_cases hi2 : i = m
    · subst hi2; rw [← ht]; exact b6
    · rw [b3 _ (by omega), b3 _ (by omega), b3 _ (by omega), b3 _ (by omega)]
      exact hl i (by omega)
  · rw [mz_mI (by decide)]
    have := (mz_nx b1).1
    omega
def liv (rd : Nat → Nat) : Nat → Nat → (Nat → Nat) → Nat × Nat × Int32 × (Nat → Nat)
  | 0, i, t => (0, i, -1, t)
  | n + 1, i, t => if doesA t (rd (4 * i)) (rd (4 * i + 1)) (rd (4 * i + 2)) (rd (4 * i + 3)) = 0 then liv rd n (i + 1) (doesS t (rd (4 * i)) (rd (4 * i + 1)) (rd (4 * i + 2)) (rd (4 * i + 3))) else (doesA t (rd (4 * i)) (rd (4 * i + 1)) (rd (4 * i + 2)) (rd (4 * i + 3)), i, nI i, t)
theorem doesN_le (t : Nat → Nat) (k x y n : Nat) : doesN t k x y n ≤ 5 := by
  have h1 := whyBy_le t (t (108 + x)) y (t (114 + x)) (sparedF t x)
  unfold doesN whyPactF whyTurnF whyLendF whyX
  repeat' split
  all_goals omega
theorem doesA_lt {t : Nat → Nat} {k x y n : Nat} (hk : k ≤ 6) : doesA t k x y n < 2 ^ 31 := by
  have := doesN_le t k x y n
  unfold doesA
  split <;> omega
theorem lnOK_of {t u : Nat → Nat} {k x y n : Nat} (h : lnOK t k x y n) (h0 : u 0 = t 0) (h2 : u 2 = t 2) : lnOK u k x y n := by
  unfold lnOK at *
  rw [h0, h2]
  exact h
theorem doesS_w {t : Nat → Nat} {k x y n : Nat} (h : 0 < doesA t k x y n) : doesS t k x y n = t := by
  unfold doesA at h
  unfold doesS
  by_cases e : doesN t k x y n = 0
  · rw [if_pos e] at h; omega
  · rw [if_neg e]
def rho (σ : mS) (u ta : Nat → Nat) : mS := sN (sN σ 6 u) 48 ta

set_option maxHeartbeats 1000000 in
set_option maxRecDepth 20000 in
theorem liv_loop {G : xG} {d : Nat} {Q : xQ} {a : Nat → Nat} {σ : mS} {lv m : Nat} (hm : σ.1 47 = nI m) (hm4 : m ≤ 40) (res : Nat × Nat × Int32 × (Nat → Nat)) (kk : ∀ (ta : Nat → Nat) (v3 : Value), ta 0 = res.1 → ta 1 = res.2.1 → v3.category = 1 → AW G MX12_book (d + 5) 0 0 Q 201 [some (.ref (a 60)), some (.int (nI lv)), some (.int res.2.2.1), some v3] [] (mW G.2.2.1 a (rho σ res.2.2.2 ta)) 0 0) : ∀ (n i b : Nat) (u ta : Nat → Nat), i + n = m → WV u b → b + 99 * n ≤ 2 ^ 29 → 4096 ≤ b → (∀ i, i < m → lnOK u (σ.2.1 8 (4 * i)) (σ.2.1 8 (4 * i + 1)) (σ.2.1 8 (4 * i + 2)) (σ.2.1 8 (4 * i + 3))) → ta 0 = 0 → ta 1 = i → liv (σ.2.1 8) n i u = res → AW G MX12_book (d + 5) 0 0 Q 111 [some (.ref (a 60)), some (.int (nI lv)), some (.int ((-1))), some (.int (nI i))] [] (mW G.2.2.1 a (rho σ u ta)) 0 0 := by
  intro n
  induction n with
  | zero =>
    intro i b u ta hi H hb hb5 hl h0 h1 he
    refine aw_iload_n (pc := 111) (i := 3) dX12_book_111 rfl rfl ?_
    refine aw_aload_n (pc := 112) (i := 0) dX12_book_112 rfl rfl ?_
    refine mg_toldMany (pc := 113) dX12_book_113 rfl ?_
    refine aw_top (y := (nI m)) hm ?_
    refine an_icmp_ge (pc := 116) (tgt := 201) dX12_book_116 rfl (by omega) (by omega) (fun h116 => ?_) (fun h116 => ?_)
    · -- 201
      subst he
      exact kk ta _ h0 h1 rfl
    · -- 119
      exfalso; omega
  | succ n ih =>
    intro i b u ta hi H hb hb5 hl h0 h1 he
    have hok := hl i (by omega)
    have hk6 := hok.1
    have hda := doesA_lt (t := u) (x := σ.2.1 8 (4 * i + 1)) (y := σ.2.1 8 (4 * i + 2)) (n := σ.2.1 8 (4 * i + 3)) hk6
    have wd := WV_does H (by omega) hb5 hok
    rw [liv] at he
    have hw := @doesS_w u (σ.2.1 8 (4 * i)) (σ.2.1 8 (4 * i + 1)) (σ.2.1 8 (4 * i + 2)) (σ.2.1 8 (4 * i + 3))
    generalize hA : doesA u (σ.2.1 8 (4 * i)) (σ.2.1 8 (4 * i + 1)) (σ.2.1 8 (4 * i + 2)) (σ.2.1 8 (4 * i + 3)) = A at *
    generalize hU : doesS u (σ.2.1 8 (4 * i)) (σ.2.1 8 (4 * i + 1)) (σ.2.1 8 (4 * i + 2)) (σ.2.1 8 (4 * i + 3)) = U at *
    refine aw_iload_n (pc := 111) (i := 3) dX12_book_111 rfl rfl ?_
    refine aw_aload_n (pc := 112) (i := 0) dX12_book_112 rfl rfl ?_
    refine mg_toldMany (pc := 113) dX12_book_113 rfl ?_
    refine aw_top (y := (nI m)) hm ?_
    refine an_icmp_ge (pc := 116) (tgt := 201) dX12_book_116 rfl (by omega) (by omega) (fun h116 => ?_) (fun h116 => ?_)
    · -- 201
      exfalso; omega
    · -- 119
      refine aw_iload_n (pc := 119) (i := 2) dX12_book_119 rfl rfl ?_
      refine an_ifm_ge (pc := 120) (tgt := 201) dX12_book_120 rfl ?_
      refine aw_aload_n (pc := 123) (i := 0) dX12_book_123 rfl rfl ?_
      refine mg_toldAt (pc := 124) dX12_book_124 rfl ?_
      refine aw_iconst (pc := 127) dX12_book_127 iconst_0 ?_
      refine aw_aload_n (pc := 128) (i := 0) dX12_book_128 rfl rfl ?_
      refine aw_aload_n (pc := 129) (i := 0) dX12_book_129 rfl rfl ?_
      refine mg_read (pc := 130) dX12_book_130 rfl ?_
      refine aw_iconst (pc := 133) dX12_book_133 iconst_4 ?_
      refine aw_iload_n (pc := 134) (i := 3) dX12_book_134 rfl rfl ?_
      refine an_mul (pc := 135) dX12_book_135 ?_
      refine ml_read (pc := 136) dX12_book_136 (by omega) ?_
      refine aw_top (y := (nI (σ.2.1 8 (4 * i)))) rfl ?_
      refine aw_aload_n (pc := 137) (i := 0) dX12_book_137 rfl rfl ?_
      refine mg_read (pc := 138) dX12_book_138 rfl ?_
      refine aw_iconst (pc := 141) dX12_book_141 iconst_4 ?_
      refine aw_iload_n (pc := 142) (i := 3) dX12_book_142 rfl rfl ?_
      refine an_mul (pc := 143) dX12_book_143 ?_
      refine aw_iconst (pc := 144) dX12_book_144 iconst_1 ?_
      refine an_add (pc := 145) dX12_book_145 ?_
      refine ml_read (pc := 146) dX12_book_146 (by omega) ?_
      refine aw_top (y := (nI (σ.2.1 8 ((4 * i) + 1)))) rfl ?_
      refine aw_aload_n (pc := 147) (i := 0) dX12_book_147 rfl rfl ?_
      refine mg_read (pc := 148) dX12_book_148 rfl ?_
      refine aw_iconst (pc := 151) dX12_book_151 iconst_4 ?_
      refine aw_iload_n (pc := 152) (i := 3) dX12_book_152 rfl rfl ?_
      refine an_mul (pc := 153) dX12_book_153 ?_
      refine aw_iconst (pc := 154) dX12_book_154 iconst_2 ?_
      refine an_add (pc := 155) dX12_book_155 ?_
      refine ml_read (pc := 156) dX12_book_156 (by omega) ?_
      refine aw_top (y := (nI (σ.2.1 8 ((4 * i) + 2)))) rfl ?_
      refine aw_aload_n (pc := 157) (i := 0) dX12_book_157 rfl rfl ?_
      refine mg_read (pc := 158) dX12_book_158 rfl ?_
      refine aw_iconst (pc := 161) dX12_book_161 iconst_4 ?_
      refine aw_iload_n (pc := 162) (i := 3) dX12_book_162 rfl rfl ?_
      refine an_mul (pc := 163) dX12_book_163 ?_
      refine aw_iconst (pc := 164) dX12_book_164 iconst_3 ?_
      refine an_add (pc := 165) dX12_book_165 ?_
      refine ml_read (pc := 166) dX12_book_166 (by omega) ?_
      refine aw_top (y := (nI (σ.2.1 8 ((4 * i) + 3)))) rfl ?_
      refine mc_I (pc := 167) (As := [.int (nI (σ.2.1 8 (4 * i))), .int (nI (σ.2.1 8 ((4 * i) + 1))), .int (nI (σ.2.1 8 ((4 * i) + 2))), .int (nI (σ.2.1 8 ((4 * i) + 3)))]) (rest := [.int (nI 0), .ref (a 48)]) dX12_book_167 rfl ok_X12_444 rfl rfl rfl (Nat.le_of_ble_eq_true rfl) (s_does H.1.1 (fun j => Nat.lt_of_lt_of_le (H.1.2 j) (by omega)) hok ⟨_, _, rfl, rfl, ?_⟩)
      refine aw_top (y := nI A) (by rw [← hA]; rfl) ?_
      refine aw_ws (w9 := mW G.2.2.1 a (rho σ U ta)) (by rw [← hU]; rfl) ?_
      refine ms_toldAt (pc := 170) dX12_book_170 (by decide) ?_
      refine aw_aload_n (pc := 171) (i := 0) dX12_book_171 rfl rfl ?_
      refine mg_toldAt (pc := 172) dX12_book_172 rfl ?_
      refine aw_iconst (pc := 175) dX12_book_175 iconst_0 ?_
      refine ml_toldAt (pc := 176) dX12_book_176 (by decide) ?_
      refine aw_top (y := (nI A)) rfl ?_
      refine an_if_le (pc := 177) (tgt := 185) dX12_book_177 rfl hda (fun h177 => ?_) (fun h177 => ?_)
      · -- 185
        refine aw_aload_n (pc := 185) (i := 0) dX12_book_185 rfl rfl ?_
        refine mg_toldAt (pc := 186) dX12_book_186 rfl ?_
        refine aw_iconst (pc := 189) dX12_book_189 iconst_1 ?_
        refine aw_dup2 (pc := 190) dX12_book_190 rfl rfl ?_
        refine ml_toldAt (pc := 191) dX12_book_191 (by decide) ?_
        refine aw_top (y := (nI (ta 1))) rfl ?_
        refine aw_iconst (pc := 192) dX12_book_192 iconst_1 ?_
        refine an_add (pc := 193) dX12_book_193 ?_
        refine ms_toldAt (pc := 194) dX12_book_194 (by decide) ?_
        refine an_inc (pc := 195) (z := 1) dX12_book_195 rfl (Nat.le_of_ble_eq_true rfl) rfl ?_
        refine aw_goto (pc := 198) (tgt := 111) dX12_book_198 rfl ?_
        rw [if_pos h177] at he
        refine aw_ws (w9 := mW G.2.2.1 a (rho σ U (upN (upN ta 0 A) 1 (ta 1 + 1)))) rfl ?_
        exact ih (i + 1) (b + 99) U _ (by omega) wd.1 (by omega) (by omega) (fun j hj => lnOK_of (hl j hj) (wd.2 0 (by omega)) (wd.2 2 (by omega))) (by rw [upN_n _ _ _ _ (by decide), upN_s]; exact h177) (by rw [upN_s, h1]) he
      · -- 180
        refine aw_iload_n (pc := 180) (i := 3) dX12_book_180 rfl rfl ?_
        refine aw_istore_n (pc := 181) (i := 2) dX12_book_181 rfl (Nat.le_of_ble_eq_true rfl) rfl ?_
        refine aw_goto (pc := 182) (tgt := 195) dX12_book_182 rfl ?_
        refine an_inc (pc := 195) (z := 1) dX12_book_195 rfl (Nat.le_of_ble_eq_true rfl) rfl ?_
        refine aw_goto (pc := 198) (tgt := 111) dX12_book_198 rfl ?_
        rw [if_neg (Nat.ne_of_gt h177)] at he
        have hUu := hw h177
        subst he
        refine aw_ws (w9 := mW G.2.2.1 a (rho σ u (upN ta 0 A))) (by rw [← hUu]; rfl) ?_
        refine aw_iload_n (pc := 111) (i := 3) dX12_book_111 rfl rfl ?_
        refine aw_aload_n (pc := 112) (i := 0) dX12_book_112 rfl rfl ?_
        refine mg_toldMany (pc := 113) dX12_book_113 rfl ?_
        refine aw_top (y := nI m) hm ?_
        refine an_icmp_ge (pc := 116) (tgt := 201) dX12_book_116 rfl (by omega) (by omega) (fun h => ?_) (fun h => ?_)
        · exact kk _ _ (upN_s _ _ _) (by rw [upN_n _ _ _ _ (by decide)]; exact h1) rfl
        · refine aw_iload_n (pc := 119) (i := 2) dX12_book_119 rfl rfl ?_
          refine an_if_ge (pc := 120) (tgt := 201) dX12_book_120 rfl (by omega) ?_
          exact kk _ _ (upN_s _ _ _) (by rw [upN_n _ _ _ _ (by decide)]; exact h1) rfl
theorem keep_fix {v u t0 b0 : Nat → Nat} {mm : Nat} : cpF (keepU v u mm) (cpF b0 t0 0 91 47) (47 * (keepM mm - 1)) 0 47 = keepU v t0 mm := by
  funext j
  unfold keepM keepU
  by_cases h8 : mm = 8
  · rw [if_pos h8, if_pos h8, if_pos h8]
    by_cases hj : 47 * (8 - 1) ≤ j ∧ j < 47 * (8 - 1) + 47
    · rw [cpF_in hj, cpF_in (by omega), cpF_in (show 329 ≤ j ∧ j < 329 + 47 by omega)]
      exact congrArg t0 (by omega)
    · rw [cpF_out hj, cpF_out (show ¬ (329 ≤ j ∧ j < 329 + 47) by omega), cpF_out (show ¬ (329 ≤ j ∧ j < 329 + 47) by omega)]
  · rw [if_neg h8, if_neg h8, if_neg h8, Nat.add_sub_cancel]
    by_cases hj : 47 * mm ≤ j ∧ j < 47 * mm + 47
    · rw [cpF_in hj, cpF_in (by omega), cpF_in hj]
      exact congrArg t0 (by omega)
    · rw [cpF_out hj, cpF_out hj, cpF_out hj]
theorem keepM_1 (mm : Nat) : 1 ≤ keepM mm := by unfold keepM; split <;> omega
theorem keepM_8 {mm : Nat} (h : mm ≤ 8) : keepM mm ≤ 8 := by unfold keepM; split <;> omega
set_option maxHeartbeats 1000000 in
set_option maxRecDepth 20000 in
theorem book_end0 {G : xG} {d : Nat} {Q : xQ} {a : Nat → Nat} {σ : mS} {u ta t0 b0 : Nat → Nat} {wr : Int32} {v3 : Value} (hv3 : v3.category = 1) (hbf : σ.2.1 22 = cpF b0 t0 0 91 47) (hku : ∀ j, ¬ (91 ≤ j ∧ j < 138) → u j = t0 j) (h2 : u 2 ≤ 6) (kk : ∀ tf : Nat → Nat, tf 0 = ta 0 → tf 1 = ta 1 → tf 2 = u 91 → tf 3 = allLongF u → Q (some (.int wr)) (mW G.2.2.1 a (mI (rho σ t0 tf) 49 (nI 1)))) : AW G MX12_book (d + 5) 0 0 Q 201 [some (.ref (a 60)), some (.int (nI 0)), some (.int wr), some v3] [] (mW G.2.2.1 a (rho σ u ta)) 0 0 := by
  refine aw_aload_n (pc := 201) (i := 0) dX12_book_201 rfl rfl ?_
  refine mg_toldAt (pc := 202) dX12_book_202 rfl ?_
  refine aw_iconst (pc := 205) dX12_book_205 iconst_2 ?_
  refine aw_aload_n (pc := 206) (i := 0) dX12_book_206 rfl rfl ?_
  refine mg_s (pc := 207) dX12_book_207 rfl ?_
  refine aw_bipush (pc := 210) dX12_book_210 bipush_91 ?_
  refine ml_s (pc := 212) dX12_book_212 (by decide) ?_
  refine aw_top (y := (nI (u 91))) rfl ?_
  refine ms_toldAt (pc := 213) dX12_book_213 (by decide) ?_
  refine aw_aload_n (pc := 214) (i := 0) dX12_book_214 rfl rfl ?_
  refine mg_toldAt (pc := 215) dX12_book_215 rfl ?_
  refine aw_iconst (pc := 218) dX12_book_218 iconst_3 ?_
  refine aw_aload_n (pc := 219) (i := 0) dX12_book_219 rfl rfl ?_
  refine mc_I (pc := 220) (As := []) (rest := [.int (nI 3), .ref (a 48)]) dX12_book_220 rfl ok_X12_318 rfl rfl rfl (Nat.le_of_ble_eq_true rfl) (s_allLong h2 ⟨_, _, rfl, rfl, ?_⟩)
  refine aw_top (y := nI (allLongF u)) rfl ?_
  refine ms_toldAt (pc := 223) dX12_book_223 (by decide) ?_
  refine aw_aload_n (pc := 224) (i := 0) dX12_book_224 rfl rfl ?_
  refine aw_iconst (pc := 225) dX12_book_225 iconst_1 ?_
  refine mp_hasTold (pc := 226) dX12_book_226 rfl (by decide) (by decide) ?_
  refine aw_iload_n (pc := 229) (i := 1) dX12_book_229 rfl rfl ?_
  refine aw_iconst (pc := 230) dX12_book_230 iconst_1 ?_
  refine an_icmp_ne (pc := 231) (tgt := 283) dX12_book_231 rfl (by decide) (by decide) (fun h231 => ?_) (fun h231 => absurd h231 (by decide))
  refine aw_iload_n (pc := 283) (i := 1) dX12_book_283 rfl rfl ?_
  refine an_if_ne (pc := 284) (tgt := 291) dX12_book_284 rfl (by decide) (fun h284 => absurd h284 (by decide)) (fun h284 => ?_)
  refine aw_aload_n (pc := 287) (i := 0) dX12_book_287 rfl rfl ?_
  refine mc_V (pc := 288) (As := []) (rest := []) dX12_book_288 rfl ok_X12_395 rfl rfl rfl (Nat.le_of_ble_eq_true rfl) (s_back ⟨_, rfl, rfl, ?_⟩)
  refine aw_ws (w9 := mW G.2.2.1 a (mI (rho σ t0 (upN (upN ta 2 (u 91)) 3 (allLongF u))) 49 (nI 1))) (congrArg (fun z => mW G.2.2.1 a (mI (rho σ z (upN (upN ta 2 (u 91)) 3 (allLongF u))) 49 (nI 1))) (show cpF u (σ.2.1 22) 91 0 47 = t0 by rw [hbf]; exact back_id hku)) ?_
  refine aw_iload_n (pc := 291) (i := 2) dX12_book_291 rfl rfl ?_
  exact aw_iret (pc := 292) dX12_book_292 rfl (Nat.le_refl _) (Nat.le_refl _) (kk _ rfl rfl rfl rfl)
set_option maxHeartbeats 1000000 in
set_option maxRecDepth 20000 in
theorem bkc_loop {G : xG} {d : Nat} {Q : xQ} {a : Nat → Nat} {σ : mS} {v bf : Nat → Nat} {k : Nat} {wr : Int32} (hk : 1 ≤ k) (hk8 : k ≤ 8) (h23 : σ.1 23 = nI k) (hb2 : σ.2.1 22 = bf) (kk : Q (some (.int wr)) (mW G.2.2.1 a (sN σ 21 (cpF v bf (47 * (k - 1)) 0 47)))) : ∀ (n i : Nat), i + n = 47 → AW G MX12_book (d) 0 0 Q 249 [some (.ref (a 60)), some (.int (nI 1)), some (.int wr), some (.int (nI i))] [] (mW G.2.2.1 a (sN σ 21 (cpF v bf (47 * (k - 1)) 0 i))) 0 0 := by
  intro n
  induction n with
  | zero =>
    intro i hi
    refine aw_iload_n (pc := 249) (i := 3) dX12_book_249 rfl rfl ?_
    refine aw_bipush (pc := 250) dX12_book_250 bipush_47 ?_
    refine an_icmp_ge (pc := 252) (tgt := 283) dX12_book_252 rfl (by omega) (by decide) (fun h252 => ?_) (fun h252 => ?_)
    · -- 283
      refine aw_iload_n (pc := 283) (i := 1) dX12_book_283 rfl rfl ?_
      refine an_if_ne (pc := 284) (tgt := 291) dX12_book_284 rfl (by decide) (fun h284 => ?_) (fun h284 => absurd h284 (by decide))
      refine aw_iload_n (pc := 291) (i := 2) dX12_book_291 rfl rfl ?_
      exact aw_iret (pc := 292) dX12_book_292 rfl (Nat.le_refl _) (Nat.le_refl _) (by have e : i = 47 := (by omega); subst e; exact kk)
    · -- 255
      exfalso; omega
  | succ n ih =>
    intro i hi
    refine aw_iload_n (pc := 249) (i := 3) dX12_book_249 rfl rfl ?_
    refine aw_bipush (pc := 250) dX12_book_250 bipush_47 ?_
    refine an_icmp_ge (pc := 252) (tgt := 283) dX12_book_252 rfl (by omega) (by decide) (fun h252 => ?_) (fun h252 => ?_)
    · -- 283
      exfalso; omega
    · -- 255
      refine aw_aload_n (pc := 255) (i := 0) dX12_book_255 rfl rfl ?_
      refine mg_undone (pc := 256) dX12_book_256 rfl ?_
      refine aw_bipush (pc := 259) dX12_book_259 bipush_47 ?_
      refine aw_aload_n (pc := 261) (i := 0) dX12_book_261 rfl rfl ?_
      refine mg_undoMany (pc := 262) dX12_book_262 rfl ?_
      refine aw_top (y := (nI k)) h23 ?_
      refine aw_iconst (pc := 265) dX12_book_265 iconst_1 ?_
      refine an_sub (pc := 266) dX12_book_266 hk ?_
      refine an_mul (pc := 267) dX12_book_267 ?_
      refine aw_iload_n (pc := 268) (i := 3) dX12_book_268 rfl rfl ?_
      refine an_add (pc := 269) dX12_book_269 ?_
      refine aw_aload_n (pc := 270) (i := 0) dX12_book_270 rfl rfl ?_
      refine mg_before (pc := 271) dX12_book_271 rfl ?_
      refine aw_iload_n (pc := 274) (i := 3) dX12_book_274 rfl rfl ?_
      refine ml_before (pc := 275) dX12_book_275 (by omega) ?_
      refine aw_top (y := (nI (σ.2.1 22 i))) rfl ?_
      refine ms_undone (pc := 276) dX12_book_276 (by omega) ?_
      refine an_inc (pc := 277) (z := 1) dX12_book_277 rfl (Nat.le_of_ble_eq_true rfl) rfl ?_
      refine aw_goto (pc := 280) (tgt := 249) dX12_book_280 rfl ?_
      refine aw_ws (w9 := mW G.2.2.1 a (sN σ 21 (cpF v bf (47 * (k - 1)) 0 (i + 1)))) (congrArg (fun z => mW G.2.2.1 a (sN σ 21 z)) (cpF_next (by omega) (by rw [← hb2]; exact congrArg (σ.2.1 22) (Nat.zero_add i).symm))) ?_
      exact ih (i + 1) (by omega)
set_option maxHeartbeats 1000000 in
set_option maxRecDepth 20000 in
theorem book_end1 {G : xG} {d : Nat} {Q : xQ} {a : Nat → Nat} {σ : mS} {u ta t0 b0 : Nat → Nat} {mm : Nat} {wr : Int32} {v3 : Value} (hv3 : v3.category = 1) (hbf : σ.2.1 22 = cpF b0 t0 0 91 47) (hku : ∀ j, ¬ (91 ≤ j ∧ j < 138) → u j = t0 j) (h2 : u 2 ≤ 6) (h23 : σ.1 23 = nI mm) (hm8 : mm ≤ 8) (ht1 : ta 1 < 2 ^ 31) (k1 : 0 < ta 1 → ∀ tf : Nat → Nat, tf 0 = ta 0 → tf 1 = ta 1 → tf 2 = u 91 → tf 3 = allLongF u → Q (some (.int wr)) (mW G.2.2.1 a (mI (sN (mI (rho σ u tf) 49 (nI 1)) 21 (keepU (σ.2.1 21) t0 mm)) 23 (nI (keepM mm))))) (k0 : ta 1 = 0 → ∀ tf : Nat → Nat, tf 0 = ta 0 → tf 1 = ta 1 → tf 2 = u 91 → tf 3 = allLongF u → Q (some (.int wr)) (mW G.2.2.1 a (mI (rho σ u tf) 49 (nI 1)))) : AW G MX12_book (d + 5) 0 0 Q 201 [some (.ref (a 60)), some (.int (nI 1)), some (.int wr), some v3] [] (mW G.2.2.1 a (rho σ u ta)) 0 0 := by
  refine aw_aload_n (pc := 201) (i := 0) dX12_book_201 rfl rfl ?_
  refine mg_toldAt (pc := 202) dX12_book_202 rfl ?_
  refine aw_iconst (pc := 205) dX12_book_205 iconst_2 ?_
  refine aw_aload_n (pc := 206) (i := 0) dX12_book_206 rfl rfl ?_
  refine mg_s (pc := 207) dX12_book_207 rfl ?_
  refine aw_bipush (pc := 210) dX12_book_210 bipush_91 ?_
  refine ml_s (pc := 212) dX12_book_212 (by decide) ?_
  refine aw_top (y := (nI (u 91))) rfl ?_
  refine ms_toldAt (pc := 213) dX12_book_213 (by decide) ?_
  refine aw_aload_n (pc := 214) (i := 0) dX12_book_214 rfl rfl ?_
  refine mg_toldAt (pc := 215) dX12_book_215 rfl ?_
  refine aw_iconst (pc := 218) dX12_book_218 iconst_3 ?_
  refine aw_aload_n (pc := 219) (i := 0) dX12_book_219 rfl rfl ?_
  refine mc_I (pc := 220) (As := []) (rest := [.int (nI 3), .ref (a 48)]) dX12_book_220 rfl ok_X12_318 rfl rfl rfl (Nat.le_of_ble_eq_true rfl) (s_allLong h2 ⟨_, _, rfl, rfl, ?_⟩)
  refine aw_top (y := nI (allLongF u)) rfl ?_
  refine ms_toldAt (pc := 223) dX12_book_223 (by decide) ?_
  refine aw_aload_n (pc := 224) (i := 0) dX12_book_224 rfl rfl ?_
  refine aw_iconst (pc := 225) dX12_book_225 iconst_1 ?_
  refine mp_hasTold (pc := 226) dX12_book_226 rfl (by decide) (by decide) ?_
  refine aw_iload_n (pc := 229) (i := 1) dX12_book_229 rfl rfl ?_
  refine aw_iconst (pc := 230) dX12_book_230 iconst_1 ?_
  refine an_icmp_ne (pc := 231) (tgt := 283) dX12_book_231 rfl (by decide) (by decide) (fun h231 => absurd h231 (by decide)) (fun h231 => ?_)
  refine aw_aload_n (pc := 234) (i := 0) dX12_book_234 rfl rfl ?_
  refine mg_toldAt (pc := 235) dX12_book_235 rfl ?_
  refine aw_iconst (pc := 238) dX12_book_238 iconst_1 ?_
  refine ml_toldAt (pc := 239) dX12_book_239 (by decide) ?_
  refine aw_top (y := (nI (ta 1))) rfl ?_
  refine an_if_le (pc := 240) (tgt := 283) dX12_book_240 rfl ht1 (fun h240 => ?_) (fun h240 => ?_)
  · -- 283
    refine aw_iload_n (pc := 283) (i := 1) dX12_book_283 rfl rfl ?_
    refine an_if_ne (pc := 284) (tgt := 291) dX12_book_284 rfl (by decide) (fun h284 => ?_) (fun h284 => absurd h284 (by decide))
    refine aw_iload_n (pc := 291) (i := 2) dX12_book_291 rfl rfl ?_
    exact aw_iret (pc := 292) dX12_book_292 rfl (Nat.le_refl _) (Nat.le_refl _) (k0 h240 _ rfl rfl rfl rfl)
  · -- 243
    refine aw_aload_n (pc := 243) (i := 0) dX12_book_243 rfl rfl ?_
    refine mc_V (pc := 244) (As := []) (rest := []) dX12_book_244 rfl ok_X12_327 rfl rfl rfl (Nat.le_of_ble_eq_true rfl) (s_keep h23 hm8 ⟨_, rfl, rfl, ?_⟩)
    refine aw_iconst (pc := 247) dX12_book_247 iconst_0 ?_
    refine aw_istore_n (pc := 248) (i := 3) dX12_book_248 rfl (Nat.le_of_ble_eq_true rfl) rfl ?_
    refine aw_ws (w9 := mW G.2.2.1 a (sN (mI (sN (mI (rho σ u (upN (upN ta 2 (u 91)) 3 (allLongF u))) 49 (nI 1)) 21 (keepU (σ.2.1 21) u mm)) 23 (nI (keepM mm))) 21 (cpF (keepU (σ.2.1 21) u mm) (σ.2.1 22) (47 * (keepM mm - 1)) 0 0))) (by rw [cpF_0]; rfl) ?_
    exact bkc_loop (σ := (mI (sN (mI (rho σ u (upN (upN ta 2 (u 91)) 3 (allLongF u))) 49 (nI 1)) 21 (keepU (σ.2.1 21) u mm)) 23 (nI (keepM mm)))) (k := keepM mm) (bf := σ.2.1 22) (v := keepU (σ.2.1 21) u mm) (keepM_1 mm) (keepM_8 hm8) rfl rfl (by rw [hbf, keep_fix]; exact k1 h240 _ rfl rfl rfl rfl) 47 0 (by omega)
def bkW (σ : mS) (m : Nat) (t : Nat → Nat) : Nat × Nat × Int32 × (Nat → Nat) := liv (σ.2.1 8) m 0 t
theorem liv_keep (rd : Nat → Nat) : ∀ (n i : Nat) {u : Nat → Nat} {b : Nat}, WV u b → b + 99 * n ≤ 2 ^ 29 → 4096 ≤ b → (∀ k, k < i + n → lnOK u (rd (4 * k)) (rd (4 * k + 1)) (rd (4 * k + 2)) (rd (4 * k + 3))) → WV (liv rd n i u).2.2.2 (b + 99 * n) ∧ (∀ j, ¬ (91 ≤ j ∧ j < 138) → (liv rd n i u).2.2.2 j = u j) ∧ (liv rd n i u).2.1 ≤ i + n := by
  intro n
  induction n with
  | zero => intro i u b H _ _ _; exact ⟨WV_mono H (by omega), fun _ _ => rfl, Nat.le_refl _⟩
  | succ n ih =>
    intro i u b H hb hb5 hl
    rw [liv]
    split
    · obtain ⟨d1, d2⟩ := WV_does H (by omega) hb5 (hl i (by omega))
      obtain ⟨i1, i2, i3⟩ := ih (i + 1) (b := b + 99) d1 (by omega) (by omega) (fun k hk => lnOK_of (hl k (by omega)) (d2 0 (by omega)) (d2 2 (by omega)))
      exact ⟨WV_mono i1 (by omega), fun j hj => by rw [i2 j hj, d2 j hj], by omega⟩
    · exact ⟨WV_mono H (by omega), fun _ _ => rfl, Nat.le_add_right _ _⟩
def bkK0 (G : xG) (Q : xQ) (a : Nat → Nat) (σ : mS) (t0 : Nat → Nat) (res : Nat × Nat × Int32 × (Nat → Nat)) : Prop := ∀ tf : Nat → Nat, tf 0 = res.1 → tf 1 = res.2.1 → tf 2 = res.2.2.2 91 → tf 3 = allLongF res.2.2.2 → Q (some (.int res.2.2.1)) (mW G.2.2.1 a (mI (rho (triesS σ) t0 tf) 49 (nI 1)))
def bkK1 (G : xG) (Q : xQ) (a : Nat → Nat) (σ : mS) (mm : Nat) (t0 : Nat → Nat) (res : Nat × Nat × Int32 × (Nat → Nat)) : Prop := ∀ tf : Nat → Nat, tf 0 = res.1 → tf 1 = res.2.1 → tf 2 = res.2.2.2 91 → tf 3 = allLongF res.2.2.2 → Q (some (.int res.2.2.1)) (mW G.2.2.1 a (if 0 < res.2.1 then mI (sN (mI (rho (triesS σ) res.2.2.2 tf) 49 (nI 1)) 21 (keepU (σ.2.1 21) t0 mm)) 23 (nI (keepM mm)) else mI (rho (triesS σ) res.2.2.2 tf) 49 (nI 1)))
set_option maxHeartbeats 1000000 in
set_option maxRecDepth 20000 in
theorem book_83_0 {G : xG} {d : Nat} {Q : xQ} {a : Nat → Nat} {σ : mS} {m b : Nat} (hb : b + 99 * 40 ≤ 2 ^ 29) (hb5 : 4096 ≤ b) (H : WV (σ.2.1 6) b) (hB : BV (σ.2.1 6) σ m) (kk : bkK0 G Q a σ (σ.2.1 6) (bkW σ m (σ.2.1 6))) : AW G MX12_book (d + 5) 0 0 Q 83 [some (.ref (a 60)), some (.int (nI 0)), none, none] [] (mW G.2.2.1 a σ) 0 0 := by
  obtain ⟨hv, -, hm, hm4, hl⟩ := hB
  obtain ⟨l1, l2, l3⟩ := liv_keep (σ.2.1 8) m 0 H (by omega) hb5 (fun k hk => hl k (by omega))
  refine aw_aload_n (pc := 83) (i := 0) dX12_book_83 rfl rfl ?_
  refine mc_V (pc := 84) (As := []) (rest := []) dX12_book_84 rfl ok_X12_392 rfl rfl rfl (Nat.le_of_ble_eq_true rfl) (s_tries ⟨_, rfl, rfl, ?_⟩)
  refine aw_iconst (pc := 87) dX12_book_87 iconst_0 ?_
  refine aw_istore_n (pc := 88) (i := 2) dX12_book_88 rfl (Nat.le_of_ble_eq_true rfl) rfl ?_
  refine aw_iload_n (pc := 89) (i := 2) dX12_book_89 rfl rfl ?_
  refine aw_iconst (pc := 90) dX12_book_90 iconst_4 ?_
  refine an_icmp_ge (pc := 91) (tgt := 107) dX12_book_91 rfl (by decide) (by decide) (fun h91 => absurd h91 (by decide)) (fun h91 => ?_)
  refine aw_aload_n (pc := 94) (i := 0) dX12_book_94 rfl rfl ?_
  refine mg_toldAt (pc := 95) dX12_book_95 rfl ?_
  refine aw_iload_n (pc := 98) (i := 2) dX12_book_98 rfl rfl ?_
  refine aw_iconst (pc := 99) dX12_book_99 iconst_0 ?_
  refine ms_toldAt (pc := 100) dX12_book_100 (by decide) ?_
  refine an_inc (pc := 101) (z := 1) dX12_book_101 rfl (Nat.le_of_ble_eq_true rfl) rfl ?_
  refine aw_goto (pc := 104) (tgt := 89) dX12_book_104 rfl ?_
  refine aw_iload_n (pc := 89) (i := 2) dX12_book_89 rfl rfl ?_
  refine aw_iconst (pc := 90) dX12_book_90 iconst_4 ?_
  refine an_icmp_ge (pc := 91) (tgt := 107) dX12_book_91 rfl (by decide) (by decide) (fun h91 => absurd h91 (by decide)) (fun h91 => ?_)
  refine aw_aload_n (pc := 94) (i := 0) dX12_book_94 rfl rfl ?_
  refine mg_toldAt (pc := 95) dX12_book_95 rfl ?_
  refine aw_iload_n (pc := 98) (i := 2) dX12_book_98 rfl rfl ?_
  refine aw_iconst (pc := 99) dX12_book_99 iconst_0 ?_
  refine ms_toldAt (pc := 100) dX12_book_100 (by decide) ?_
  refine an_inc (pc := 101) (z := 1) dX12_book_101 rfl (Nat.le_of_ble_eq_true rfl) rfl ?_
  refine aw_goto (pc := 104) (tgt := 89) dX12_book_104 rfl ?_
  refine aw_iload_n (pc := 89) (i := 2) dX12_book_89 rfl rfl ?_
  refine aw_iconst (pc := 90) dX12_book_90 iconst_4 ?_
  refine an_icmp_ge (pc := 91) (tgt := 107) dX12_book_91 rfl (by decide) (by decide) (fun h91 => absurd h91 (by decide)) (fun h91 => ?_)
  refine aw_aload_n (pc := 94) (i := 0) dX12_book_94 rfl rfl ?_
  refine mg_toldAt (pc := 95) dX12_book_95 rfl ?_
  refine aw_iload_n (pc := 98) (i := 2) dX12_book_98 rfl rfl ?_
  refine aw_iconst (pc := 99) dX12_book_99 iconst_0 ?_
  refine ms_toldAt (pc := 100) dX12_book_100 (by decide) ?_
  refine an_inc (pc := 101) (z := 1) dX12_book_101 rfl (Nat.le_of_ble_eq_true rfl) rfl ?_
  refine aw_goto (pc := 104) (tgt := 89) dX12_book_104 rfl ?_
  refine aw_iload_n (pc := 89) (i := 2) dX12_book_89 rfl rfl ?_
  refine aw_iconst (pc := 90) dX12_book_90 iconst_4 ?_
  refine an_icmp_ge (pc := 91) (tgt := 107) dX12_book_91 rfl (by decide) (by decide) (fun h91 => absurd h91 (by decide)) (fun h91 => ?_)
  refine aw_aload_n (pc := 94) (i := 0) dX12_book_94 rfl rfl ?_
  refine mg_toldAt (pc := 95) dX12_book_95 rfl ?_
  refine aw_iload_n (pc := 98) (i := 2) dX12_book_98 rfl rfl ?_
  refine aw_iconst (pc := 99) dX12_book_99 iconst_0 ?_
  refine ms_toldAt (pc := 100) dX12_book_100 (by decide) ?_
  refine an_inc (pc := 101) (z := 1) dX12_book_101 rfl (Nat.le_of_ble_eq_true rfl) rfl ?_
  refine aw_goto (pc := 104) (tgt := 89) dX12_book_104 rfl ?_
  refine aw_iload_n (pc := 89) (i := 2) dX12_book_89 rfl rfl ?_
  refine aw_iconst (pc := 90) dX12_book_90 iconst_4 ?_
  refine an_icmp_ge (pc := 91) (tgt := 107) dX12_book_91 rfl (by decide) (by decide) (fun h91 => ?_) (fun h91 => absurd h91 (by decide))
  refine aw_iconst (pc := 107) dX12_book_107 iconst_m1 ?_
  refine aw_istore_n (pc := 108) (i := 2) dX12_book_108 rfl (Nat.le_of_ble_eq_true rfl) rfl ?_
  refine aw_iconst (pc := 109) dX12_book_109 iconst_0 ?_
  refine aw_istore_n (pc := 110) (i := 3) dX12_book_110 rfl (Nat.le_of_ble_eq_true rfl) rfl ?_
  refine aw_ws (w9 := mW G.2.2.1 a (rho (triesS σ) (σ.2.1 6) (upN (upN (upN (upN (σ.2.1 48) 0 0) 1 0) 2 0) 3 0))) rfl ?_
  exact liv_loop (σ := triesS σ) (lv := 0) hm hm4 (bkW σ m (σ.2.1 6)) (fun ta v3 h0 h1 hv3 => book_end0 (σ := triesS σ) (t0 := σ.2.1 6) (b0 := σ.2.1 22) hv3 rfl l2 (l1.1.1.2.2.2.1) (fun tf a0 a1 a2 a3 => kk tf (a0.trans h0) (a1.trans h1) a2 a3)) m 0 b (σ.2.1 6) _ (by omega) H (by omega) hb5 hl rfl rfl rfl
set_option maxHeartbeats 1000000 in
set_option maxRecDepth 20000 in
theorem book_83_1 {G : xG} {d : Nat} {Q : xQ} {a : Nat → Nat} {σ : mS} {m b mm : Nat} (hb : b + 99 * 40 ≤ 2 ^ 29) (hb5 : 4096 ≤ b) (H : WV (σ.2.1 6) b) (hB : BV (σ.2.1 6) σ m) (h23 : σ.1 23 = nI mm) (hm8 : mm ≤ 8) (kk : bkK1 G Q a σ mm (σ.2.1 6) (bkW σ m (σ.2.1 6))) : AW G MX12_book (d + 5) 0 0 Q 83 [some (.ref (a 60)), some (.int (nI 1)), none, none] [] (mW G.2.2.1 a σ) 0 0 := by
  obtain ⟨hv, -, hm, hm4, hl⟩ := hB
  obtain ⟨l1, l2, l3⟩ := liv_keep (σ.2.1 8) m 0 H (by omega) hb5 (fun k hk => hl k (by omega))
  refine aw_aload_n (pc := 83) (i := 0) dX12_book_83 rfl rfl ?_
  refine mc_V (pc := 84) (As := []) (rest := []) dX12_book_84 rfl ok_X12_392 rfl rfl rfl (Nat.le_of_ble_eq_true rfl) (s_tries ⟨_, rfl, rfl, ?_⟩)
  refine aw_iconst (pc := 87) dX12_book_87 iconst_0 ?_
  refine aw_istore_n (pc := 88) (i := 2) dX12_book_88 rfl (Nat.le_of_ble_eq_true rfl) rfl ?_
  refine aw_iload_n (pc := 89) (i := 2) dX12_book_89 rfl rfl ?_
  refine aw_iconst (pc := 90) dX12_book_90 iconst_4 ?_
  refine an_icmp_ge (pc := 91) (tgt := 107) dX12_book_91 rfl (by decide) (by decide) (fun h91 => absurd h91 (by decide)) (fun h91 => ?_)
  refine aw_aload_n (pc := 94) (i := 0) dX12_book_94 rfl rfl ?_
  refine mg_toldAt (pc := 95) dX12_book_95 rfl ?_
  refine aw_iload_n (pc := 98) (i := 2) dX12_book_98 rfl rfl ?_
  refine aw_iconst (pc := 99) dX12_book_99 iconst_0 ?_
  refine ms_toldAt (pc := 100) dX12_book_100 (by decide) ?_
  refine an_inc (pc := 101) (z := 1) dX12_book_101 rfl (Nat.le_of_ble_eq_true rfl) rfl ?_
  refine aw_goto (pc := 104) (tgt := 89) dX12_book_104 rfl ?_
  refine aw_iload_n (pc := 89) (i := 2) dX12_book_89 rfl rfl ?_
  refine aw_iconst (pc := 90) dX12_book_90 iconst_4 ?_
  refine an_icmp_ge (pc := 91) (tgt := 107) dX12_book_91 rfl (by decide) (by decide) (fun h91 => absurd h91 (by decide)) (fun h91 => ?_)
  refine aw_aload_n (pc := 94) (i := 0) dX12_book_94 rfl rfl ?_
  refine mg_toldAt (pc := 95) dX12_book_95 rfl ?_
  refine aw_iload_n (pc := 98) (i := 2) dX12_book_98 rfl rfl ?_
  refine aw_iconst (pc := 99) dX12_book_99 iconst_0 ?_
  refine ms_toldAt (pc := 100) dX12_book_100 (by decide) ?_
  refine an_inc (pc := 101) (z := 1) dX12_book_101 rfl (Nat.le_of_ble_eq_true rfl) rfl ?_
  refine aw_goto (pc := 104) (tgt := 89) dX12_book_104 rfl ?_
  refine aw_iload_n (pc := 89) (i := 2) dX12_book_89 rfl rfl ?_
  refine aw_iconst (pc := 90) dX12_book_90 iconst_4 ?_
  refine an_icmp_ge (pc := 91) (tgt := 107) dX12_book_91 rfl (by decide) (by decide) (fun h91 => absurd h91 (by decide)) (fun h91 => ?_)
  refine aw_aload_n (pc := 94) (i := 0) dX12_book_94 rfl rfl ?_
  refine mg_toldAt (pc := 95) dX12_book_95 rfl ?_
  refine aw_iload_n (pc := 98) (i := 2) dX12_book_98 rfl rfl ?_
  refine aw_iconst (pc := 99) dX12_book_99 iconst_0 ?_
  refine ms_toldAt (pc := 100) dX12_book_100 (by decide) ?_
  refine an_inc (pc := 101) (z := 1) dX12_book_101 rfl (Nat.le_of_ble_eq_true rfl) rfl ?_
  refine aw_goto (pc := 104) (tgt := 89) dX12_book_104 rfl ?_
  refine aw_iload_n (pc := 89) (i := 2) dX12_book_89 rfl rfl ?_
  refine aw_iconst (pc := 90) dX12_book_90 iconst_4 ?_
  refine an_icmp_ge (pc := 91) (tgt := 107) dX12_book_91 rfl (by decide) (by decide) (fun h91 => absurd h91 (by decide)) (fun h91 => ?_)
  refine aw_aload_n (pc := 94) (i := 0) dX12_book_94 rfl rfl ?_
  refine mg_toldAt (pc := 95) dX12_book_95 rfl ?_
  refine aw_iload_n (pc := 98) (i := 2) dX12_book_98 rfl rfl ?_
  refine aw_iconst (pc := 99) dX12_book_99 iconst_0 ?_
  refine ms_toldAt (pc := 100) dX12_book_100 (by decide) ?_
  refine an_inc (pc := 101) (z := 1) dX12_book_101 rfl (Nat.le_of_ble_eq_true rfl) rfl ?_
  refine aw_goto (pc := 104) (tgt := 89) dX12_book_104 rfl ?_
  refine aw_iload_n (pc := 89) (i := 2) dX12_book_89 rfl rfl ?_
  refine aw_iconst (pc := 90) dX12_book_90 iconst_4 ?_
  refine an_icmp_ge (pc := 91) (tgt := 107) dX12_book_91 rfl (by decide) (by decide) (fun h91 => ?_) (fun h91 => absurd h91 (by decide))
  refine aw_iconst (pc := 107) dX12_book_107 iconst_m1 ?_
  refine aw_istore_n (pc := 108) (i := 2) dX12_book_108 rfl (Nat.le_of_ble_eq_true rfl) rfl ?_
  refine aw_iconst (pc := 109) dX12_book_109 iconst_0 ?_
  refine aw_istore_n (pc := 110) (i := 3) dX12_book_110 rfl (Nat.le_of_ble_eq_true rfl) rfl ?_
  refine aw_ws (w9 := mW G.2.2.1 a (rho (triesS σ) (σ.2.1 6) (upN (upN (upN (upN (σ.2.1 48) 0 0) 1 0) 2 0) 3 0))) rfl ?_
  exact liv_loop (σ := triesS σ) (lv := 1) hm hm4 (bkW σ m (σ.2.1 6)) (fun ta v3 h0 h1 hv3 => book_end1 (σ := triesS σ) (t0 := σ.2.1 6) (b0 := σ.2.1 22) (mm := mm) hv3 rfl l2 (l1.1.1.2.2.2.1) h23 hm8 (by rw [h1]; unfold bkW; omega) (fun hp tf a0 a1 a2 a3 => by have := kk tf (a0.trans h0) (a1.trans h1) a2 a3; rw [if_pos (by rw [← h1]; exact hp)] at this; exact this) (fun hp tf a0 a1 a2 a3 => by have := kk tf (a0.trans h0) (a1.trans h1) a2 a3; rw [if_neg (by rw [← h1, hp]; decide)] at this; exact this)) m 0 b (σ.2.1 6) _ (by omega) H (by omega) hb5 hl rfl rfl rfl
set_option maxHeartbeats 1000000 in
set_option maxRecDepth 20000 in
theorem book_rd_0 {G : xG} {d : Nat} {Q : xQ} {a : Nat → Nat} {t : Nat → Nat} {b : Nat} (hb : b + 99 * 40 ≤ 2 ^ 29) (hb5 : 4096 ≤ b) (H : WV t b) : ∀ (n m : Nat) (σ : mS), BV t σ m → mz σ < n → ((bkL n σ m).1 = true → bkK0 G Q a (bkL n σ m).2.1 t (bkW (bkL n σ m).2.1 (bkL n σ m).2.2 t)) → ((bkL n σ m).1 = false → Q (some (.int (-2 - (bkL n σ m).2.1.1 16))) (mW G.2.2.1 a (bkL n σ m).2.1)) → AW G MX12_book (d + 5) 0 0 Q 39 [some (.ref (a 60)), some (.int (nI 0)), none, none] [] (mW G.2.2.1 a σ) 0 0 := by
  intro n
  induction n with
  | zero => intro m σ _ h; exact absurd h (Nat.not_lt_zero _)
  | succ n ih =>
    intro m σ hB hz k1 k0
    have h07 : σ.2.1 6 0 ≤ 7 := by rw [hB.2.1]; exact H.1.1.2.1
    have h06 : σ.2.1 6 2 ≤ 6 := by rw [hB.2.1]; exact H.1.1.2.2.2.1
    refine aw_aload_n (pc := 39) (i := 0) dX12_book_39 rfl rfl ?_
    refine mg_token (pc := 40) dX12_book_40 rfl ?_
    refine aw_if_eq (pc := 43) (tgt := 83) dX12_book_43 rfl (fun h43 => ?_) (fun h43 => ?_)
    · -- 83
      rw [bkL, if_pos (show σ.1 11 = nI 0 from h43)] at k1
      obtain rfl := hB.2.1
      exact book_83_0 hb hb5 H hB (k1 rfl)
    · -- 46
      refine aw_aload_n (pc := 46) (i := 0) dX12_book_46 rfl rfl ?_
      refine mc_I (pc := 47) (As := []) (rest := []) dX12_book_47 rfl ok_X12_441 rfl rfl rfl (Nat.le_of_ble_eq_true rfl) (s_bookLine hB.1 h07 h06 hB.2.2.1 hB.2.2.2.1 ⟨_, _, rfl, rfl, ?_⟩)
      refine ab_if_eq (pc := 50) (tgt := 62) dX12_book_50 rfl (fun h50 => ?_) (fun h50 => ?_)
      · -- 62
        refine aw_bipush (pc := 62) dX12_book_62 bipush_m2 ?_
        refine aw_aload_n (pc := 64) (i := 0) dX12_book_64 rfl rfl ?_
        refine mg_faultAt (pc := 65) dX12_book_65 rfl ?_
        refine aw_isub (pc := 68) dX12_book_68 ?_
        exact aw_iret (pc := 69) dX12_book_69 rfl (Nat.le_refl _) (Nat.le_refl _) (by rw [bkL, if_neg (show ¬ σ.1 11 = nI 0 from h43), if_neg (by rw [h50]; decide)] at k0; exact k0 rfl)
      · -- 53
        refine aw_aload_n (pc := 53) (i := 0) dX12_book_53 rfl rfl ?_
        refine aw_bipush (pc := 54) dX12_book_54 bipush_59 ?_
        refine mc_I (pc := 56) (As := [.int (nI 59)]) (rest := []) dX12_book_56 rfl ok_X12_272 rfl rfl rfl (Nat.le_of_ble_eq_true rfl) (s_sign (bookLine_t hB.1 h50).2.1 ⟨_, _, rfl, rfl, ?_⟩)
        refine ab_if_ne (pc := 59) (tgt := 70) dX12_book_59 rfl (fun h59 => ?_) (fun h59 => ?_)
        · -- 70
          refine aw_aload_n (pc := 70) (i := 0) dX12_book_70 rfl rfl ?_
          refine aw_dup (pc := 71) dX12_book_71 rfl ?_
          refine mg_toldMany (pc := 72) dX12_book_72 rfl ?_
          refine aw_top (y := (nI m)) (by rw [(sign_t h59).2, nx_sc _ 47 (by decide), (bookLine_t hB.1 h50).2.2.2.2.1]; exact hB.2.2.1) ?_
          refine aw_iconst (pc := 75) dX12_book_75 iconst_1 ?_
          refine an_add (pc := 76) dX12_book_76 ?_
          refine mp_toldMany (pc := 77) dX12_book_77 rfl ?_
          refine aw_goto (pc := 80) (tgt := 39) dX12_book_80 rfl ?_
          rw [bkL, if_neg (show ¬ σ.1 11 = nI 0 from h43), if_pos h50, if_pos h59] at k1 k0
          have hn := BV_line hB h50 h59
          exact ih (m + 1) _ hn.1 (by omega) k1 k0
        · -- 62
          refine aw_bipush (pc := 62) dX12_book_62 bipush_m2 ?_
          refine aw_aload_n (pc := 64) (i := 0) dX12_book_64 rfl rfl ?_
          refine mg_faultAt (pc := 65) dX12_book_65 rfl ?_
          refine aw_isub (pc := 68) dX12_book_68 ?_
          exact aw_iret (pc := 69) dX12_book_69 rfl (Nat.le_refl _) (Nat.le_refl _) (by rw [bkL, if_neg (show ¬ σ.1 11 = nI 0 from h43), if_pos h50, if_neg (by rw [h59]; decide)] at k0; exact k0 rfl)
set_option maxHeartbeats 1000000 in
set_option maxRecDepth 20000 in
theorem book_rd_1 {G : xG} {d : Nat} {Q : xQ} {a : Nat → Nat} {t : Nat → Nat} {b mm : Nat} (hb : b + 99 * 40 ≤ 2 ^ 29) (hb5 : 4096 ≤ b) (H : WV t b) : ∀ (n m : Nat) (σ : mS), BV t σ m → mz σ < n → σ.1 23 = nI mm → mm ≤ 8 → ((bkL n σ m).1 = true → bkK1 G Q a (bkL n σ m).2.1 mm t (bkW (bkL n σ m).2.1 (bkL n σ m).2.2 t)) → ((bkL n σ m).1 = false → Q (some (.int (-2 - (bkL n σ m).2.1.1 16))) (mW G.2.2.1 a (bkL n σ m).2.1)) → AW G MX12_book (d + 5) 0 0 Q 39 [some (.ref (a 60)), some (.int (nI 1)), none, none] [] (mW G.2.2.1 a σ) 0 0 := by
  intro n
  induction n with
  | zero => intro m σ _ h; exact absurd h (Nat.not_lt_zero _)
  | succ n ih =>
    intro m σ hB hz h23 hm8 k1 k0
    have h07 : σ.2.1 6 0 ≤ 7 := by rw [hB.2.1]; exact H.1.1.2.1
    have h06 : σ.2.1 6 2 ≤ 6 := by rw [hB.2.1]; exact H.1.1.2.2.2.1
    refine aw_aload_n (pc := 39) (i := 0) dX12_book_39 rfl rfl ?_
    refine mg_token (pc := 40) dX12_book_40 rfl ?_
    refine aw_if_eq (pc := 43) (tgt := 83) dX12_book_43 rfl (fun h43 => ?_) (fun h43 => ?_)
    · -- 83
      rw [bkL, if_pos (show σ.1 11 = nI 0 from h43)] at k1
      obtain rfl := hB.2.1
      exact book_83_1 hb hb5 H hB h23 hm8 (k1 rfl)
    · -- 46
      refine aw_aload_n (pc := 46) (i := 0) dX12_book_46 rfl rfl ?_
      refine mc_I (pc := 47) (As := []) (rest := []) dX12_book_47 rfl ok_X12_441 rfl rfl rfl (Nat.le_of_ble_eq_true rfl) (s_bookLine hB.1 h07 h06 hB.2.2.1 hB.2.2.2.1 ⟨_, _, rfl, rfl, ?_⟩)
      refine ab_if_eq (pc := 50) (tgt := 62) dX12_book_50 rfl (fun h50 => ?_) (fun h50 => ?_)
      · -- 62
        refine aw_bipush (pc := 62) dX12_book_62 bipush_m2 ?_
        refine aw_aload_n (pc := 64) (i := 0) dX12_book_64 rfl rfl ?_
        refine mg_faultAt (pc := 65) dX12_book_65 rfl ?_
        refine aw_isub (pc := 68) dX12_book_68 ?_
        exact aw_iret (pc := 69) dX12_book_69 rfl (Nat.le_refl _) (Nat.le_refl _) (by rw [bkL, if_neg (show ¬ σ.1 11 = nI 0 from h43), if_neg (by rw [h50]; decide)] at k0; exact k0 rfl)
      · -- 53
        refine aw_aload_n (pc := 53) (i := 0) dX12_book_53 rfl rfl ?_
        refine aw_bipush (pc := 54) dX12_book_54 bipush_59 ?_
        refine mc_I (pc := 56) (As := [.int (nI 59)]) (rest := []) dX12_book_56 rfl ok_X12_272 rfl rfl rfl (Nat.le_of_ble_eq_true rfl) (s_sign (bookLine_t hB.1 h50).2.1 ⟨_, _, rfl, rfl, ?_⟩)
        refine ab_if_ne (pc := 59) (tgt := 70) dX12_book_59 rfl (fun h59 => ?_) (fun h59 => ?_)
        · -- 70
          refine aw_aload_n (pc := 70) (i := 0) dX12_book_70 rfl rfl ?_
          refine aw_dup (pc := 71) dX12_book_71 rfl ?_
          refine mg_toldMany (pc := 72) dX12_book_72 rfl ?_
          refine aw_top (y := (nI m)) (by rw [(sign_t h59).2, nx_sc _ 47 (by decide), (bookLine_t hB.1 h50).2.2.2.2.1]; exact hB.2.2.1) ?_
          refine aw_iconst (pc := 75) dX12_book_75 iconst_1 ?_
          refine an_add (pc := 76) dX12_book_76 ?_
          refine mp_toldMany (pc := 77) dX12_book_77 rfl ?_
          refine aw_goto (pc := 80) (tgt := 39) dX12_book_80 rfl ?_
          rw [bkL, if_neg (show ¬ σ.1 11 = nI 0 from h43), if_pos h50, if_pos h59] at k1 k0
          have hn := BV_line hB h50 h59
          exact ih (m + 1) _ hn.1 (by omega) (by rw [mI_o _ _ _ _ (by decide), (sign_t h59).2, nx_sc _ 23 (by decide), bookLine_23]; exact h23) hm8 k1 k0
        · -- 62
          refine aw_bipush (pc := 62) dX12_book_62 bipush_m2 ?_
          refine aw_aload_n (pc := 64) (i := 0) dX12_book_64 rfl rfl ?_
          refine mg_faultAt (pc := 65) dX12_book_65 rfl ?_
          refine aw_isub (pc := 68) dX12_book_68 ?_
          exact aw_iret (pc := 69) dX12_book_69 rfl (Nat.le_refl _) (Nat.le_refl _) (by rw [bkL, if_neg (show ¬ σ.1 11 = nI 0 from h43), if_pos h50, if_neg (by rw [h59]; decide)] at k0; exact k0 rfl)
def bookB (σ : mS) (n : Nat) : mS := mI (mI (takenS (mI σ 0 (nI 0)) n 400) 15 (nI 0)) 47 (nI 0)
def bookR (σ : mS) (n : Nat) : Bool × mS × Nat := bkL 2000 (nx (bookB σ n)) 0
theorem PV_bookB {σ : mS} {n : Nat} (hn : n ≤ 940) (hm : ∃ nm, σ.1 14 = nI nm ∧ nm < 2 ^ 30) (ht : ∃ tk, σ.1 11 = nI tk ∧ tk ≤ 4) (ha : ∃ z, σ.1 12 = nI z ∧ z ≤ 940) : PV (bookB σ n) := by
  obtain ⟨nm, h14, hnm⟩ := hm
  obtain ⟨tk, h11, htk⟩ := ht
  obtain ⟨z, h12, hz⟩ := ha
  exact ⟨n, 400, 0, nm, tk, z, rfl, hn, rfl, by decide, rfl, Nat.zero_le _, h14, hnm, h11, htk, h12, hz⟩
theorem BV_bookB {σ : mS} {n : Nat} (hv : PV (bookB σ n)) : BV (σ.2.1 6) (nx (bookB σ n)) 0 := ⟨PV_nx hv, rfl, by rw [nx_sc _ 47 (by decide)]; rfl, by omega, fun i hi => absurd hi (Nat.not_lt_zero i)⟩

theorem inC01 {x : Int32} (h : inC (nI 0) (nI 1) x = false) : ¬ (x = nI 0) ∧ ¬ (x = nI 1) := by refine ⟨fun e => ?_, fun e => ?_⟩ <;> (rw [e] at h; exact absurd h (by decide))
set_option maxHeartbeats 1000000 in
set_option maxRecDepth 20000 in
theorem s_book0 {G : xG} {d : Nat} {Q : xQ} {a : Nat → Nat} {σ : mS} {n b : Nat} (hn : σ.1 2 = nI n) (hn9 : n ≤ 940) (hm : ∃ nm, σ.1 14 = nI nm ∧ nm < 2 ^ 30) (ht : ∃ tk, σ.1 11 = nI tk ∧ tk ≤ 4) (ha : ∃ z, σ.1 12 = nI z ∧ z ≤ 940) (hb : b + 99 * 40 ≤ 2 ^ 29) (hb5 : 4096 ≤ b) (H : WV (σ.2.1 6) b) (k1 : (bookR σ n).1 = true → bkK0 G Q a (bookR σ n).2.1 (σ.2.1 6) (bkW (bookR σ n).2.1 (bookR σ n).2.2 (σ.2.1 6))) (k0 : (bookR σ n).1 = false → Q (some (.int (-2 - (bookR σ n).2.1.1 16))) (mW G.2.2.1 a (bookR σ n).2.1)) : MT G MX12_book (d + 5) 0 0 [.ref (a 60), .int (nI 0)] (mW G.2.2.1 a σ) Q := by
  have hv := PV_bookB hn9 hm ht ha
  refine mt_start (L := [some (.ref (a 60)), some (.int (nI 0)), none, none]) rfl (Nat.le_of_ble_eq_true rfl) rfl ?_
  refine aw_aload_n (pc := 0) (i := 0) dX12_book_0 rfl rfl ?_
  refine aw_iconst (pc := 1) dX12_book_1 iconst_0 ?_
  refine mp_thrown (pc := 2) dX12_book_2 rfl ?_
  refine aw_iload_n (pc := 5) (i := 1) dX12_book_5 rfl rfl ?_
  refine aw_iconst (pc := 6) dX12_book_6 iconst_0 ?_
  refine aw_iconst (pc := 7) dX12_book_7 iconst_1 ?_
  refine mt_I (pc := 8) (As := [.int (nI 0), .int (nI 0), .int (nI 1)]) (rest := []) dX12_book_8 rfl ok_X12_207 rfl rfl rfl (Nat.le_of_ble_eq_true rfl) (s_isIn ⟨_, _, rfl, rfl, ?_⟩)
  refine aw_top (y := bI (inC (nI 0) (nI 1) (nI 0))) rfl ?_
  refine ab_if_ne (pc := 11) (tgt := 18) dX12_book_11 rfl (fun h11 => ?_) (fun h11 => ?_)
  · -- 18
    refine aw_aload_n (pc := 18) (i := 0) dX12_book_18 rfl rfl ?_
    refine aw_sipush (pc := 19) dX12_book_19 sipush_400 ?_
    refine mc_V (pc := 22) (As := [.int (nI 400)]) (rest := []) dX12_book_22 rfl ok_X12_263 rfl rfl rfl (Nat.le_of_ble_eq_true rfl) (s_taken hn ⟨_, rfl, rfl, ?_⟩)
    refine aw_aload_n (pc := 25) (i := 0) dX12_book_25 rfl rfl ?_
    refine aw_iconst (pc := 26) dX12_book_26 iconst_0 ?_
    refine mp_fault (pc := 27) dX12_book_27 rfl ?_
    refine aw_aload_n (pc := 30) (i := 0) dX12_book_30 rfl rfl ?_
    refine aw_iconst (pc := 31) dX12_book_31 iconst_0 ?_
    refine mp_toldMany (pc := 32) dX12_book_32 rfl ?_
    refine aw_aload_n (pc := 35) (i := 0) dX12_book_35 rfl rfl ?_
    refine mc_V (pc := 36) (As := []) (rest := []) dX12_book_36 rfl ok_X12_204 rfl rfl rfl (Nat.le_of_ble_eq_true rfl) (s_nx hv ⟨_, rfl, rfl, ?_⟩)
    exact book_rd_0 hb hb5 H 2000 0 (nx (bookB σ n)) (BV_bookB hv) (mz_lt (PV_nx hv)) k1 k0
  · -- 14
    refine aw_sipush (pc := 14) dX12_book_14 sipush_m1000 ?_
    exact aw_iret (pc := 17) dX12_book_17 rfl (Nat.le_refl _) (Nat.le_refl _) (absurd h11 (by decide))
set_option maxHeartbeats 1000000 in
set_option maxRecDepth 20000 in
theorem s_book1 {G : xG} {d : Nat} {Q : xQ} {a : Nat → Nat} {σ : mS} {n b mm : Nat} (hn : σ.1 2 = nI n) (hn9 : n ≤ 940) (hm : ∃ nm, σ.1 14 = nI nm ∧ nm < 2 ^ 30) (ht : ∃ tk, σ.1 11 = nI tk ∧ tk ≤ 4) (ha : ∃ z, σ.1 12 = nI z ∧ z ≤ 940) (hb : b + 99 * 40 ≤ 2 ^ 29) (hb5 : 4096 ≤ b) (H : WV (σ.2.1 6) b) (h23 : σ.1 23 = nI mm) (hm8 : mm ≤ 8) (k1 : (bookR σ n).1 = true → bkK1 G Q a (bookR σ n).2.1 mm (σ.2.1 6) (bkW (bookR σ n).2.1 (bookR σ n).2.2 (σ.2.1 6))) (k0 : (bookR σ n).1 = false → Q (some (.int (-2 - (bookR σ n).2.1.1 16))) (mW G.2.2.1 a (bookR σ n).2.1)) : MT G MX12_book (d + 5) 0 0 [.ref (a 60), .int (nI 1)] (mW G.2.2.1 a σ) Q := by
  have hv := PV_bookB hn9 hm ht ha
  refine mt_start (L := [some (.ref (a 60)), some (.int (nI 1)), none, none]) rfl (Nat.le_of_ble_eq_true rfl) rfl ?_
  refine aw_aload_n (pc := 0) (i := 0) dX12_book_0 rfl rfl ?_
  refine aw_iconst (pc := 1) dX12_book_1 iconst_0 ?_
  refine mp_thrown (pc := 2) dX12_book_2 rfl ?_
  refine aw_iload_n (pc := 5) (i := 1) dX12_book_5 rfl rfl ?_
  refine aw_iconst (pc := 6) dX12_book_6 iconst_0 ?_
  refine aw_iconst (pc := 7) dX12_book_7 iconst_1 ?_
  refine mt_I (pc := 8) (As := [.int (nI 1), .int (nI 0), .int (nI 1)]) (rest := []) dX12_book_8 rfl ok_X12_207 rfl rfl rfl (Nat.le_of_ble_eq_true rfl) (s_isIn ⟨_, _, rfl, rfl, ?_⟩)
  refine aw_top (y := bI (inC (nI 0) (nI 1) (nI 1))) rfl ?_
  refine ab_if_ne (pc := 11) (tgt := 18) dX12_book_11 rfl (fun h11 => ?_) (fun h11 => ?_)
  · -- 18
    refine aw_aload_n (pc := 18) (i := 0) dX12_book_18 rfl rfl ?_
    refine aw_sipush (pc := 19) dX12_book_19 sipush_400 ?_
    refine mc_V (pc := 22) (As := [.int (nI 400)]) (rest := []) dX12_book_22 rfl ok_X12_263 rfl rfl rfl (Nat.le_of_ble_eq_true rfl) (s_taken hn ⟨_, rfl, rfl, ?_⟩)
    refine aw_aload_n (pc := 25) (i := 0) dX12_book_25 rfl rfl ?_
    refine aw_iconst (pc := 26) dX12_book_26 iconst_0 ?_
    refine mp_fault (pc := 27) dX12_book_27 rfl ?_
    refine aw_aload_n (pc := 30) (i := 0) dX12_book_30 rfl rfl ?_
    refine aw_iconst (pc := 31) dX12_book_31 iconst_0 ?_
    refine mp_toldMany (pc := 32) dX12_book_32 rfl ?_
    refine aw_aload_n (pc := 35) (i := 0) dX12_book_35 rfl rfl ?_
    refine mc_V (pc := 36) (As := []) (rest := []) dX12_book_36 rfl ok_X12_204 rfl rfl rfl (Nat.le_of_ble_eq_true rfl) (s_nx hv ⟨_, rfl, rfl, ?_⟩)
    exact book_rd_1 hb hb5 H 2000 0 (nx (bookB σ n)) (BV_bookB hv) (mz_lt (PV_nx hv)) (by rw [nx_sc _ 23 (by decide)]; exact h23) hm8 k1 k0
  · -- 14
    refine aw_sipush (pc := 14) dX12_book_14 sipush_m1000 ?_
    exact aw_iret (pc := 17) dX12_book_17 rfl (Nat.le_refl _) (Nat.le_refl _) (absurd h11 (by decide))
set_option maxHeartbeats 1000000 in
set_option maxRecDepth 20000 in
theorem s_bookN {G : xG} {d : Nat} {Q : xQ} {a : Nat → Nat} {σ : mS} {x : Int32} (hx : inC (nI 0) (nI 1) x = false) (kk : Q (some (.int (-1000))) (mW G.2.2.1 a (mI σ 0 (nI 0)))) : MT G MX12_book (d + 5) 0 0 [.ref (a 60), .int x] (mW G.2.2.1 a σ) Q := by
  refine mt_start (L := [some (.ref (a 60)), some (.int x), none, none]) rfl (Nat.le_of_ble_eq_true rfl) rfl ?_
  refine aw_aload_n (pc := 0) (i := 0) dX12_book_0 rfl rfl ?_
  refine aw_iconst (pc := 1) dX12_book_1 iconst_0 ?_
  refine mp_thrown (pc := 2) dX12_book_2 rfl ?_
  refine aw_iload_n (pc := 5) (i := 1) dX12_book_5 rfl rfl ?_
  refine aw_iconst (pc := 6) dX12_book_6 iconst_0 ?_
  refine aw_iconst (pc := 7) dX12_book_7 iconst_1 ?_
  refine mt_I (pc := 8) (As := [.int x, .int (nI 0), .int (nI 1)]) (rest := []) dX12_book_8 rfl ok_X12_207 rfl rfl rfl (Nat.le_of_ble_eq_true rfl) (s_isIn ⟨_, _, rfl, rfl, ?_⟩)
  refine aw_top (y := bI (inC (nI 0) (nI 1) x)) rfl ?_
  refine ab_if_ne (pc := 11) (tgt := 18) dX12_book_11 rfl (fun h11 => ?_) (fun h11 => ?_)
  · -- 18
    exact absurd hx (by rw [h11]; decide)
  · -- 14
    refine aw_sipush (pc := 14) dX12_book_14 sipush_m1000 ?_
    exact aw_iret (pc := 17) dX12_book_17 rfl (Nat.le_refl _) (Nat.le_refl _) (kk)
