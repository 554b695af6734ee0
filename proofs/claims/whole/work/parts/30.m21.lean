def bkL : Nat → mS → Nat → Bool × mS × Nat
  | 0, σ, m => (false, σ, m)
  | n + 1, σ, m => if σ.1 11 = nI 0 then (true, σ, m) else if (bookLineF σ m).1 = true then (if (signF (bookLineF σ m).2 59).1 = true then bkL n (mI (signF (bookLineF σ m).2 59).2 47 (nI (m + 1))) (m + 1) else (false, (signF (bookLineF σ m).2 59).2, m)) else (false, (bookLineF σ m).2, m)
/-- a book as far as it is read -/
def BV (t : Nat → Nat) (σ : mS) (m : Nat) : Prop := PV σ ∧ σ.2.1 6 = t ∧ σ.1 47 = nI m ∧ m ≤ 40 ∧ ∀ i, i < m → lnOK t (σ.2.1 8 (4 * i)) (σ.2.1 8 (4 * i + 1)) (σ.2.1 8 (4 * i + 2)) (σ.2.1 8 (4 * i + 3))
theorem BV_line {t : Nat → Nat} {σ : mS} {m : Nat} (H : BV t σ m) (h : (bookLineF σ m).1 = true) (h2 : (signF (bookLineF σ m).2 59).1 = true) : BV t (mI (signF (bookLineF σ m).2 59).2 47 (nI (m + 1))) (m + 1) ∧ mz (mI (signF (bookLineF σ m).2 59).2 47 (nI (m + 1))) < mz σ := by
  obtain ⟨hv, ht, hm, hm4, hl⟩ := H
  obtain ⟨h40, b1, b2, b3, b4, b5, b6⟩ := bookLine_t hv h
  generalize (bookLineF σ m).2 = ρ at *
  rw [(sign_t h2).2]
  refine ⟨⟨PV_mI (PV_nx b1) (by decide), by rw [mI_n, nx_n, b2]; exact ht, mI_k _ _ _, by omega, fun i hi => ?_⟩, ?_⟩
  · rw [mI_n, nx_n]
    by_cases hi2 : i = m
    · subst hi2; rw [← ht]; exact b6
    · rw [b3 _ (by omega), b3 _ (by omega), b3 _ (by omega), b3 _ (by omega)]
      exact hl i (by omega)
  · rw [mz_mI (by decide)]
    have := (mz_nx b1).1
    omega
def liv (rd : Nat → Nat) : Nat → Nat → (Nat → Nat) → Nat × Nat × Int32 × (Nat → Nat)
  | 0, i, t => (0, i, -1, t)
  | n + 1, i, t => if doesA t (rd (4 * i)) (rd (4 * i + 1)) (rd (4 * i + 2)) (rd (4 * i + 3)) = 0 then liv rd n (i + 1) (doesS t (rd (4 * i)) (rd (4 * i + 1)) (rd (4 * i + 2)) (rd (4 * i + 3))) else (doesA t (rd (4 * i)) (rd (4 * i + 1)) (rd (4 * i + 2)) (rd (4 * i + 3)), i, nI i, t)
theorem doesN_le (t : Nat → Nat) (k x y n : Nat) : doesN t k x y n ≤ 5 := by
  have h1 := whyBy_le t (t (108 + x)) y (t (114 + x)) (sparedF t x)
  unfold doesN whyPactF whyTurnF whyLendF whyX
  repeat' split
  all_goals omega
theorem doesA_lt {t : Nat → Nat} {k x y n : Nat} (hk : k ≤ 6) : doesA t k x y n < 2 ^ 31 := by
  have := doesN_le t k x y n
  unfold doesA
  split <;> omega
theorem lnOK_of {t u : Nat → Nat} {k x y n : Nat} (h : lnOK t k x y n) (h0 : u 0 = t 0) (h2 : u 2 = t 2) : lnOK u k x y n := by
  unfold lnOK at *
  rw [h0, h2]
  exact h
theorem doesS_w {t : Nat → Nat} {k x y n : Nat} (h : 0 < doesA t k x y n) : doesS t k x y n = t := by
  unfold doesA at h
  unfold doesS
  by_cases e : doesN t k x y n = 0
  · rw [if_pos e] at h; omega
  · rw [if_neg e]
def rho (σ : mS) (u ta : Nat → Nat) : mS := sN (sN σ 6 u) 48 ta

set_option maxHeartbeats 1000000 in
set_option maxRecDepth 20000 in
theorem liv_loop {G : xG} {d : Nat} {Q : xQ} {a : Nat → Nat} {σ : mS} {lv m : Nat} (hm : σ.1 47 = nI m) (hm4 : m ≤ 40) (res : Nat × Nat × Int32 × (Nat → Nat)) (kk : ∀ (ta : Nat → Nat) (v3 : Value), ta 0 = res.1 → ta 1 = res.2.1 → v3.category = 1 → AW G MX12_book (d + 5) 0 0 Q 201 [some (.ref (a 60)), some (.int (nI lv)), some (.int res.2.2.1), some v3] [] (mW G.2.2.1 a (rho σ res.2.2.2 ta)) 0 0) : ∀ (n i b : Nat) (u ta : Nat → Nat), i + n = m → WV u b → b + 99 * n ≤ 2 ^ 29 → 4096 ≤ b → (∀ i, i < m → lnOK u (σ.2.1 8 (4 * i)) (σ.2.1 8 (4 * i + 1)) (σ.2.1 8 (4 * i + 2)) (σ.2.1 8 (4 * i + 3))) → ta 0 = 0 → ta 1 = i → liv (σ.2.1 8) n i u = res → AW G MX12_book (d + 5) 0 0 Q 111 [some (.ref (a 60)), some (.int (nI lv)), some (.int ((-1))), some (.int (nI i))] [] (mW G.2.2.1 a (rho σ u ta)) 0 0 := by
  intro n
  induction n with
  | zero =>
    intro i b u ta hi H hb hb5 hl h0 h1 he
    refine aw_iload_n (pc := 111) (i := 3) dX12_book_111 rfl rfl ?_
    refine aw_aload_n (pc := 112) (i := 0) dX12_book_112 rfl rfl ?_
    refine mg_toldMany (pc := 113) dX12_book_113 rfl ?_
    refine aw_top (y := (nI m)) hm ?_
    refine an_icmp_ge (pc := 116) (tgt := 201) dX12_book_116 rfl (by omega) (by omega) (fun h116 => ?_) (fun h116 => ?_)
    · -- 201
      subst he
      exact kk ta _ h0 h1 rfl
    · -- 119
      exfalso; omega
  | succ n ih =>
    intro i b u ta hi H hb hb5 hl h0 h1 he
    have hok := hl i (by omega)
    have hk6 := hok.1
    have hda := doesA_lt (t := u) (x := σ.2.1 8 (4 * i + 1)) (y := σ.2.1 8 (4 * i + 2)) (n := σ.2.1 8 (4 * i + 3)) hk6
    have wd := WV_does H (by omega) hb5 hok
    rw [liv] at he
    have hw := @doesS_w u (σ.2.1 8 (4 * i)) (σ.2.1 8 (4 * i + 1)) (σ.2.1 8 (4 * i + 2)) (σ.2.1 8 (4 * i + 3))
    generalize hA : doesA u (σ.2.1 8 (4 * i)) (σ.2.1 8 (4 * i + 1)) (σ.2.1 8 (4 * i + 2)) (σ.2.1 8 (4 * i + 3)) = A at *
    generalize hU : doesS u (σ.2.1 8 (4 * i)) (σ.2.1 8 (4 * i + 1)) (σ.2.1 8 (4 * i + 2)) (σ.2.1 8 (4 * i + 3)) = U at *
    refine aw_iload_n (pc := 111) (i := 3) dX12_book_111 rfl rfl ?_
    refine aw_aload_n (pc := 112) (i := 0) dX12_book_112 rfl rfl ?_
    refine mg_toldMany (pc := 113) dX12_book_113 rfl ?_
    refine aw_top (y := (nI m)) hm ?_
    refine an_icmp_ge (pc := 116) (tgt := 201) dX12_book_116 rfl (by omega) (by omega) (fun h116 => ?_) (fun h116 => ?_)
    · -- 201
      exfalso; omega
    · -- 119
      refine aw_iload_n (pc := 119) (i := 2) dX12_book_119 rfl rfl ?_
      refine an_ifm_ge (pc := 120) (tgt := 201) dX12_book_120 rfl ?_
      refine aw_aload_n (pc := 123) (i := 0) dX12_book_123 rfl rfl ?_
      refine mg_toldAt (pc := 124) dX12_book_124 rfl ?_
      refine aw_iconst (pc := 127) dX12_book_127 iconst_0 ?_
      refine aw_aload_n (pc := 128) (i := 0) dX12_book_128 rfl rfl ?_
      refine aw_aload_n (pc := 129) (i := 0) dX12_book_129 rfl rfl ?_
      refine mg_read (pc := 130) dX12_book_130 rfl ?_
      refine aw_iconst (pc := 133) dX12_book_133 iconst_4 ?_
      refine aw_iload_n (pc := 134) (i := 3) dX12_book_134 rfl rfl ?_
      refine an_mul (pc := 135) dX12_book_135 ?_
      refine ml_read (pc := 136) dX12_book_136 (by omega) ?_
      refine aw_top (y := (nI (σ.2.1 8 (4 * i)))) rfl ?_
      refine aw_aload_n (pc := 137) (i := 0) dX12_book_137 rfl rfl ?_
      refine mg_read (pc := 138) dX12_book_138 rfl ?_
      refine aw_iconst (pc := 141) dX12_book_141 iconst_4 ?_
      refine aw_iload_n (pc := 142) (i := 3) dX12_book_142 rfl rfl ?_
      refine an_mul (pc := 143) dX12_book_143 ?_
      refine aw_iconst (pc := 144) dX12_book_144 iconst_1 ?_
      refine an_add (pc := 145) dX12_book_145 ?_
      refine ml_read (pc := 146) dX12_book_146 (by omega) ?_
      refine aw_top (y := (nI (σ.2.1 8 ((4 * i) + 1)))) rfl ?_
      refine aw_aload_n (pc := 147) (i := 0) dX12_book_147 rfl rfl ?_
      refine mg_read (pc := 148) dX12_book_148 rfl ?_
      refine aw_iconst (pc := 151) dX12_book_151 iconst_4 ?_
      refine aw_iload_n (pc := 152) (i := 3) dX12_book_152 rfl rfl ?_
      refine an_mul (pc := 153) dX12_book_153 ?_
      refine aw_iconst (pc := 154) dX12_book_154 iconst_2 ?_
      refine an_add (pc := 155) dX12_book_155 ?_
      refine ml_read (pc := 156) dX12_book_156 (by omega) ?_
      refine aw_top (y := (nI (σ.2.1 8 ((4 * i) + 2)))) rfl ?_
      refine aw_aload_n (pc := 157) (i := 0) dX12_book_157 rfl rfl ?_
      refine mg_read (pc := 158) dX12_book_158 rfl ?_
      refine aw_iconst (pc := 161) dX12_book_161 iconst_4 ?_
      refine aw_iload_n (pc := 162) (i := 3) dX12_book_162 rfl rfl ?_
      refine an_mul (pc := 163) dX12_book_163 ?_
      refine aw_iconst (pc := 164) dX12_book_164 iconst_3 ?_
      refine an_add (pc := 165) dX12_book_165 ?_
      refine ml_read (pc := 166) dX12_book_166 (by omega) ?_
      refine aw_top (y := (nI (σ.2.1 8 ((4 * i) + 3)))) rfl ?_
      refine mc_I (pc := 167) (As := [.int (nI (σ.2.1 8 (4 * i))), .int (nI (σ.2.1 8 ((4 * i) + 1))), .int (nI (σ.2.1 8 ((4 * i) + 2))), .int (nI (σ.2.1 8 ((4 * i) + 3)))]) (rest := [.int (nI 0), .ref (a 48)]) dX12_book_167 rfl ok_X12_444 rfl rfl rfl (Nat.le_of_ble_eq_true rfl) (s_does H.1.1 (fun j => Nat.lt_of_lt_of_le (H.1.2 j) (by omega)) hok ⟨_, _, rfl, rfl, ?_⟩)
      refine aw_top (y := nI A) (by rw [← hA]; rfl) ?_
      refine aw_ws (w9 := mW G.2.2.1 a (rho σ U ta)) (by rw [← hU]; rfl) ?_
      refine ms_toldAt (pc := 170) dX12_book_170 (by decide) ?_
      refine aw_aload_n (pc := 171) (i := 0) dX12_book_171 rfl rfl ?_
      refine mg_toldAt (pc := 172) dX12_book_172 rfl ?_
      refine aw_iconst (pc := 175) dX12_book_175 iconst_0 ?_
      refine ml_toldAt (pc := 176) dX12_book_176 (by decide) ?_
      refine aw_top (y := (nI A)) rfl ?_
      refine an_if_le (pc := 177) (tgt := 185) dX12_book_177 rfl hda (fun h177 => ?_) (fun h177 => ?_)
      · -- 185
        refine aw_aload_n (pc := 185) (i := 0) dX12_book_185 rfl rfl ?_
        refine mg_toldAt (pc := 186) dX12_book_186 rfl ?_
        refine aw_iconst (pc := 189) dX12_book_189 iconst_1 ?_
        refine aw_dup2 (pc := 190) dX12_book_190 rfl rfl ?_
        refine ml_toldAt (pc := 191) dX12_book_191 (by decide) ?_
        refine aw_top (y := (nI (ta 1))) rfl ?_
        refine aw_iconst (pc := 192) dX12_book_192 iconst_1 ?_
        refine an_add (pc := 193) dX12_book_193 ?_
        refine ms_toldAt (pc := 194) dX12_book_194 (by decide) ?_
        refine an_inc (pc := 195) (z := 1) dX12_book_195 rfl (Nat.le_of_ble_eq_true rfl) rfl ?_
        refine aw_goto (pc := 198) (tgt := 111) dX12_book_198 rfl ?_
        rw [if_pos h177] at he
        refine aw_ws (w9 := mW G.2.2.1 a (rho σ U (upN (upN ta 0 A) 1 (ta 1 + 1)))) rfl ?_
        exact ih (i + 1) (b + 99) U _ (by omega) wd.1 (by omega) (by omega) (fun j hj => lnOK_of (hl j hj) (wd.2 0 (by omega)) (wd.2 2 (by omega))) (by rw [upN_n _ _ _ _ (by decide), upN_s]; exact h177) (by rw [upN_s, h1]) he
      · -- 180
        refine aw_iload_n (pc := 180) (i := 3) dX12_book_180 rfl rfl ?_
        refine aw_istore_n (pc := 181) (i := 2) dX12_book_181 rfl (Nat.le_of_ble_eq_true rfl) rfl ?_
        refine aw_goto (pc := 182) (tgt := 195) dX12_book_182 rfl ?_
        refine an_inc (pc := 195) (z := 1) dX12_book_195 rfl (Nat.le_of_ble_eq_true rfl) rfl ?_
        refine aw_goto (pc := 198) (tgt := 111) dX12_book_198 rfl ?_
        rw [if_neg (Nat.ne_of_gt h177)] at he
        have hUu := hw h177
        subst he
        refine aw_ws (w9 := mW G.2.2.1 a (rho σ u (upN ta 0 A))) (by rw [← hUu]; rfl) ?_
        refine aw_iload_n (pc := 111) (i := 3) dX12_book_111 rfl rfl ?_
        refine aw_aload_n (pc := 112) (i := 0) dX12_book_112 rfl rfl ?_
        refine mg_toldMany (pc := 113) dX12_book_113 rfl ?_
        refine aw_top (y := nI m) hm ?_
        refine an_icmp_ge (pc := 116) (tgt := 201) dX12_book_116 rfl (by omega) (by omega) (fun h => ?_) (fun h => ?_)
        · exact kk _ _ (upN_s _ _ _) (by rw [upN_n _ _ _ _ (by decide)]; exact h1) rfl
        · refine aw_iload_n (pc := 119) (i := 2) dX12_book_119 rfl rfl ?_
          refine an_if_ge (pc := 120) (tgt := 201) dX12_book_120 rfl (by omega) ?_
          exact kk _ _ (upN_s _ _ _) (by rw [upN_n _ _ _ _ (by decide)]; exact h1) rfl
