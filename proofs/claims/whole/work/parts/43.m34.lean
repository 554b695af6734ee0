theorem mdK_le {t : Nat → Nat} {q v : Nat} (h0 : t 0 ≤ 7) : ∀ n k, k + n ≤ 5 → (mdK t q v n k).length ≤ n * 3000 := by
  intro n
  induction n with
  | zero => intro k _; exact Nat.zero_le _
  | succ n ih =>
    intro k hk
    rw [mdK, List.length_append]
    have h1 := List.length_filter_le (mdB v) (rwF t (t (79 + q)) (sparedF t q) k (nd0 t q))
    have h2 := rwF_le (hm := t (79 + q)) (sp := sparedF t q) h0 k (nd0 t q)
    have h3 : 7 ^ k ≤ 7 ^ 4 := Nat.pow_le_pow_right (by decide) (by omega)
    have h4 := ih (k + 1) (by omega)
    omega
theorem lkG_cong {e e' : Nat → Nat} (h : ∀ l, l < 7 → e l = e' l) : ∀ m l b, l + m ≤ 7 → b < 7 → lkG e m l b = lkG e' m l b := by
  intro m
  induction m with
  | zero => intro l b _ _; rfl
  | succ m ih =>
    intro l b hl hb
    rw [lkG, lkG, h b hb, h l (by omega)]
    exact ih _ _ (by omega) (by split <;> omega)

set_option maxHeartbeats 1000000 in
set_option maxRecDepth 20000 in
theorem md_out {G : xG} {d : Nat} {Q : xQ} {a : Nat → Nat} {σ : mS} {q : Nat} {m0 : Int32} {r0 : Nat → Nat} (hw : WT (σ.2.1 6)) (hq : q < σ.2.1 6 2) (hq9 : octN (σ.2.2.1 1 0) = q) : ∀ (n k : Nat), k + n = 5 → 1 ≤ k → ∀ (p : pS) (dd : Int32) (sp hm : Nat) (acc : List (List Nat × nD)) (en mr : Nat → Nat) (mm : Int32), acc.length ≤ k * 3000 → MV m0 r0 acc en mr mm → (∀ (en' mr' : Nat → Nat) (mm' : Int32) (p9 : pS) (dd9 : Int32) (sp9 hm9 : Nat), MV m0 r0 (acc ++ mdK (σ.2.1 6) q (octN (σ.2.2.1 1 1)) n k) en' mr' mm' → AW G MX12_made (d + 5) 0 0 Q 159 [some (.ref (a 60)), some (.int (nI ((acc ++ mdK (σ.2.1 6) q (octN (σ.2.2.1 1 1)) n k).length))), some (.int (nI 5)), none] [] (mW G.2.2.1 a (scr (mdS σ en' mr' mm') p9 dd9 sp9 hm9)) 0 0) → AW G MX12_made (d + 5) 0 0 Q 59 [some (.ref (a 60)), some (.int (nI acc.length)), some (.int (nI k)), none] [] (mW G.2.2.1 a (scr (mdS σ en mr mm) p dd sp hm)) 0 0 := by
  obtain ⟨hb, h0, h1, h2, hR, hP, hD, hC, hT⟩ := id hw
  have hh := hP q hq
  have hsp : sparedF (σ.2.1 6) q < 2 ^ 31 := sparedF_lt hb (by omega)
  intro n
  induction n with
  | zero =>
    intro k hk hk1 p dd sp hm acc en mr mm hle hM kk
    refine aw_iload_n (pc := 59) (i := 2) dX12_made_59 rfl rfl ?_
    refine aw_iconst (pc := 60) dX12_made_60 iconst_5 ?_
    refine an_icmp_ge (pc := 61) (tgt := 159) dX12_made_61 rfl (by omega) (by decide) (fun h61 => ?_) (fun h61 => ?_)
    · -- 159
      have := kk en mr mm p dd sp hm (MV_skip hM)
      rw [show (acc ++ mdK (σ.2.1 6) q (octN (σ.2.2.1 1 1)) 0 k).length = acc.length by rw [mdK, List.append_nil]] at this
      rw [show k = 5 by omega]
      exact this
    · -- 64
      exfalso; omega
  | succ n ih =>
    intro k hk hk1 p dd sp hm acc en mr mm hle hM kk
    refine aw_iload_n (pc := 59) (i := 2) dX12_made_59 rfl rfl ?_
    refine aw_iconst (pc := 60) dX12_made_60 iconst_5 ?_
    refine an_icmp_ge (pc := 61) (tgt := 159) dX12_made_61 rfl (by omega) (by decide) (fun h61 => ?_) (fun h61 => ?_)
    · -- 159
      exfalso; omega
    · -- 64
      refine aw_aload_n (pc := 64) (i := 0) dX12_made_64 rfl rfl ?_
      refine aw_aload_n (pc := 65) (i := 0) dX12_made_65 rfl rfl ?_
      refine aw_iconst (pc := 66) dX12_made_66 iconst_0 ?_
      refine mc_I (pc := 67) (As := [.int (nI 0)]) (rest := [.ref (a 60)]) dX12_made_67 rfl ok_X12_386 rfl rfl rfl (Nat.le_of_ble_eq_true rfl) (s_octet (by decide) ⟨_, _, rfl, rfl, ?_⟩)
      refine aw_top (y := nI q) (congrArg nI hq9) ?_
      refine mc_V (pc := 70) (As := [.int (nI q)]) (rest := []) dX12_made_70 rfl ok_X12_366 rfl rfl rfl (Nat.le_of_ble_eq_true rfl) (s_starts (σ := mdS σ en mr mm) hb (by omega) (by show σ.2.1 6 (79 + q) < 7; omega) ⟨_, rfl, rfl, ?_⟩)
      have h3 := rwF_le (hm := (σ.2.1 6 (79 + q))) (sp := (sparedF (σ.2.1 6) q)) h0 k (nd0 (σ.2.1 6) q)
      have h4 : 7 ^ k ≤ 7 ^ 4 := Nat.pow_le_pow_right (by decide) (by omega)
      have h5 := List.length_filter_le (mdB (octN (σ.2.2.1 1 1))) (rwF (σ.2.1 6) (σ.2.1 6 (79 + q)) (sparedF (σ.2.1 6) q) k (nd0 (σ.2.1 6) q))
      refine md_in (σ := σ) (hm := (σ.2.1 6 (79 + q))) (sp := (sparedF (σ.2.1 6) q)) hb h0 h1 hsp (by omega) (by omega) hk1 (rwF (σ.2.1 6) (σ.2.1 6 (79 + q)) (sparedF (σ.2.1 6) q) k (nd0 (σ.2.1 6) q)) 1 (nI 0) _ acc en mr mm (Or.inl ⟨rfl, rfl⟩) (PO_start hw hq p) (by omega) hM (RB_start p hk1) (fun en9 mr9 mm9 p9 dd9 hv => ?_)
      refine an_inc (pc := 153) (z := 1) dX12_made_153 rfl (Nat.le_of_ble_eq_true rfl) rfl ?_
      refine aw_goto (pc := 156) (tgt := 59) dX12_made_156 rfl ?_
      refine ih (k + 1) (by omega) (by omega) p9 dd9 _ _ (acc ++ List.filter (mdB (octN (σ.2.2.1 1 1))) (rwF (σ.2.1 6) (σ.2.1 6 (79 + q)) (sparedF (σ.2.1 6) q) k (nd0 (σ.2.1 6) q))) en9 mr9 mm9 (by rw [List.length_append]; omega) hv (fun en8 mr8 mm8 p8 dd8 sp8 hm8 hv8 => ?_)
      have e9 : (acc ++ List.filter (mdB (octN (σ.2.2.1 1 1))) (rwF (σ.2.1 6) (σ.2.1 6 (79 + q)) (sparedF (σ.2.1 6) q) k (nd0 (σ.2.1 6) q))) ++ mdK (σ.2.1 6) q (octN (σ.2.2.1 1 1)) n (k + 1) = acc ++ mdK (σ.2.1 6) q (octN (σ.2.2.1 1 1)) (n + 1) k := by rw [mdK, List.append_assoc]
      rw [e9] at hv8 ⊢
      exact kk en8 mr8 mm8 p8 dd8 sp8 hm8 hv8
set_option maxHeartbeats 1000000 in
set_option maxRecDepth 20000 in
theorem md_z {G : xG} {d : Nat} {Q : xQ} {a : Nat → Nat} {σ : mS} (kk : ∀ en : Nat → Nat, (∀ j, j < 7 → en j = 0) → AW G MX12_made d 0 0 Q 57 [some (.ref (a 60)), some (.int (nI 0)), some (.int (nI 7)), none] [] (mW G.2.2.1 a (sN σ 33 en)) 0 0) : ∀ (m i : Nat), i + m = 7 → ∀ en : Nat → Nat, (∀ j, j < i → en j = 0) → AW G MX12_made d 0 0 Q 38 [some (.ref (a 60)), some (.int (nI 0)), some (.int (nI i)), none] [] (mW G.2.2.1 a (sN σ 33 en)) 0 0 := by
  intro m
  induction m with
  | zero =>
    intro i hi en he
    refine aw_iload_n (pc := 38) (i := 2) dX12_made_38 rfl rfl ?_
    refine aw_bipush (pc := 39) dX12_made_39 bipush_7 ?_
    refine an_icmp_ge (pc := 41) (tgt := 57) dX12_made_41 rfl (by omega) (by decide) (fun h41 => ?_) (fun h41 => ?_)
    · -- 57
      rw [show i = 7 by omega]
      exact kk en (fun j hj => he j (by omega))
    · -- 44
      exfalso; omega
  | succ m ih =>
    intro i hi en he
    refine aw_iload_n (pc := 38) (i := 2) dX12_made_38 rfl rfl ?_
    refine aw_bipush (pc := 39) dX12_made_39 bipush_7 ?_
    refine an_icmp_ge (pc := 41) (tgt := 57) dX12_made_41 rfl (by omega) (by decide) (fun h41 => ?_) (fun h41 => ?_)
    · -- 57
      exfalso; omega
    · -- 44
      refine aw_aload_n (pc := 44) (i := 0) dX12_made_44 rfl rfl ?_
      refine mg_ends (pc := 45) dX12_made_45 rfl ?_
      refine aw_iload_n (pc := 48) (i := 2) dX12_made_48 rfl rfl ?_
      refine aw_iconst (pc := 49) dX12_made_49 iconst_0 ?_
      refine ms_ends (pc := 50) dX12_made_50 (by omega) ?_
      refine an_inc (pc := 51) (z := 1) dX12_made_51 rfl (Nat.le_of_ble_eq_true rfl) rfl ?_
      refine aw_goto (pc := 54) (tgt := 38) dX12_made_54 rfl ?_
      refine aw_ws (w9 := mW G.2.2.1 a (sN σ 33 (upN en i 0))) rfl ?_
      exact ih (i + 1) (by omega) (upN en i 0) (fun j hj => by
        by_cases e : j = i
        · subst e; exact upN_s _ _ _
        · rw [upN_n _ _ _ _ e]; exact he j (by omega))
set_option maxHeartbeats 1000000 in
set_option maxRecDepth 20000 in
theorem md_lk {G : xG} {d : Nat} {Q : xQ} {a : Nat → Nat} {σ : mS} {c : Nat} (hb : ∀ j, σ.2.1 6 j < 2 ^ 30) (h0 : σ.2.1 6 0 ≤ 7) (he : ∀ l, l < 7 → σ.2.1 33 l < 2 ^ 30) : ∀ (m l b : Nat), l + m = σ.2.1 6 0 → b < 7 → (Q (some (.int (nI c))) (mW G.2.2.1 a (mI σ 36 (nI (lkG (σ.2.1 33) m l b))))) → AW G MX12_made d 0 0 Q 172 [some (.ref (a 60)), some (.int (nI c)), some (.int (nI l)), none] [] (mW G.2.2.1 a (mI σ 36 (nI b))) 0 0 := by
  intro m
  induction m with
  | zero =>
    intro l b hl hb9 kk
    refine aw_iload_n (pc := 172) (i := 2) dX12_made_172 rfl rfl ?_
    refine aw_aload_n (pc := 173) (i := 0) dX12_made_173 rfl rfl ?_
    refine mg_s (pc := 174) dX12_made_174 rfl ?_
    refine aw_iconst (pc := 177) dX12_made_177 iconst_0 ?_
    refine ml_s (pc := 178) dX12_made_178 (by decide) ?_
    refine aw_top (y := (nI (σ.2.1 6 0))) rfl ?_
    refine an_icmp_ge (pc := 179) (tgt := 211) dX12_made_179 rfl (by omega) (Nat.lt_trans (hb _) (by decide)) (fun h179 => ?_) (fun h179 => ?_)
    · -- 211
      refine aw_iload_n (pc := 211) (i := 1) dX12_made_211 rfl rfl ?_
      exact aw_iret (pc := 212) dX12_made_212 rfl (Nat.le_refl _) (Nat.le_refl _) (kk)
    · -- 182
      exfalso; omega
  | succ m ih =>
    intro l b hl hb9 kk
    refine aw_iload_n (pc := 172) (i := 2) dX12_made_172 rfl rfl ?_
    refine aw_aload_n (pc := 173) (i := 0) dX12_made_173 rfl rfl ?_
    refine mg_s (pc := 174) dX12_made_174 rfl ?_
    refine aw_iconst (pc := 177) dX12_made_177 iconst_0 ?_
    refine ml_s (pc := 178) dX12_made_178 (by decide) ?_
    refine aw_top (y := (nI (σ.2.1 6 0))) rfl ?_
    refine an_icmp_ge (pc := 179) (tgt := 211) dX12_made_179 rfl (by omega) (Nat.lt_trans (hb _) (by decide)) (fun h179 => ?_) (fun h179 => ?_)
    · -- 211
      exfalso; omega
    · -- 182
      refine aw_aload_n (pc := 182) (i := 0) dX12_made_182 rfl rfl ?_
      refine mg_ends (pc := 183) dX12_made_183 rfl ?_
      refine aw_iload_n (pc := 186) (i := 2) dX12_made_186 rfl rfl ?_
      refine ml_ends (pc := 187) dX12_made_187 (by omega) ?_
      refine aw_top (y := (nI (σ.2.1 33 l))) rfl ?_
      refine aw_aload_n (pc := 188) (i := 0) dX12_made_188 rfl rfl ?_
      refine mg_ends (pc := 189) dX12_made_189 rfl ?_
      refine aw_aload_n (pc := 192) (i := 0) dX12_made_192 rfl rfl ?_
      refine mg_likelyLand (pc := 193) dX12_made_193 rfl ?_
      refine aw_top (y := (nI b)) rfl ?_
      refine ml_ends (pc := 196) dX12_made_196 (by omega) ?_
      refine aw_top (y := (nI (σ.2.1 33 b))) rfl ?_
      refine an_icmp_le (pc := 197) (tgt := 205) dX12_made_197 rfl (Nat.lt_trans (he _ (by omega)) (by decide)) (Nat.lt_trans (he _ (by omega)) (by decide)) (fun h197 => ?_) (fun h197 => ?_)
      · -- 205
        refine an_inc (pc := 205) (z := 1) dX12_made_205 rfl (Nat.le_of_ble_eq_true rfl) rfl ?_
        refine aw_goto (pc := 208) (tgt := 172) dX12_made_208 rfl ?_
        refine ih (l + 1) b (by omega) hb9 ?_
        rw [lkG, if_neg (Nat.not_lt.mpr h197)] at kk
        exact kk
      · -- 200
        refine aw_aload_n (pc := 200) (i := 0) dX12_made_200 rfl rfl ?_
        refine aw_iload_n (pc := 201) (i := 2) dX12_made_201 rfl rfl ?_
        refine mp_likelyLand (pc := 202) dX12_made_202 rfl ?_
        refine an_inc (pc := 205) (z := 1) dX12_made_205 rfl (Nat.le_of_ble_eq_true rfl) rfl ?_
        refine aw_goto (pc := 208) (tgt := 172) dX12_made_208 rfl ?_
        refine aw_ws (w9 := mW G.2.2.1 a (mI σ 36 (nI l))) rfl ?_
        refine ih (l + 1) l (by omega) (by omega) ?_
        rw [lkG, if_pos h197] at kk
        exact kk
theorem mdK_rl {t : Nat → Nat} {q v : Nat} : ∀ n k, k + n ≤ 5 → ∀ r ∈ mdK t q v n k, r.1.length ≤ 4 := by
  intro n
  induction n with
  | zero => intro k _ r h; cases h
  | succ n ih =>
    intro k hk r h
    rw [mdK] at h
    rcases List.mem_append.mp h with h | h
    · rw [rwF_rl _ _ r (List.mem_filter.mp h).1]; omega
    · exact ih (k + 1) (by omega) r h

set_option maxHeartbeats 1000000 in
set_option maxRecDepth 20000 in
theorem s_made {G : xG} {d : Nat} {Q : xQ} {a : Nat → Nat} {σ : mS} {n : Nat} (hw : WT (σ.2.1 6)) (hn : σ.1 2 = nI n) (hn9 : n ≤ 940) (k0 : ¬ (n = 2 ∧ (octN (σ.2.2.1 1 0)) < σ.2.1 6 2) → Q (some (.int (-1))) (mW G.2.2.1 a (takenS (mI σ 0 (nI 0)) n 940))) (k1 : n = 2 → (octN (σ.2.2.1 1 0)) < σ.2.1 6 2 → mdM (σ.2.1 6) (octN (σ.2.2.1 1 0)) (octN (σ.2.2.1 1 1)) = [] → ∀ (p9 : pS) (dd9 : Int32) (sp9 hm9 : Nat) (en9 : Nat → Nat), Q (some (.int (nI 0))) (mW G.2.2.1 a (scr (mdS (takenS (mI σ 0 (nI 0)) n 940) en9 (σ.2.1 32) (σ.1 35)) p9 dd9 sp9 hm9))) (k2 : n = 2 → (octN (σ.2.2.1 1 0)) < σ.2.1 6 2 → ∀ r, (mdM (σ.2.1 6) (octN (σ.2.2.1 1 0)) (octN (σ.2.2.1 1 1))).head? = some r → r.1.length ≤ 4 → ∀ (p9 : pS) (dd9 : Int32) (sp9 hm9 : Nat) (en9 mr9 : Nat → Nat), (∀ i, i < r.1.length → mr9 i = r.1.getD i 0) → Q (some (.int (nI (mdM (σ.2.1 6) (octN (σ.2.2.1 1 0)) (octN (σ.2.2.1 1 1))).length))) (mW G.2.2.1 a (mI (scr (mdS (takenS (mI σ 0 (nI 0)) n 940) en9 mr9 (nI r.1.length)) p9 dd9 sp9 hm9) 36 (nI (lkG (cntE (mdM (σ.2.1 6) (octN (σ.2.2.1 1 0)) (octN (σ.2.2.1 1 1)))) (σ.2.1 6 0 - 1) 1 0))))) : MT G MX12_made (d + 5) 0 0 [.ref (a 60)] (mW G.2.2.1 a σ) Q := by
  obtain ⟨hb, h0, h1, h2, hR, hP, hD, hC, hT⟩ := id hw
  refine mt_start (L := [some (.ref (a 60)), none, none, none]) rfl (Nat.le_of_ble_eq_true rfl) rfl ?_
  refine aw_aload_n (pc := 0) (i := 0) dX12_made_0 rfl rfl ?_
  refine aw_iconst (pc := 1) dX12_made_1 iconst_0 ?_
  refine mp_thrown (pc := 2) dX12_made_2 rfl ?_
  refine aw_aload_n (pc := 5) (i := 0) dX12_made_5 rfl rfl ?_
  refine aw_sipush (pc := 6) dX12_made_6 sipush_940 ?_
  refine mc_V (pc := 9) (As := [.int (nI 940)]) (rest := []) dX12_made_9 rfl ok_X12_263 rfl rfl rfl (Nat.le_of_ble_eq_true rfl) (s_taken hn ⟨_, rfl, rfl, ?_⟩)
  refine aw_aload_n (pc := 12) (i := 0) dX12_made_12 rfl rfl ?_
  refine mg_size (pc := 13) dX12_made_13 rfl ?_
  refine aw_top (y := (nI n)) rfl ?_
  refine aw_iconst (pc := 16) dX12_made_16 iconst_2 ?_
  refine an_icmp_ne (pc := 17) (tgt := 32) dX12_made_17 rfl (by omega) (by decide) (fun h17 => ?_) (fun h17 => ?_)
  · -- 32
    refine aw_iconst (pc := 32) dX12_made_32 iconst_m1 ?_
    exact aw_iret (pc := 33) dX12_made_33 rfl (Nat.le_refl _) (Nat.le_refl _) (k0 (fun h => h17 h.1))
  · -- 20
    refine aw_aload_n (pc := 20) (i := 0) dX12_made_20 rfl rfl ?_
    refine aw_aload_n (pc := 21) (i := 0) dX12_made_21 rfl rfl ?_
    refine aw_iconst (pc := 22) dX12_made_22 iconst_0 ?_
    refine mc_I (pc := 23) (As := [.int (nI 0)]) (rest := [.ref (a 60)]) dX12_made_23 rfl ok_X12_386 rfl rfl rfl (Nat.le_of_ble_eq_true rfl) (s_octet (by decide) ⟨_, _, rfl, rfl, ?_⟩)
    refine aw_top (y := nI (octN (σ.2.2.1 1 0))) rfl ?_
    refine mc_I (pc := 26) (As := [.int (nI (octN (σ.2.2.1 1 0)))]) (rest := []) dX12_made_26 rfl ok_X12_302 rfl rfl rfl (Nat.le_of_ble_eq_true rfl) (s_isPerson ⟨_, _, rfl, rfl, ?_⟩)
    refine aw_top (y := bI (inB (σ.2.1 6 2) (nI (octN (σ.2.2.1 1 0))))) rfl ?_
    refine ab_if_ne (pc := 29) (tgt := 34) dX12_made_29 rfl (fun h29 => ?_) (fun h29 => ?_)
    · -- 34
      rw [inB_nI (by omega) (Nat.lt_trans (octN_lt _) (by decide))] at h29
      have hq := of_decide_eq_true h29
      refine aw_iconst (pc := 34) dX12_made_34 iconst_0 ?_
      refine aw_istore_n (pc := 35) (i := 1) dX12_made_35 rfl (Nat.le_of_ble_eq_true rfl) rfl ?_
      refine aw_iconst (pc := 36) dX12_made_36 iconst_0 ?_
      refine aw_istore_n (pc := 37) (i := 2) dX12_made_37 rfl (Nat.le_of_ble_eq_true rfl) rfl ?_
      refine aw_ws (w9 := mW G.2.2.1 a (sN (takenS (mI σ 0 (nI 0)) n 940) 33 (σ.2.1 33))) rfl ?_
      refine md_z (σ := (takenS (mI σ 0 (nI 0)) n 940)) (fun en hen => ?_) 7 0 rfl _ (fun j hj => absurd hj (Nat.not_lt_zero _))
      refine aw_iconst (pc := 57) dX12_made_57 iconst_1 ?_
      refine aw_istore_n (pc := 58) (i := 2) dX12_made_58 rfl (Nat.le_of_ble_eq_true rfl) rfl ?_
      obtain ⟨p0, dd0, sp0, hm0, hsc⟩ := scr_at (mdS (takenS (mI σ 0 (nI 0)) n 940) en (σ.2.1 32) (σ.1 35))
      refine aw_ws (w9 := mW G.2.2.1 a (scr (mdS (takenS (mI σ 0 (nI 0)) n 940) en (σ.2.1 32) (σ.1 35)) p0 dd0 sp0 hm0)) ((show mW G.2.2.1 a (sN (takenS (mI σ 0 (nI 0)) n 940) 33 en) = mW G.2.2.1 a (mdS (takenS (mI σ 0 (nI 0)) n 940) en (σ.2.1 32) (σ.1 35)) from rfl).trans (congrArg (mW G.2.2.1 a) hsc)) ?_
      refine md_out (σ := (takenS (mI σ 0 (nI 0)) n 940)) (q := (octN (σ.2.2.1 1 0))) (m0 := σ.1 35) (r0 := σ.2.1 32) hw hq rfl 4 1 rfl (by decide) p0 dd0 sp0 hm0 [] en (σ.2.1 32) (σ.1 35) (Nat.zero_le _) ⟨fun l hl => hen l hl, fun _ => ⟨rfl, rfl⟩, fun r h => by cases h⟩ (fun en9 mr9 mm9 p9 dd9 sp9 hm9 hv => ?_)
      have hv : MV (σ.1 35) (σ.2.1 32) (mdM (σ.2.1 6) (octN (σ.2.2.1 1 0)) (octN (σ.2.2.1 1 1))) en9 mr9 mm9 := hv
      refine aw_L (L9 := [some (.ref (a 60)), some (.int (nI ((mdM (σ.2.1 6) (octN (σ.2.2.1 1 0)) (octN (σ.2.2.1 1 1))).length))), some (.int (nI 5)), none]) rfl ?_
      have hml := mdK_le (q := (octN (σ.2.2.1 1 0))) (v := octN (σ.2.2.1 1 1)) h0 4 1 (by decide)
      have hml : (mdM (σ.2.1 6) (octN (σ.2.2.1 1 0)) (octN (σ.2.2.1 1 1))).length ≤ 4 * 3000 := hml
      refine aw_iload_n (pc := 159) (i := 1) dX12_made_159 rfl rfl ?_
      refine an_if_ne (pc := 160) (tgt := 165) dX12_made_160 rfl (by omega) (fun h160 => ?_) (fun h160 => ?_)
      · -- 165
        obtain ⟨r, hr⟩ : ∃ r, (mdM (σ.2.1 6) (octN (σ.2.2.1 1 0)) (octN (σ.2.2.1 1 1))).head? = some r := by
          cases hMM : mdM (σ.2.1 6) (octN (σ.2.2.1 1 0)) (octN (σ.2.2.1 1 1)) with
          | nil => rw [hMM] at h160; exact absurd h160 (by decide)
          | cons r _ => exact ⟨r, rfl⟩
        obtain ⟨e1, e2⟩ := hv.2.2 r hr
        have hrl := mdK_rl 4 1 (by decide) r (List.mem_of_mem_head? hr)
        have hp0 := hP _ hq
        refine aw_aload_n (pc := 165) (i := 0) dX12_made_165 rfl rfl ?_
        refine aw_iconst (pc := 166) dX12_made_166 iconst_0 ?_
        refine mp_likelyLand (pc := 167) dX12_made_167 rfl ?_
        refine aw_iconst (pc := 170) dX12_made_170 iconst_1 ?_
        refine aw_istore_n (pc := 171) (i := 2) dX12_made_171 rfl (Nat.le_of_ble_eq_true rfl) rfl ?_
        refine md_lk (σ := scr (mdS (takenS (mI σ 0 (nI 0)) n 940) en9 mr9 mm9) p9 dd9 sp9 hm9) hb h0 (fun l hl => ?_) (σ.2.1 6 0 - 1) 1 0 (by show 1 + (σ.2.1 6 0 - 1) = σ.2.1 6 0; omega) (by decide) ?_
        · show en9 l < 2 ^ 30
          rw [hv.1 l hl]; have := cntE_le (mdM (σ.2.1 6) (octN (σ.2.2.1 1 0)) (octN (σ.2.2.1 1 1))) l; omega
        · have := k2 h17 hq r hr hrl p9 dd9 sp9 hm9 en9 mr9 e2
          rw [← e1] at this
          rw [lkG_cong (e := cntE (mdM (σ.2.1 6) (octN (σ.2.2.1 1 0)) (octN (σ.2.2.1 1 1)))) (e' := en9) (fun l hl => (hv.1 l hl).symm) _ _ _ (by omega) (by decide)] at this
          exact this
      · -- 163
        refine aw_iconst (pc := 163) dX12_made_163 iconst_0 ?_
        refine aw_iret (pc := 164) dX12_made_164 rfl (Nat.le_refl _) (Nat.le_refl _) ?_
        have hnil := List.length_eq_zero_iff.mp h160
        obtain ⟨e1, e2⟩ := hv.2.1 hnil
        rw [e1, e2]
        exact k1 h17 hq hnil p9 dd9 sp9 hm9 en9
    · -- 32
      refine aw_iconst (pc := 32) dX12_made_32 iconst_m1 ?_
      exact aw_iret (pc := 33) dX12_made_33 rfl (Nat.le_refl _) (Nat.le_refl _) (k0 (fun h => by rw [inB_nI (by omega) (Nat.lt_trans (octN_lt _) (by decide)), decide_eq_true h.2] at h29; cases h29))
