theorem opB_01 {σ : mS} (h : leafO σ < 2) : opB σ = (true, codeF (opW σ) (leafO σ) 0 0) := by unfold opB; rw [if_pos h]
theorem looks_ok {ρ q : mS} {fr mn i : Nat} (ht : takesNameF ρ fr mn = (true, q)) (fw : findW ρ fr mn = some i) : looksF ρ fr mn = (true, mI ρ 18 (nI i)) := by
  unfold takesNameF at ht
  split at ht
  · rename_i h
    unfold looksF at h ⊢
    split at h
    · rename_i hn
      rw [if_pos hn, if_pos (by rw [fw]; rfl), fw]; rfl
    · cases h
  · cases ht
theorem looks_no {ρ q : mS} {fr mn : Nat} (ht : takesNameF ρ fr mn = (false, q)) : looksF ρ fr mn = (false, q) := by
  unfold takesNameF at ht
  split at ht
  · cases ht
  · rename_i h
    have : (looksF ρ fr mn).1 = false := by simpa using h
    rw [← ht, ← this]
theorem opB_24 {σ q : mS} {i : Nat} (h1 : ¬ leafO σ < 2) (h2 : leafO σ < 5) (hl : looksF (opW σ) 0 (σ.2.1 6 0) = (true, q)) (fw : findW (opW σ) 0 (σ.2.1 6 0) = some i) : opB σ = (true, nx (codeF q (leafO σ) 0 i)) := by
  unfold opB opA opI; rw [if_neg h1, if_pos h2, hl, fw]; rfl
theorem opB_24n {σ q : mS} (h1 : ¬ leafO σ < 2) (h2 : leafO σ < 5) (hl : looksF (opW σ) 0 (σ.2.1 6 0) = (false, q)) : opB σ = (false, q) := by
  unfold opB opA; rw [if_neg h1, if_pos h2, hl]; rfl
theorem opB_58 {σ : mS} {y : Nat} (h1 : ¬ leafO σ < 5) (h3 : (opW σ).1 11 = nI 3) (hy : numN (opW σ) = y) (hk : y = 60 ∨ y = 61 ∨ y = 62) (h2 : (nx (opW σ)).1 11 = nI 2) : opB σ = (true, nx (codeF (nx (opW σ)) (leafO σ) (numN (opW σ)) (numN (nx (opW σ))))) := by
  unfold opB; rw [if_neg (by omega), if_neg h1, if_pos h3, if_neg (by omega), if_neg (by omega)]
  unfold opM; rw [if_pos h2]
theorem opB_58n {σ s : mS} (h1 : ¬ leafO σ < 5) (hm : meF (opW σ) = (false, s)) : opB σ = (false, s) := by
  unfold opB; rw [if_neg (by omega), if_neg h1]
  unfold meF at hm
  split at hm
  · rename_i a1; rw [if_pos a1]
    split at hm
    · rename_i a2; rw [if_pos a2]; exact hm
    · rename_i a2; rw [if_neg a2]
      split at hm
      · rename_i a3; rw [if_pos a3]; exact hm
      · rename_i a3; rw [if_neg a3]
        unfold opM
        split at hm
        · cases hm
        · rename_i a4; rw [if_neg a4]; exact hm
  · rename_i a1; rw [if_neg a1]; exact hm
theorem opL_ok {σ : mS} (h1 : sO σ < 20) (h2 : sE σ ≤ 8) : opL σ = opB σ := by unfold opL; rw [if_neg (by omega), if_neg (by omega)]
theorem opL_no {σ : mS} (hV : SV σ false) (h : ¬ (sO σ < 20 ∧ sE σ ≤ 8)) : opL σ = (false, badF σ 4) := by
  have := hV.e53.2.2.2.2.1
  unfold opL
  by_cases e : sO σ = 20
  · rw [if_pos e]
  · rw [if_neg e, if_pos (by omega)]
theorem opG_no {σ : mS} {x : Nat} (hV : SV σ false) (h : ¬ (sO σ < 20 ∧ sE σ ≤ 8)) : opG σ x = (false, badF σ 4) := by
  have := hV.e53.2.2.2.2.1
  unfold opG
  by_cases e : sO σ = 20
  · rw [if_pos e]
  · rw [if_neg e, if_pos (by omega)]
def gS (σ : mS) (x : Nat) : mS := mI (mI (mN (opN σ) 50 (sT σ) x) 53 (nI (sT σ + 1))) 54 (nI (sE σ + 1))
theorem opG_x {σ : mS} {x : Nat} (H : SV σ false) (hx : x = 20 ∨ x = 23) (hp : propT σ) (h1 : sO σ < 20) (h2 : sE σ ≤ 8) : opG σ x = (true, gS σ x) ∧ SV (gS σ x) false ∧ mz (gS σ x) < mz σ ∧ (gS σ x).2.1 6 = σ.2.1 6 ∧ (gS σ x).2.1 8 = σ.2.1 8 ∧ sT (gS σ x) = sT σ + 1 ∧ (gS σ x).2.1 50 (sT σ) = x ∧ (∀ j, j < sT σ → (gS σ x).2.1 50 j = σ.2.1 50 j) ∧ sE (gS σ x) = sE σ + 1 ∧ (gS σ x).1 52 = nI (sO σ + 1) ∧ (gS σ x).1 15 = σ.1 15 ∧ (gS σ x).1 51 = σ.1 51 ∧ (gS σ x).2.2.2.2 = σ.2.2.2.2 := by
  have hl := H.lim
  have e : opG σ x = (true, gS σ x) := by unfold opG gS; rw [if_neg (by omega), if_neg (by omega)]
  have g := opG_t H hx hp (by rw [e])
  rw [e] at g
  have s50 : (gS σ x).2.1 50 = upN (σ.2.1 50) (sT σ) x := rfl
  have o15 : (opN σ).1 15 = σ.1 15 := opN_sc (by decide)
  have o51 : (opN σ).1 51 = σ.1 51 := opN_sc (by decide)
  have o52 : (opN σ).1 52 = nI (sO σ + 1) := opW_52 σ
  exact ⟨e, g.1, g.2.1, g.2.2, rfl, sX_of (show (gS σ x).1 53 = nI (sT σ + 1) from rfl) (by omega), by rw [s50, upN_s], fun j hj => by rw [s50, upN_n _ _ _ _ (by omega)], sX_of (show (gS σ x).1 54 = nI (sE σ + 1) from rfl) (by omega), o52, o15, o51, rfl⟩
/-- a leaf, in both -/
theorem SN_leaf {ad : Nat → Nat} {κT κX κT9 : kS} {σ s Y : mS} {NM : Nat → Int64} {w y z n : Nat} (H : SNl ad κT κX σ NM false) (hl0 : σ.2.1 6 0 ≤ 7) (h20 : sO σ < 20) (hw1 : 15 ≤ w) (hw2 : w < 24) (hlf : leafO σ = cwd w) (hop : operandF σ = (true, s)) (hB : opB σ = (true, s)) (hn : mz σ < n + 1) (h6 : s.2.1 = (codeF Y (cwd w) y z).2.1) (hsc : ∀ k, k = 15 ∨ k = 51 ∨ k = 52 ∨ k = 53 ∨ k = 54 → s.1 k = (codeF Y (cwd w) y z).1 k) (hY1 : Y.2.1 = σ.2.1) (hY : ∀ k, k = 15 ∨ k = 51 ∨ k = 53 ∨ k = 54 → Y.1 k = σ.1 k) (hY5 : Y.1 52 = nI (sO σ + 1)) (hL : s.2.2.2.2 = σ.2.2.2.2) (ht : TPR ad κT9 s) (hf : κT9.1 11 = .int (nI 0)) : SNl ad κT9 (stK ad (kF κX 7 (.int (nI (sO σ + 1)))) (sC σ) w y z) s NM true ∧ SUC σ (n + 1) s n 0 := by
  have hV := H.2.2.2.2.1
  have bt := opB_t hV hl0 h20 (by rw [hlf]; unfold cwd; rw [if_pos hw1]; omega) (by rw [hB])
  rw [hB] at bt
  have bt : SV s true ∧ mz s < mz σ ∧ s.2.1 6 = σ.2.1 6 := bt
  obtain ⟨b1, b2, b3⟩ := bt
  obtain ⟨r1, r2, r3⟩ := SN_code H (by omega) hw2 b1 h6 (fun k hk => hsc k (by omega)) ⟨by rw [hY1], by rw [hY1]⟩ (fun k hk => hY k (by omega)) hY5 (by omega) hL ht hf
  refine ⟨r1, senL_op hV hop, Nat.lt_of_lt_of_le b2 (by omega), ?_, fun j _ => ?_, b3, ?_, by omega, fun h => absurd h (by decide), fun h => absurd h (by decide)⟩
  · unfold sT; rw [hsc 53 (by omega), code_sc _ _ _ _ _ (by decide), hY 53 (by omega)]
  · rw [h6, code_o _ _ _ _ _ (by decide), hY1]
  · unfold sE; rw [hsc 54 (by omega), code_sc _ _ _ _ _ (by decide), hY 54 (by omega)]
theorem op_big {kd : Nat} {v : Int64} {r : Option Nat} {σ : mS} (tc : TC kd v r σ) (hk : kd < 256) (hr : wOK r) (hV : SV σ false) (hb : bgB r = true) (h : ¬ (sO σ < 20 ∧ sE σ ≤ 8)) : operandF σ = (false, badF σ 4) := by
  cases r with
  | none => cases hb
  | some i =>
    have h14 : 14 ≤ i := of_decide_eq_true hb
    by_cases e : i = 14
    · subst e; exact (op_not tc).trans (opG_no hV h)
    · exact (op_leaf tc hk (by omega) (hr i rfl)).trans (opL_no hV h)
theorem cwd_leaf {i : Nat} (h : 15 ≤ i) : cwd i = i - 15 := by unfold cwd; rw [if_pos h]
theorem tc_sgp {kd : Nat} {v : Int64} {r : Option Nat} {σ : mS} (tc : TC kd v r σ) (h : kd = 40) : σ.1 11 = nI 3 := by
  rcases tc with g | g | g | g | g
  · omega
  · omega
  · omega
  · omega
  · exact g.2.2.1
theorem tc_w {kd : Nat} {v : Int64} {r : Option Nat} {σ : mS} (tc : TC kd v r σ) (h : bgB r = true) : σ.1 11 = nI 1 := by
  cases r with
  | none => cases h
  | some i => exact line_w tc
set_option maxHeartbeats 1000000 in
set_option maxRecDepth 20000 in
theorem c6_ps0 {G : xG} {a ad x c : Nat → Nat} {tw ts d dp : Nat} (hE : EB ad tw ts G) (ih : dp ≤ 8 → PSn G a ad x c MX6_readCond (d + 3) (dp + 1) 2 ∧ PSn G a ad x c MX6_readOne (d + 3) (dp + 1) 0) : PSn G a ad x c MX6_readOne (d + 4) dp 0 := by
  intro Q R κT κX σ NM n hX0 hX1 hC h0 H hdp hmz hHB k1 k0
  obtain ⟨hT, hf, hX5, hX7, hV, hRes, hNm, h15, hSt⟩ := id H
  obtain ⟨kd, v, r, e8, e9, e10, hr, hkd, tc⟩ := hT.view
  have q53 := hV.e53
  have hl := hV.lim
  have hsc2 : sC σ ≤ 2 * sO σ := by have := hV.2.2.2.2.2.2.2.1; omega
  refine mt_start (L := [some (.ref (x 8)), some (.int (nI dp)), none, none, none]) rfl (Nat.le_of_ble_eq_true rfl) rfl ?_
  refine aw_aload_n (pc := 0) (i := 0) dX6_readOne_0 rfl rfl ?_
  refine pg_X6_34 (pc := 1) (v := .ref (a 13)) dX6_readOne_1 rfl hX0 ?_
  refine aw_swap ?_
  refine pg_X6_82 (pc := 4) (v := .int (nI kd)) dX6_readOne_4 rfl e8 ?_
  refine aw_bipush (pc := 7) dX6_readOne_7 bipush_40 ?_
  refine an_icmp_ne (pc := 9) (tgt := 16) dX6_readOne_9 rfl (by omega) (by decide) (fun h9 => ?_) (fun h9 => ?_)
  · -- 16
    refine aw_iconst (pc := 16) dX6_readOne_16 iconst_0 ?_
    refine aw_istore_n (pc := 17) (i := 2) dX6_readOne_17 rfl (Nat.le_of_ble_eq_true rfl) rfl ?_
    refine aw_aload_n (pc := 18) (i := 0) dX6_readOne_18 rfl rfl ?_
    refine aw_swap ?_
    refine pg_X6_34 (pc := 19) (v := .ref (a 13)) dX6_readOne_19 rfl hX0 ?_
    refine aw_swap ?_
    refine pg_X6_62 (pc := 22) (v := va_rf (Option.map ad r)) dX6_readOne_22 rfl e10 ?_
    refine aw_qstore_n (pc := 25) (i := 3) dX6_readOne_25 rfl (Nat.le_of_ble_eq_true rfl) rfl ?_
    refine aw_iload_n (pc := 26) (i := 2) dX6_readOne_26 rfl rfl ?_
    refine an_if_ne (pc := 27) (tgt := 46) dX6_readOne_27 rfl (by decide) (fun h27 => absurd h27 (by decide)) (fun h27 => ?_)
    refine aw_qload_n (pc := 30) (i := 3) dX6_readOne_30 rfl rfl ?_
    refine cSi (pc := 31) (As := [va_rf (Option.map ad r)]) (rest := []) dX6_readOne_31 rfl oc_X6_85 rfl rfl (Nat.le_of_ble_eq_true rfl) (Nat.le_refl _) (Nat.le_refl _) (c6_begins hE hr ⟨_, rfl, ?_⟩)
    refine ab_if_ne (pc := 34) (tgt := 46) dX6_readOne_34 rfl (fun h34 => ?_) (fun h34 => ?_)
    · -- 46
      have pW : σ.1 11 = nI 1 := tc_w tc h34
      refine aw_aload_n (pc := 46) (i := 0) dX6_readOne_46 rfl rfl ?_
      refine aw_swap ?_
      refine pg_X6_31 (pc := 47) (v := .int (nI (sO σ))) dX6_readOne_47 rfl hX7 ?_
      refine aw_bipush (pc := 50) dX6_readOne_50 bipush_20 ?_
      refine an_icmp_ge (pc := 52) (tgt := 61) dX6_readOne_52 rfl (by omega) (by decide) (fun h52 => ?_) (fun h52 => ?_)
      · -- 61
        refine aw_aload_n (pc := 61) (i := 0) dX6_readOne_61 rfl rfl ?_
        refine pg_X6_34 (pc := 62) (v := .ref (a 13)) dX6_readOne_62 rfl hX0 ?_
        refine aw_iconst (pc := 65) dX6_readOne_65 iconst_4 ?_
        refine aw_swap ?_
        refine cVi (pc := 66) (As := [.int (nI 4)]) (rest := []) dX6_readOne_66 rfl oc_X6_56 rfl rfl (Nat.le_of_ble_eq_true rfl) rfl rfl ovX8 (Nat.le_refl _) (Nat.le_refl _) (c8_refuse (σ := σ) hT hf ?_)
        intro κ1 g1 p1 b1
        refine ⟨_, rfl, ?_⟩
        refine aw_swap ?_
        refine ab_ret (pc := 69) dX6_readOne_69 rfl (Nat.le_refl _) (Nat.le_refl _) ?_
        obtain ⟨m9, rfl⟩ : ∃ m, n = m + 1 := ⟨n - 1, by omega⟩
        have e : operandF σ = (false, badF σ 4) := op_big tc hkd hr hV h34 (by omega)
        exact k0 _ _ _ (senL_no hV e) ⟨g1, p1⟩ rfl rfl ((TBs.rf _).tr b1)
      · -- 55
        refine aw_iload_n (pc := 55) (i := 1) dX6_readOne_55 rfl rfl ?_
        refine aw_bipush (pc := 56) dX6_readOne_56 bipush_8 ?_
        refine an_icmp_le (pc := 58) (tgt := 70) dX6_readOne_58 rfl (by omega) (by decide) (fun h58 => ?_) (fun h58 => ?_)
        · -- 70
          refine aw_aload_n (pc := 70) (i := 0) dX6_readOne_70 rfl rfl ?_
          refine aw_dup (pc := 71) dX6_readOne_71 rfl ?_
          refine pg_X6_31 (pc := 72) (v := .int (nI (sO σ))) dX6_readOne_72 rfl hX7 ?_
          refine aw_iconst (pc := 75) dX6_readOne_75 iconst_1 ?_
          refine an_add (pc := 76) dX6_readOne_76 ?_
          refine pp_X6_31 (pc := 77) dX6_readOne_77 rfl ?_
          refine aw_aload_n (pc := 80) (i := 0) dX6_readOne_80 rfl rfl ?_
          refine pg_X6_34 (pc := 81) (v := .ref (a 13)) dX6_readOne_81 rfl hX0 ?_
          refine aw_swap ?_
          refine cVv (pc := 84) (As := []) (rest := []) dX6_readOne_84 rfl oc_X6_69 rfl rfl (Nat.le_of_ble_eq_true rfl) rfl rfl ovX8 (Nat.le_refl _) (Nat.le_refl _) (c8_stepR (σ := mI σ 52 (nI (sO σ + 1))) (hT.tI (by decide)) (Or.inl pW) ?_)
          intro κ1 g1 b1 f1
          refine ⟨rfl, ?_⟩
          obtain ⟨m9, rfl⟩ : ∃ m, n = m + 1 := ⟨n - 1, by omega⟩
          have g1 : TPR ad κ1 (opN σ) := g1
          refine aw_iload_n (pc := 87) (i := 2) dX6_readOne_87 rfl rfl ?_
          refine an_if_eq (pc := 88) (tgt := 119) dX6_readOne_88 rfl (by decide) (fun h88 => ?_) (fun h88 => absurd h88 (by decide))
          refine aw_qload_n (pc := 119) (i := 3) dX6_readOne_119 rfl rfl ?_
          refine aw_gsw (pc := 120) (i := 14) dX6_readOne_120 rfl hE (by decide) rfl gs_X6_92 ?_
          refine aw_wcmp_ne (pc := 123) (tgt := 154) dX6_readOne_123 rfl hE hr (wOK_some (by decide)) (fun h123 => ?_) (fun h123 => ?_)
          · -- 154
            obtain ⟨w, rfl⟩ : ∃ w, r = some w := by cases r with | none => cases h34 | some i => exact ⟨i, rfl⟩
            have hw := hr w rfl
            have hw4 : 14 ≤ w := of_decide_eq_true h34
            have hw5 : ¬ w = 14 := fun e => h123 (by rw [e])
            refine aw_qload_n (pc := 154) (i := 3) dX6_readOne_154 rfl rfl ?_
            refine aw_gsw (pc := 155) (i := 15) dX6_readOne_155 rfl hE (by decide) rfl gs_X6_95 ?_
            refine aw_wcmp_eq (pc := 158) (tgt := 168) dX6_readOne_158 rfl hE (wOK_some hw) (wOK_some (by decide)) (fun h158 => ?_) (fun h158 => ?_)
            · -- 168
              have q158 := Option.some.inj h158
              refine aw_aload_n (pc := 168) (i := 0) dX6_readOne_168 rfl rfl ?_
              refine aw_qload_n (pc := 169) (i := 3) dX6_readOne_169 rfl rfl ?_
              refine aw_iconst (pc := 170) dX6_readOne_170 iconst_0 ?_
              refine aw_iconst (pc := 171) dX6_readOne_171 iconst_0 ?_
              refine aw_swap ?_
              refine cVi (pc := 172) (As := [va_rf (Option.map ad (some w)), .int (nI 0), .int (nI 0)]) (rest := []) dX6_readOne_172 rfl oc_X6_72 rfl rfl (Nat.le_of_ble_eq_true rfl) rfl rfl ovX6 (Nat.le_refl _) (Nat.le_refl _) (c6_add (κX := (kF κX 7 (.int (nI (sO σ + 1))))) hE hX5 (by omega) (by omega) ⟨_, rfl, ?_⟩)
              refine ab_ret (pc := 175) dX6_readOne_175 rfl (Nat.le_refl _) (Nat.le_refl _) ?_
              have lf := (leaf_of tc (by omega) hw).trans (cwd_leaf (by omega)).symm
              have lf2 := cwd_leaf (i := w) (by omega)
              have oL : operandF σ = opB σ := (op_leaf tc hkd (by omega) hw).trans (opL_ok (by omega) (by omega))
              have hB : opB σ = (true, codeF (opW σ) (cwd w) 0 0) := by rw [opB_01 (by omega), lf]
              have L9 := SN_leaf (Y := opW σ) (w := w) (y := 0) (z := 0) (n := m9) H h0 (by omega) (by omega) hw lf (oL.trans hB) hB hmz rfl (fun _ _ => rfl) rfl (fun k hk => opW_sc (by omega) (by omega)) (opW_52 σ) rfl ((g1.tI (by decide)).tN.tN.tN.tI (by decide)) (f1.trans hf)
              exact k1 _ _ _ _ L9.2 L9.1 rfl rfl b1
            · -- 161
              have q158 : ¬ w = 15 := fun e => h158 (by rw [e])
              refine aw_qload_n (pc := 161) (i := 3) dX6_readOne_161 rfl rfl ?_
              refine aw_gsw (pc := 162) (i := 16) dX6_readOne_162 rfl hE (by decide) rfl gs_X6_98 ?_
              refine aw_wcmp_ne (pc := 165) (tgt := 176) dX6_readOne_165 rfl hE (wOK_some hw) (wOK_some (by decide)) (fun h165 => ?_) (fun h165 => ?_)
              · -- 176
                have q165 : ¬ w = 16 := fun e => h165 (by rw [e])
                refine aw_qload_n (pc := 176) (i := 3) dX6_readOne_176 rfl rfl ?_
                refine aw_gsw (pc := 177) (i := 17) dX6_readOne_177 rfl hE (by decide) rfl gs_X6_101 ?_
                refine aw_wcmp_eq (pc := 180) (tgt := 197) dX6_readOne_180 rfl hE (wOK_some hw) (wOK_some (by decide)) (fun h180 => ?_) (fun h180 => ?_)
                · -- 197
                  have q180 := Option.some.inj h180
                  refine aw_aload_n (pc := 197) (i := 0) dX6_readOne_197 rfl rfl ?_
                  refine aw_swap ?_
                  refine pg_X6_34 (pc := 198) (v := .ref (a 13)) dX6_readOne_198 rfl hX0 ?_
                  refine aw_aload_n (pc := 201) (i := 0) dX6_readOne_201 rfl rfl ?_
                  refine pg_X6_38 (pc := 202) (v := .ref (c 13)) dX6_readOne_202 rfl hX1 ?_
                  refine aw_swap ?_
                  refine cVi (pc := 205) (As := [.ref (c 13)]) (rest := []) dX6_readOne_205 rfl oc_X6_110 rfl rfl (Nat.le_of_ble_eq_true rfl) rfl rfl ovX8 (Nat.le_refl _) (Nat.le_refl _) (c8_tland (t := σ.2.1 6) (NM := NM) (fr := 0) (σ := opW σ) (g1.tI (by decide)) (f1.trans hf) (hC.sub (fun x hx => by simp only [List.mem_append]; simp [hx])) (fun k hk => hRes k hk) h0 hNm ?_ ?_)
                  · -- call
                    intro i2 hi2 fw2 t2 κT2 g2 b2 f2
                    refine ⟨_, rfl, ?_⟩
                    refine aw_istore (pc := 208) (i := 4) dX6_readOne_208 (Nat.le_of_ble_eq_true rfl) rfl ?_
                    refine aw_iload (pc := 210) dX6_readOne_210 rfl ?_
                    refine aw_iconst (pc := 212) dX6_readOne_212 iconst_m1 ?_
                    refine aw_icmp_eq (pc := 213) (tgt := 231) dX6_readOne_213 rfl (fun h213 => ?_) (fun h213 => ?_)
                    · -- 231
                      exact absurd h213 (nI_m1 (by omega))
                    · -- 216
                      refine aw_aload_n (pc := 216) (i := 0) dX6_readOne_216 rfl rfl ?_
                      refine aw_qload_n (pc := 217) (i := 3) dX6_readOne_217 rfl rfl ?_
                      refine aw_iconst (pc := 218) dX6_readOne_218 iconst_0 ?_
                      refine aw_iload (pc := 219) dX6_readOne_219 rfl ?_
                      refine aw_swap ?_
                      refine cVi (pc := 221) (As := [va_rf (Option.map ad (some w)), .int (nI 0), .int (nI i2)]) (rest := []) dX6_readOne_221 rfl oc_X6_72 rfl rfl (Nat.le_of_ble_eq_true rfl) rfl rfl ovX6 (Nat.le_refl _) (Nat.le_refl _) (c6_add (κX := (kF κX 7 (.int (nI (sO σ + 1))))) hE hX5 (by omega) (by omega) ⟨_, rfl, ?_⟩)
                      refine ab_if_eq (pc := 224) (tgt := 231) dX6_readOne_224 rfl (fun h224 => absurd h224 (by decide)) (fun h224 => ?_)
                      refine aw_iconst (pc := 227) dX6_readOne_227 iconst_1 ?_
                      refine aw_goto (pc := 228) (tgt := 232) dX6_readOne_228 rfl ?_
                      refine ab_ret1 (pc := 232) dX6_readOne_232 rfl (Nat.le_refl _) (Nat.le_refl _) ?_
                      have lf := (leaf_of tc (by omega) hw).trans (cwd_leaf (by omega)).symm
                      have lf2 := cwd_leaf (i := w) (by omega)
                      have oL : operandF σ = opB σ := (op_leaf tc hkd (by omega) hw).trans (opL_ok (by omega) (by omega))
                      have hB : opB σ = (true, nx (codeF (mI (opW σ) 18 (nI i2)) (cwd w) 0 i2)) := by rw [opB_24 (by omega) (by omega) (looks_ok t2 fw2) fw2, lf]
                      have n3 := NXF_nx (codeF (mI (opW σ) 18 (nI i2)) (cwd w) 0 i2)
                      have g3 := g2.nxc (Y' := codeF (mI (opW σ) 18 (nI i2)) (cwd w) 0 i2) (fun k hk => code_E _ _ _ _ k hk) rfl rfl
                      obtain ⟨s3, hs3⟩ : ∃ x, x = nx (codeF (mI (opW σ) 18 (nI i2)) (cwd w) 0 i2) := ⟨_, rfl⟩
                      rw [← hs3] at hB n3 g3
                      have L9 := SN_leaf (Y := mI (opW σ) 18 (nI i2)) (w := w) (y := 0) (z := i2) (n := m9) H h0 (by omega) (by omega) hw lf (oL.trans hB) hB hmz n3.1 (fun k hk => n3.2.2.2 k (by omega) (by omega) (by omega) (by omega) (by omega) (by omega)) rfl (fun k hk => (mI_o _ _ _ _ (by omega)).trans (opW_sc (by omega) (by omega))) (opW_52 σ) n3.2.2.1 g3 f2
                      exact k1 _ _ _ _ L9.2 L9.1 rfl rfl (b1.tr b2)
                  · -- call
                    intro z2 t2 κT2 g2 b2
                    refine ⟨_, rfl, ?_⟩
                    refine aw_istore (pc := 208) (i := 4) dX6_readOne_208 (Nat.le_of_ble_eq_true rfl) rfl ?_
                    refine aw_iload (pc := 210) dX6_readOne_210 rfl ?_
                    refine aw_iconst (pc := 212) dX6_readOne_212 iconst_m1 ?_
                    refine aw_icmp_eq (pc := 213) (tgt := 231) dX6_readOne_213 rfl (fun h213 => ?_) (fun h213 => ?_)
                    · -- 231
                      refine aw_iconst (pc := 231) dX6_readOne_231 iconst_0 ?_
                      refine aw_swap ?_
                      refine ab_ret0 (pc := 232) dX6_readOne_232 rfl (Nat.le_refl _) (Nat.le_refl _) ?_
                      have lf := (leaf_of tc (by omega) hw).trans (cwd_leaf (by omega)).symm
                      have lf2 := cwd_leaf (i := w) (by omega)
                      have oL : operandF σ = opB σ := (op_leaf tc hkd (by omega) hw).trans (opL_ok (by omega) (by omega))
                      have hB : opB σ = (false, z2) := opB_24n (by omega) (by omega) (looks_no t2)
                      exact k0 _ _ _ (senL_no hV (oL.trans hB)) g2 rfl rfl (b1.tr b2)
                    · -- 216
                      exact absurd rfl h213
                · -- 183
                  have q180 : ¬ w = 17 := fun e => h180 (by rw [e])
                  refine aw_qload_n (pc := 183) (i := 3) dX6_readOne_183 rfl rfl ?_
                  refine aw_gsw (pc := 184) (i := 18) dX6_readOne_184 rfl hE (by decide) rfl gs_X6_104 ?_
                  refine aw_wcmp_eq (pc := 187) (tgt := 197) dX6_readOne_187 rfl hE (wOK_some hw) (wOK_some (by decide)) (fun h187 => ?_) (fun h187 => ?_)
                  · -- 197
                    have q187 := Option.some.inj h187
                    refine aw_aload_n (pc := 197) (i := 0) dX6_readOne_197 rfl rfl ?_
                    refine aw_swap ?_
                    refine pg_X6_34 (pc := 198) (v := .ref (a 13)) dX6_readOne_198 rfl hX0 ?_
                    refine aw_aload_n (pc := 201) (i := 0) dX6_readOne_201 rfl rfl ?_
                    refine pg_X6_38 (pc := 202) (v := .ref (c 13)) dX6_readOne_202 rfl hX1 ?_
                    refine aw_swap ?_
                    refine cVi (pc := 205) (As := [.ref (c 13)]) (rest := []) dX6_readOne_205 rfl oc_X6_110 rfl rfl (Nat.le_of_ble_eq_true rfl) rfl rfl ovX8 (Nat.le_refl _) (Nat.le_refl _) (c8_tland (t := σ.2.1 6) (NM := NM) (fr := 0) (σ := opW σ) (g1.tI (by decide)) (f1.trans hf) (hC.sub (fun x hx => by simp only [List.mem_append]; simp [hx])) (fun k hk => hRes k hk) h0 hNm ?_ ?_)
                    · -- call
                      intro i2 hi2 fw2 t2 κT2 g2 b2 f2
                      refine ⟨_, rfl, ?_⟩
                      refine aw_istore (pc := 208) (i := 4) dX6_readOne_208 (Nat.le_of_ble_eq_true rfl) rfl ?_
                      refine aw_iload (pc := 210) dX6_readOne_210 rfl ?_
                      refine aw_iconst (pc := 212) dX6_readOne_212 iconst_m1 ?_
                      refine aw_icmp_eq (pc := 213) (tgt := 231) dX6_readOne_213 rfl (fun h213 => ?_) (fun h213 => ?_)
                      · -- 231
                        exact absurd h213 (nI_m1 (by omega))
                      · -- 216
                        refine aw_aload_n (pc := 216) (i := 0) dX6_readOne_216 rfl rfl ?_
                        refine aw_qload_n (pc := 217) (i := 3) dX6_readOne_217 rfl rfl ?_
                        refine aw_iconst (pc := 218) dX6_readOne_218 iconst_0 ?_
                        refine aw_iload (pc := 219) dX6_readOne_219 rfl ?_
                        refine aw_swap ?_
                        refine cVi (pc := 221) (As := [va_rf (Option.map ad (some w)), .int (nI 0), .int (nI i2)]) (rest := []) dX6_readOne_221 rfl oc_X6_72 rfl rfl (Nat.le_of_ble_eq_true rfl) rfl rfl ovX6 (Nat.le_refl _) (Nat.le_refl _) (c6_add (κX := (kF κX 7 (.int (nI (sO σ + 1))))) hE hX5 (by omega) (by omega) ⟨_, rfl, ?_⟩)
                        refine ab_if_eq (pc := 224) (tgt := 231) dX6_readOne_224 rfl (fun h224 => absurd h224 (by decide)) (fun h224 => ?_)
                        refine aw_iconst (pc := 227) dX6_readOne_227 iconst_1 ?_
                        refine aw_goto (pc := 228) (tgt := 232) dX6_readOne_228 rfl ?_
                        refine ab_ret1 (pc := 232) dX6_readOne_232 rfl (Nat.le_refl _) (Nat.le_refl _) ?_
                        have lf := (leaf_of tc (by omega) hw).trans (cwd_leaf (by omega)).symm
                        have lf2 := cwd_leaf (i := w) (by omega)
                        have oL : operandF σ = opB σ := (op_leaf tc hkd (by omega) hw).trans (opL_ok (by omega) (by omega))
                        have hB : opB σ = (true, nx (codeF (mI (opW σ) 18 (nI i2)) (cwd w) 0 i2)) := by rw [opB_24 (by omega) (by omega) (looks_ok t2 fw2) fw2, lf]
                        have n3 := NXF_nx (codeF (mI (opW σ) 18 (nI i2)) (cwd w) 0 i2)
                        have g3 := g2.nxc (Y' := codeF (mI (opW σ) 18 (nI i2)) (cwd w) 0 i2) (fun k hk => code_E _ _ _ _ k hk) rfl rfl
                        obtain ⟨s3, hs3⟩ : ∃ x, x = nx (codeF (mI (opW σ) 18 (nI i2)) (cwd w) 0 i2) := ⟨_, rfl⟩
                        rw [← hs3] at hB n3 g3
                        have L9 := SN_leaf (Y := mI (opW σ) 18 (nI i2)) (w := w) (y := 0) (z := i2) (n := m9) H h0 (by omega) (by omega) hw lf (oL.trans hB) hB hmz n3.1 (fun k hk => n3.2.2.2 k (by omega) (by omega) (by omega) (by omega) (by omega) (by omega)) rfl (fun k hk => (mI_o _ _ _ _ (by omega)).trans (opW_sc (by omega) (by omega))) (opW_52 σ) n3.2.2.1 g3 f2
                        exact k1 _ _ _ _ L9.2 L9.1 rfl rfl (b1.tr b2)
                    · -- call
                      intro z2 t2 κT2 g2 b2
                      refine ⟨_, rfl, ?_⟩
                      refine aw_istore (pc := 208) (i := 4) dX6_readOne_208 (Nat.le_of_ble_eq_true rfl) rfl ?_
                      refine aw_iload (pc := 210) dX6_readOne_210 rfl ?_
                      refine aw_iconst (pc := 212) dX6_readOne_212 iconst_m1 ?_
                      refine aw_icmp_eq (pc := 213) (tgt := 231) dX6_readOne_213 rfl (fun h213 => ?_) (fun h213 => ?_)
                      · -- 231
                        refine aw_iconst (pc := 231) dX6_readOne_231 iconst_0 ?_
                        refine aw_swap ?_
                        refine ab_ret0 (pc := 232) dX6_readOne_232 rfl (Nat.le_refl _) (Nat.le_refl _) ?_
                        have lf := (leaf_of tc (by omega) hw).trans (cwd_leaf (by omega)).symm
                        have lf2 := cwd_leaf (i := w) (by omega)
                        have oL : operandF σ = opB σ := (op_leaf tc hkd (by omega) hw).trans (opL_ok (by omega) (by omega))
                        have hB : opB σ = (false, z2) := opB_24n (by omega) (by omega) (looks_no t2)
                        exact k0 _ _ _ (senL_no hV (oL.trans hB)) g2 rfl rfl (b1.tr b2)
                      · -- 216
                        exact absurd rfl h213
                  · -- 190
                    have q187 : ¬ w = 18 := fun e => h187 (by rw [e])
                    refine aw_qload_n (pc := 190) (i := 3) dX6_readOne_190 rfl rfl ?_
                    refine aw_gsw (pc := 191) (i := 19) dX6_readOne_191 rfl hE (by decide) rfl gs_X6_107 ?_
                    refine aw_wcmp_ne (pc := 194) (tgt := 233) dX6_readOne_194 rfl hE (wOK_some hw) (wOK_some (by decide)) (fun h194 => ?_) (fun h194 => ?_)
                    · -- 233
                      have q194 : ¬ w = 19 := fun e => h194 (by rw [e])
                      refine aw_aload_n (pc := 233) (i := 0) dX6_readOne_233 rfl rfl ?_
                      refine aw_qload_n (pc := 234) (i := 3) dX6_readOne_234 rfl rfl ?_
                      refine aw_swap ?_
                      refine cVi (pc := 235) (As := [va_rf (Option.map ad (some w))]) (rest := []) dX6_readOne_235 rfl oc_X6_114 rfl rfl (Nat.le_of_ble_eq_true rfl) rfl rfl ovX6 (Nat.le_refl _) (Nat.le_refl _) (c6_meas (κX := (kF κX 7 (.int (nI (sO σ + 1))))) (ρ := opW σ) hE hX0 hX5 (by omega) (by omega) (g1.tI (by decide)) (f1.trans hf) ?_ ?_)
                      · -- call
                        intro y2 z2 hy2 a2 n2 me2 p2 nz2 hz2 κT2 g2 b2 f2
                        refine ⟨_, rfl, ?_⟩
                        refine ab_ret (pc := 238) dX6_readOne_238 rfl (Nat.le_refl _) (Nat.le_refl _) ?_
                        have lf := (leaf_of tc (by omega) hw).trans (cwd_leaf (by omega)).symm
                        have lf2 := cwd_leaf (i := w) (by omega)
                        have oL : operandF σ = opB σ := (op_leaf tc hkd (by omega) hw).trans (opL_ok (by omega) (by omega))
                        have hB : opB σ = (true, nx (codeF (nx (opW σ)) (cwd w) y2 z2)) := by rw [opB_58 (by omega) a2 n2 hy2 p2, lf, n2, nz2]
                        have nW := NXF_nx (opW σ)
                        obtain ⟨s2, hs2⟩ : ∃ x, x = nx (opW σ) := ⟨_, rfl⟩
                        rw [← hs2] at hB nW g2
                        have n3 := NXF_nx (codeF s2 (cwd w) y2 z2)
                        have g3 := g2.nxc (Y' := codeF s2 (cwd w) y2 z2) (fun k hk => (code_E _ _ _ _ k hk).trans (mI_o _ _ _ _ (by unfold E6 at hk; omega)).symm) rfl rfl
                        obtain ⟨s3, hs3⟩ : ∃ x, x = nx (codeF s2 (cwd w) y2 z2) := ⟨_, rfl⟩
                        rw [← hs3] at hB n3 g3
                        have L9 := SN_leaf (Y := s2) (w := w) (y := y2) (z := z2) (n := m9) H h0 (by omega) (by omega) hw lf (oL.trans hB) hB hmz n3.1 (fun k hk => n3.2.2.2 k (by omega) (by omega) (by omega) (by omega) (by omega) (by omega)) nW.1 (fun k hk => (nW.2.2.2 k (by omega) (by omega) (by omega) (by omega) (by omega) (by omega)).trans (opW_sc (by omega) (by omega))) ((nW.2.2.2 52 (by decide) (by decide) (by decide) (by decide) (by decide) (by decide)).trans (opW_52 σ)) (n3.2.2.1.trans nW.2.2.1) g3 f2
                        exact k1 _ _ _ _ L9.2 L9.1 rfl rfl (b1.tr b2)
                      · -- call
                        intro z2 me2 κT2 g2 b2
                        refine ⟨_, rfl, ?_⟩
                        refine ab_ret (pc := 238) dX6_readOne_238 rfl (Nat.le_refl _) (Nat.le_refl _) ?_
                        have lf := (leaf_of tc (by omega) hw).trans (cwd_leaf (by omega)).symm
                        have lf2 := cwd_leaf (i := w) (by omega)
                        have oL : operandF σ = opB σ := (op_leaf tc hkd (by omega) hw).trans (opL_ok (by omega) (by omega))
                        have hB : opB σ = (false, z2) := opB_58n (by omega) me2
                        exact k0 _ _ _ (senL_no hV (oL.trans hB)) g2 rfl rfl (b1.tr b2)
                    · -- 197
                      have q194 := Option.some.inj h194
                      refine aw_aload_n (pc := 197) (i := 0) dX6_readOne_197 rfl rfl ?_
                      refine aw_swap ?_
                      refine pg_X6_34 (pc := 198) (v := .ref (a 13)) dX6_readOne_198 rfl hX0 ?_
                      refine aw_aload_n (pc := 201) (i := 0) dX6_readOne_201 rfl rfl ?_
                      refine pg_X6_38 (pc := 202) (v := .ref (c 13)) dX6_readOne_202 rfl hX1 ?_
                      refine aw_swap ?_
                      refine cVi (pc := 205) (As := [.ref (c 13)]) (rest := []) dX6_readOne_205 rfl oc_X6_110 rfl rfl (Nat.le_of_ble_eq_true rfl) rfl rfl ovX8 (Nat.le_refl _) (Nat.le_refl _) (c8_tland (t := σ.2.1 6) (NM := NM) (fr := 0) (σ := opW σ) (g1.tI (by decide)) (f1.trans hf) (hC.sub (fun x hx => by simp only [List.mem_append]; simp [hx])) (fun k hk => hRes k hk) h0 hNm ?_ ?_)
                      · -- call
                        intro i2 hi2 fw2 t2 κT2 g2 b2 f2
                        refine ⟨_, rfl, ?_⟩
                        refine aw_istore (pc := 208) (i := 4) dX6_readOne_208 (Nat.le_of_ble_eq_true rfl) rfl ?_
                        refine aw_iload (pc := 210) dX6_readOne_210 rfl ?_
                        refine aw_iconst (pc := 212) dX6_readOne_212 iconst_m1 ?_
                        refine aw_icmp_eq (pc := 213) (tgt := 231) dX6_readOne_213 rfl (fun h213 => ?_) (fun h213 => ?_)
                        · -- 231
                          exact absurd h213 (nI_m1 (by omega))
                        · -- 216
                          refine aw_aload_n (pc := 216) (i := 0) dX6_readOne_216 rfl rfl ?_
                          refine aw_qload_n (pc := 217) (i := 3) dX6_readOne_217 rfl rfl ?_
                          refine aw_iconst (pc := 218) dX6_readOne_218 iconst_0 ?_
                          refine aw_iload (pc := 219) dX6_readOne_219 rfl ?_
                          refine aw_swap ?_
                          refine cVi (pc := 221) (As := [va_rf (Option.map ad (some w)), .int (nI 0), .int (nI i2)]) (rest := []) dX6_readOne_221 rfl oc_X6_72 rfl rfl (Nat.le_of_ble_eq_true rfl) rfl rfl ovX6 (Nat.le_refl _) (Nat.le_refl _) (c6_add (κX := (kF κX 7 (.int (nI (sO σ + 1))))) hE hX5 (by omega) (by omega) ⟨_, rfl, ?_⟩)
                          refine ab_if_eq (pc := 224) (tgt := 231) dX6_readOne_224 rfl (fun h224 => absurd h224 (by decide)) (fun h224 => ?_)
                          refine aw_iconst (pc := 227) dX6_readOne_227 iconst_1 ?_
                          refine aw_goto (pc := 228) (tgt := 232) dX6_readOne_228 rfl ?_
                          refine ab_ret1 (pc := 232) dX6_readOne_232 rfl (Nat.le_refl _) (Nat.le_refl _) ?_
                          have lf := (leaf_of tc (by omega) hw).trans (cwd_leaf (by omega)).symm
                          have lf2 := cwd_leaf (i := w) (by omega)
                          have oL : operandF σ = opB σ := (op_leaf tc hkd (by omega) hw).trans (opL_ok (by omega) (by omega))
                          have hB : opB σ = (true, nx (codeF (mI (opW σ) 18 (nI i2)) (cwd w) 0 i2)) := by rw [opB_24 (by omega) (by omega) (looks_ok t2 fw2) fw2, lf]
                          have n3 := NXF_nx (codeF (mI (opW σ) 18 (nI i2)) (cwd w) 0 i2)
                          have g3 := g2.nxc (Y' := codeF (mI (opW σ) 18 (nI i2)) (cwd w) 0 i2) (fun k hk => code_E _ _ _ _ k hk) rfl rfl
                          obtain ⟨s3, hs3⟩ : ∃ x, x = nx (codeF (mI (opW σ) 18 (nI i2)) (cwd w) 0 i2) := ⟨_, rfl⟩
                          rw [← hs3] at hB n3 g3
                          have L9 := SN_leaf (Y := mI (opW σ) 18 (nI i2)) (w := w) (y := 0) (z := i2) (n := m9) H h0 (by omega) (by omega) hw lf (oL.trans hB) hB hmz n3.1 (fun k hk => n3.2.2.2 k (by omega) (by omega) (by omega) (by omega) (by omega) (by omega)) rfl (fun k hk => (mI_o _ _ _ _ (by omega)).trans (opW_sc (by omega) (by omega))) (opW_52 σ) n3.2.2.1 g3 f2
                          exact k1 _ _ _ _ L9.2 L9.1 rfl rfl (b1.tr b2)
                      · -- call
                        intro z2 t2 κT2 g2 b2
                        refine ⟨_, rfl, ?_⟩
                        refine aw_istore (pc := 208) (i := 4) dX6_readOne_208 (Nat.le_of_ble_eq_true rfl) rfl ?_
                        refine aw_iload (pc := 210) dX6_readOne_210 rfl ?_
                        refine aw_iconst (pc := 212) dX6_readOne_212 iconst_m1 ?_
                        refine aw_icmp_eq (pc := 213) (tgt := 231) dX6_readOne_213 rfl (fun h213 => ?_) (fun h213 => ?_)
                        · -- 231
                          refine aw_iconst (pc := 231) dX6_readOne_231 iconst_0 ?_
                          refine aw_swap ?_
                          refine ab_ret0 (pc := 232) dX6_readOne_232 rfl (Nat.le_refl _) (Nat.le_refl _) ?_
                          have lf := (leaf_of tc (by omega) hw).trans (cwd_leaf (by omega)).symm
                          have lf2 := cwd_leaf (i := w) (by omega)
                          have oL : operandF σ = opB σ := (op_leaf tc hkd (by omega) hw).trans (opL_ok (by omega) (by omega))
                          have hB : opB σ = (false, z2) := opB_24n (by omega) (by omega) (looks_no t2)
                          exact k0 _ _ _ (senL_no hV (oL.trans hB)) g2 rfl rfl (b1.tr b2)
                        · -- 216
                          exact absurd rfl h213
              · -- 168
                have q165 := Option.some.inj h165
                refine aw_aload_n (pc := 168) (i := 0) dX6_readOne_168 rfl rfl ?_
                refine aw_qload_n (pc := 169) (i := 3) dX6_readOne_169 rfl rfl ?_
                refine aw_iconst (pc := 170) dX6_readOne_170 iconst_0 ?_
                refine aw_iconst (pc := 171) dX6_readOne_171 iconst_0 ?_
                refine aw_swap ?_
                refine cVi (pc := 172) (As := [va_rf (Option.map ad (some w)), .int (nI 0), .int (nI 0)]) (rest := []) dX6_readOne_172 rfl oc_X6_72 rfl rfl (Nat.le_of_ble_eq_true rfl) rfl rfl ovX6 (Nat.le_refl _) (Nat.le_refl _) (c6_add (κX := (kF κX 7 (.int (nI (sO σ + 1))))) hE hX5 (by omega) (by omega) ⟨_, rfl, ?_⟩)
                refine ab_ret (pc := 175) dX6_readOne_175 rfl (Nat.le_refl _) (Nat.le_refl _) ?_
                have lf := (leaf_of tc (by omega) hw).trans (cwd_leaf (by omega)).symm
                have lf2 := cwd_leaf (i := w) (by omega)
                have oL : operandF σ = opB σ := (op_leaf tc hkd (by omega) hw).trans (opL_ok (by omega) (by omega))
                have hB : opB σ = (true, codeF (opW σ) (cwd w) 0 0) := by rw [opB_01 (by omega), lf]
                have L9 := SN_leaf (Y := opW σ) (w := w) (y := 0) (z := 0) (n := m9) H h0 (by omega) (by omega) hw lf (oL.trans hB) hB hmz rfl (fun _ _ => rfl) rfl (fun k hk => opW_sc (by omega) (by omega)) (opW_52 σ) rfl ((g1.tI (by decide)).tN.tN.tN.tI (by decide)) (f1.trans hf)
                exact k1 _ _ _ _ L9.2 L9.1 rfl rfl b1
          · -- 126
            subst h123
            refine aw_aload_n (pc := 126) (i := 0) dX6_readOne_126 rfl rfl ?_
            refine aw_iload_n (pc := 127) (i := 1) dX6_readOne_127 rfl rfl ?_
            refine aw_iconst (pc := 128) dX6_readOne_128 iconst_1 ?_
            refine an_add (pc := 129) dX6_readOne_129 ?_
            have ox := opG_x hV (x := 20) (by decide) (Or.inl pW) (by omega) (by omega)
            have es : senL (m9 + 1) σ = senL m9 (gS σ 20) := senL_op hV ((op_not tc).trans ox.1)
            have g1 : TPR ad κ1 (gS σ 20) := (g1.tN.tI (by decide)).tI (by decide)
            obtain ⟨s1, hs1⟩ : ∃ x, x = gS σ 20 := ⟨_, rfl⟩
            rw [← hs1] at ox es g1
            obtain ⟨-, bV, bm, b6, b8, bT, bt, bs, bE, b52, b15, b51, bL⟩ := ox
            have H1 := (SN_same H bV ⟨b8, b6⟩ (fun k hk => by rcases hk with rfl | rfl; exact b15; exact b51) b52 (by omega) bL g1 (f1.trans hf))
            refine aw_swap ?_
            refine cVi (pc := 130) (As := [.int (nI (dp + 1))]) (rest := []) dX6_readOne_130 rfl oc_X6_76 rfl rfl (Nat.le_of_ble_eq_true rfl) rfl rfl ovX6 (Nat.le_refl _) (Nat.le_refl _) ((ih (by omega)).2 _ _ _ _ s1 NM m9 hX0 hX1 (by rw [b6]; exact hC) (by rw [b6]; exact h0) H1.1 (by rw [bE, hdp]) (by omega) (fun m e => by rw [bT] at e; rw [show m = sT σ by omega, bt]; exact ⟨fun h => absurd h (by decide), fun h => absurd h (by decide)⟩) ?_ ?_)
            · -- call
              intro s2 n2 κT2 κX2 U2 H2 qa2 qb2 tb2
              refine ⟨_, rfl, ?_⟩
              obtain ⟨u1, u2, u3, u4, u5, u6, u7, u8, u9⟩ := U2
              obtain ⟨m2, rfl⟩ : ∃ m, n2 = m + 1 := ⟨n2 - 1, by omega⟩
              have hV2 := H2.2.2.2.2.1
              have hl2 := hV2.lim
              have q2 := hV2.e53
              have c2 : sC s2 < 40 := SV_c hV2
              have so1 : sO s1 = sO σ + 1 := H1.2
              have et : s2.2.1 50 (sT σ) = 20 := by rw [u4 _ (by omega)]; exact bt
              refine ab_if_eq (pc := 133) (tgt := 152) dX6_readOne_133 rfl (fun h133 => absurd h133 (by decide)) (fun h133 => ?_)
              refine aw_aload_n (pc := 136) (i := 0) dX6_readOne_136 rfl rfl ?_
              refine aw_gsw (pc := 137) (i := 14) dX6_readOne_137 rfl hE (by decide) rfl gs_X6_92 ?_
              refine aw_iconst (pc := 140) dX6_readOne_140 iconst_0 ?_
              refine aw_iconst (pc := 141) dX6_readOne_141 iconst_0 ?_
              refine cVi (pc := 142) (As := [va_rf (Option.map ad (some 14)), .int (nI 0), .int (nI 0)]) (rest := []) dX6_readOne_142 rfl oc_X6_72 rfl rfl (Nat.le_of_ble_eq_true rfl) rfl rfl ovX6 (Nat.le_refl _) (Nat.le_refl _) (c6_add hE H2.2.2.1 c2 (by decide) ⟨_, rfl, ?_⟩)
              refine ab_if_eq (pc := 145) (tgt := 152) dX6_readOne_145 rfl (fun h145 => absurd h145 (by decide)) (fun h145 => ?_)
              refine aw_iconst (pc := 148) dX6_readOne_148 iconst_1 ?_
              refine aw_goto (pc := 149) (tgt := 153) dX6_readOne_149 rfl ?_
              refine ab_ret1 (pc := 153) dX6_readOne_153 rfl (Nat.le_refl _) (Nat.le_refl _) ?_
              have sp := sen_pop20 (n := m2) hV2 (t := sT σ) (by omega) et
              have P := SN_pop20 H2 (t := sT σ) (by omega) et
              have f3 := SF_pop20 s2
              obtain ⟨s3, hs3⟩ : ∃ x, x = pop20 s2 := ⟨_, rfl⟩
              rw [← hs3] at sp P f3
              obtain ⟨P1, P2, P3, P4⟩ := P
              exact k1 s3 (m2 + 1) _ _ ⟨es.trans (u1.trans sp.1.symm), by rw [SF_mz f3]; exact u2, P3, fun j hj => by rw [f3.2.1 50 (by decide), u4 j (by omega), bs j hj], (f3.2.1 6 (by decide)).trans (u5.trans b6), by omega, by omega, fun h => absurd h (by decide), fun h => absurd h (by decide)⟩ P1 qa2 qb2 (b1.tr tb2)
            · -- call
              intro s2 κT2 κX2 e2 g2 qa2 qb2 tb2
              refine ⟨_, rfl, ?_⟩
              refine ab_if_eq (pc := 133) (tgt := 152) dX6_readOne_133 rfl (fun h133 => ?_) (fun h133 => absurd h133 (by decide))
              refine aw_iconst (pc := 152) dX6_readOne_152 iconst_0 ?_
              exact ab_ret0 (pc := 153) dX6_readOne_153 rfl (Nat.le_refl _) (Nat.le_refl _) (k0 _ _ _ (es.trans e2) g2 qa2 qb2 (b1.tr tb2))
        · -- 61
          refine aw_aload_n (pc := 61) (i := 0) dX6_readOne_61 rfl rfl ?_
          refine pg_X6_34 (pc := 62) (v := .ref (a 13)) dX6_readOne_62 rfl hX0 ?_
          refine aw_iconst (pc := 65) dX6_readOne_65 iconst_4 ?_
          refine aw_swap ?_
          refine cVi (pc := 66) (As := [.int (nI 4)]) (rest := []) dX6_readOne_66 rfl oc_X6_56 rfl rfl (Nat.le_of_ble_eq_true rfl) rfl rfl ovX8 (Nat.le_refl _) (Nat.le_refl _) (c8_refuse (σ := σ) hT hf ?_)
          intro κ1 g1 p1 b1
          refine ⟨_, rfl, ?_⟩
          refine aw_swap ?_
          refine ab_ret (pc := 69) dX6_readOne_69 rfl (Nat.le_refl _) (Nat.le_refl _) ?_
          obtain ⟨m9, rfl⟩ : ∃ m, n = m + 1 := ⟨n - 1, by omega⟩
          have e : operandF σ = (false, badF σ 4) := op_big tc hkd hr hV h34 (by omega)
          exact k0 _ _ _ (senL_no hV e) ⟨g1, p1⟩ rfl rfl ((TBs.rf _).tr b1)
    · -- 37
      refine aw_aload_n (pc := 37) (i := 0) dX6_readOne_37 rfl rfl ?_
      refine aw_swap ?_
      refine pg_X6_34 (pc := 38) (v := .ref (a 13)) dX6_readOne_38 rfl hX0 ?_
      refine aw_iconst (pc := 41) dX6_readOne_41 iconst_1 ?_
      refine aw_swap ?_
      refine cVi (pc := 42) (As := [.int (nI 1)]) (rest := []) dX6_readOne_42 rfl oc_X6_56 rfl rfl (Nat.le_of_ble_eq_true rfl) rfl rfl ovX8 (Nat.le_refl _) (Nat.le_refl _) (c8_refuse (σ := σ) hT hf ?_)
      intro κ1 g1 p1 b1
      refine ⟨_, rfl, ?_⟩
      refine aw_swap ?_
      exact ab_ret (pc := 45) dX6_readOne_45 rfl (Nat.le_refl _) (Nat.le_refl _) (k0 _ _ _ (by obtain ⟨m9, rfl⟩ : ∃ m, n = m + 1 := ⟨n - 1, by omega⟩; exact senL_no hV (op_no tc hkd hr h9 h34)) ⟨g1, p1⟩ rfl rfl ((TBs.rf _).tr b1))
  · -- 12
    have pS : σ.1 11 = nI 3 := tc_sgp tc h9
    refine aw_iconst (pc := 12) dX6_readOne_12 iconst_1 ?_
    refine aw_goto (pc := 13) (tgt := 17) dX6_readOne_13 rfl ?_
    refine aw_istore_n (pc := 17) (i := 2) dX6_readOne_17 rfl (Nat.le_of_ble_eq_true rfl) rfl ?_
    refine aw_aload_n (pc := 18) (i := 0) dX6_readOne_18 rfl rfl ?_
    refine aw_swap ?_
    refine pg_X6_34 (pc := 19) (v := .ref (a 13)) dX6_readOne_19 rfl hX0 ?_
    refine aw_swap ?_
    refine pg_X6_62 (pc := 22) (v := va_rf (Option.map ad r)) dX6_readOne_22 rfl e10 ?_
    refine aw_qstore_n (pc := 25) (i := 3) dX6_readOne_25 rfl (Nat.le_of_ble_eq_true rfl) rfl ?_
    refine aw_iload_n (pc := 26) (i := 2) dX6_readOne_26 rfl rfl ?_
    refine an_if_ne (pc := 27) (tgt := 46) dX6_readOne_27 rfl (by decide) (fun h27 => ?_) (fun h27 => absurd h27 (by decide))
    refine aw_aload_n (pc := 46) (i := 0) dX6_readOne_46 rfl rfl ?_
    refine aw_swap ?_
    refine pg_X6_31 (pc := 47) (v := .int (nI (sO σ))) dX6_readOne_47 rfl hX7 ?_
    refine aw_bipush (pc := 50) dX6_readOne_50 bipush_20 ?_
    refine an_icmp_ge (pc := 52) (tgt := 61) dX6_readOne_52 rfl (by omega) (by decide) (fun h52 => ?_) (fun h52 => ?_)
    · -- 61
      refine aw_aload_n (pc := 61) (i := 0) dX6_readOne_61 rfl rfl ?_
      refine pg_X6_34 (pc := 62) (v := .ref (a 13)) dX6_readOne_62 rfl hX0 ?_
      refine aw_iconst (pc := 65) dX6_readOne_65 iconst_4 ?_
      refine aw_swap ?_
      refine cVi (pc := 66) (As := [.int (nI 4)]) (rest := []) dX6_readOne_66 rfl oc_X6_56 rfl rfl (Nat.le_of_ble_eq_true rfl) rfl rfl ovX8 (Nat.le_refl _) (Nat.le_refl _) (c8_refuse (σ := σ) hT hf ?_)
      intro κ1 g1 p1 b1
      refine ⟨_, rfl, ?_⟩
      refine aw_swap ?_
      refine ab_ret (pc := 69) dX6_readOne_69 rfl (Nat.le_refl _) (Nat.le_refl _) ?_
      obtain ⟨m9, rfl⟩ : ∃ m, n = m + 1 := ⟨n - 1, by omega⟩
      have e : operandF σ = (false, badF σ 4) := (op_br tc hkd h9).trans (opG_no hV (by omega))
      exact k0 _ _ _ (senL_no hV e) ⟨g1, p1⟩ rfl rfl ((TBs.rf _).tr b1)
    · -- 55
      refine aw_iload_n (pc := 55) (i := 1) dX6_readOne_55 rfl rfl ?_
      refine aw_bipush (pc := 56) dX6_readOne_56 bipush_8 ?_
      refine an_icmp_le (pc := 58) (tgt := 70) dX6_readOne_58 rfl (by omega) (by decide) (fun h58 => ?_) (fun h58 => ?_)
      · -- 70
        refine aw_aload_n (pc := 70) (i := 0) dX6_readOne_70 rfl rfl ?_
        refine aw_dup (pc := 71) dX6_readOne_71 rfl ?_
        refine pg_X6_31 (pc := 72) (v := .int (nI (sO σ))) dX6_readOne_72 rfl hX7 ?_
        refine aw_iconst (pc := 75) dX6_readOne_75 iconst_1 ?_
        refine an_add (pc := 76) dX6_readOne_76 ?_
        refine pp_X6_31 (pc := 77) dX6_readOne_77 rfl ?_
        refine aw_aload_n (pc := 80) (i := 0) dX6_readOne_80 rfl rfl ?_
        refine pg_X6_34 (pc := 81) (v := .ref (a 13)) dX6_readOne_81 rfl hX0 ?_
        refine aw_swap ?_
        refine cVv (pc := 84) (As := []) (rest := []) dX6_readOne_84 rfl oc_X6_69 rfl rfl (Nat.le_of_ble_eq_true rfl) rfl rfl ovX8 (Nat.le_refl _) (Nat.le_refl _) (c8_stepR (σ := mI σ 52 (nI (sO σ + 1))) (hT.tI (by decide)) (Or.inr (Or.inr pS)) ?_)
        intro κ1 g1 b1 f1
        refine ⟨rfl, ?_⟩
        obtain ⟨m9, rfl⟩ : ∃ m, n = m + 1 := ⟨n - 1, by omega⟩
        have g1 : TPR ad κ1 (opN σ) := g1
        refine aw_iload_n (pc := 87) (i := 2) dX6_readOne_87 rfl rfl ?_
        refine an_if_eq (pc := 88) (tgt := 119) dX6_readOne_88 rfl (by decide) (fun h88 => absurd h88 (by decide)) (fun h88 => ?_)
        refine aw_aload_n (pc := 91) (i := 0) dX6_readOne_91 rfl rfl ?_
        refine aw_iload_n (pc := 92) (i := 1) dX6_readOne_92 rfl rfl ?_
        refine aw_iconst (pc := 93) dX6_readOne_93 iconst_1 ?_
        refine an_add (pc := 94) dX6_readOne_94 ?_
        have ox := opG_x hV (x := 23) (by decide) (Or.inr (Or.inr pS)) (by omega) (by omega)
        have es : senL (m9 + 1) σ = senL m9 (gS σ 23) := senL_op hV ((op_br tc hkd h9).trans ox.1)
        have g1 : TPR ad κ1 (gS σ 23) := (g1.tN.tI (by decide)).tI (by decide)
        obtain ⟨s1, hs1⟩ : ∃ x, x = gS σ 23 := ⟨_, rfl⟩
        rw [← hs1] at ox es g1
        obtain ⟨-, bV, bm, b6, b8, bT, bt, bs, bE, b52, b15, b51, bL⟩ := ox
        have H1 := (SN_same H bV ⟨b8, b6⟩ (fun k hk => by rcases hk with rfl | rfl; exact b15; exact b51) b52 (by omega) bL g1 (f1.trans hf))
        refine aw_swap ?_
        refine cVi (pc := 95) (As := [.int (nI (dp + 1))]) (rest := []) dX6_readOne_95 rfl oc_X6_48 rfl rfl (Nat.le_of_ble_eq_true rfl) rfl rfl ovX6 (Nat.le_refl _) (Nat.le_refl _) ((ih (by omega)).1 _ _ _ _ s1 NM m9 hX0 hX1 (by rw [b6]; exact hC) (by rw [b6]; exact h0) H1.1 (by rw [bE, hdp]) (by omega) (fun m e => by rw [bT] at e; rw [show m = sT σ by omega, bt]; exact ⟨fun _ => by decide, fun _ => by decide⟩) ?_ ?_)
        · -- call
          intro s2 n2 κT2 κX2 U2 H2 qa2 qb2 tb2
          refine ⟨_, rfl, ?_⟩
          obtain ⟨u1, u2, u3, u4, u5, u6, u7, u8, u9⟩ := U2
          obtain ⟨m2, rfl⟩ : ∃ m, n2 = m + 1 := ⟨n2 - 1, by omega⟩
          have hV2 := H2.2.2.2.2.1
          have hl2 := hV2.lim
          have q2 := hV2.e53
          have c2 : sC s2 < 40 := SV_c hV2
          have so1 : sO s1 = sO σ + 1 := H1.2
          have et : s2.2.1 50 (sT σ) = 23 := by rw [u4 _ (by omega)]; exact bt
          refine ab_if_eq (pc := 98) (tgt := 117) dX6_readOne_98 rfl (fun h98 => absurd h98 (by decide)) (fun h98 => ?_)
          refine aw_aload_n (pc := 101) (i := 0) dX6_readOne_101 rfl rfl ?_
          refine pg_X6_34 (pc := 102) (v := .ref (a 13)) dX6_readOne_102 rfl (qa2.trans hX0) ?_
          refine aw_bipush (pc := 105) dX6_readOne_105 bipush_41 ?_
          refine aw_swap ?_
          refine cVi (pc := 107) (As := [.int (nI 41)]) (rest := []) dX6_readOne_107 rfl oc_X6_89 rfl rfl (Nat.le_of_ble_eq_true rfl) rfl rfl ovX8 (Nat.le_refl _) (Nat.le_refl _) (c8_takeSign H2.1 H2.2.1 rfl ?_ ?_)
          · -- call
            intro t3 κT3 g3 b3 f3
            refine ⟨_, rfl, ?_⟩
            refine ab_if_eq (pc := 110) (tgt := 117) dX6_readOne_110 rfl (fun h110 => absurd h110 (by decide)) (fun h110 => ?_)
            refine aw_iconst (pc := 113) dX6_readOne_113 iconst_1 ?_
            refine aw_goto (pc := 114) (tgt := 118) dX6_readOne_114 rfl ?_
            refine aw_swap ?_
            refine ab_ret1 (pc := 118) dX6_readOne_118 rfl (Nat.le_refl _) (Nat.le_refl _) ?_
            have sg := sign_t t3
            have sc3 := sen_close (n := m2) hV2 (t := sT σ) (by omega) et sg.1 (u8 (by decide)) (u9 (by decide))
            have hv3 := SV_close hV2 (t := sT σ) (by omega) (by rw [et]; decide) (by rw [et]; decide)
            rw [sg.2] at g3
            have g3 := g3.nxc (Y' := mI (mI s2 53 (nI (sT σ))) 54 (nI (sE s2 - 1))) (fun k hk => by unfold E6 at hk; rw [mI_o _ _ _ _ (by omega), mI_o _ _ _ _ (by omega)]) rfl rfl
            have p3 : propT (mI (mI s2 53 (nI (sT σ))) 54 (nI (sE s2 - 1))) := isSign_p (show isSignB (mI (mI s2 53 (nI (sT σ))) 54 (nI (sE s2 - 1))) 41 = true from sg.1)
            have mz3 := (mz_nx hv3.1).2 p3
            rw [mz_mI (by decide), mz_mI (by decide)] at mz3
            have n3 := NXF_nx (mI (mI s2 53 (nI (sT σ))) 54 (nI (sE s2 - 1)))
            have hv3 := SV_nx hv3
            obtain ⟨s3, hs3⟩ : ∃ x, x = nx (mI (mI s2 53 (nI (sT σ))) 54 (nI (sE s2 - 1))) := ⟨_, rfl⟩
            rw [← hs3] at sc3 g3 hv3 mz3 n3
            have k3 : ∀ k, k = 15 ∨ k = 51 ∨ k = 52 → s3.1 k = s2.1 k := fun k hk => by rw [n3.2.2.2 k (by omega) (by omega) (by omega) (by omega) (by omega) (by omega), mI_o _ _ _ _ (by omega), mI_o _ _ _ _ (by omega)]
            have H3 := SN_same H2 hv3 ⟨by rw [n3.1]; rfl, by rw [n3.1]; rfl⟩ (fun k hk => k3 k (by omega)) ((k3 52 (by omega)).trans q2.2.2.1) (by omega) n3.2.2.1 g3 f3
            rw [kF_7 H2.2.2.2.1] at H3
            have t53 : sT s3 = sT σ := sX_of (by rw [n3.2.2.2 53 (by decide) (by decide) (by decide) (by decide) (by decide) (by decide)]; rfl) (by omega)
            have t54 : sE s3 = sE s2 - 1 := sX_of (by rw [n3.2.2.2 54 (by decide) (by decide) (by decide) (by decide) (by decide) (by decide)]; rfl) (by omega)
            exact k1 s3 m2 _ _ ⟨es.trans (u1.trans sc3), by omega, t53, fun j hj => by rw [n3.1]; exact (u4 j (by omega)).trans (bs j hj), by rw [n3.1]; exact u5.trans b6, by omega, by omega, fun h => absurd h (by decide), fun h => absurd h (by decide)⟩ H3.1 qa2 qb2 ((b1.tr tb2).tr b3)
          · -- call
            intro t3 κT3 g3 b3
            refine ⟨_, rfl, ?_⟩
            refine ab_if_eq (pc := 110) (tgt := 117) dX6_readOne_110 rfl (fun h110 => ?_) (fun h110 => absurd h110 (by decide))
            refine aw_iconst (pc := 117) dX6_readOne_117 iconst_0 ?_
            refine aw_swap ?_
            refine ab_ret0 (pc := 118) dX6_readOne_118 rfl (Nat.le_refl _) (Nat.le_refl _) ?_
            have ns : ¬ isSignB s2 41 = true := fun e => by unfold signF at t3; rw [if_pos e] at t3; cases t3
            have e3 : signF s2 41 = (false, badF s2 1) := by unfold signF; rw [if_neg ns]
            rw [e3] at g3
            exact k0 _ _ _ (es.trans (u1.trans (sen_nclose hV2 (t := sT σ) (by omega) et ns (u8 (by decide)) (u9 (by decide))))) g3 qa2 qb2 ((b1.tr tb2).tr b3)
        · -- call
          intro s2 κT2 κX2 e2 g2 qa2 qb2 tb2
          refine ⟨_, rfl, ?_⟩
          refine ab_if_eq (pc := 98) (tgt := 117) dX6_readOne_98 rfl (fun h98 => ?_) (fun h98 => absurd h98 (by decide))
          refine aw_iconst (pc := 117) dX6_readOne_117 iconst_0 ?_
          exact ab_ret0 (pc := 118) dX6_readOne_118 rfl (Nat.le_refl _) (Nat.le_refl _) (k0 _ _ _ (es.trans e2) g2 qa2 qb2 (b1.tr tb2))
      · -- 61
        refine aw_aload_n (pc := 61) (i := 0) dX6_readOne_61 rfl rfl ?_
        refine pg_X6_34 (pc := 62) (v := .ref (a 13)) dX6_readOne_62 rfl hX0 ?_
        refine aw_iconst (pc := 65) dX6_readOne_65 iconst_4 ?_
        refine aw_swap ?_
        refine cVi (pc := 66) (As := [.int (nI 4)]) (rest := []) dX6_readOne_66 rfl oc_X6_56 rfl rfl (Nat.le_of_ble_eq_true rfl) rfl rfl ovX8 (Nat.le_refl _) (Nat.le_refl _) (c8_refuse (σ := σ) hT hf ?_)
        intro κ1 g1 p1 b1
        refine ⟨_, rfl, ?_⟩
        refine aw_swap ?_
        refine ab_ret (pc := 69) dX6_readOne_69 rfl (Nat.le_refl _) (Nat.le_refl _) ?_
        obtain ⟨m9, rfl⟩ : ∃ m, n = m + 1 := ⟨n - 1, by omega⟩
        have e : operandF σ = (false, badF σ 4) := (op_br tc hkd h9).trans (opG_no hV (by omega))
        exact k0 _ _ _ (senL_no hV e) ⟨g1, p1⟩ rfl rfl ((TBs.rf _).tr b1)
