def cldN (t : Nat → Nat) (q : Nat) : Nat := andN (andN (2 ^ t 0 - 1) (2 ^ t (79 + q))) (t (101 + t (79 + q)))
theorem cld_bit (t : Nat → Nat) (q j : Nat) : (cldN t q).testBit j = (decide (j < t 0) && !(sparedF t q).testBit j) := by
  unfold cldN sparedF
  rw [andN_bit, andN_bit, Nat.testBit_two_pow_sub_one, Nat.testBit_or]
  cases decide (j < t 0) <;> cases (t (101 + t (79 + q))).testBit j <;> cases (2 ^ t (79 + q)).testBit j <;> rfl
theorem cld_lt {t : Nat → Nat} {q : Nat} : cldN t q < 2 ^ t 0 := andN_le _ _ _ (andN_le _ _ _ (by have := Nat.two_pow_pos (t 0); omega))
theorem spD_le {t : Nat → Nat} {q l n i : Nat} (hi : i < 2 ^ t 0) (hd : spD t q l n i = true) : i ≤ cldN t q := by
  unfold spD at hd
  have h0 : i &&& sparedF t q = 0 := of_decide_eq_true (by revert hd; cases decide (i &&& sparedF t q = 0) <;> simp)
  exact andN_0le ((fit_iff hi (cld_bit t q)).mpr h0)
theorem bits7 : ∀ i, i < 128 → bitsN i ≤ 7 := by decide +kernel
theorem spG_of {t : Nat → Nat} {q l n N b : Nat} (h : MNs (spD t q l n) N b) : spG t q l n N = some b := by
  cases e : spG t q l n N with
  | none => have := (spG_min N).1 e b h.1; rw [h.2.1] at this; cases this
  | some c => rw [((spG_min N).2 c e).uniq h]
theorem spG_no {t : Nat → Nat} {q l n N : Nat} (h : ∀ i, i < N → spD t q l n i = true → False) : spG t q l n N = none := by
  cases e : spG t q l n N with
  | none => rfl
  | some c => exact (h c ((spG_min N).2 c e).1 ((spG_min N).2 c e).2.1).elim
theorem p_push3 {g : Nat → ClassId} {kd : Nat → Bool} {ad : Nat → Nat → Nat} {κ : Nat → kS} {n p1 p2 p3 : Nat} {x1 x2 x3 : kS} {R : va_W} (hp1 : p1 < n) (hp2 : p2 < n) (hp3 : p3 < n) (e21 : ¬ p2 = p1) (e31 : ¬ p3 = p1) (e32 : ¬ p3 = p2) : (ck g kd p1 (ad p1) x1 ++ (ck g kd p2 (ad p2) x2 ++ (ck g kd p3 (ad p3) x3 ++ (WX g kd ad κ n [p3, p2, p1] ++ R)))).Perm (WX g kd ad (upN (upN (upN κ p3 x3) p2 x2) p1 x1) n [] ++ R) := by
  refine List.Perm.trans (List.Perm.append_left _ (List.Perm.append_left _ (List.Perm.trans (by rw [← List.append_assoc]) (List.Perm.append_right R (wx_push hp3 (by simp [e31, e32])))))) ?_
  refine List.Perm.trans (List.Perm.append_left _ (List.Perm.trans (by rw [← List.append_assoc]) (List.Perm.append_right R (wx_push hp2 (by simp [e21]))))) ?_
  refine List.Perm.trans (List.Perm.trans (by rw [← List.append_assoc]) (List.Perm.append_right R (wx_push hp1 (by simp)))) ?_
  exact List.Perm.refl _
set_option maxHeartbeats 1000000 in
set_option maxRecDepth 20000 in
theorem spr_in {G : xG} {d : Nat} {Q : xQ} {ae : Nat → Nat} {tw ts : Nat} {kd : Nat → Bool} {ad : Nat → Nat → Nat} {κ : Nat → kS} {n : Nat} {σ : mS} {B : Nat} {R : va_W} {i j u s : Nat} (hE : EB ae tw ts G) (hNB : NB G) (hAO : AO G) (hJ : J ae kd ad κ n σ B) (hi : i < σ.2.1 6 2) (hj : j < σ.2.1 6 0) (hu : u ≤ 240) (hs12 : s ≤ 7) (k0 : (∀ q, q < 2 ^ σ.2.1 6 0 → spD (σ.2.1 6) i j u q = true → False) → ∀ k6 k7, WKi (ad 7) k6 k7 → Q (some (.int (-1))) (wIb G.2.2.1 (ad 0) (κ 0) ++ (wWk G.2.2.1 (ad 6) k6 ++ (wRw G.2.2.1 (ad 7) 5 k7 ++ (WX G.2.2.1 kd ad κ n [7, 6, 0] ++ R))))) (k1 : ∀ b, MNs (spD (σ.2.1 6) i j u) (2 ^ σ.2.1 6 0) b → ∀ k6 k7, WKi (ad 7) k6 k7 → Q (some (.int (nI (bitsN b)))) (wIb G.2.2.1 (ad 0) (kF (κ 0) 18 (.int (nI b))) ++ (wWk G.2.2.1 (ad 6) k6 ++ (wRw G.2.2.1 (ad 7) 5 k7 ++ (WX G.2.2.1 kd ad κ n [7, 6, 0] ++ R))))) (hinv : (∀ q, q < 2 ^ σ.2.1 6 0 → spD (σ.2.1 6) i j u q = true → s ≤ bitsN q)) (K : (∀ q, q < 2 ^ σ.2.1 6 0 → spD (σ.2.1 6) i j u q = true → s + 1 ≤ bitsN q) → ∀ o5 o6 k6 k7, WKi (ad 7) k6 k7 → AW G MX11_spare (d + 12) 0 0 Q 82 [some (.ref ((ad 0) 20)), some (.int (nI i)), some (.int (nI j)), some (.int (nI u)), some (.int (nI (σ.2.1 6 (79 + i)))), some (.int (nI (2 ^ σ.2.1 6 0 - 1))), some (.int (nI (cldN (σ.2.1 6) i))), some (.int (nI (s + 1))), o5, o6] [] (wIb G.2.2.1 (ad 0) (κ 0) ++ (wWk G.2.2.1 (ad 6) k6 ++ (wRw G.2.2.1 (ad 7) 5 k7 ++ (WX G.2.2.1 kd ad κ n [7, 6, 0] ++ R)))) 0 0) : ∀ (z e : Nat) (o6 : Option Value) (k6 k7 : kS), e + z = cldN (σ.2.1 6) i + 1 → (∀ q, q < e → spD (σ.2.1 6) i j u q = true → ¬ bitsN q = s) → WKi (ad 7) k6 k7 → AW G MX11_spare (d + 12) 0 0 Q 92 [some (.ref ((ad 0) 20)), some (.int (nI i)), some (.int (nI j)), some (.int (nI u)), some (.int (nI (σ.2.1 6 (79 + i)))), some (.int (nI (2 ^ σ.2.1 6 0 - 1))), some (.int (nI (cldN (σ.2.1 6) i))), some (.int (nI s)), some (.int (nI e)), o6] [] (wIb G.2.2.1 (ad 0) (κ 0) ++ (wWk G.2.2.1 (ad 6) k6 ++ (wRw G.2.2.1 (ad 7) 5 k7 ++ (WX G.2.2.1 kd ad κ n [7, 6, 0] ++ R)))) 0 0 := by
  obtain ⟨hn, hMain, hSub, hTape, hR10, hR11, hR12, hR13, hMisc, hRef, hB5, jc, NM, sn, sd, m, pn, im, hCht, hSR, hSnt, hTok, hPast, hPm, hSds, hImg⟩ := id hJ
  have hw : WT (σ.2.1 6) := hTok.1.1.1
  obtain ⟨hb, h0, h1, h2, hRd, hP, hD, hCl, hT⟩ := id hw
  have hSx := st_2 (G := G) (kd := kd) (ad := ad) (n := n) (xs := [7, 6, 0]) (R := R) hSR hw (by omega) (by simp)
  have hCx : CHR G (WX G.2.2.1 kd ad κ n [7, 6, 0] ++ R) (ad jc) (σ.2.1 6) NM := (hCht.chr (ad := ad) hw (fun i hi => by simp at hi; omega)).sub mem_R1
  obtain ⟨sd9, hSo, hS2, hS3, hS6, hS7, hS8, hS9, hS10⟩ := id hSx
  have hos := cld_lt (t := σ.2.1 6) (q := i)
  have h128 : 2 ^ σ.2.1 6 0 ≤ 2 ^ 7 := Nat.pow_le_pow_right (by decide) h0
  obtain ⟨hq1, hq2, hq3, hq4⟩ := hP i hi
  intro z
  induction z with
  | zero =>
    intro e o6 k6 k7 he hne hI6
    refine aw_iload (pc := 92) dX11_spare_92 rfl ?_
    refine aw_iload (pc := 94) dX11_spare_94 rfl ?_
    refine an_icmp_gt (pc := 96) (tgt := 165) dX11_spare_96 rfl (by omega) (by omega) (fun h96 => ?_) (fun h96 => ?_)
    · -- 165
      refine an_inc (pc := 165) (z := 1) dX11_spare_165 rfl (Nat.le_of_ble_eq_true rfl) rfl ?_
      refine aw_goto (pc := 168) (tgt := 82) dX11_spare_168 rfl ?_
      refine K (fun q hq hd => ?_) _ _ _ _ hI6
      have a1 := hinv q hq hd
      have a2 := hne q (by have := spD_le hq hd; omega) hd
      omega
    · -- 99
      exfalso; omega
  | succ z ih =>
    intro e o6 k6 k7 he hne hI6
    have hE2 : e < 2 ^ σ.2.1 6 0 := by omega
    have hE4 : e < 4096 := by omega
    have hbl := bitsN_le e
    refine aw_iload (pc := 92) dX11_spare_92 rfl ?_
    refine aw_iload (pc := 94) dX11_spare_94 rfl ?_
    refine an_icmp_gt (pc := 96) (tgt := 165) dX11_spare_96 rfl (by omega) (by omega) (fun h96 => ?_) (fun h96 => ?_)
    · -- 165
      exfalso; omega
    · -- 99
      refine aw_iload (pc := 99) dX11_spare_99 rfl ?_
      refine aw_iload (pc := 101) dX11_spare_101 rfl ?_
      refine aw_iconst (pc := 103) dX11_spare_103 iconst_m1 ?_
      refine aw_ixor (pc := 104) dX11_spare_104 ?_
      refine aw_iand (pc := 105) dX11_spare_105 ?_
      refine aw_top (y := (nI (andN e (cldN (σ.2.1 6) i)))) (andN_i _ _ (by omega) (by omega)) ?_
      refine an_if_ne (pc := 106) (tgt := 123) dX11_spare_106 rfl (by have := andN_le e (cldN (σ.2.1 6) i) 12 hE4; omega) (fun h106 => ?_) (fun h106 => ?_)
      · -- 123
        refine aw_iconst (pc := 123) dX11_spare_123 iconst_0 ?_
        refine aw_istore (pc := 124) (i := 9) dX11_spare_124 (Nat.le_of_ble_eq_true rfl) rfl ?_
        refine aw_iload (pc := 126) dX11_spare_126 rfl ?_
        refine an_if_eq (pc := 128) (tgt := 159) dX11_spare_128 rfl (by decide) (fun h128 => ?_) (fun h128 => absurd h128 (by decide))
        refine an_inc (pc := 159) (z := 1) dX11_spare_159 rfl (Nat.le_of_ble_eq_true rfl) rfl ?_
        refine aw_goto (pc := 162) (tgt := 92) dX11_spare_162 rfl ?_
        have hf : spD (σ.2.1 6) i j u e = false := by unfold spD; rw [decide_eq_false (fun q => by have := (fit_iff hE2 (cld_bit _ i)).mpr q; omega)]; rfl
        refine ih (e + 1) _ _ _ (by omega) (fun q hq hd => ?_) hI6
        by_cases q9 : q = e
        · subst q9; rw [hf] at hd; cases hd
        · exact hne q (by omega) hd
      · -- 109
        refine aw_iload (pc := 109) dX11_spare_109 rfl ?_
        refine cSi (pc := 111) (As := [.int (nI e)]) (rest := []) dX11_spare_111 rfl oc_X11_265 rfl rfl (Nat.le_of_ble_eq_true rfl) (Nat.le_refl _) (Nat.le_refl _) (c_bitCount hE4 ⟨_, rfl, ?_⟩)
        refine aw_iload (pc := 114) dX11_spare_114 rfl ?_
        refine an_icmp_ne (pc := 116) (tgt := 123) dX11_spare_116 rfl (by omega) (by omega) (fun h116 => ?_) (fun h116 => ?_)
        · -- 123
          refine aw_iconst (pc := 123) dX11_spare_123 iconst_0 ?_
          refine aw_istore (pc := 124) (i := 9) dX11_spare_124 (Nat.le_of_ble_eq_true rfl) rfl ?_
          refine aw_iload (pc := 126) dX11_spare_126 rfl ?_
          refine an_if_eq (pc := 128) (tgt := 159) dX11_spare_128 rfl (by decide) (fun h128 => ?_) (fun h128 => absurd h128 (by decide))
          refine an_inc (pc := 159) (z := 1) dX11_spare_159 rfl (Nat.le_of_ble_eq_true rfl) rfl ?_
          refine aw_goto (pc := 162) (tgt := 92) dX11_spare_162 rfl ?_
          refine ih (e + 1) _ _ _ (by omega) (fun q hq hd => ?_) hI6
          by_cases q9 : q = e
          · subst q9; exact h116
          · exact hne q (by omega) hd
        · -- 119
          refine aw_iconst (pc := 119) dX11_spare_119 iconst_1 ?_
          refine aw_goto (pc := 120) (tgt := 124) dX11_spare_120 rfl ?_
          refine aw_istore (pc := 124) (i := 9) dX11_spare_124 (Nat.le_of_ble_eq_true rfl) rfl ?_
          refine aw_iload (pc := 126) dX11_spare_126 rfl ?_
          refine an_if_eq (pc := 128) (tgt := 159) dX11_spare_128 rfl (by decide) (fun h128 => absurd h128 (by decide)) (fun h128 => ?_)
          refine aw_aload_n (pc := 131) (i := 0) dX11_spare_131 rfl rfl ?_
          refine pg_X11_100 (pc := 132) (v := .ref ((ad 6) 13)) dX11_spare_132 rfl hMain.2.2.2.2.2.1 ?_
          refine aw_aload_n (pc := 135) (i := 0) dX11_spare_135 rfl rfl ?_
          refine pg_X11_72 (pc := 136) (v := .ref ((ad 2) 12)) dX11_spare_136 rfl hMain.2.1 ?_
          refine aw_iload_n (pc := 139) (i := 1) dX11_spare_139 rfl rfl ?_
          refine aw_iload (pc := 140) dX11_spare_140 rfl ?_
          refine aw_iload_n (pc := 142) (i := 2) dX11_spare_142 rfl rfl ?_
          refine aw_iload_n (pc := 143) (i := 3) dX11_spare_143 rfl rfl ?_
          refine aw_swap ?_
          refine aw_swap ?_
          refine aw_swap3 ?_
          refine aw_swap3 ?_
          refine cVi (pc := 144) (As := [.ref ((ad 2) 12), .int (nI i), .int (nI e), .int (nI j), .int (nI u)]) (rest := []) dX11_spare_144 rfl oc_X11_245 rfl rfl (Nat.le_of_ble_eq_true rfl) rfl rfl ovX9 (Nat.le_refl _) (Nat.le_refl _) (c9_findWay (bs := e) hNB (hSx.sub mem_app) (hCx.sub mem_app) hw hi hI6 (by omega) (by omega) hu ?_ ?_)
          · -- call
            intro e9 k8 k9 hI8
            refine ⟨_, rfl, ?_⟩
            refine ab_if_eq (pc := 147) (tgt := 159) dX11_spare_147 rfl (fun h147 => ?_) (fun h147 => absurd h147 (by decide))
            refine an_inc (pc := 159) (z := 1) dX11_spare_159 rfl (Nat.le_of_ble_eq_true rfl) rfl ?_
            refine aw_goto (pc := 162) (tgt := 92) dX11_spare_162 rfl ?_
            refine aw_swap ?_
            refine aw_swap ?_
            refine aw_swap3 ?_
            have hf : spD (σ.2.1 6) i j u e = false := by unfold spD fewB; rw [e9, Bool.and_comm]; rfl
            refine ih (e + 1) _ _ _ (by omega) (fun q hq hd => ?_) hI8
            by_cases q9 : q = e
            · subst q9; rw [hf] at hd; cases hd
            · exact hne q (by omega) hd
          · -- call
            intro kx rowx e9 k8 k9 hI8 hrw hlr hk5
            refine ⟨_, rfl, ?_⟩
            refine ab_if_eq (pc := 147) (tgt := 159) dX11_spare_147 rfl (fun h147 => absurd h147 (by decide)) (fun h147 => ?_)
            refine aw_aload_n (pc := 150) (i := 0) dX11_spare_150 rfl rfl ?_
            refine aw_iload (pc := 151) dX11_spare_151 rfl ?_
            refine aw_swap3 ?_
            refine pp_X11_60 (pc := 153) dX11_spare_153 rfl ?_
            refine aw_iload (pc := 156) dX11_spare_156 rfl ?_
            refine aw_iret (pc := 158) dX11_spare_158 rfl (Nat.le_refl _) (Nat.le_refl _) ?_
            have hD9 : spD (σ.2.1 6) i j u e = true := by unfold spD fewB; rw [decide_eq_true ((fit_iff hE2 (cld_bit _ i)).mp h106), e9]; rfl
            rw [← h116]
            refine k1 e ⟨hE2, hD9, fun q hq hd => ?_⟩ _ _ hI8
            have a1 := hinv q hq hd
            by_cases q9 : bitsN e = bitsN q
            · refine Or.inr ⟨q9, ?_⟩
              apply Classical.byContradiction
              intro q8
              exact hne q (by omega) hd (by omega)
            · exact Or.inl (by omega)
set_option maxHeartbeats 1000000 in
set_option maxRecDepth 20000 in
theorem spr_out {G : xG} {d : Nat} {Q : xQ} {ae : Nat → Nat} {tw ts : Nat} {kd : Nat → Bool} {ad : Nat → Nat → Nat} {κ : Nat → kS} {n : Nat} {σ : mS} {B : Nat} {R : va_W} {i j u : Nat} (hE : EB ae tw ts G) (hNB : NB G) (hAO : AO G) (hJ : J ae kd ad κ n σ B) (hi : i < σ.2.1 6 2) (hj : j < σ.2.1 6 0) (hu : u ≤ 240) (k0 : (∀ q, q < 2 ^ σ.2.1 6 0 → spD (σ.2.1 6) i j u q = true → False) → ∀ k6 k7, WKi (ad 7) k6 k7 → Q (some (.int (-1))) (wIb G.2.2.1 (ad 0) (κ 0) ++ (wWk G.2.2.1 (ad 6) k6 ++ (wRw G.2.2.1 (ad 7) 5 k7 ++ (WX G.2.2.1 kd ad κ n [7, 6, 0] ++ R))))) (k1 : ∀ b, MNs (spD (σ.2.1 6) i j u) (2 ^ σ.2.1 6 0) b → ∀ k6 k7, WKi (ad 7) k6 k7 → Q (some (.int (nI (bitsN b)))) (wIb G.2.2.1 (ad 0) (kF (κ 0) 18 (.int (nI b))) ++ (wWk G.2.2.1 (ad 6) k6 ++ (wRw G.2.2.1 (ad 7) 5 k7 ++ (WX G.2.2.1 kd ad κ n [7, 6, 0] ++ R))))) : ∀ (z s : Nat) (o5 o6 : Option Value) (k6 k7 : kS), s + z = 8 → (∀ q, q < 2 ^ σ.2.1 6 0 → spD (σ.2.1 6) i j u q = true → s ≤ bitsN q) → WKi (ad 7) k6 k7 → AW G MX11_spare (d + 12) 0 0 Q 82 [some (.ref ((ad 0) 20)), some (.int (nI i)), some (.int (nI j)), some (.int (nI u)), some (.int (nI (σ.2.1 6 (79 + i)))), some (.int (nI (2 ^ σ.2.1 6 0 - 1))), some (.int (nI (cldN (σ.2.1 6) i))), some (.int (nI s)), o5, o6] [] (wIb G.2.2.1 (ad 0) (κ 0) ++ (wWk G.2.2.1 (ad 6) k6 ++ (wRw G.2.2.1 (ad 7) 5 k7 ++ (WX G.2.2.1 kd ad κ n [7, 6, 0] ++ R)))) 0 0 := by
  obtain ⟨hn, hMain, hSub, hTape, hR10, hR11, hR12, hR13, hMisc, hRef, hB5, jc, NM, sn, sd, m, pn, im, hCht, hSR, hSnt, hTok, hPast, hPm, hSds, hImg⟩ := id hJ
  have hw : WT (σ.2.1 6) := hTok.1.1.1
  obtain ⟨hb, h0, h1, h2, hRd, hP, hD, hCl, hT⟩ := id hw
  have hos := cld_lt (t := σ.2.1 6) (q := i)
  have h128 : 2 ^ σ.2.1 6 0 ≤ 2 ^ 7 := Nat.pow_le_pow_right (by decide) h0
  obtain ⟨hq1, hq2, hq3, hq4⟩ := hP i hi
  intro z
  induction z with
  | zero =>
    intro s o5 o6 k6 k7 hs hinv hI6
    refine aw_iload (pc := 82) dX11_spare_82 rfl ?_
    refine aw_bipush (pc := 84) dX11_spare_84 bipush_7 ?_
    refine an_icmp_gt (pc := 86) (tgt := 171) dX11_spare_86 rfl (by omega) (by decide) (fun h86 => ?_) (fun h86 => ?_)
    · -- 171
      refine aw_iconst (pc := 171) dX11_spare_171 iconst_m1 ?_
      exact aw_iret (pc := 172) dX11_spare_172 rfl (Nat.le_refl _) (Nat.le_refl _) (k0 (fun q hq hd => by have := hinv q hq hd; have := bits7 q (by omega); omega) _ _ hI6)
    · -- 89
      exfalso; omega
  | succ z ih =>
    intro s o5 o6 k6 k7 hs hinv hI6
    refine aw_iload (pc := 82) dX11_spare_82 rfl ?_
    refine aw_bipush (pc := 84) dX11_spare_84 bipush_7 ?_
    refine an_icmp_gt (pc := 86) (tgt := 171) dX11_spare_86 rfl (by omega) (by decide) (fun h86 => ?_) (fun h86 => ?_)
    · -- 171
      exfalso; omega
    · -- 89
      refine aw_iconst (pc := 89) dX11_spare_89 iconst_0 ?_
      refine aw_istore (pc := 90) (i := 8) dX11_spare_90 (Nat.le_of_ble_eq_true rfl) rfl ?_
      exact spr_in hE hNB hAO hJ hi hj hu (by omega) k0 k1 hinv (fun h9 o5 o6 k6 k7 h8 => ih (s + 1) o5 o6 k6 k7 (by omega) h9 h8) (cldN (σ.2.1 6) i + 1) 0 _ _ _ (by omega) (fun q hq => absurd hq (Nat.not_lt_zero _)) hI6
set_option maxHeartbeats 1000000 in
set_option maxRecDepth 20000 in
theorem x_spare {G : xG} {d : Nat} {Q : xQ} {ae : Nat → Nat} {tw ts : Nat} {kd : Nat → Bool} {ad : Nat → Nat → Nat} {κ : Nat → kS} {n : Nat} {σ : mS} {B : Nat} {R : va_W} {x y z : Int32} (hE : EB ae tw ts G) (hNB : NB G) (hAO : AO G) (hJ : J ae kd ad κ n σ B) (k0 : spareR (σ.2.1 6) x y z = none → ∀ κ9, (∀ (p9 : pS) (dd9 : Int32) (sp9 hm9 : Nat), J ae kd ad κ9 n (scr (mI σ 0 (nI 0)) p9 dd9 sp9 hm9) B) → Q (some (.int (-1))) (WX G.2.2.1 kd ad κ9 n [] ++ R)) (k1 : ∀ b, spareR (σ.2.1 6) x y z = some b → b < 128 → ∀ κ9, (∀ (p9 : pS) (dd9 : Int32) (sp9 hm9 : Nat), J ae kd ad κ9 n (mI (mI (scr (mI σ 0 (nI 0)) p9 dd9 sp9 hm9) 38 (nI 1)) 37 (nI b)) B) → Q (some (.int (nI (bitsN b)))) (WX G.2.2.1 kd ad κ9 n [] ++ R)) : MT G MX11_spare (d + 12) 0 0 [.ref ((ad 0) 20), .int x, .int y, .int z] (WX G.2.2.1 kd ad κ n [] ++ R) Q := by
  obtain ⟨hn, hMain, hSub, hTape, hR10, hR11, hR12, hR13, hMisc, hRef, hB5, jc, NM, sn, sd, m, pn, im, hCht, hSR, hSnt, hTok, hPast, hPm, hSds, hImg⟩ := id hJ
  have hw : WT (σ.2.1 6) := hTok.1.1.1
  have hI := ov_0 (G := G) (kd := kd) (ad := ad) (κ := κ) (xs := []) (R := R) (by omega : 0 < n) (by simp)
  have hTp := ov_1 (G := G) (kd := kd) (ad := ad) (κ := κ) (xs := []) (R := R) (by omega : 1 < n) (by simp)
  have hS := st_2 (G := G) (kd := kd) (ad := ad) (n := n) (xs := []) (R := R) hSR hw (by omega) (by simp)
  have hC : CHR G (WX G.2.2.1 kd ad κ n [] ++ R) (ad jc) (σ.2.1 6) NM := (hCht.chr (ad := ad) hw (fun i hi => by simp at hi)).sub mem_R1
  obtain ⟨hb, h0, h1, h2, hRd, hP, hD, hCl, hT⟩ := id hw
  obtain ⟨sd9, hSo, hS2, hS3, hS6, hS7, hS8, hS9, hS10⟩ := id hS
  obtain ⟨n1, hTB, hlen, hflt⟩ := id hTape
  refine mt_start (L := [some (.ref ((ad 0) 20)), some (.int x), some (.int y), some (.int z), none, none, none, none, none, none]) rfl (Nat.le_of_ble_eq_true rfl) rfl ?_
  refine aw_aload_n (pc := 0) (i := 0) dX11_spare_0 rfl rfl ?_
  refine aw_iload_n (pc := 1) (i := 1) dX11_spare_1 rfl rfl ?_
  refine cVi (pc := 2) (As := [.int x]) (rest := []) dX11_spare_2 rfl oc_X11_135 rfl rfl (Nat.le_of_ble_eq_true rfl) rfl rfl hI (Nat.le_refl _) (Nat.le_refl _) (c11_isPerson hI hMain.2.1 hS hC (by omega) ⟨_, rfl, ?_⟩)
  refine ab_if_eq (pc := 5) (tgt := 23) dX11_spare_5 rfl (fun h5 => ?_) (fun h5 => ?_)
  · -- 23
    refine aw_iconst (pc := 23) dX11_spare_23 iconst_m1 ?_
    exact aw_iret (pc := 24) dX11_spare_24 rfl (Nat.le_refl _) (Nat.le_refl _) (k0 (show spareR (σ.2.1 6) x y z = none from if_neg (by rw [h5]; decide)) κ (fun p9 dd9 sp9 hm9 => hJ))
  · -- 8
    obtain ⟨i, hi, rfl⟩ := inB_t (Nat.lt_of_le_of_lt h2 (by decide)) h5
    refine aw_aload_n (pc := 8) (i := 0) dX11_spare_8 rfl rfl ?_
    refine aw_iload_n (pc := 9) (i := 2) dX11_spare_9 rfl rfl ?_
    refine cVi (pc := 10) (As := [.int y]) (rest := []) dX11_spare_10 rfl oc_X11_167 rfl rfl (Nat.le_of_ble_eq_true rfl) rfl rfl hI (Nat.le_refl _) (Nat.le_refl _) (c11_isLand hI hMain.2.1 hS hC (by omega) ⟨_, rfl, ?_⟩)
    refine ab_if_eq (pc := 13) (tgt := 23) dX11_spare_13 rfl (fun h13 => ?_) (fun h13 => ?_)
    · -- 23
      refine aw_iconst (pc := 23) dX11_spare_23 iconst_m1 ?_
      exact aw_iret (pc := 24) dX11_spare_24 rfl (Nat.le_refl _) (Nat.le_refl _) (k0 (show spareR (σ.2.1 6) (nI i) y z = none from (if_pos h5).trans (if_neg (by rw [h13]; decide))) κ (fun p9 dd9 sp9 hm9 => hJ))
    · -- 16
      obtain ⟨j, hj, rfl⟩ := inB_t (Nat.lt_of_le_of_lt h0 (by decide)) h13
      refine aw_iload_n (pc := 16) (i := 3) dX11_spare_16 rfl rfl ?_
      refine cSi (pc := 17) (As := [.int z]) (rest := []) dX11_spare_17 rfl oc_X11_242 rfl rfl (Nat.le_of_ble_eq_true rfl) (Nat.le_refl _) (Nat.le_refl _) (c11_isLength ⟨_, rfl, ?_⟩)
      refine ab_if_ne (pc := 20) (tgt := 25) dX11_spare_20 rfl (fun h20 => ?_) (fun h20 => ?_)
      · -- 25
        obtain ⟨u, hu1, hu2, rfl⟩ := inC_b (by decide) (by decide) h20
        obtain ⟨hq1, hq2, hq3, hq4⟩ := hP i hi
        have h27 : 2 ^ σ.2.1 6 0 ≤ 2 ^ 7 := Nat.pow_le_pow_right (by decide) h0
        have h28 : 2 ^ σ.2.1 6 (79 + i) < 2 ^ 7 := Nat.pow_lt_pow_right (by decide) (by omega)
        have hsp7 := hT (σ.2.1 6 (79 + i)) (by omega)
        refine aw_aload_n (pc := 25) (i := 0) dX11_spare_25 rfl rfl ?_
        refine av_get (pc := 26) (x := .ref ((ad 2) 12)) dX11_spare_26 rfl og_X11_72 rfl hI hMain.2.1 ?_
        refine av_get (pc := 29) (x := .ref ((ad jc) 13)) dX11_spare_29 rfl og_X11_142 rfl hSo rfl ?_
        refine av_get (pc := 32) (x := .ref ((ad jc) 12)) dX11_spare_32 rfl og_X11_146 rfl hC.ov rfl ?_
        refine aw_iload_n (pc := 35) (i := 1) dX11_spare_35 rfl rfl ?_
        refine av_iald (pc := 36) (x := (nI ((σ.2.1 6) (79 + i)))) dX11_spare_36 hC.home (by omega) (by decide) rfl ?_
        refine aw_istore (pc := 37) (i := 4) dX11_spare_37 (Nat.le_of_ble_eq_true rfl) rfl ?_
        refine aw_iconst (pc := 39) dX11_spare_39 iconst_1 ?_
        refine aw_aload_n (pc := 40) (i := 0) dX11_spare_40 rfl rfl ?_
        refine av_get (pc := 41) (x := .ref ((ad 2) 12)) dX11_spare_41 rfl og_X11_72 rfl hI hMain.2.1 ?_
        refine av_get (pc := 44) (x := .ref ((ad jc) 13)) dX11_spare_44 rfl og_X11_142 rfl hSo rfl ?_
        refine av_get (pc := 47) (x := .int (nI ((σ.2.1 6) 0))) dX11_spare_47 rfl og_X11_262 rfl hC.ov rfl ?_
        refine aw_ishl (pc := 50) dX11_spare_50 ?_
        refine aw_top (y := (nI (2 ^ σ.2.1 6 0))) (nI_1shl (by omega)) ?_
        refine aw_iconst (pc := 51) dX11_spare_51 iconst_1 ?_
        refine an_sub (pc := 52) dX11_spare_52 (Nat.one_le_two_pow) ?_
        refine aw_istore (pc := 53) (i := 5) dX11_spare_53 (Nat.le_of_ble_eq_true rfl) rfl ?_
        refine aw_iload (pc := 55) dX11_spare_55 rfl ?_
        refine aw_iconst (pc := 57) dX11_spare_57 iconst_1 ?_
        refine aw_iload (pc := 58) dX11_spare_58 rfl ?_
        refine aw_ishl (pc := 60) dX11_spare_60 ?_
        refine aw_top (y := (nI (2 ^ σ.2.1 6 (79 + i)))) (nI_1shl (by omega)) ?_
        refine aw_iconst (pc := 61) dX11_spare_61 iconst_m1 ?_
        refine aw_ixor (pc := 62) dX11_spare_62 ?_
        refine aw_iand (pc := 63) dX11_spare_63 ?_
        refine aw_top (y := (nI (andN (2 ^ σ.2.1 6 0 - 1) (2 ^ σ.2.1 6 (79 + i))))) (andN_i _ _ (by omega) (by omega)) ?_
        refine aw_aload_n (pc := 64) (i := 0) dX11_spare_64 rfl rfl ?_
        refine av_get (pc := 65) (x := .ref ((ad 2) 12)) dX11_spare_65 rfl og_X11_72 rfl hI hMain.2.1 ?_
        refine av_get (pc := 68) (x := .ref ((ad 2) 3)) dX11_spare_68 rfl og_X11_179 rfl hSo rfl ?_
        refine aw_iload (pc := 71) dX11_spare_71 rfl ?_
        refine av_iald (pc := 73) (x := (nI ((σ.2.1 6) (101 + ((σ.2.1 6) (79 + i)))))) dX11_spare_73 hS3 (by omega) (by decide) rfl ?_
        refine aw_iconst (pc := 74) dX11_spare_74 iconst_m1 ?_
        refine aw_ixor (pc := 75) dX11_spare_75 ?_
        refine aw_iand (pc := 76) dX11_spare_76 ?_
        refine aw_top (y := (nI (cldN (σ.2.1 6) i))) (andN_i _ _ (by have := andN_le (2 ^ σ.2.1 6 0 - 1) (2 ^ σ.2.1 6 (79 + i)) 7 (by omega); omega) (by omega)) ?_
        refine aw_istore (pc := 77) (i := 6) dX11_spare_77 (Nat.le_of_ble_eq_true rfl) rfl ?_
        refine aw_iconst (pc := 79) dX11_spare_79 iconst_0 ?_
        refine aw_istore (pc := 80) (i := 7) dX11_spare_80 (Nat.le_of_ble_eq_true rfl) rfl ?_
        refine aw_pull3 (p1 := 0) (p2 := 6) (p3 := 7) (by omega) (by omega) (by omega) (by decide) (by decide) (by decide) ?_
        refine aw_ws (w9 := (wIb G.2.2.1 (ad 0) (κ 0) ++ (wWk G.2.2.1 (ad 6) (κ 6) ++ (wRw G.2.2.1 (ad 7) 5 (κ 7) ++ (WX G.2.2.1 kd ad κ n [7, 6, 0] ++ R))))) rfl ?_
        have hsr : spareR (σ.2.1 6) (nI i) (nI j) (nI u) = spG (σ.2.1 6) i j u (2 ^ σ.2.1 6 0) := by unfold spareR; rw [if_pos h5, if_pos h13, if_pos h20, nI_clamp (by omega), nI_clamp (by omega), nI_clamp (by omega)]
        refine AW_Qw (fun v wd hq => ?_) (spr_out hE hNB hAO hJ hi hj (show u ≤ 240 by omega) (Q := fun v wd => ∃ k6 k7, WKi (ad 7) k6 k7 ∧ (((∀ q, q < 2 ^ σ.2.1 6 0 → spD (σ.2.1 6) i j u q = true → False) ∧ v = some (.int (-1)) ∧ wd = (wIb G.2.2.1 (ad 0) (κ 0) ++ (wWk G.2.2.1 (ad 6) k6 ++ (wRw G.2.2.1 (ad 7) 5 k7 ++ (WX G.2.2.1 kd ad κ n [7, 6, 0] ++ R))))) ∨ ∃ b, MNs (spD (σ.2.1 6) i j u) (2 ^ σ.2.1 6 0) b ∧ v = some (.int (nI (bitsN b))) ∧ wd = (wIb G.2.2.1 (ad 0) (kF (κ 0) 18 (.int (nI b))) ++ (wWk G.2.2.1 (ad 6) k6 ++ (wRw G.2.2.1 (ad 7) 5 k7 ++ (WX G.2.2.1 kd ad κ n [7, 6, 0] ++ R)))))) (fun h k6 k7 hk => ⟨k6, k7, hk, Or.inl ⟨h, rfl, rfl⟩⟩) (fun b hb k6 k7 hk => ⟨k6, k7, hk, Or.inr ⟨b, hb, rfl, rfl⟩⟩) 8 0 none none (κ 6) (κ 7) (by omega) (fun q _ _ => Nat.zero_le _) hSub.2.2.2.1)
        obtain ⟨k8, k9, hI9, ⟨hno, rfl, rfl⟩ | ⟨b9, hb9, rfl, rfl⟩⟩ := hq
        · refine ⟨_, p_push3 (p1 := 0) (p2 := 6) (p3 := 7) (by omega) (by omega) (by omega) (by decide) (by decide) (by decide), ?_⟩
          rw [upN_id (upN (upN κ 7 k9) 6 k8) 0 (v := κ 0) rfl]
          exact k0 (hsr.trans (spG_no hno)) _ (fun p9 dd9 sp9 hm9 => ⟨hn, hMain, ⟨hSub.1, hSub.2.1, hSub.2.2.1, hI9, hSub.2.2.2.2⟩, hTape, hR10, hR11, hR12, hR13, hMisc, hRef, hB5, jc, NM, sn, sd, m, pn, im, (jSt.up (i := 6) (by omega) (by omega) (by omega) (jSt.up (i := 7) (by omega) (by omega) (by omega) ⟨hCht, hSR, hSnt, hTok, hPast, hPm, hSds, hImg⟩))⟩)
        · refine ⟨_, p_push3 (p1 := 0) (p2 := 6) (p3 := 7) (by omega) (by omega) (by omega) (by decide) (by decide) (by decide), ?_⟩
          obtain ⟨b1, b2, b3, b4, b5, b6, b7, b8⟩ := jSt.up (i := 6) (k := k8) (by omega) (by omega) (by omega) (jSt.up (i := 7) (k := k9) (by omega) (by omega) (by omega) (show jSt ae kd ad κ n σ B jc NM sn sd m pn im from ⟨hCht, hSR, hSnt, hTok, hPast, hPm, hSds, hImg⟩))
          exact k1 b9 (hsr.trans (spG_of hb9)) (by have := hb9.1; omega) _ (fun p9 dd9 sp9 hm9 => ⟨hn, hMain, ⟨hSub.1, hSub.2.1, hSub.2.2.1, hI9, hSub.2.2.2.2⟩, hTape, hR10, hR11, hR12, hR13, ⟨hMisc.1, ⟨true, rfl, rfl⟩, hMisc.2.2⟩, hRef, hB5, jc, NM, sn, sd, m, pn, im, ⟨b1.up (by decide), b2, b3.up (by decide), b4, jPast.up (by decide) b5, b6, fun q a1 a2 => by rw [upN_n _ _ _ _ (by omega)]; exact b7 q a1 a2, ⟨b8.1, b8.2.1, b8.2.2.1, b8.2.2.2.1, fun k hk hp => by obtain ⟨c1, c2⟩ := b8.2.2.2.2 k hk hp; exact ⟨by rw [upN_n _ _ _ _ (by omega)]; exact c1.up (by decide), c2⟩⟩⟩⟩)
      · -- 23
        refine aw_iconst (pc := 23) dX11_spare_23 iconst_m1 ?_
        exact aw_iret (pc := 24) dX11_spare_24 rfl (Nat.le_refl _) (Nat.le_refl _) (k0 (show spareR (σ.2.1 6) (nI i) (nI j) z = none from (if_pos h5).trans ((if_pos h13).trans (if_neg (by rw [h20]; decide)))) κ (fun p9 dd9 sp9 hm9 => hJ))
