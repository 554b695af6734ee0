theorem mz_code (σ : mS) (x y z : Nat) : mz (codeF σ x y z) = mz σ := by
  unfold codeF
  rw [mz_mI (by decide), mz_mN, mz_mN, mz_mN]
theorem isSign_p {σ : mS} {c : Nat} (h : isSignB σ c = true) : propT σ := by
  unfold isSignB at h
  rw [Bool.and_eq_true] at h
  exact Or.inr (Or.inr (of_decide_eq_true h.1))
theorem leafO_p {σ : mS} (h : ¬ leafO σ = 9) : propT σ := by
  by_cases h1 : σ.1 11 = nI 1
  · exact Or.inl h1
  · exfalso
    apply h
    have e : ∀ x, isWordB σ x = false := fun x => by unfold isWordB; rw [decide_eq_false h1, Bool.false_and]
    unfold leafO
    simp only [e, Bool.false_eq_true, if_false]
theorem SV_nx {σ : mS} {b : Bool} (H : SV σ b) : SV (nx σ) b := by
  obtain ⟨hv, h51, h52, h53, h54, h55, ho, hct, he, hs, hd, h8⟩ := H
  have := cnO_le (σ.2.1 50) (sT σ)
  exact SV_mk (PV_nx hv) (by rw [nx_sc _ _ (by decide)]; exact h51) (by rw [nx_sc _ _ (by decide)]; exact h52) (by rw [nx_sc _ _ (by decide)]; exact h53) (by rw [nx_sc _ _ (by decide)]; exact h54) (by rw [nx_sc _ _ (by decide)]; exact h55) ho hct he hs hd h8
theorem SV_leaf {σ ρ : mS} {x y z : Nat} (H : SV σ false) (ho20 : sO σ < 20) (hv : PV ρ) (h51 : ρ.1 51 = σ.1 51) (h52 : ρ.1 52 = nI (sO σ + 1)) (h53 : ρ.1 53 = σ.1 53) (h54 : ρ.1 54 = σ.1 54) (h55 : ρ.1 55 = nI 1) (hn : ρ.2.1 = σ.2.1) (hx : x ≤ 8) (hx4 : x = 4 → z < 7) (hy : y < 1024) (hz : z < 1024) : SV (codeF ρ x y z) true := by
  obtain ⟨-, g51, g52, g53, g54, g55, ho, hct, he, hs, hd, h8⟩ := H
  have ec : sC ρ = sC σ := by unfold sC; rw [h51]
  have f0 : b1 false = 0 := rfl
  have f1 : b1 true = 1 := rfl
  refine SV_mk (c := sC σ + 1) (o := sO σ + 1) (t := sT σ) (e := sE σ) (PV_code hv) (by rw [code_51, ec]) (by rw [code_sc _ _ _ _ _ (by decide)]; exact h52) (by rw [code_sc _ _ _ _ _ (by decide), h53]; exact g53) (by rw [code_sc _ _ _ _ _ (by decide), h54]; exact g54) (by rw [code_sc _ _ _ _ _ (by decide), h55]; rfl) (by omega) (by omega) (by rw [code_o _ _ _ _ _ (by decide), hn]; exact he) (fun j hj => by rw [code_o _ _ _ _ _ (by decide), hn]; exact hs j hj) ?_ ?_
  · rw [code_8, code_o _ _ _ _ _ (by decide), hn, ec]
    refine (dp_code (c := sC σ) hd).trans ?_
    unfold dpS
    rw [if_neg (by omega), if_neg (by omega), if_pos ⟨hx, hx4⟩]
    rfl
  · rw [code_8, hn, ec]
    exact lt_code (f := σ.2.1 8) (c := sC σ) h8 (by omega) hy hz
theorem opG_t {σ : mS} {x : Nat} (H : SV σ false) (hx : x = 20 ∨ x = 23) (hp : propT σ) (h : (opG σ x).1 = true) : SV (opG σ x).2 false ∧ mz (opG σ x).2 < mz σ ∧ (opG σ x).2.2.1 6 = σ.2.1 6 := by
  unfold opG at *
  split at h
  · exact absurd h (by simp)
  · rename_i h1
    split at h
    · exact absurd h (by simp)
    · rename_i h2
      rw [if_neg h1, if_neg h2]
      obtain ⟨hv, g51, g52, g53, g54, g55, ho, hct, he, hs, hd, h8⟩ := H
      have f0 : b1 false = 0 := rfl
      have hcn := cnO_le (σ.2.1 50) (sT σ)
      refine ⟨?_, ?_, ?_⟩
      · refine SV_mk (c := sC σ) (o := sO σ + 1) (t := sT σ + 1) (e := sE σ + 1) (PV_mI (PV_mI (PV_mN (PV_opN hv)) (by decide)) (by decide)) ?_ ?_ ?_ (mI_k _ _ _) ?_ (by omega) (by omega) ?_ (fun j hj => ?_) ?_ ?_
        · rw [mI_o _ _ _ _ (by decide), mI_o _ _ _ _ (by decide), mN_1, opN_sc (by decide)]; exact g51
        · rw [mI_o _ _ _ _ (by decide), mI_o _ _ _ _ (by decide), mN_1, opN, nx_sc _ _ (by decide), mI_k]
        · rw [mI_o _ _ _ _ (by decide), mI_k]
        · rw [mI_o _ _ _ _ (by decide), mI_o _ _ _ _ (by decide), mN_1, opN_sc (by decide)]; exact g55
        · show sE σ + 1 = 1 + cnO (upN (σ.2.1 50) (sT σ) x) (sT σ + 1)
          rw [cnO, upN_s, if_pos hx, cnO_cong (g := σ.2.1 50) _ (fun j hj => upN_n _ _ _ _ (by omega))]
          omega
        · show 20 ≤ upN (σ.2.1 50) (sT σ) x j ∧ upN (σ.2.1 50) (sT σ) x j ≤ 23
          by_cases e : j = sT σ
          · rw [e, upN_s]; omega
          · rw [upN_n _ _ _ _ e]; exact hs j (by omega)
        · show dpF (σ.2.1 8) 0 (sC σ) = some (cnJ (upN (σ.2.1 50) (sT σ) x) (sT σ + 1) + 0)
          rw [cnJ, upN_s, if_neg (by omega), cnJ_cong (g := σ.2.1 50) _ (fun j hj => upN_n _ _ _ _ (by omega))]
          exact hd
        · exact h8
      · rw [mz_mI (by decide), mz_mI (by decide), mz_mN]
        unfold opN
        have := (mz_nx (σ := mI σ 52 (nI (sO σ + 1))) (PV_mI hv (by decide))).2 (by unfold propT at *; rw [mI_o _ _ _ _ (by decide)]; exact hp)
        rw [mz_mI (by decide)] at this
        exact this
      · rfl
theorem mz_opN {σ : mS} (hv : PV σ) (hp : propT σ) : mz (opN σ) < mz σ := by
  unfold opN
  have := (mz_nx (σ := mI σ 52 (nI (sO σ + 1))) (PV_mI hv (by decide))).2 (by unfold propT at *; rw [mI_o _ _ _ _ (by decide)]; exact hp)
  rw [mz_mI (by decide)] at this
  exact this
theorem mz_opW {σ : mS} (hv : PV σ) (hp : propT σ) : mz (opW σ) < mz σ := by
  unfold opW
  rw [mz_mI (by decide)]
  exact mz_opN hv hp
theorem opW_52 (σ : mS) : (opW σ).1 52 = nI (sO σ + 1) := by
  unfold opW opN
  rw [mI_o _ _ _ _ (by decide), nx_sc _ _ (by decide), mI_k]
theorem opW_55 (σ : mS) : (opW σ).1 55 = nI 1 := rfl
theorem opB_t {σ : mS} (H : SV σ false) (hl : σ.2.1 6 0 ≤ 7) (ho20 : sO σ < 20) (hlf : ¬ leafO σ = 9) (h : (opB σ).1 = true) : SV (opB σ).2 true ∧ mz (opB σ).2 < mz σ ∧ (opB σ).2.2.1 6 = σ.2.1 6 := by
  have hp := leafO_p hlf
  have h9 := leafO_9 σ
  have hW := mz_opW H.1 hp
  have vW := PV_opW H.1
  unfold opB at *
  split at h
  · rename_i h1
    rw [if_pos h1]
    refine ⟨SV_leaf H ho20 vW (opW_sc (by decide) (by decide)) (opW_52 σ) (opW_sc (by decide) (by decide)) (opW_sc (by decide) (by decide)) (opW_55 σ) rfl (by omega) (by omega) (by decide) (by decide), by rw [mz_code]; exact hW, rfl⟩
  · rename_i h1
    rw [if_neg h1]
    split at h
    · rename_i h2
      rw [if_pos h2]
      split at h
      · rename_i h3
        rw [if_pos h3]
        have hi : opI σ < σ.2.1 6 0 := looks_lt h3
        have e := looks_t h3
        have vA : PV (opA σ).2 := PV_looks vW
        have sc : ∀ k, ¬ k = 18 → (opA σ).2.1 k = (opW σ).1 k := fun k hk => looks_sc h3 hk
        have hA : (opA σ).2.2.1 = σ.2.1 := (looks_n _ _ _).trans rfl
        have mA : mz (opA σ).2 = mz (opW σ) := mz_looks h3
        generalize (opA σ).2 = ρ at *
        refine ⟨SV_nx (SV_leaf H ho20 vA ((sc 51 (by decide)).trans (opW_sc (by decide) (by decide))) ((sc 52 (by decide)).trans (opW_52 σ)) ((sc 53 (by decide)).trans (opW_sc (by decide) (by decide))) ((sc 54 (by decide)).trans (opW_sc (by decide) (by decide))) ((sc 55 (by decide)).trans (opW_55 σ)) hA (by omega) (fun _ => by omega) (by decide) (by omega)), ?_, ?_⟩
        · have := (mz_nx (PV_code (x := leafO σ) (y := 0) (z := opI σ) vA)).1
          rw [mz_code] at this
          show mz (nx (codeF ρ (leafO σ) 0 (opI σ))) < mz σ
          omega
        · rw [nx_n, code_o _ _ _ _ _ (by decide), hA]
      · exact absurd h (by simp)
    · rename_i h2
      rw [if_neg h2]
      split at h
      · rename_i h3
        rw [if_pos h3]
        split at h
        · exact absurd h (by simp)
        · rename_i h4
          rw [if_neg h4]
          split at h
          · exact absurd h (by simp)
          · rename_i h5
            rw [if_neg h5]
            unfold opM at *
            split at h
            · rename_i h6
              rw [if_pos h6]
              have nn := nx_num h6
              have vX := PV_nx vW
              have mX := (mz_nx vW).1
              have sc : ∀ k, ¬ k = 4 ∧ ¬ k = 11 ∧ ¬ k = 12 ∧ ¬ k = 13 ∧ ¬ k = 14 → (nx (opW σ)).1 k = (opW σ).1 k := fun k hk => nx_sc _ k hk
              have hA : (nx (opW σ)).2.1 = σ.2.1 := rfl
              generalize nx (opW σ) = ρ at *
              refine ⟨SV_nx (SV_leaf H ho20 vX ((sc 51 (by decide)).trans (opW_sc (by decide) (by decide))) ((sc 52 (by decide)).trans (opW_52 σ)) ((sc 53 (by decide)).trans (opW_sc (by decide) (by decide))) ((sc 54 (by decide)).trans (opW_sc (by decide) (by decide))) ((sc 55 (by decide)).trans (opW_55 σ)) hA (by omega) (by omega) (by omega) (by omega)), ?_, ?_⟩
              · have := (mz_nx (PV_code (x := leafO σ) (y := numN (opW σ)) (z := numN ρ) vX)).1
                rw [mz_code] at this
                show mz (nx (codeF ρ (leafO σ) (numN (opW σ)) (numN ρ))) < mz σ
                omega
              · rw [nx_n, code_o _ _ _ _ _ (by decide), hA]
            · exact absurd h (by simp)
      · exact absurd h (by simp)
theorem operand_t {σ : mS} (H : SV σ false) (hl : σ.2.1 6 0 ≤ 7) (h : (operandF σ).1 = true) : (∃ b, SV (operandF σ).2 b) ∧ mz (operandF σ).2 < mz σ ∧ (operandF σ).2.2.1 6 = σ.2.1 6 := by
  unfold operandF at *
  split at h
  · rename_i h1
    rw [if_pos h1]
    obtain ⟨a, b⟩ := opG_t H (Or.inl rfl) (isWord_p h1) h
    exact ⟨⟨_, a⟩, b⟩
  · rename_i h1
    rw [if_neg h1]
    split at h
    · rename_i h2
      rw [if_pos h2]
      obtain ⟨a, b⟩ := opG_t H (Or.inr rfl) (isSign_p h2) h
      exact ⟨⟨_, a⟩, b⟩
    · rename_i h2
      rw [if_neg h2]
      split at h
      · exact absurd h (by simp)
      · rename_i h3
        rw [if_neg h3]
        unfold opL at *
        split at h
        · exact absurd h (by simp)
        · rename_i h4
          rw [if_neg h4]
          split at h
          · exact absurd h (by simp)
          · rename_i h5
            rw [if_neg h5]
            have := H.2.2.2.2.2.2.1
            obtain ⟨a, b⟩ := opB_t H hl (by omega) h3 h
            exact ⟨⟨_, a⟩, b⟩
theorem SF_mz {σ σ' : mS} (h : SF σ σ') : mz σ' = mz σ := mz_eq (h.1 3 (by decide) (by decide) (by decide)) (h.1 4 (by decide) (by decide) (by decide)) (h.1 11 (by decide) (by decide) (by decide))
theorem SF_p {σ σ' : mS} (h : SF σ σ') (hp : propT σ) : propT σ' := by unfold propT at *; rw [h.1 11 (by decide) (by decide) (by decide)]; exact hp
theorem bhP_t {κ : mS} {x : Nat} (H : SV κ true) (hx : x = 21 ∨ x = 22) (hp : propT κ) : SV (bhP κ x) false ∧ mz (bhP κ x) < mz κ ∧ (bhP κ x).2.1 6 = κ.2.1 6 := by
  obtain ⟨hv, g51, g52, g53, g54, g55, ho, hct, he, hs, hd, h8⟩ := H
  have f0 : b1 false = 0 := rfl
  have f1 : b1 true = 1 := rfl
  refine ⟨?_, ?_, rfl⟩
  · unfold bhP
    refine SV_nx (SV_mk (c := sC κ) (o := sO κ) (t := sT κ + 1) (e := sE κ) (PV_mI (PV_mI (PV_mN hv) (by decide)) (by decide)) g51 g52 rfl g54 rfl ho (by omega) ?_ (fun j hj => ?_) ?_ h8)
    · show sE κ = 1 + cnO (upN (κ.2.1 50) (sT κ) x) (sT κ + 1)
      rw [cnO, upN_s, if_neg (by omega), cnO_cong (g := κ.2.1 50) _ (fun j hj => upN_n _ _ _ _ (by omega))]
      exact he
    · show 20 ≤ upN (κ.2.1 50) (sT κ) x j ∧ upN (κ.2.1 50) (sT κ) x j ≤ 23
      by_cases e : j = sT κ
      · rw [e, upN_s]; omega
      · rw [upN_n _ _ _ _ e]; exact hs j (by omega)
    · show dpF (κ.2.1 8) 0 (sC κ) = some (cnJ (upN (κ.2.1 50) (sT κ) x) (sT κ + 1) + 0)
      rw [cnJ, upN_s, if_pos hx, cnJ_cong (g := κ.2.1 50) _ (fun j hj => upN_n _ _ _ _ (by omega))]
      exact hd
  · unfold bhP
    have := (mz_nx (σ := mI (mI (mN κ 50 (sT κ) x) 53 (nI (sT κ + 1))) 55 (nI 0)) (PV_mI (PV_mI (PV_mN hv) (by decide)) (by decide))).2 (by unfold propT at *; rw [mI_o _ _ _ _ (by decide), mI_o _ _ _ _ (by decide), mN_1]; exact hp)
    rw [mz_mI (by decide), mz_mI (by decide), mz_mN] at this
    exact this
theorem SV_close {κ : mS} {t : Nat} (H : SV κ true) (ht : sT κ = t + 1) (h1 : ¬ κ.2.1 50 t = 21) (h2 : ¬ κ.2.1 50 t = 22) : SV (mI (mI κ 53 (nI t)) 54 (nI (sE κ - 1))) true := by
  obtain ⟨hv, g51, g52, g53, g54, g55, ho, hct, he, hs, hd, h8⟩ := H
  rw [ht] at hct he hs hd
  have hx := hs t (by omega)
  have c1 : cnO (κ.2.1 50) (t + 1) = cnO (κ.2.1 50) t + 1 := by rw [cnO, if_pos (by omega)]
  have c2 : cnJ (κ.2.1 50) (t + 1) = cnJ (κ.2.1 50) t := by rw [cnJ, if_neg (by omega)]; rfl
  rw [c1] at he
  rw [c2] at hd
  exact SV_mk (c := sC κ) (o := sO κ) (t := t) (e := sE κ - 1) (PV_mI (PV_mI hv (by decide)) (by decide)) g51 g52 rfl rfl g55 ho (by omega) (by show sE κ - 1 = 1 + cnO (κ.2.1 50) t; omega) (fun j hj => hs j (by omega)) hd h8
theorem behind_t {σ : mS} (H : SV σ true) (h : (behindF σ).1 = true) : (∃ b, SV (behindF σ).2 b) ∧ mz (behindF σ).2 < mz σ ∧ (behindF σ).2.2.1 6 = σ.2.1 6 := by
  obtain ⟨n1, n2⟩ := SV_bhN H
  have mN := SF_mz n2
  have key : ∀ o x, x = 21 ∨ x = 22 → propT (bhN σ) → (∃ b, SV (bhP (bhJ σ o) x) b) ∧ mz (bhP (bhJ σ o) x) < mz σ ∧ (bhP (bhJ σ o) x).2.1 6 = σ.2.1 6 := fun o x hx hp => by
    obtain ⟨j1, j2, j3⟩ := SV_bhJ o H
    obtain ⟨a, b, c⟩ := bhP_t j1 hx (SF_p j3 hp)
    exact ⟨⟨_, a⟩, by rw [← mN, ← SF_mz j3]; exact b, by rw [c, j3.2.1 6 (by decide), n2.2.1 6 (by decide)]⟩
  unfold behindF at *
  split at h
  · rename_i h1
    rw [if_pos h1]
    exact key false 21 (Or.inl rfl) (isWord_p h1)
  · rename_i h1
    rw [if_neg h1]
    split at h
    · rename_i h2
      rw [if_pos h2]
      exact key true 22 (Or.inr rfl) (isWord_p h2)
    · rename_i h2
      rw [if_neg h2]
      split at h
      · rename_i h3
        rw [if_pos h3]
        split at h
        · exact absurd h (by simp)
        · rename_i h4
          rw [if_neg h4]
          obtain ⟨j1, j2, j3⟩ := SV_bhJ true H
          obtain ⟨t, ht⟩ : ∃ t, sT (bhJ σ true) = t + 1 := ⟨sT (bhJ σ true) - 1, by omega⟩
          obtain ⟨k1, k2⟩ := j2 t ht
          have hp := isSign_p h3
          have m3 := SF_mz j3
          have e6 : (bhJ σ true).2.1 6 = σ.2.1 6 := by rw [j3.2.1 6 (by decide), n2.2.1 6 (by decide)]
          generalize bhJ σ true = κ at *
          rw [ht, Nat.add_sub_cancel]
          have s1 := SV_close j1 ht k1 (k2 rfl)
          refine ⟨⟨_, SV_nx s1⟩, ?_, ?_⟩
          · have := (mz_nx s1.1).2 (by unfold propT at *; rw [mI_o _ _ _ _ (by decide), mI_o _ _ _ _ (by decide)]; exact hp)
            rw [mz_mI (by decide), mz_mI (by decide)] at this
            show mz (nx (mI (mI κ 53 (nI t)) 54 (nI (sE κ - 1)))) < mz σ
            omega
          · exact e6
      · exact absurd h (by simp)

set_option maxHeartbeats 1000000 in
set_option maxRecDepth 20000 in
theorem sen_loop {G : xG} {d : Nat} {Q : xQ} {a : Nat → Nat} : ∀ (n : Nat) (σ : mS) (b : Bool), SV σ b → σ.2.1 6 0 ≤ 7 → mz σ < n → ((senL n σ).1 = true → AW G MX12_sentence (d + 4) 0 0 Q 132 [some (.ref (a 60)), some (.int (nI 0)), none] [] (mW G.2.2.1 a (senL n σ).2) 0 0) → ((senL n σ).1 = false → Q (some (.int ((-1) - (senL n σ).2.1 16))) (mW G.2.2.1 a (senL n σ).2)) → AW G MX12_sentence (d + 4) 0 0 Q 48 [some (.ref (a 60)), some (.int (nI 1)), none] [] (mW G.2.2.1 a σ) 0 0 := by
  intro n
  induction n with
  | zero => intro σ b _ _ h; exact absurd h (Nat.not_lt_zero _)
  | succ n ih =>
    intro σ b H hl hz k1 k0
    cases b with
    | false =>
      refine aw_iload_n (pc := 48) (i := 1) dX12_sentence_48 rfl rfl ?_
      refine an_if_eq (pc := 49) (tgt := 132) dX12_sentence_49 rfl (by decide) (fun h49 => absurd h49 (by decide)) (fun h49 => ?_)
      refine aw_aload_n (pc := 52) (i := 0) dX12_sentence_52 rfl rfl ?_
      refine mg_isWhole (pc := 53) dX12_sentence_53 rfl ?_
      refine aw_top (y := (bI false)) H.2.2.2.2.2.1 ?_
      refine ab_if_eq (pc := 56) (tgt := 101) dX12_sentence_56 rfl (fun h56 => ?_) (fun h56 => absurd h56 (by decide))
      refine aw_aload_n (pc := 101) (i := 0) dX12_sentence_101 rfl rfl ?_
      refine mg_isWhole (pc := 102) dX12_sentence_102 rfl ?_
      refine aw_top (y := (bI false)) H.2.2.2.2.2.1 ?_
      refine ab_if_eq (pc := 105) (tgt := 118) dX12_sentence_105 rfl (fun h105 => ?_) (fun h105 => absurd h105 (by decide))
      refine aw_aload_n (pc := 118) (i := 0) dX12_sentence_118 rfl rfl ?_
      refine mc_I (pc := 119) (As := []) (rest := []) dX12_sentence_119 rfl ok_X12_480 rfl rfl rfl (Nat.le_of_ble_eq_true rfl) (s_operand H.1 H.2.1 H.2.2.1 H.2.2.2.1 H.2.2.2.2.1 H.2.2.2.2.2.2.1 (by have := H.2.2.2.2.2.2.1; have := H.2.2.2.2.2.2.2.1; omega) (by have := H.2.2.2.2.2.2.1; have := H.2.2.2.2.2.2.2.1; omega) (by have := H.2.2.2.2.2.2.1; have := H.2.2.2.2.2.2.2.1; have := H.2.2.2.2.2.2.2.2.1; have := cnO_le (σ.2.1 50) (sT σ); omega) hl ⟨_, _, rfl, rfl, ?_⟩)
      refine ab_if_ne (pc := 122) (tgt := 48) dX12_sentence_122 rfl (fun h122 => ?_) (fun h122 => ?_)
      · -- 48
        obtain ⟨⟨b, s1⟩, s2, s3⟩ := operand_t H hl h122
        exact ih _ b s1 (by rw [s3]; exact hl) (by omega) (fun h9 => by rw [senL, if_neg (show ¬ σ.1 55 = nI 1 by rw [H.2.2.2.2.2.1]; decide), if_pos h122] at k1; exact k1 h9) (fun h9 => by rw [senL, if_neg (show ¬ σ.1 55 = nI 1 by rw [H.2.2.2.2.2.1]; decide), if_pos h122] at k0; exact k0 h9)
      · -- 125
        refine aw_iconst (pc := 125) dX12_sentence_125 iconst_m1 ?_
        refine aw_aload_n (pc := 126) (i := 0) dX12_sentence_126 rfl rfl ?_
        refine mg_faultAt (pc := 127) dX12_sentence_127 rfl ?_
        refine aw_isub (pc := 130) dX12_sentence_130 ?_
        exact aw_iret (pc := 131) dX12_sentence_131 rfl (Nat.le_refl _) (Nat.le_refl _) (by rw [senL, if_neg (show ¬ σ.1 55 = nI 1 by rw [H.2.2.2.2.2.1]; decide), if_neg (by rw [h122]; decide)] at k0; exact k0 rfl)
    | true =>
      refine aw_iload_n (pc := 48) (i := 1) dX12_sentence_48 rfl rfl ?_
      refine an_if_eq (pc := 49) (tgt := 132) dX12_sentence_49 rfl (by decide) (fun h49 => absurd h49 (by decide)) (fun h49 => ?_)
      refine aw_aload_n (pc := 52) (i := 0) dX12_sentence_52 rfl rfl ?_
      refine mg_isWhole (pc := 53) dX12_sentence_53 rfl ?_
      refine aw_top (y := (bI true)) H.2.2.2.2.2.1 ?_
      refine ab_if_eq (pc := 56) (tgt := 101) dX12_sentence_56 rfl (fun h56 => absurd h56 (by decide)) (fun h56 => ?_)
      refine aw_aload_n (pc := 59) (i := 0) dX12_sentence_59 rfl rfl ?_
      refine mg_token (pc := 60) dX12_sentence_60 rfl ?_
      refine aw_if_ne (pc := 63) (tgt := 101) dX12_sentence_63 rfl (fun h63 => ?_) (fun h63 => ?_)
      · -- 101
        refine aw_aload_n (pc := 101) (i := 0) dX12_sentence_101 rfl rfl ?_
        refine mg_isWhole (pc := 102) dX12_sentence_102 rfl ?_
        refine aw_top (y := (bI true)) H.2.2.2.2.2.1 ?_
        refine ab_if_eq (pc := 105) (tgt := 118) dX12_sentence_105 rfl (fun h105 => absurd h105 (by decide)) (fun h105 => ?_)
        refine aw_aload_n (pc := 108) (i := 0) dX12_sentence_108 rfl rfl ?_
        refine mc_I (pc := 109) (As := []) (rest := []) dX12_sentence_109 rfl ok_X12_477 rfl rfl rfl (Nat.le_of_ble_eq_true rfl) (s_behind H ⟨_, _, rfl, rfl, ?_⟩)
        refine ab_if_ne (pc := 112) (tgt := 48) dX12_sentence_112 rfl (fun h112 => ?_) (fun h112 => ?_)
        · -- 48
          obtain ⟨⟨b, s1⟩, s2, s3⟩ := behind_t H h112
          exact ih _ b s1 (by rw [s3]; exact hl) (by omega) (fun h9 => by rw [senL, if_pos (show σ.1 55 = nI 1 from H.2.2.2.2.2.1), if_neg (show ¬ σ.1 11 = nI 0 from h63), if_pos h112] at k1; exact k1 h9) (fun h9 => by rw [senL, if_pos (show σ.1 55 = nI 1 from H.2.2.2.2.2.1), if_neg (show ¬ σ.1 11 = nI 0 from h63), if_pos h112] at k0; exact k0 h9)
        · -- 115
          refine aw_goto (pc := 115) (tgt := 125) dX12_sentence_115 rfl ?_
          refine aw_iconst (pc := 125) dX12_sentence_125 iconst_m1 ?_
          refine aw_aload_n (pc := 126) (i := 0) dX12_sentence_126 rfl rfl ?_
          refine mg_faultAt (pc := 127) dX12_sentence_127 rfl ?_
          refine aw_isub (pc := 130) dX12_sentence_130 ?_
          exact aw_iret (pc := 131) dX12_sentence_131 rfl (Nat.le_refl _) (Nat.le_refl _) (by rw [senL, if_pos (show σ.1 55 = nI 1 from H.2.2.2.2.2.1), if_neg (show ¬ σ.1 11 = nI 0 from h63), if_neg (by rw [h112]; decide)] at k0; exact k0 rfl)
      · -- 66
        refine aw_aload_n (pc := 66) (i := 0) dX12_sentence_66 rfl rfl ?_
        refine mc_V (pc := 67) (As := []) (rest := []) dX12_sentence_67 rfl ok_X12_471 rfl rfl rfl (Nat.le_of_ble_eq_true rfl) (s_nots H.2.2.2.1 H.2.1 (by have := H.2.2.2.2.2.2.1; have := H.2.2.2.2.2.2.2.1; omega) H.2.2.2.2.1 (Nat.le_of_eq H.2.2.2.2.2.2.2.2.1.symm) (by have := H.2.2.2.2.2.2.1; have := H.2.2.2.2.2.2.2.1; have := H.2.2.2.2.2.2.2.2.1; have := cnO_le (σ.2.1 50) (sT σ); omega) (fun j hj => (H.2.2.2.2.2.2.2.2.2.1 j hj).2) ⟨_, rfl, rfl, ?_⟩)
        refine aw_ws (w9 := mW G.2.2.1 a (bhN σ)) rfl ?_
        have H1 := (SV_bhN H).1
        refine aw_aload_n (pc := 70) (i := 0) dX12_sentence_70 rfl rfl ?_
        refine aw_bipush (pc := 71) dX12_sentence_71 bipush_22 ?_
        refine mc_V (pc := 73) (As := [.int (nI 22)]) (rest := []) dX12_sentence_73 rfl ok_X12_474 rfl rfl rfl (Nat.le_of_ble_eq_true rfl) (s_joins_true H1.2.2.2.1 H1.2.1 (by have := H1.2.2.2.2.2.2.1; have := H1.2.2.2.2.2.2.2.1; omega) (fun j hj => (H1.2.2.2.2.2.2.2.2.2.1 j hj).2) ⟨_, rfl, rfl, ?_⟩)
        refine aw_ws (w9 := mW G.2.2.1 a (bhJ σ true)) rfl ?_
        have H2 := (SV_bhJ true H).1
        refine aw_aload_n (pc := 76) (i := 0) dX12_sentence_76 rfl rfl ?_
        refine mg_top (pc := 77) dX12_sentence_77 rfl ?_
        refine aw_top (y := (nI (sT (bhJ σ true)))) H2.2.2.2.1 ?_
        refine an_if_le (pc := 80) (tgt := 96) dX12_sentence_80 rfl (by have := H2.2.2.2.2.2.2.1; have := H2.2.2.2.2.2.2.2.1; omega) (fun h80 => ?_) (fun h80 => ?_)
        · -- 96
          refine aw_iconst (pc := 96) dX12_sentence_96 iconst_0 ?_
          refine aw_istore_n (pc := 97) (i := 1) dX12_sentence_97 rfl (Nat.le_of_ble_eq_true rfl) rfl ?_
          refine aw_goto (pc := 98) (tgt := 48) dX12_sentence_98 rfl ?_
          refine aw_iload_n (pc := 48) (i := 1) dX12_sentence_48 rfl rfl ?_
          refine an_if_eq (pc := 49) (tgt := 132) dX12_sentence_49 rfl (by decide) (fun h49 => ?_) (fun h49 => absurd h49 (by decide))
          rw [senL, if_pos (show σ.1 55 = nI 1 from H.2.2.2.2.2.1), if_pos (show σ.1 11 = nI 0 from h63), if_pos h80] at k1
          exact k1 rfl
        · -- 83
          refine aw_aload_n (pc := 83) (i := 0) dX12_sentence_83 rfl rfl ?_
          refine aw_iconst (pc := 84) dX12_sentence_84 iconst_1 ?_
          refine mc_I (pc := 85) (As := [.int (nI 1)]) (rest := []) dX12_sentence_85 rfl ok_X12_201 rfl rfl rfl (Nat.le_of_ble_eq_true rfl) (s_bad ⟨_, _, rfl, rfl, ?_⟩)
          refine aw_pop (pc := 88) dX12_sentence_88 rfl ?_
          refine aw_iconst (pc := 89) dX12_sentence_89 iconst_m1 ?_
          refine aw_aload_n (pc := 90) (i := 0) dX12_sentence_90 rfl rfl ?_
          refine mg_faultAt (pc := 91) dX12_sentence_91 rfl ?_
          refine aw_isub (pc := 94) dX12_sentence_94 ?_
          exact aw_iret (pc := 95) dX12_sentence_95 rfl (Nat.le_refl _) (Nat.le_refl _) (by rw [senL, if_pos (show σ.1 55 = nI 1 from H.2.2.2.2.2.1), if_pos (show σ.1 11 = nI 0 from h63), if_neg (Nat.ne_of_gt h80)] at k0; exact k0 rfl)
def senB (σ : mS) (n : Nat) : mS := mI (mI (mI (mI (mI (mI (takenS (mI σ 0 (nI 0)) n 200) 15 (nI 0)) 51 (nI 0)) 52 (nI 0)) 53 (nI 0)) 54 (nI 1)) 55 (nI 0)
def senR (σ : mS) (n : Nat) : Bool × mS := senL 2000 (nx (senB σ n))
def senE (κ : mS) : mS := sN κ 6 (cpF (upN (κ.2.1 6) 138 (sC κ)) (κ.2.1 8) 139 0 (3 * sC κ))
def sentenceA (σ : mS) (n : Nat) : Int32 := if (senR σ n).1 = true then nI (sO (senR σ n).2) else (-1) - (senR σ n).2.1 16
def sentenceS (σ : mS) (n : Nat) : mS := if (senR σ n).1 = true then senE (senR σ n).2 else (senR σ n).2
theorem PV_senB {σ : mS} {n : Nat} (hn : n ≤ 940) (hm : ∃ nm, σ.1 14 = nI nm ∧ nm < 2 ^ 30) (ht : ∃ tk, σ.1 11 = nI tk ∧ tk ≤ 4) (ha : ∃ z, σ.1 12 = nI z ∧ z ≤ 940) : PV (senB σ n) := by
  obtain ⟨nm, h14, hnm⟩ := hm
  obtain ⟨tk, h11, htk⟩ := ht
  obtain ⟨z, h12, hz⟩ := ha
  exact ⟨n, 200, 0, nm, tk, z, rfl, hn, rfl, by decide, rfl, Nat.zero_le _, h14, hnm, h11, htk, h12, hz⟩
theorem SV_senB {σ : mS} {n : Nat} (hv : PV (senB σ n)) : SV (nx (senB σ n)) false := SV_nx (SV_mk (c := 0) (o := 0) (t := 0) (e := 1) hv rfl rfl rfl rfl rfl (by decide) (by decide) rfl (fun j hj => absurd hj (Nat.not_lt_zero _)) rfl (fun j hj => absurd hj (Nat.not_lt_zero _)))
theorem senL_t : ∀ (n : Nat) (σ : mS) (b : Bool), SV σ b → σ.2.1 6 0 ≤ 7 → (senL n σ).1 = true → SV (senL n σ).2 true ∧ sT (senL n σ).2 = 0 ∧ (senL n σ).2.2.1 6 = σ.2.1 6 := by
  intro n
  induction n with
  | zero => intro σ b _ _ h; exact absurd h (by simp [senL])
  | succ n ih =>
    intro σ b H hl h
    rw [senL] at h ⊢
    split at h
    · rename_i h1
      have hb : b = true := by
        cases b with
        | true => rfl
        | false => exact absurd (h1.symm.trans H.2.2.2.2.2.1) (by decide)
      subst hb
      rw [if_pos h1]
      split at h
      · rename_i h2
        rw [if_pos h2]
        split at h
        · rename_i h3
          rw [if_pos h3]
          obtain ⟨j1, j2, j3⟩ := SV_bhJ true H
          exact ⟨j1, h3, (j3.2.1 6 (by decide)).trans ((SV_bhN H).2.2.1 6 (by decide))⟩
        · exact absurd h (by simp)
      · rename_i h2
        rw [if_neg h2]
        split at h
        · rename_i h3
          rw [if_pos h3]
          obtain ⟨⟨b2, s1⟩, s2, s3⟩ := behind_t H h3
          obtain ⟨r1, r2, r3⟩ := ih _ b2 s1 (by rw [s3]; exact hl) h
          exact ⟨r1, r2, r3.trans s3⟩
        · exact absurd h (by simp)
    · rename_i h1
      have hb : b = false := by
        cases b with
        | false => rfl
        | true => exact absurd H.2.2.2.2.2.1 h1
      subst hb
      rw [if_neg h1]
      split at h
      · rename_i h3
        rw [if_pos h3]
        obtain ⟨⟨b2, s1⟩, s2, s3⟩ := operand_t H hl h3
        obtain ⟨r1, r2, r3⟩ := ih _ b2 s1 (by rw [s3]; exact hl) h
        exact ⟨r1, r2, r3.trans s3⟩
      · exact absurd h (by simp)
set_option maxHeartbeats 1000000 in
set_option maxRecDepth 20000 in
theorem sen_cp {G : xG} {d : Nat} {Q : xQ} {a : Nat → Nat} {σ : mS} {c : Nat} {o : Nat} (hc : σ.1 51 = nI c) (hc4 : c ≤ 40) (ho : σ.1 52 = nI o) (kk : Q (some (.int (nI o))) (mW G.2.2.1 a (sN σ 6 (cpF (upN (σ.2.1 6) 138 c) (σ.2.1 8) 139 0 (3 * c))))) : ∀ (n i : Nat), i + n = 3 * c → AW G MX12_sentence (d) 0 0 Q 146 [some (.ref (a 60)), some (.int (nI 0)), some (.int (nI i))] [] (mW G.2.2.1 a (sN σ 6 (cpF (upN (σ.2.1 6) 138 c) (σ.2.1 8) 139 0 i))) 0 0 := by
  intro n
  induction n with
  | zero =>
    intro i hi
    refine aw_iload_n (pc := 146) (i := 2) dX12_sentence_146 rfl rfl ?_
    refine aw_iconst (pc := 147) dX12_sentence_147 iconst_3 ?_
    refine aw_aload_n (pc := 148) (i := 0) dX12_sentence_148 rfl rfl ?_
    refine mg_codes (pc := 149) dX12_sentence_149 rfl ?_
    refine aw_top (y := (nI c)) hc ?_
    refine an_mul (pc := 152) dX12_sentence_152 ?_
    refine an_icmp_ge (pc := 153) (tgt := 178) dX12_sentence_153 rfl (by omega) (by omega) (fun h153 => ?_) (fun h153 => ?_)
    · -- 178
      refine aw_aload_n (pc := 178) (i := 0) dX12_sentence_178 rfl rfl ?_
      refine mg_ones (pc := 179) dX12_sentence_179 rfl ?_
      refine aw_top (y := (nI o)) ho ?_
      exact aw_iret (pc := 182) dX12_sentence_182 rfl (Nat.le_refl _) (Nat.le_refl _) (by have e : i = 3 * c := (by omega); subst e; exact kk)
    · -- 156
      exfalso; omega
  | succ n ih =>
    intro i hi
    refine aw_iload_n (pc := 146) (i := 2) dX12_sentence_146 rfl rfl ?_
    refine aw_iconst (pc := 147) dX12_sentence_147 iconst_3 ?_
    refine aw_aload_n (pc := 148) (i := 0) dX12_sentence_148 rfl rfl ?_
    refine mg_codes (pc := 149) dX12_sentence_149 rfl ?_
    refine aw_top (y := (nI c)) hc ?_
    refine an_mul (pc := 152) dX12_sentence_152 ?_
    refine an_icmp_ge (pc := 153) (tgt := 178) dX12_sentence_153 rfl (by omega) (by omega) (fun h153 => ?_) (fun h153 => ?_)
    · -- 178
      exfalso; omega
    · -- 156
      refine aw_aload_n (pc := 156) (i := 0) dX12_sentence_156 rfl rfl ?_
      refine mg_s (pc := 157) dX12_sentence_157 rfl ?_
      refine aw_sipush (pc := 160) dX12_sentence_160 sipush_139 ?_
      refine aw_iload_n (pc := 163) (i := 2) dX12_sentence_163 rfl rfl ?_
      refine an_add (pc := 164) dX12_sentence_164 ?_
      refine aw_aload_n (pc := 165) (i := 0) dX12_sentence_165 rfl rfl ?_
      refine mg_read (pc := 166) dX12_sentence_166 rfl ?_
      refine aw_iload_n (pc := 169) (i := 2) dX12_sentence_169 rfl rfl ?_
      refine ml_read (pc := 170) dX12_sentence_170 (by omega) ?_
      refine aw_top (y := (nI (σ.2.1 8 i))) rfl ?_
      refine ms_s (pc := 171) dX12_sentence_171 (by omega) ?_
      refine an_inc (pc := 172) (z := 1) dX12_sentence_172 rfl (Nat.le_of_ble_eq_true rfl) rfl ?_
      refine aw_goto (pc := 175) (tgt := 146) dX12_sentence_175 rfl ?_
      refine aw_ws (w9 := mW G.2.2.1 a (sN σ 6 (cpF (upN (σ.2.1 6) 138 c) (σ.2.1 8) 139 0 (i + 1)))) (congrArg (fun z => mW G.2.2.1 a (sN σ 6 z)) (cpF_next (by omega) (congrArg (σ.2.1 8) (Nat.zero_add i).symm))) ?_
      exact ih (i + 1) (by omega)
set_option maxHeartbeats 1000000 in
set_option maxRecDepth 20000 in
theorem sen_end {G : xG} {d : Nat} {Q : xQ} {a : Nat → Nat} {σ : mS} (hc : σ.1 51 = nI (sC σ)) (hc4 : sC σ ≤ 40) (ho : σ.1 52 = nI (sO σ)) (kk : Q (some (.int (nI (sO σ)))) (mW G.2.2.1 a (senE σ))) : AW G MX12_sentence d 0 0 Q 132 [some (.ref (a 60)), some (.int (nI 0)), none] [] (mW G.2.2.1 a σ) 0 0 := by
  refine aw_aload_n (pc := 132) (i := 0) dX12_sentence_132 rfl rfl ?_
  refine mg_s (pc := 133) dX12_sentence_133 rfl ?_
  refine aw_sipush (pc := 136) dX12_sentence_136 sipush_138 ?_
  refine aw_aload_n (pc := 139) (i := 0) dX12_sentence_139 rfl rfl ?_
  refine mg_codes (pc := 140) dX12_sentence_140 rfl ?_
  refine aw_top (y := (nI (sC σ))) hc ?_
  refine ms_s (pc := 143) dX12_sentence_143 (by decide) ?_
  refine aw_iconst (pc := 144) dX12_sentence_144 iconst_0 ?_
  refine aw_istore_n (pc := 145) (i := 2) dX12_sentence_145 rfl (Nat.le_of_ble_eq_true rfl) rfl ?_
  refine aw_ws (w9 := mW G.2.2.1 a (sN σ 6 (cpF (upN (σ.2.1 6) 138 (sC σ)) (σ.2.1 8) 139 0 0))) (by rw [cpF_0]; rfl) ?_
  exact sen_cp hc hc4 ho kk (3 * sC σ) 0 (by omega)
set_option maxHeartbeats 1000000 in
set_option maxRecDepth 20000 in
theorem s_sentence {G : xG} {d : Nat} {Q : xQ} {a : Nat → Nat} {σ : mS} {n : Nat} (hn : σ.1 2 = nI n) (hn9 : n ≤ 940) (hm : ∃ nm, σ.1 14 = nI nm ∧ nm < 2 ^ 30) (ht : ∃ tk, σ.1 11 = nI tk ∧ tk ≤ 4) (ha : ∃ z, σ.1 12 = nI z ∧ z ≤ 940) (hl : σ.2.1 6 0 ≤ 7) (kk : Q (some (.int (sentenceA σ n))) (mW G.2.2.1 a (sentenceS σ n))) : MT G MX12_sentence (d + 4) 0 0 [.ref (a 60)] (mW G.2.2.1 a σ) Q := by
  have hv := PV_senB hn9 hm ht ha
  refine mt_start (L := [some (.ref (a 60)), none, none]) rfl (Nat.le_of_ble_eq_true rfl) rfl ?_
  refine aw_aload_n (pc := 0) (i := 0) dX12_sentence_0 rfl rfl ?_
  refine aw_iconst (pc := 1) dX12_sentence_1 iconst_0 ?_
  refine mp_thrown (pc := 2) dX12_sentence_2 rfl ?_
  refine aw_aload_n (pc := 5) (i := 0) dX12_sentence_5 rfl rfl ?_
  refine aw_sipush (pc := 6) dX12_sentence_6 sipush_200 ?_
  refine mc_V (pc := 9) (As := [.int (nI 200)]) (rest := []) dX12_sentence_9 rfl ok_X12_263 rfl rfl rfl (Nat.le_of_ble_eq_true rfl) (s_taken hn ⟨_, rfl, rfl, ?_⟩)
  refine aw_ws (w9 := mW G.2.2.1 a (takenS (mI σ 0 (nI 0)) n 200)) rfl ?_
  refine aw_aload_n (pc := 12) (i := 0) dX12_sentence_12 rfl rfl ?_
  refine aw_iconst (pc := 13) dX12_sentence_13 iconst_0 ?_
  refine mp_fault (pc := 14) dX12_sentence_14 rfl ?_
  refine aw_aload_n (pc := 17) (i := 0) dX12_sentence_17 rfl rfl ?_
  refine aw_iconst (pc := 18) dX12_sentence_18 iconst_0 ?_
  refine mp_codes (pc := 19) dX12_sentence_19 rfl ?_
  refine aw_aload_n (pc := 22) (i := 0) dX12_sentence_22 rfl rfl ?_
  refine aw_iconst (pc := 23) dX12_sentence_23 iconst_0 ?_
  refine mp_ones (pc := 24) dX12_sentence_24 rfl ?_
  refine aw_aload_n (pc := 27) (i := 0) dX12_sentence_27 rfl rfl ?_
  refine aw_iconst (pc := 28) dX12_sentence_28 iconst_0 ?_
  refine mp_top (pc := 29) dX12_sentence_29 rfl ?_
  refine aw_aload_n (pc := 32) (i := 0) dX12_sentence_32 rfl rfl ?_
  refine aw_iconst (pc := 33) dX12_sentence_33 iconst_1 ?_
  refine mp_deep (pc := 34) dX12_sentence_34 rfl ?_
  refine aw_aload_n (pc := 37) (i := 0) dX12_sentence_37 rfl rfl ?_
  refine aw_iconst (pc := 38) dX12_sentence_38 iconst_0 ?_
  refine mp_isWhole (pc := 39) dX12_sentence_39 rfl (by decide) (by decide) ?_
  refine aw_aload_n (pc := 42) (i := 0) dX12_sentence_42 rfl rfl ?_
  refine mc_V (pc := 43) (As := []) (rest := []) dX12_sentence_43 rfl ok_X12_204 rfl rfl rfl (Nat.le_of_ble_eq_true rfl) (s_nx hv ⟨_, rfl, rfl, ?_⟩)
  refine aw_ws (w9 := mW G.2.2.1 a (nx (senB σ n))) rfl ?_
  refine aw_iconst (pc := 46) dX12_sentence_46 iconst_1 ?_
  refine aw_istore_n (pc := 47) (i := 1) dX12_sentence_47 rfl (Nat.le_of_ble_eq_true rfl) rfl ?_
  refine sen_loop 2000 (nx (senB σ n)) false (SV_senB hv) hl (mz_lt (PV_nx hv)) (fun h => ?_) (fun h => ?_)
  · obtain ⟨r1, r2, r3⟩ := senL_t 2000 (nx (senB σ n)) false (SV_senB hv) hl h
    refine sen_end r1.2.1 (by have := r1.2.2.2.2.2.2.1; have := r1.2.2.2.2.2.2.2.1; omega) r1.2.2.1 ?_
    rw [sentenceA, sentenceS, senR, if_pos h, if_pos h] at kk; exact kk
  · rw [sentenceA, sentenceS, senR, if_neg (by rw [h]; decide), if_neg (by rw [h]; decide)] at kk; exact kk
