section GRW
variable {ae : Nat → Nat} {kd : Nat → Bool} {ad : Nat → Nat → Nat} {κ : Nat → kS} {n : Nat} {σ : mS} {B : Nat} {b : Bool} {a : Nat → Nat} {k1 : kS}
theorem CHT.grow {jc : Nat} {t : Nat → Nat} {nm NM : Nat → Int64} (h : CHT kd κ n jc t nm NM) : CHT (upN kd n b) (upN κ n k1) (n + 1) jc t nm NM := by
  have := h.2.1
  exact ⟨h.1, by omega, by rw [upN_n _ _ _ _ (by omega)]; exact h.2.2.1, by rw [upN_n _ _ _ _ (by omega)]; exact h.2.2.2.1, h.2.2.2.2⟩
theorem SNT.grow {t : Nat → Nat} {sn : Option Nat} (h : SNT ae kd ad κ n t sn) : SNT ae (upN kd n b) (upN ad n a) (upN κ n k1) (n + 1) t sn := by
  rcases h with h | ⟨h1, j, a1, a2, a3, a4, a5, a6⟩
  · exact Or.inl h
  · exact Or.inr ⟨h1, j, a1, by omega, by rw [upN_n _ _ _ _ (by omega)]; exact a3, by rw [upN_n _ _ _ _ (by omega)]; exact a4, by rw [upN_n _ _ _ _ (by omega)]; exact a5, by rw [upN_n _ _ _ _ (by omega)]; exact a6⟩
theorem jMain.grow {k0 : kS} (hn : 24 ≤ n) (h : jMain ad k0) : jMain (upN ad n a) k0 := by
  have g : ∀ i, i < 24 → upN ad n a i = ad i := fun i hi => upN_n _ _ _ _ (by omega)
  unfold jMain at *
  rw [g 1 (by omega), g 2 (by omega), g 3 (by omega), g 4 (by omega), g 5 (by omega), g 6 (by omega), g 8 (by omega), g 10 (by omega), g 11 (by omega), g 12 (by omega), g 13 (by omega)]
  obtain ⟨c1, c2, c3, c4, c5, c6, c7, c8, c9, c10, c11, c12, c13⟩ := h
  exact ⟨c1, c2, c3, c4, c5, c6, c7, c8, c9, c10, c11, fun i hi => by rw [g _ (by omega)]; exact c12 i hi, fun i hi => by rw [g _ (by omega)]; exact c13 i hi⟩
theorem J.grow (h : J ae kd ad κ n σ B) : J ae (upN kd n b) (upN ad n a) (upN κ n k1) (n + 1) σ B := by
  obtain ⟨hn, hMain, hSub, hTape, hR10, hR11, hR12, hR13, hMisc, hRef, hB5, jc, NM, sn, sd, m, pn, im, hCht, hSR, hSnt, hTok, hPast, hPm, hSds, hImg⟩ := id h
  have g : ∀ i, i < 24 → upN κ n k1 i = κ i := fun i hi => upN_n _ _ _ _ (by omega)
  have ga : ∀ i, i < n → upN ad n a i = ad i := fun i hi => upN_n _ _ _ _ (by omega)
  unfold J jSt jPast jImg
  rw [g 0 (by omega), g 1 (by omega), g 2 (by omega), g 3 (by omega), g 4 (by omega), g 5 (by omega), g 6 (by omega), g 7 (by omega), g 8 (by omega), g 9 (by omega), g 10 (by omega), g 11 (by omega), g 12 (by omega), g 13 (by omega)]
  obtain ⟨a1, a2, a3, a4, a5⟩ := hImg
  refine ⟨by omega, hMain.grow hn, ?_, hTape, hR10, hR11, hR12, hR13, hMisc, hRef, hB5, jc, NM, sn, sd, m, pn, im, hCht.grow, ?_, hSnt.grow, hTok, fun i hi => ?_, hPm, fun i h1 h2 => ?_, a1, a2, a3, a4, fun k hk9 hp => ?_⟩
  · unfold jSub at *
    rw [ga 1 (by omega), ga 3 (by omega), ga 7 (by omega), ga 9 (by omega)]; exact hSub
  · rw [ga jc hCht.2.1]; exact hSR
  · rw [ga jc hCht.2.1, g _ (by unfold paI; omega)]; exact hPast i hi
  · rw [g i h2]; exact hSds i h1 h2
  · obtain ⟨⟨jc', NM', sn', sd', b1, b2, b3⟩, b4⟩ := a5 k hk9 hp
    rw [g _ (by omega)]
    exact ⟨⟨jc', NM', sn', sd', b1.grow, by rw [ga jc' b1.2.1]; exact b2, b3.grow⟩, b4⟩
end GRW
theorem aw_grow {G : xG} {μ : xM} {d mc ms : Nat} {Q : xQ} {pc : Nat} {L : List (Option Value)} {st : List Value} {n9 k9 : Nat} {kd : Nat → Bool} {ad : Nat → Nat → Nat} {κ : Nat → kS} {n : Nat} {R : va_W} {a : Nat → Nat} {k1 : kS} {b : Bool} (kk : AW G μ d mc ms Q pc L st (WX G.2.2.1 (upN kd n b) (upN ad n a) (upN κ n k1) (n + 1) [] ++ R) n9 k9) : AW G μ d mc ms Q pc L st (WX G.2.2.1 kd ad κ n [] ++ (ck G.2.2.1 (upN kd n b) n a k1 ++ R)) n9 k9 := by
  refine aw_perm ?_ kk
  refine List.Perm.trans (List.perm_append_comm_assoc _ _ _) ?_
  rw [← List.append_assoc]
  exact List.Perm.append_right R wx_grow
theorem aw_back3 {G : xG} {μ : xM} {d mc ms : Nat} {Q : xQ} {pc : Nat} {L : List (Option Value)} {st : List Value} {n9 k9 : Nat} {X Y Z W R : va_W} (kk : AW G μ d mc ms Q pc L st (Y ++ (Z ++ (W ++ (X ++ R)))) n9 k9) : AW G μ d mc ms Q pc L st (X ++ (Y ++ (Z ++ (W ++ R)))) n9 k9 := by
  refine aw_perm ?_ kk
  refine List.Perm.trans (List.perm_append_comm_assoc _ _ _) (List.Perm.append_left _ ?_)
  refine List.Perm.trans (List.perm_append_comm_assoc _ _ _) (List.Perm.append_left _ ?_)
  exact List.perm_append_comm_assoc _ _ _
theorem aw_front3 {G : xG} {μ : xM} {d mc ms : Nat} {Q : xQ} {pc : Nat} {L : List (Option Value)} {st : List Value} {n9 k9 : Nat} {X Y Z W R : va_W} (kk : AW G μ d mc ms Q pc L st (X ++ (Y ++ (Z ++ (W ++ R)))) n9 k9) : AW G μ d mc ms Q pc L st (Y ++ (Z ++ (W ++ (X ++ R)))) n9 k9 := by
  refine aw_perm (List.Perm.symm ?_) kk
  refine List.Perm.trans (List.perm_append_comm_assoc _ _ _) (List.Perm.append_left _ ?_)
  refine List.Perm.trans (List.perm_append_comm_assoc _ _ _) (List.Perm.append_left _ ?_)
  exact List.perm_append_comm_assoc _ _ _
/-- what reading leaves, of J's matters -/
def RJ (σ s : mS) : Prop := (∀ k, rk k = false → ¬ k = 0 → ¬ k = 2 → s.1 k = σ.1 k) ∧ (∀ k, ¬ k = 7 → ¬ k = 8 → ¬ k = 50 → s.2.1 k = σ.2.1 k) ∧ s.2.2.1 = σ.2.2.1 ∧ (∀ k, ¬ k = 9 → s.2.2.2.2 k = σ.2.2.2.2 k) ∧ (∀ j, j < 13 → s.2.2.2.2 9 j = σ.2.2.2.2 9 j)
section RJS
variable {ae : Nat → Nat} {kd : Nat → Bool} {ad : Nat → Nat → Nat} {κ : Nat → kS} {n : Nat} {σ s : mS} {B : Nat}
theorem jSt.rj {jc m pn im : Nat} {NM : Nat → Int64} {sn : Option Nat} {sd : Int32} (hr : RJ σ s) (h : jSt ae kd ad κ n σ B jc NM sn sd m pn im) : jSt ae kd ad κ n s B jc NM sn sd m pn im := by
  obtain ⟨r1, r2, -, r4, r5⟩ := hr
  obtain ⟨a1, a2, a3, a4, a5, a6, a7, b1, b2, b3, b4, b5⟩ := h
  obtain ⟨hb, h0, h1, h2, -⟩ := id a4.1.1.1
  unfold jSt jImg imT imN
  rw [r2 6 (by decide) (by decide) (by decide), r2 21 (by decide) (by decide) (by decide), r1 23 rfl (by decide) (by decide), r2 57 (by decide) (by decide) (by decide), r2 59 (by decide) (by decide) (by decide), r4 58 (by decide)]
  exact ⟨CHT_cong a1 h0 h1 h2 (fun _ _ => rfl) r5, a2, a3, a4, a5, a6, a7, b1, b2, b3, b4, b5⟩
theorem J.rj {k1 : kS} (hr : RJ σ s) (h7 : ∀ j, s.2.1 7 j < 2 ^ 30) (hv : PV s) (hT : jTape k1 s) (h : J ae kd ad κ n σ B) : J ae kd ad (upN κ 1 k1) n s B := by
  obtain ⟨hn, hMain, hSub, hTape, hR10, hR11, hR12, hR13, hMisc, hRef, hB5, jc, NM, sn, sd, m, pn, im, hCht, hSR, hSnt, hTok, hPast, hPm, hSds, hImg⟩ := id h
  have hst : jSt ae kd ad κ n s B jc NM sn sd m pn im := jSt.rj hr ⟨hCht, hSR, hSnt, hTok, hPast, hPm, hSds, hImg⟩
  obtain ⟨r1, r2, r3, r4, r5⟩ := hr
  obtain ⟨ps, plim, pp, pnm, ptk, pat, v1, v2, v3, v4, v5, v6, v7, v8, v9, v10, v11, v12⟩ := hv
  refine ⟨hn, hMain, hSub, hT, ?_, ?_, ?_, ?_, ?_, ⟨?_, h7, ⟨pnm, v7, v8⟩, ⟨ptk, v9, v10⟩, ⟨pat, v11, v12⟩, ?_⟩, hB5, jc, NM, sn, sd, m, pn, im, jSt.up (i := 1) (by omega) (by omega) (by omega) hst⟩
  · rw [r1 34 rfl (by decide) (by decide), r2 31 (by decide) (by decide) (by decide)]; exact hR10
  · rw [r1 35 rfl (by decide) (by decide), r2 32 (by decide) (by decide) (by decide)]; exact hR11
  · rw [r1 41 rfl (by decide) (by decide), r2 40 (by decide) (by decide) (by decide)]; exact hR12
  · rw [r1 45 rfl (by decide) (by decide), r2 44 (by decide) (by decide) (by decide)]; exact hR13
  · unfold jMisc
    rw [r1 35 rfl (by decide) (by decide), r1 36 rfl (by decide) (by decide), r1 38 rfl (by decide) (by decide), r1 37 rfl (by decide) (by decide), r1 43 rfl (by decide) (by decide), r1 42 rfl (by decide) (by decide), r1 49 rfl (by decide) (by decide), r2 48 (by decide) (by decide) (by decide)]
    exact hMisc
  · intro k hk; rw [r4 10 (by decide)]; exact hRef.1 k hk
  · rw [r2 56 (by decide) (by decide) (by decide)]; exact hRef.2.2.2.2.2
end RJS
theorem RF.rj {b : Bool} {σ σ0 s : mS} (h0 : ∀ k, rk k = false → ¬ k = 0 → ¬ k = 2 → σ0.1 k = σ.1 k) (e1 : σ0.2.1 = σ.2.1) (e2 : σ0.2.2.1 = σ.2.2.1) (e3 : σ0.2.2.2.2 = σ.2.2.2.2) (h : RF b σ0 s) : RJ σ s := by
  refine ⟨fun k a1 a2 a3 => (h.1 k a1).trans (h0 k a1 a2 a3), fun k a1 a2 a3 => ?_, ?_, fun k a1 => ?_, fun j hj => ?_⟩
  · rw [← e1]; exact h.2.1 k a1 a2 a3
  · rw [← e2]; exact h.2.2.2.1
  · rw [← e3]; exact h.2.2.2.2.1 k a1
  · rw [← e3]; exact h.2.2.2.2.2.1 j hj
theorem taken_o {σ : mS} {x : Int32} {n lim k : Nat} (hk : rk k = false) (h0 : ¬ k = 0) (h2 : ¬ k = 2) : (takenS (mI σ 0 x) n lim).1 k = σ.1 k := by
  have g : ∀ i, rk i = true → ¬ k = i := fun i hi e => by subst e; rw [hk] at hi; cases hi
  unfold takenS
  rw [mI_o _ _ _ _ (g 5 rfl), mI_o _ _ _ _ (g 4 rfl), mI_o _ _ _ _ h2, mI_o _ _ _ _ (g 3 rfl), mI_o _ _ _ _ h0]
theorem senB_o {σ : mS} {n k : Nat} (hk : rk k = false) (h0 : ¬ k = 0) (h2 : ¬ k = 2) : (senB σ n).1 k = σ.1 k := by
  have g : ∀ i, rk i = true → ¬ k = i := fun i hi e => by subst e; rw [hk] at hi; cases hi
  unfold senB
  rw [mI_o _ _ _ _ (g 55 rfl), mI_o _ _ _ _ (g 54 rfl), mI_o _ _ _ _ (g 53 rfl), mI_o _ _ _ _ (g 52 rfl), mI_o _ _ _ _ (g 51 rfl), mI_o _ _ _ _ (g 15 rfl)]
  exact taken_o hk h0 h2
theorem senR_rf {σ : mS} {n : Nat} : RF false (senB σ n) (senR σ n).2 := RF.sen _ _ (RF.rf _ _).nx
theorem senR_rj {σ : mS} {n : Nat} : RJ σ (senR σ n).2 := RF.rj (fun k h1 h2 h3 => senB_o h1 h2 h3) rfl rfl rfl senR_rf
/-- the new sentence of a state -/
theorem J.sen {ae : Nat → Nat} {kd : Nat → Bool} {ad : Nat → Nat → Nat} {κ : Nat → kS} {n : Nat} {s : mS} {B : Nat} {a : Nat → Nat} {kx : kS} (hB9 : B ≤ 2 ^ 30) (h : J ae kd ad κ n s B) (hv : SV s true) (hT : sT s = 0) (hx5 : kx.1 5 = .int (nI (sC s))) (hst : ∀ i, i < sC s → STq ae kx (s.2.1 8) 0 i) : J ae (upN kd n false) (upN ad n a) (upN (upN κ 2 (kF (κ 2) 1 (va_rf (some (a 8))))) n kx) (n + 1) (senE s) B := by
  have hJg : J ae (upN kd n false) (upN ad n a) (upN κ n kx) (n + 1) s B := h.grow
  obtain ⟨hn24, -⟩ := id h
  have ec : upN (upN κ 2 (kF (κ 2) 1 (va_rf (some (a 8))))) n kx = upN (upN κ n kx) 2 (kF (κ 2) 1 (va_rf (some (a 8)))) := by
    funext j
    by_cases e1 : j = 2
    · subst e1; rw [upN_s, upN_n _ _ _ _ (by omega), upN_s]
    · rw [upN_n _ _ _ _ e1]
      by_cases e2 : j = n
      · subst e2; rw [upN_s, upN_s]
      · rw [upN_n _ _ _ _ e2, upN_n _ _ _ _ e1, upN_n _ _ _ _ e2]
  rw [ec]
  obtain ⟨hn, hMain, hSub, hTape, hR10, hR11, hR12, hR13, hMisc, hRef, hB5, jc, NM, sn, sd, m, pn, im, hCht, hSR, hSnt, hTok, hPast, hPm, hSds, hImg⟩ := id hJg
  have hc40 := hv.lim.2.1
  obtain ⟨-, -, -, -, -, -, -, -, -, -, hdp, h1024⟩ := id hv
  have eo : ∀ j, ¬ (138 ≤ j ∧ j < 139 + 3 * sC s) → (senE s).2.1 6 j = s.2.1 6 j := fun j hj => by
    show cpF (upN (s.2.1 6) 138 (sC s)) (s.2.1 8) 139 0 (3 * sC s) j = _
    rw [cpF_out (by omega), upN_n _ _ _ _ (by omega)]
  have e138 : (senE s).2.1 6 138 = sC s := by
    show cpF (upN (s.2.1 6) 138 (sC s)) (s.2.1 8) 139 0 (3 * sC s) 138 = _
    rw [cpF_out (by omega), upN_s]
  have ei : ∀ j, j < 3 * sC s → (senE s).2.1 6 (139 + j) = s.2.1 8 j := fun j hj => by
    show cpF (upN (s.2.1 6) 138 (sC s)) (s.2.1 8) 139 0 (3 * sC s) (139 + j) = _
    rw [cpF_in (by omega), show 0 + (139 + j - 139) = j by omega]
  have hu : ∀ j, (senE s).2.1 6 j < B := fun j => by
    by_cases q : 138 ≤ j ∧ j < 139 + 3 * sC s
    · by_cases q8 : j = 138
      · subst q8; rw [e138]; omega
      · have := ei (j - 139) (by omega)
        rw [show 139 + (j - 139) = j by omega] at this
        rw [this]; have := h1024 (j - 139) (by omega); omega
    · rw [eo j q]; exact hTok.1.1.2 j
  obtain ⟨hb, h0, h1', h2, -⟩ := id hTok.1.1.1
  have e138' : ∀ j, j < 138 → (senE s).2.1 6 j = s.2.1 6 j := fun j hj => eo j (by omega)
  have hSKn : SK ((senE s).2.1 6) := by
    refine ⟨by rw [e138]; exact hc40, ⟨cnJ (s.2.1 50) (sT s) + b1 true, ?_⟩, fun j hj => ?_⟩
    · rw [e138, ← hdp]
      exact dpF_base _ _ _ _ _ (fun j hj => by rw [Nat.zero_add]; exact ei j hj)
    · rw [e138] at hj; rw [ei j hj]; exact h1024 j hj
  have hST' : SRl (upN ad n a jc) (some (a 8)) ((senE s).2.1 6) sd (kF (κ 2) 1 (va_rf (some (a 8)))) := by
    rw [show upN κ n kx 2 = κ 2 from upN_n _ _ _ _ (by omega)] at hSR
    have := SRl_cong hSR h0 h2 e138'
    exact ⟨this.1, rfl, this.2.2⟩
  have hc1 : 1 ≤ sC s := by
    apply Classical.byContradiction
    intro q
    rw [show sC s = 0 by omega, hT] at hdp
    injection hdp with hdp
    exact absurd (show 0 = 0 + 1 from hdp) (by decide)
  have g : ∀ i, ¬ i = 2 → upN (upN κ n kx) 2 (kF (κ 2) 1 (va_rf (some (a 8)))) i = upN κ n kx i := fun i hi => upN_n _ _ _ _ hi
  have hN' : SNT ae (upN kd n false) (upN ad n a) (upN (upN κ n kx) 2 (kF (κ 2) 1 (va_rf (some (a 8))))) (n + 1) ((senE s).2.1 6) (some (a 8)) := by
    refine Or.inr ⟨by rw [e138]; exact hc1, n, hn24, Nat.lt_succ_self n, upN_s _ _ _, by rw [upN_s], ?_, fun i hi => ?_⟩
    · rw [g n (by omega), upN_s, e138]; exact hx5
    · rw [e138] at hi
      rw [g n (by omega), upN_s]
      obtain ⟨u, c1, c2, c3, c4, c5, c6⟩ := hst i hi
      refine ⟨u, c1, c2, c3, ?_, ?_, ?_⟩
      · rw [ei _ (by omega)]; rw [Nat.zero_add] at c4; exact c4
      · rw [Nat.add_assoc, ei _ (by omega)]; rw [Nat.zero_add] at c5; exact c5
      · rw [Nat.add_assoc, ei _ (by omega)]; rw [Nat.zero_add] at c6; exact c6
  obtain ⟨i1, i2, i3, i4, i5⟩ := hImg
  refine ⟨hn, ?_, ?_, ?_, ?_, ?_, ?_, ?_, ?_, hRef, hB5, jc, NM, some (a 8), sd, m, pn, im, (CHT_cong hCht h0 h1' h2 (fun j hj => e138' j (by omega)) (fun _ _ => rfl)).up (by decide), by rw [upN_s]; exact hST', hN', ⟨WV_cong hTok.1 hu hB9 e138', hSKn, ?_⟩, fun i hi => ?_, ?_, fun i q1 q2 => ?_, ?_, i2, i3, i4, fun k hk hp => ?_⟩
  · rw [g 0 (by decide)]; exact hMain
  · rw [g 3 (by decide), g 4 (by decide), g 5 (by decide), g 6 (by decide), g 7 (by decide), g 8 (by decide), g 9 (by decide)]; exact hSub
  · rw [g 1 (by decide)]; exact hTape
  · rw [g 10 (by decide)]; exact hR10
  · rw [g 11 (by decide)]; exact hR11
  · rw [g 12 (by decide)]; exact hR12
  · rw [g 13 (by decide)]; exact hR13
  · rw [g 0 (by decide)]; exact hMisc
  · rw [e138' 92 (by omega), e138' 2 (by omega), hTok.2.2]
    exact sumF_cong _ (fun q hq => (e138' _ (by omega)).symm)
  · obtain ⟨⟨sn', sd', p1⟩, p2, p3⟩ := hPast i hi
    have ep : ∀ j, j < 138 → paT ((senE s).2.1 6) (s.2.1 21) i j = paT (s.2.1 6) (s.2.1 21) i j := fun j hj => by
      unfold paT cpF
      split
      · rfl
      · exact e138' j hj
    have hpu : ∀ j, paT ((senE s).2.1 6) (s.2.1 21) i j < B := fun j => by
      by_cases q : j < 138
      · rw [ep j q]; exact p2.1.2 j
      · show cpF _ _ _ _ _ _ < B
        rw [cpF_out (by omega)]; exact hu j
    have hp0 : paT (s.2.1 6) (s.2.1 21) i 0 ≤ 7 := p2.1.1.2.1
    have hp2 : paT (s.2.1 6) (s.2.1 21) i 2 ≤ 6 := p2.1.1.2.2.2.1
    have hp2' : paT (s.2.1 6) (s.2.1 21) i 2 = s.2.1 6 2 := cpF_out (by omega)
    refine ⟨⟨sn', sd', ?_⟩, WV_cong p2 hpu hB9 ep, ?_⟩
    · rw [g _ (by unfold paI; omega)]; exact SRl_cong p1 hp0 hp2 ep
    · show paT ((senE s).2.1 6) (s.2.1 21) i 92 = sumF (fun q => paT ((senE s).2.1 6) (s.2.1 21) i (132 + q)) ((senE s).2.1 6 2)
      rw [ep 92 (by omega), e138' 2 (by omega), p3]
      exact sumF_cong _ (fun q hq => (ep _ (by omega)).symm)
  · rw [g 0 (by decide)]; exact hPm
  · rw [g i (by omega)]; exact hSds i q1 q2
  · rw [g 0 (by decide)]; exact i1
  · obtain ⟨b1, b2⟩ := i5 k hk hp
    rw [g _ (by omega)]
    exact ⟨b1.up (by decide), b2⟩
theorem oi_X11_336 : xIok "InchBorders" MX6_init 336 2 := ⟨(gtbl_in (List.mem_of_getElem? (i := 1173) (by decide +kernel)) rfl), (gtbl_in (List.mem_of_getElem? (i := 1171) (by decide +kernel)) rfl), (gtbl_in (List.mem_of_getElem? (i := 1172) (by decide +kernel)) rfl), tw_132, by decide +kernel, by decide, rfl, rfl⟩
theorem upN_sw {α : Type} {f : Nat → α} {i j : Nat} {x y : α} (h : ¬ i = j) : upN (upN f i x) j y = upN (upN f j y) i x := by
  funext k
  by_cases e1 : k = j
  · subst e1; rw [upN_s, upN_n _ _ _ _ (fun e => h e.symm), upN_s]
  · rw [upN_n _ _ _ _ e1]
    by_cases e2 : k = i
    · subst e2; rw [upN_s, upN_s]
    · rw [upN_n _ _ _ _ e2, upN_n _ _ _ _ e2, upN_n _ _ _ _ e1]
theorem mz_2k {σ : mS} (h : PV σ) : mz σ < 2000 := by
  obtain ⟨s, lim, p, nm, tk, at', h3, hs, h5, hl, h4, hp, -⟩ := h
  unfold mz
  rw [h3, nI_clamp (by omega)]
  split <;> omega
theorem mem_c1 {x : _} {R : va_W} : ∀ y ∈ R, y ∈ x :: R := fun _ h => List.mem_cons_of_mem _ h
set_option maxHeartbeats 1000000 in
set_option maxRecDepth 20000 in
theorem x_sentence {G : xG} {d : Nat} {Q : xQ} {ae : Nat → Nat} {tw ts : Nat} {kd : Nat → Bool} {ad : Nat → Nat → Nat} {κ : Nat → kS} {n : Nat} {σ : mS} {B : Nat} {R : va_W} (hE : EB ae tw ts G) (hNB : NB G) (hAO : AO G) (hJ : J ae kd ad κ n σ B) (hB9 : B ≤ 2 ^ 30) (kk : ∀ n1 kd9 ad9 κ9, σ.1 2 = nI n1 → n1 ≤ 940 → ad9 0 = ad 0 → J ae kd9 ad9 κ9 (n + 1) (sentenceS σ n1) B → Q (some (.int (sentenceA σ n1))) (WX G.2.2.1 kd9 ad9 κ9 (n + 1) [] ++ R)) : MT G MX11_sentence (d + 32) 5 168 [.ref ((ad 0) 20)] (WX G.2.2.1 kd ad κ n [] ++ R) Q := by
  obtain ⟨hn, hMain, hSub, hTape, hR10, hR11, hR12, hR13, hMisc, hRef, hB5, jc, NM, sn, sd, m, pn, im, hCht, hSR, hSnt, hTok, hPast, hPm, hSds, hImg⟩ := id hJ
  have hw : WT (σ.2.1 6) := hTok.1.1.1
  have hI := ov_0 (G := G) (kd := kd) (ad := ad) (κ := κ) (xs := []) (R := R) (by omega : 0 < n) (by simp)
  have hTp := ov_1 (G := G) (kd := kd) (ad := ad) (κ := κ) (xs := []) (R := R) (by omega : 1 < n) (by simp)
  have hS := st_2 (G := G) (kd := kd) (ad := ad) (n := n) (xs := []) (R := R) hSR hw (by omega) (by simp)
  have hC : CHR G (WX G.2.2.1 kd ad κ n [] ++ R) (ad jc) (σ.2.1 6) NM := (hCht.chr (ad := ad) hw (fun i hi => by simp at hi)).sub mem_R1
  obtain ⟨hb, h0, h1, h2, hRd, hP, hD, hCl, hT⟩ := id hw
  obtain ⟨sd9, hSo, hS2, hS3, hS6, hS7, hS8, hS9, hS10⟩ := id hS
  obtain ⟨n1, hTB, hlen, hflt⟩ := id hTape
  have hT9 := hTB.2.1
  have hv := PV_senB (σ := σ) hT9 hRef.2.2.1 hRef.2.2.2.1 hRef.2.2.2.2.1
  replace kk := kk n1
  refine mt_start (L := [some (.ref ((ad 0) 20)), none]) rfl (Nat.le_of_ble_eq_true rfl) rfl ?_
  refine aw_new (pc := 0) (fs := [.null, .null, .null, .null, .null, .int 0, .null, .int 0]) (T := TX6) (ty := tyX6) dX11_sentence_0 rfl (gtbl_in (List.mem_of_getElem? (i := 1169) (by decide +kernel)) rfl) (gtbl_in (List.mem_of_getElem? (i := 1170) (by decide +kernel)) rfl) tw_132 inGX6 tyX6_ok (ci := 5) rfl (fun j hj => by have hj : j < 8 := hj; rcases (show j = 0 ∨ j = 1 ∨ j = 2 ∨ j = 3 ∨ j = 4 ∨ j = 5 ∨ j = 6 ∨ j = 7 by omega) with rfl | rfl | rfl | rfl | rfl | rfl | rfl | rfl <;> rfl) (by decide) (by decide) (fun q0 => ?_)
  refine aw_dup (pc := 3) dX11_sentence_3 rfl ?_
  refine aw_aload_n (pc := 4) (i := 0) dX11_sentence_4 rfl rfl ?_
  refine av_get (pc := 5) (x := .ref ((ad 1) 13)) dX11_sentence_5 rfl og_X11_10 rfl (hI.sub mem_c1) hMain.1 ?_
  refine aw_aload_n (pc := 8) (i := 0) dX11_sentence_8 rfl rfl ?_
  refine av_get (pc := 9) (x := .ref ((ad 2) 12)) dX11_sentence_9 rfl og_X11_72 rfl (hI.sub mem_c1) hMain.2.1 ?_
  refine av_get (pc := 12) (x := .ref ((ad jc) 13)) dX11_sentence_12 rfl og_X11_142 rfl (hSo.sub mem_c1) rfl ?_
  refine aw_cI (pc := 15) (As := [.ref ((ad 1) 13), .ref ((ad jc) 13)]) (rest := [.ref q0]) dX11_sentence_15 rfl oi_X11_336 rfl rfl (Nat.le_of_ble_eq_true rfl) (by decide) (by decide) (i_X6 hAO (fun a9 ha9 => ⟨rfl, ?_⟩))
  subst ha9
  refine aw_perm (List.perm_append_comm_assoc _ _ _) ?_
  refine aw_pull2 (p1 := 1) (p2 := 2) (by omega) (by omega) (by decide) ?_
  refine aw_ws (w9 := (wTp G.2.2.1 (ad 1) (κ 1) ++ (wSt G.2.2.1 (ad 2) (κ 2) ++ (WX G.2.2.1 kd ad κ n [2, 1] ++ (wSe G.2.2.1 a9 (kZ [.ref (ad 1 13), .ref (ad jc 13), .null, .null, .null, .int (nI 0), .null, .int (nI 0)]) ++ R))))) rfl ?_
  refine aw_front3 ?_
  have hIx := ov_0 (G := G) (kd := kd) (ad := ad) (κ := κ) (xs := [2, 1]) (R := R) (by omega : 0 < n) (by simp)
  have hCx : CHR G (WX G.2.2.1 kd ad κ n [2, 1] ++ R) (ad jc) (σ.2.1 6) NM := (hCht.chr (ad := ad) hw (fun i hi => by simp at hi; omega)).sub mem_R1
  refine aw_astore_n (pc := 18) (i := 1) dX11_sentence_18 rfl (Nat.le_of_ble_eq_true rfl) rfl ?_
  refine aw_aload_n (pc := 19) (i := 1) dX11_sentence_19 rfl rfl ?_
  refine cVv (pc := 20) (As := []) (rest := []) dX11_sentence_20 rfl oc_X11_337 rfl rfl (Nat.le_of_ble_eq_true rfl) rfl rfl ovX6 (Nat.le_refl _) (Nat.le_refl _) (c6_read (n := n1) (NM := NM) (c := ad jc) hE hNB rfl rfl rfl rfl hTB hv (hCx.sub mem_app) h0 hRef.1 (fun k hk => by rw [Nat.zero_add]; exact hCht.2.2.2.2.1 k hk) ?_ ?_)
  · -- call
    intro s9 es kt kx hsn hst0 hso hs6 _ _ htb
    refine ⟨rfl, ?_⟩
    refine aw_aload_n (pc := 23) (i := 0) dX11_sentence_23 rfl rfl ?_
    refine av_get (pc := 24) (x := .ref ((ad 1) 13)) dX11_sentence_24 rfl og_X11_10 rfl (hIx.sub mem_d3) hMain.1 ?_
    refine aw_iconst (pc := 27) dX11_sentence_27 iconst_0 ?_
    refine aw_swap ?_
    refine pp_X11_113 (pc := 28) dX11_sentence_28 rfl ?_
    refine aw_aload_n (pc := 31) (i := 0) dX11_sentence_31 rfl rfl ?_
    refine av_get (pc := 32) (x := .ref ((ad 1) 13)) dX11_sentence_32 rfl og_X11_10 rfl (hIx.sub mem_d3) hMain.1 ?_
    refine pg_X11_126 (pc := 35) (v := .int (nI 0)) dX11_sentence_35 rfl hsn.2.1 ?_
    refine an_if_eq (pc := 38) (tgt := 51) dX11_sentence_38 rfl (by decide) (fun h38 => ?_) (fun h38 => absurd h38 (by decide))
    refine aw_aload_n (pc := 51) (i := 0) dX11_sentence_51 rfl rfl ?_
    refine av_get (pc := 52) (x := .ref ((ad 2) 12)) dX11_sentence_52 rfl og_X11_72 rfl (hIx.sub mem_d3) hMain.2.1 ?_
    refine aw_aload_n (pc := 55) (i := 1) dX11_sentence_55 rfl rfl ?_
    refine aw_swap3 ?_
    refine aw_topV (y := va_rf (some (a9 8))) rfl ?_
    refine pp_X11_238 (pc := 56) dX11_sentence_56 rfl ?_
    refine aw_aload_n (pc := 59) (i := 1) dX11_sentence_59 rfl rfl ?_
    refine aw_swap3 ?_
    refine pg_X11_339 (pc := 60) (v := .int (nI (sO s9))) dX11_sentence_60 rfl hsn.2.2.2.1 ?_
    refine aw_swap ?_
    refine aw_swap3 ?_
    refine aw_swap3 ?_
    refine aw_back3 ?_
    refine aw_push2 (p1 := 1) (p2 := 2) (by omega) (by omega) (by decide) ?_
    rw [← ck_se (kd := upN kd n false) (i := n) hn (upN_s _ _ _)]
    refine aw_grow ?_
    refine aw_iret (pc := 63) dX11_sentence_63 rfl (Nat.le_refl _) (Nat.le_refl _) ?_
    have hrj : RJ σ s9 := by have := senR_rj (σ := σ) (n := n1); rw [es] at this; exact this
    have hrf : RF false (senB σ n1) s9 := by have := senR_rf (σ := σ) (n := n1); rw [es] at this; exact this
    have h27 : s9.1 2 = nI 0 := hrf.1 2 rfl
    have hJ1 : J ae kd ad (upN κ 1 (kF kt 1 (.int (nI 0)))) n s9 B := J.rj hrj (fun j => by rw [hrf.2.2.1.resolve_left (by decide)]; exact hRef.2.1 j) (hrf.2.2.2.2.2.2 hv) ⟨0, ⟨rfl, by omega, fun i hi => by rw [hrj.2.2.1]; show kt.2.1 0 i = _; rw [htb.2]; exact hTB.2.2 i hi⟩, h27, by rw [hsn.2.2.2.2.2.2.2.1]; exact hsn.2.1⟩ hJ
    have hJ2 := J.sen (a := a9) (kx := kx) hB9 hJ1 hsn.2.2.2.2.1 hst0 hsn.2.2.1 hsn.2.2.2.2.2.2.2.2
    have := kk (upN kd n false) (upN ad n a9) _ hlen hT9 (upN_n _ _ _ _ (by omega)) (by rw [show sentenceS σ n1 = senE s9 by unfold sentenceS; rw [es]; exact if_pos rfl]; exact hJ2)
    rw [show sentenceA σ n1 = nI (sO s9) by unfold sentenceA; rw [es]; exact if_pos rfl] at this
    rw [upN_sw (i := 2) (j := 1) (by decide)]
    exact this
  · -- call
    intro s9 es kt kx hfr _ _ htb
    refine ⟨rfl, ?_⟩
    obtain ⟨k9, hk1, hk2, hk3⟩ : ∃ k, 1 ≤ k ∧ k ≤ 4 ∧ s9.1 15 = nI k := by
      have := BD_senL 2000 (nx (senB σ n1)) false (mz_2k (PV_nx hv)) (SV_senB hv) h0
      rw [show senL 2000 (nx (senB σ n1)) = (false, s9) from es] at this
      exact this rfl
    refine aw_aload_n (pc := 23) (i := 0) dX11_sentence_23 rfl rfl ?_
    refine av_get (pc := 24) (x := .ref ((ad 1) 13)) dX11_sentence_24 rfl og_X11_10 rfl (hIx.sub mem_d3) hMain.1 ?_
    refine aw_iconst (pc := 27) dX11_sentence_27 iconst_0 ?_
    refine aw_swap ?_
    refine pp_X11_113 (pc := 28) dX11_sentence_28 rfl ?_
    refine aw_aload_n (pc := 31) (i := 0) dX11_sentence_31 rfl rfl ?_
    refine av_get (pc := 32) (x := .ref ((ad 1) 13)) dX11_sentence_32 rfl og_X11_10 rfl (hIx.sub mem_d3) hMain.1 ?_
    refine pg_X11_126 (pc := 35) (v := .int (nI k9)) dX11_sentence_35 rfl (hfr.1.trans (congrArg _ hk3)) ?_
    refine an_if_eq (pc := 38) (tgt := 51) dX11_sentence_38 rfl (by omega) (fun h38 => ?_) (fun h38 => ?_)
    · -- 51
      exfalso; omega
    · -- 41
      refine aw_iconst (pc := 41) dX11_sentence_41 iconst_m1 ?_
      refine aw_aload_n (pc := 42) (i := 0) dX11_sentence_42 rfl rfl ?_
      refine av_get (pc := 43) (x := .ref ((ad 1) 13)) dX11_sentence_43 rfl og_X11_10 rfl (hIx.sub mem_d3) hMain.1 ?_
      refine pg_X11_129 (pc := 46) (v := .int (s9.1 16)) dX11_sentence_46 rfl hfr.2 ?_
      refine aw_isub (pc := 49) dX11_sentence_49 ?_
      refine aw_swap3 ?_
      refine aw_swap ?_
      refine aw_swap3 ?_
      refine aw_back3 ?_
      refine aw_push2 (p1 := 1) (p2 := 2) (by omega) (by omega) (by decide) ?_
      rw [← ck_se (kd := upN kd n false) (i := n) hn (upN_s _ _ _)]
      refine aw_grow ?_
      refine aw_iret (pc := 50) dX11_sentence_50 rfl (Nat.le_refl _) (Nat.le_refl _) ?_
      have hrj : RJ σ s9 := by have := senR_rj (σ := σ) (n := n1); rw [es] at this; exact this
      have hrf : RF false (senB σ n1) s9 := by have := senR_rf (σ := σ) (n := n1); rw [es] at this; exact this
      have h27 : s9.1 2 = nI 0 := hrf.1 2 rfl
      have hJ1 : J ae kd ad (upN κ 1 (kF kt 1 (.int (nI 0)))) n s9 B := J.rj hrj (fun j => by rw [hrf.2.2.1.resolve_left (by decide)]; exact hRef.2.1 j) (hrf.2.2.2.2.2.2 hv) ⟨0, ⟨rfl, by omega, fun i hi => by rw [hrj.2.2.1]; show kt.2.1 0 i = _; rw [htb.2]; exact hTB.2.2 i hi⟩, h27, hfr.1⟩ hJ
      have := kk (upN kd n false) (upN ad n a9) (upN (upN κ 1 (kF kt 1 (.int (nI 0)))) n kx) hlen hT9 (upN_n _ _ _ _ (by omega)) (by rw [show sentenceS σ n1 = s9 by unfold sentenceS; rw [es]; exact if_neg Bool.false_ne_true]; exact hJ1.grow)
      rw [show sentenceA σ n1 = (-1) - s9.1 16 by unfold sentenceA; rw [es]; exact if_neg Bool.false_ne_true] at this
      rw [upN_id (κ) 2 rfl]
      exact this
