theorem aw_back6 {G : xG} {μ : xM} {d mc ms : Nat} {Q : xQ} {pc : Nat} {L : List (Option Value)} {st : List Value} {n9 k9 : Nat} {X Y Z W U V R P : va_W} (kk : AW G μ d mc ms Q pc L st (Y ++ (Z ++ (W ++ (U ++ (V ++ (P ++ (X ++ R))))))) n9 k9) : AW G μ d mc ms Q pc L st (X ++ (Y ++ (Z ++ (W ++ (U ++ (V ++ (P ++ R))))))) n9 k9 := by
  refine aw_perm ?_ kk
  refine List.Perm.trans (List.perm_append_comm_assoc _ _ _) (List.Perm.append_left _ ?_)
  refine List.Perm.trans (List.perm_append_comm_assoc _ _ _) (List.Perm.append_left _ ?_)
  refine List.Perm.trans (List.perm_append_comm_assoc _ _ _) (List.Perm.append_left _ ?_)
  refine List.Perm.trans (List.perm_append_comm_assoc _ _ _) (List.Perm.append_left _ ?_)
  refine List.Perm.trans (List.perm_append_comm_assoc _ _ _) (List.Perm.append_left _ ?_)
  exact List.perm_append_comm_assoc _ _ _
theorem aw_front6 {G : xG} {μ : xM} {d mc ms : Nat} {Q : xQ} {pc : Nat} {L : List (Option Value)} {st : List Value} {n9 k9 : Nat} {X Y Z W U V R P : va_W} (kk : AW G μ d mc ms Q pc L st (X ++ (Y ++ (Z ++ (W ++ (U ++ (V ++ (P ++ R))))))) n9 k9) : AW G μ d mc ms Q pc L st (Y ++ (Z ++ (W ++ (U ++ (V ++ (P ++ (X ++ R))))))) n9 k9 := by
  refine aw_perm (List.Perm.symm ?_) kk
  refine List.Perm.trans (List.perm_append_comm_assoc _ _ _) (List.Perm.append_left _ ?_)
  refine List.Perm.trans (List.perm_append_comm_assoc _ _ _) (List.Perm.append_left _ ?_)
  refine List.Perm.trans (List.perm_append_comm_assoc _ _ _) (List.Perm.append_left _ ?_)
  refine List.Perm.trans (List.perm_append_comm_assoc _ _ _) (List.Perm.append_left _ ?_)
  refine List.Perm.trans (List.perm_append_comm_assoc _ _ _) (List.Perm.append_left _ ?_)
  exact List.perm_append_comm_assoc _ _ _
theorem mem_d6 {X Y Z W U V R : va_W} : ∀ x ∈ R, x ∈ X ++ (Y ++ (Z ++ (W ++ (U ++ (V ++ R))))) := fun _ h => List.mem_append_right _ (List.mem_append_right _ (List.mem_append_right _ (List.mem_append_right _ (List.mem_append_right _ (List.mem_append_right _ h)))))
theorem sumF_z {f : Nat → Nat} : ∀ n, (∀ q, q < n → f q = 0) → sumF f n = 0 := by
  intro n
  induction n with
  | zero => intro _; rfl
  | succ n ih => intro h; rw [sumF, ih (fun q hq => h q (by omega)), h n (by omega)]
section MPT
variable {t h : Nat → Nat}
theorem mT_1 {j : Nat} (hj : j < 91) : mapT t h j = h j := by
  unfold mapT; rw [mp4_lo (by omega), mp3_lo (by omega)]; unfold mp1; rw [if_pos (by omega), if_pos hj]
theorem mT_z {j : Nat} (h1 : 91 ≤ j) (h2 : j < 94) : mapT t h j = 0 := by
  unfold mapT; rw [mp4_lo (by omega), mp3_lo (by omega)]; unfold mp1; rw [if_pos (by omega), if_neg (by omega)]
theorem mp1_l {j : Nat} (hj : j < 91) : mp1 t h 319 j = h j := by unfold mp1; rw [if_pos (by omega), if_pos hj]
theorem mp1_z {j : Nat} (h1 : 91 ≤ j) (h2 : j < 319) : mp1 t h 319 j = 0 := by unfold mp1; rw [if_pos h2, if_neg (by omega)]
theorem mT_st {l : Nat} (hl : l < 7) : mapT t h (94 + l) = h (17 + l) := by
  unfold mapT; rw [mp4_lo (by omega)]; unfold mp3; rw [if_pos (by omega), show 17 + (94 + l - 94) = 17 + l by omega]; exact mp1_l (by omega)
theorem mT_sp {l : Nat} (hl : l < 7) : mapT t h (101 + l) = h (72 + l) := by
  unfold mapT; rw [mp4_lo (by omega)]; unfold mp3; rw [if_neg (by omega), if_pos (by omega), show 72 + (101 + l - 101) = 72 + l by omega]; exact mp1_l (by omega)
theorem mT_at {q : Nat} (hq : q < 6) : mapT t h (108 + q) = h (79 + q) := by
  unfold mapT mp4; rw [if_pos (by omega), show 79 + (108 + q - 108) = 79 + q by omega, mp3_lo (by omega)]; exact mp1_l (by omega)
theorem mT_ln {q : Nat} (hq : q < 6) : mapT t h (114 + q) = h (85 + q) := by
  unfold mapT mp4; rw [if_neg (by omega), if_pos (by omega), show 85 + (114 + q - 114) = 85 + q by omega, mp3_lo (by omega)]; exact mp1_l (by omega)
theorem mT_r {j : Nat} (h1 : 120 ≤ j) (h2 : j < 319) : mapT t h j = 0 := by
  unfold mapT mp4; rw [if_neg (by omega), if_neg (by omega)]; unfold mp3; rw [if_neg (by omega), if_neg (by omega)]; exact mp1_z (by omega) h2
theorem mT_o {j : Nat} (h1 : 319 ≤ j) : mapT t h j = t j := by
  unfold mapT mp4; rw [if_neg (by omega), if_neg (by omega)]; unfold mp3; rw [if_neg (by omega), if_neg (by omega)]; unfold mp1; rw [if_neg (by omega)]
theorem hbd_le (j : Nat) : hbd j ≤ 1023 := by unfold hbd; split; omega; split <;> omega
theorem mT_lt {B : Nat} (hB : 4096 ≤ B) (ht : ∀ j, t j < B) (hp : ∀ j, j < 91 → h j ≤ hbd j) (j : Nat) : mapT t h j < B := by
  have g : ∀ i, i < 91 → h i < B := fun i hi => by have := hp i hi; have := hbd_le i; omega
  by_cases q1 : j < 91
  · rw [mT_1 q1]; exact g j q1
  by_cases q2 : j < 94
  · rw [mT_z (by omega) q2]; omega
  by_cases q3 : j < 101
  · rw [show j = 94 + (j - 94) by omega, mT_st (by omega)]; exact g _ (by omega)
  by_cases q4 : j < 108
  · rw [show j = 101 + (j - 101) by omega, mT_sp (by omega)]; exact g _ (by omega)
  by_cases q5 : j < 114
  · rw [show j = 108 + (j - 108) by omega, mT_at (by omega)]; exact g _ (by omega)
  by_cases q6 : j < 120
  · rw [show j = 114 + (j - 114) by omega, mT_ln (by omega)]; exact g _ (by omega)
  by_cases q7 : j < 319
  · rw [mT_r (by omega) q7]; omega
  · rw [mT_o (by omega)]; exact ht j
theorem mT_tok {B : Nat} (hB : 4096 ≤ B) (hB9 : B ≤ 2 ^ 30) (ht : ∀ j, t j < B) (hp : ∀ j, j < 91 → h j ≤ hbd j) (hm : MH h) : TOK (mapT t h) B := by
  have hlt := mT_lt hB ht hp
  obtain ⟨hb, h0, h1, h2, hR, hP, hS⟩ := hm
  refine ⟨⟨⟨⟨fun j => Nat.lt_of_lt_of_le (hlt j) hB9, ?_, ?_, ?_, fun r hr => ?_, fun q hq => ?_, ?_, ?_, fun l hl => ?_⟩, hlt⟩, fun l hl => ?_, fun q hq => ?_⟩, ⟨?_, ⟨0, ?_⟩, fun j hj => ?_⟩, ?_⟩
  · rw [mT_1 (by omega)]; exact h0
  · rw [mT_1 (by omega)]; exact h1
  · rw [mT_1 (by omega)]; exact h2
  · rw [mT_1 (by omega)] at hr
    rw [mT_1 (by omega), mT_1 (by omega), mT_1 (by omega)]; exact hR r hr
  · rw [mT_1 (by omega)] at hq
    have := hP q hq
    rw [mT_1 (by omega), mT_1 (by omega), mT_at (by omega), mT_ln (by omega)]
    exact ⟨this.1, this.1, this.2⟩
  · rw [mT_z (by omega) (by omega)]; omega
  · rw [mT_z (by omega) (by omega)]; exact Nat.two_pow_pos _
  · rw [mT_sp hl]; exact hS l hl
  · have e1 := hp (3 + l) (by omega)
    have e2 := hp (10 + l) (by omega)
    rw [hbd_t (by omega)] at e1
    rw [hbd_t3 hl] at e2
    rw [mT_1 (by omega), mT_1 (by omega)]; exact ⟨e1, e2⟩
  · have e1 := hp (85 + q) (by omega)
    rw [hbd_p hq] at e1
    rw [mT_ln hq]; exact e1
  · rw [mT_r (by omega) (by omega)]; omega
  · rw [mT_r (by omega) (by omega)]; rfl
  · rw [mT_r (j := 138) (by omega) (by omega)] at hj; omega
  · rw [mT_z (by omega) (by omega), mT_1 (by omega)]
    exact (sumF_z _ (fun q hq => mT_r (by omega) (by omega))).symm
theorem SMl.srl {c : Nat → Nat} {κ : kS} {sd : Int32} (g : SMl c h κ) (h11 : κ.1 11 = .int sd) (h0 : h 0 ≤ 7) (h2 : h 2 ≤ 6) : SRl c none (mapT t h) sd κ := by
  obtain ⟨a1, a2, a3, a4, a5, a6, a7⟩ := g
  refine ⟨a1, a2, by rw [mT_z (by omega) (by omega)]; exact a3, by rw [mT_z (by omega) (by omega)]; exact a4, h11, fun l hl => ?_, fun q hq => ?_⟩
  · rw [mT_1 (by omega)] at hl
    rw [mT_st (by omega), mT_sp (by omega)]; exact a5 l (by omega)
  · rw [mT_1 (by omega)] at hq
    rw [mT_at (by omega), mT_ln (by omega), mT_r (by omega) (by omega), mT_r (by omega) (by omega), mT_r (by omega) (by omega)]
    exact ⟨(a6 q hq).1, (a6 q hq).2, a7 q (by omega)⟩
theorem ZR.sm {c : Nat → Nat} {κ : kS} (g : ZR c κ 7 6) (hz : ∀ j, j < 91 → h j = 0) : SMl c h κ := by
  obtain ⟨a1, a2, a3, a4, a5, a6, a7⟩ := g
  refine ⟨a1, a2, a3, a4, fun l hl => ?_, fun q hq => ?_, fun q hq => ?_⟩
  · rw [hz _ (by omega), hz _ (by omega)]; exact a6 l hl
  · rw [hz 2 (by omega)] at hq; omega
  · exact (a7 q hq).2.2
theorem CRl_z {NM : Nat → Int64} (hz : ∀ j, j < 91 → h j = 0) : CRl h NM (kZ [.int (nI 0), .int (nI 0), .int (nI 0), .null, .null, .null, .null, .null, .null, .null, .null, .null, .null]) := by
  refine ⟨by rw [hz 0 (by omega)]; rfl, by rw [hz 1 (by omega)]; rfl, by rw [hz 2 (by omega)]; rfl, fun k hk => ?_, fun r hr => ?_, fun j hj => ?_, fun k hk => ?_⟩
  · rw [hz 0 (by omega)] at hk; omega
  · rw [hz 1 (by omega)] at hr; omega
  · unfold betw roadF
    rw [hz 1 (by omega)]; rfl
  · rw [hz 2 (by omega)] at hk; omega
end MPT
theorem mapB_z {σ : mS} {n j : Nat} (hj : j < 91) : (mapB σ n).2.1 7 j = 0 := by
  show cpF (σ.2.1 7) (fun _ => 0) 0 0 91 j = 0
  rw [cpF_in (by omega)]
theorem mapB_o {σ : mS} {n k : Nat} (hk : rk k = false) (h0 : ¬ k = 0) (h2 : ¬ k = 2) : (mapB σ n).1 k = σ.1 k := by
  have g : ∀ i, rk i = true → ¬ k = i := fun i hi e => by subst e; rw [hk] at hi; cases hi
  show (mI (mI (mI (takenS (mI σ 0 (nI 0)) n 900) 15 (nI 0)) 19 (nI 0)) 20 (nI 0)).1 k = _
  rw [mI_o _ _ _ _ (g 20 rfl), mI_o _ _ _ _ (g 19 rfl), mI_o _ _ _ _ (g 15 rfl)]
  exact taken_o hk h0 h2
theorem mapR_rf {σ : mS} {n : Nat} : RF true (mapB σ n) (mapR σ n).2 := RF.map _ _ (RF.rf _ _).nx
theorem mapR_rj {σ : mS} {n : Nat} : RJ σ (mapR σ n).2 := by
  have h := mapR_rf (σ := σ) (n := n)
  refine ⟨fun k a1 a2 a3 => (h.1 k a1).trans (mapB_o a1 a2 a3), fun k a1 a2 a3 => (h.2.1 k a1 a2 a3).trans ?_, h.2.2.2.1, fun k a1 => h.2.2.2.2.1 k a1, fun j hj => h.2.2.2.2.2.1 j hj⟩
  show upN σ.2.1 7 _ k = _
  exact upN_n _ _ _ _ a1
theorem mapR_pb {σ : mS} {n : Nat} (hv : PV (mapB σ n)) (hb : ∀ j, σ.2.1 7 j < 2 ^ 30) : PB (mapR σ n).2 := by
  refine PB.map _ _ (PB.nx ⟨⟨hv, fun j => ?_, by rw [mapB_z (by omega)]; omega, by rw [mapB_z (by omega)]; omega, by rw [mapB_z (by omega)]; omega⟩, fun j hj => by rw [mapB_z hj]; omega⟩)
  by_cases q : j < 91
  · rw [mapB_z q]; exact Nat.two_pow_pos 30
  · show cpF (σ.2.1 7) (fun _ => 0) 0 0 91 j < 2 ^ 30
    rw [cpF_out (by omega)]; exact hb j
theorem J.up4 {ae : Nat → Nat} {kd : Nat → Bool} {ad : Nat → Nat → Nat} {κ : Nat → kS} {n : Nat} {σ : mS} {B : Nat} {k4 : kS} (h4 : k4.1 0 = .ref (ad 1 13) ∧ k4.1 1 = .ref (ad 3 12)) (h : J ae kd ad κ n σ B) : J ae kd ad (upN κ 4 k4) n σ B := by
  obtain ⟨hn, hMain, hSub, hTape, hR10, hR11, hR12, hR13, hMisc, hRef, hB5, jc, NM, sn, sd, m, pn, im, hCht, hSR, hSnt, hTok, hPast, hPm, hSds, hImg⟩ := id h
  exact ⟨hn, hMain, ⟨hSub.1, h4, hSub.2.2⟩, hTape, hR10, hR11, hR12, hR13, hMisc, hRef, hB5, jc, NM, sn, sd, m, pn, im, (jSt.up (i := 4) (by omega) (by omega) (by omega) ⟨hCht, hSR, hSnt, hTok, hPast, hPm, hSds, hImg⟩)⟩
/-- a new map -/
theorem J.map {ae : Nat → Nat} {kd : Nat → Bool} {ad : Nat → Nat → Nat} {κ : Nat → kS} {n : Nat} {s : mS} {B : Nat} {a : Nat → Nat} {kc k2 k0 : kS} {NM : Nat → Int64} {sd : Int32} (hB9 : B ≤ 2 ^ 30) (h : J ae kd ad κ n s B) (hpb : ∀ j, j < 91 → s.2.1 7 j ≤ hbd j) (hmh : MH (s.2.1 7)) (hc : CRl (s.2.1 7) NM kc) (hnm : NMs s NM) (hs : SRl a none (mapT (s.2.1 6) (s.2.1 7)) sd k2) (hF : ∀ f, ¬ f = 5 → k0.1 f = (κ 0).1 f) (hA : k0.2 = (κ 0).2) (h5 : k0.1 5 = .int (nI 0)) : J ae (upN kd n true) (upN ad n a) (upN (upN (upN κ 2 k2) 0 k0) n kc) (n + 1) (mapE s) B := by
  have hJg : J ae (upN kd n true) (upN ad n a) (upN κ n kc) (n + 1) s B := h.grow
  obtain ⟨hn24, -⟩ := id h
  have ec : upN (upN (upN κ 2 k2) 0 k0) n kc = upN (upN (upN κ n kc) 2 k2) 0 k0 := by
    rw [upN_sw (i := 0) (j := n) (by omega), upN_sw (i := 2) (j := n) (by omega)]
  rw [ec]
  obtain ⟨hn, hMain, hSub, hTape, hR10, hR11, hR12, hR13, hMisc, hRef, hB5, jc, NM1, sn, sd1, m, pn, im, hCht, hSR, hSnt, hTok, hPast, hPm, hSds, hImg⟩ := id hJg
  have e0 : upN κ n kc 0 = κ 0 := upN_n _ _ _ _ (by omega)
  rw [e0] at hMain hMisc
  have hmain' : jMain (upN ad n a) k0 := by
    unfold jMain at *
    rw [hF 0 (by decide), hF 1 (by decide), hF 2 (by decide), hF 8 (by decide), hF 9 (by decide), hF 11 (by decide), hF 12 (by decide), hF 13 (by decide), hF 14 (by decide), hF 15 (by decide), hF 16 (by decide), hA]
    exact hMain
  have hmisc' : jMisc k0 (mapE s) := by
    unfold jMisc at *
    rw [hF 17 (by decide), hF 18 (by decide), hF 19 (by decide), hA]
    exact hMisc
  obtain ⟨hb, h0, h1, h2, hR, hP, hS⟩ := id hmh
  have hT : TOK ((mapE s).2.1 6) B := mT_tok hB5 hB9 hTok.1.1.2 hpb hmh
  have g : ∀ i, ¬ i = 0 → ¬ i = 2 → upN (upN (upN κ n kc) 2 k2) 0 k0 i = upN κ n kc i := fun i q1 q2 => by rw [upN_n _ _ _ _ q1, upN_n _ _ _ _ q2]
  obtain ⟨i1, i2, i3, i4, i5⟩ := hImg
  have hC' : CHT (upN kd n true) (upN (upN (upN κ n kc) 2 k2) 0 k0) (n + 1) n ((mapE s).2.1 6) ((mapE s).2.2.2.2 9) NM := by
    refine ⟨hn24, Nat.lt_succ_self n, upN_s _ _ _, ?_, fun k hk => ?_, fun k hk => ?_⟩
    · rw [g n (by omega) (by omega), upN_s]; exact CRl_cong hc h0 h1 h2 (fun j hj => mT_1 hj)
    · have hk' : k < s.2.1 7 0 := by rw [← mT_1 (t := s.2.1 6) (h := s.2.1 7) (by omega : 0 < 91)]; exact hk
      show NMR (cpG (s.2.2.2.2 9) (s.2.2.2.2 9) 0 13 13 k) (NM k)
      unfold cpG
      rw [if_pos (by omega), Nat.sub_zero]; exact hnm.1 k hk'
    · have hk' : k < s.2.1 7 2 := by rw [← mT_1 (t := s.2.1 6) (h := s.2.1 7) (by omega : 2 < 91)]; exact hk
      show NMR (cpG (s.2.2.2.2 9) (s.2.2.2.2 9) 0 13 13 (7 + k)) (NM (7 + k))
      unfold cpG
      rw [if_pos (by omega), show 13 + (7 + k - 0) = 20 + k by omega]; exact hnm.2 k hk'
  refine ⟨hn, by rw [upN_s]; exact hmain', ?_, ?_, ?_, ?_, ?_, ?_, by rw [upN_s]; exact hmisc', hRef, hB5, n, NM, none, sd, 0, pn, im, hC', by rw [upN_s, upN_n _ _ _ _ (by decide), upN_s]; exact hs, Or.inl ⟨(show mapT (s.2.1 6) (s.2.1 7) 138 = 0 from mT_r (by omega) (by omega)), rfl⟩, hT, fun i hi => absurd hi (Nat.not_lt_zero _), ⟨rfl, ?_, by rw [upN_s]; exact h5, by omega, hPm.2.2.2.2⟩, fun i q1 q2 => ?_, ?_, i2, i3, i4, fun k hk hp => ?_⟩
  · rw [g 3 (by decide) (by decide), g 4 (by decide) (by decide), g 5 (by decide) (by decide), g 6 (by decide) (by decide), g 7 (by decide) (by decide), g 8 (by decide) (by decide), g 9 (by decide) (by decide)]; exact hSub
  · rw [g 1 (by decide) (by decide)]; exact hTape
  · rw [g 10 (by decide) (by decide)]; exact hR10
  · rw [g 11 (by decide) (by decide)]; exact hR11
  · rw [g 12 (by decide) (by decide)]; exact hR12
  · rw [g 13 (by decide) (by decide)]; exact hR13
  · rw [upN_s, hF 4 (by decide), ← e0]; exact hPm.2.1
  · rw [g i (by omega) (by omega)]; exact hSds i q1 q2
  · rw [upN_s, hF 7 (by decide), ← e0]; exact i1
  · obtain ⟨b1, b2⟩ := i5 k hk hp
    rw [g _ (by omega) (by omega)]
    exact ⟨(b1.up (by decide)).up (by decide), b2⟩
theorem oi_X11_68 : xINok MX3_init 0 := ⟨(gtbl_in (List.mem_of_getElem? (i := 224) (by decide +kernel)) rfl), (gtbl_in (List.mem_of_getElem? (i := 223) (by decide +kernel)) rfl), tw_113, by decide +kernel, by decide, rfl, rfl⟩
set_option maxHeartbeats 1000000 in
set_option maxRecDepth 20000 in
theorem x_map {G : xG} {d : Nat} {Q : xQ} {ae : Nat → Nat} {tw ts : Nat} {kd : Nat → Bool} {ad : Nat → Nat → Nat} {κ : Nat → kS} {n : Nat} {σ : mS} {B : Nat} {R : va_W} (hE : EB ae tw ts G) (hNB : NB G) (hAO : AO G) (hJ : J ae kd ad κ n σ B) (hB9 : B ≤ 2 ^ 30) (kk : ∀ n1 kd9 ad9 κ9, σ.1 2 = nI n1 → n1 ≤ 940 → ad9 0 = ad 0 → J ae kd9 ad9 κ9 (n + 1) (mapS σ n1) B → Q (some (.int (mapA σ n1))) (WX G.2.2.1 kd9 ad9 κ9 (n + 1) [] ++ R)) : MT G MX11_map (d + 7) 11 143 [.ref ((ad 0) 20)] (WX G.2.2.1 kd ad κ n [] ++ R) Q := by
  obtain ⟨hn, hMain, hSub, hTape, hR10, hR11, hR12, hR13, hMisc, hRef, hB5, jc, NM, sn, sd, m, pn, im, hCht, hSR, hSnt, hTok, hPast, hPm, hSds, hImg⟩ := id hJ
  have hw : WT (σ.2.1 6) := hTok.1.1.1
  have hI := ov_0 (G := G) (kd := kd) (ad := ad) (κ := κ) (xs := []) (R := R) (by omega : 0 < n) (by simp)
  have hTp := ov_1 (G := G) (kd := kd) (ad := ad) (κ := κ) (xs := []) (R := R) (by omega : 1 < n) (by simp)
  have hS := st_2 (G := G) (kd := kd) (ad := ad) (n := n) (xs := []) (R := R) hSR hw (by omega) (by simp)
  have hC : CHR G (WX G.2.2.1 kd ad κ n [] ++ R) (ad jc) (σ.2.1 6) NM := (hCht.chr (ad := ad) hw (fun i hi => by simp at hi)).sub mem_R1
  obtain ⟨hb, h0, h1, h2, hRd, hP, hD, hCl, hT⟩ := id hw
  obtain ⟨sd9, hSo, hS2, hS3, hS6, hS7, hS8, hS9, hS10⟩ := id hS
  obtain ⟨n1, hTB, hlen, hflt⟩ := id hTape
  have hT9 := hTB.2.1
  have hv := PV_mapB (σ := σ) hT9 hRef.2.2.1 hRef.2.2.2.1 hRef.2.2.2.2.1
  replace kk := kk n1
  obtain ⟨sd3, hsd3⟩ := hSub.1
  refine mt_start (L := [some (.ref ((ad 0) 20)), none]) rfl (Nat.le_of_ble_eq_true rfl) rfl ?_
  refine aw_aload_n (pc := 0) (i := 0) dX11_map_0 rfl rfl ?_
  refine av_get (pc := 1) (x := .ref ((ad 3) 12)) dX11_map_1 rfl og_X11_76 rfl hI hMain.2.2.1 ?_
  refine aw_new (pc := 4) (fs := [.int 0, .int 0, .int 0, .null, .null, .null, .null, .null, .null, .null, .null, .null, .null]) (T := TX3) (ty := tyX3) dX11_map_4 rfl (gtbl_in (List.mem_of_getElem? (i := 220) (by decide +kernel)) rfl) (gtbl_in (List.mem_of_getElem? (i := 221) (by decide +kernel)) rfl) tw_113 inGX3 tyX3_ok (ci := 2) rfl (fun j hj => by have hj : j < 13 := hj; rcases (show j = 0 ∨ j = 1 ∨ j = 2 ∨ j = 3 ∨ j = 4 ∨ j = 5 ∨ j = 6 ∨ j = 7 ∨ j = 8 ∨ j = 9 ∨ j = 10 ∨ j = 11 ∨ j = 12 by omega) with rfl | rfl | rfl | rfl | rfl | rfl | rfl | rfl | rfl | rfl | rfl | rfl | rfl <;> rfl) (by decide) (by decide) (fun q4 => ?_)
  refine aw_dup (pc := 7) dX11_map_7 rfl ?_
  refine aw_cIN (pc := 8) (As := []) (rest := [.ref q4, .ref ((ad 3) 12)]) dX11_map_8 rfl oi_X11_68 hNB.i3 rfl rfl (Nat.le_of_ble_eq_true rfl) (by decide) (by decide) (i_X3 (fun a9 ha9 => ⟨rfl, ?_⟩))
  subst ha9
  refine aw_perm (List.perm_append_comm_assoc _ _ _) ?_
  refine aw_pull5 (p1 := 0) (p2 := 2) (p3 := 4) (p4 := 3) (p5 := 1) (by omega) (by omega) (by omega) (by omega) (by omega) (by decide) (by decide) (by decide) (by decide) (by decide) (by decide) (by decide) (by decide) (by decide) (by decide) ?_
  refine aw_ws (w9 := (wIb G.2.2.1 (ad 0) (κ 0) ++ (wSt G.2.2.1 (ad 2) (κ 2) ++ (wMt G.2.2.1 (ad 4) (κ 4) ++ (wSt G.2.2.1 (ad 3) (κ 3) ++ (wTp G.2.2.1 (ad 1) (κ 1) ++ (WX G.2.2.1 kd ad κ n [1, 3, 4, 2, 0] ++ (wCh G.2.2.1 a9 (kZ [.int (nI 0), .int (nI 0), .int (nI 0), .null, .null, .null, .null, .null, .null, .null, .null, .null, .null]) ++ R)))))))) rfl ?_
  refine aw_front6 ?_
  have hz7 : ∀ j, j < 91 → (mapB σ n1).2.1 7 j = 0 := fun j hj => mapB_z hj
  refine aw_swap5 ?_
  refine cVv (pc := 11) (As := [.ref (a9 13)]) (rest := []) dX11_map_11 rfl oc_X11_119 rfl rfl (Nat.le_of_ble_eq_true rfl) rfl rfl ovX7 (Nat.le_refl _) (Nat.le_refl _) (c7_clear (c := a9) hsd3 ?_)
  intro k3 hzr
  refine ⟨rfl, ?_⟩
  refine aw_aload_n (pc := 14) (i := 0) dX11_map_14 rfl rfl ?_
  refine aw_swap3 ?_
  refine pg_X11_84 (pc := 15) (v := .ref ((ad 4) 3)) dX11_map_15 rfl hMain.2.2.2.1 ?_
  refine aw_swap5 ?_
  refine aw_swap5 ?_
  refine aw_swap3 ?_
  refine aw_swap5 ?_
  refine aw_swap5 ?_
  refine aw_swap6 ?_
  refine aw_swap6 ?_
  refine cVi (pc := 18) (As := []) (rest := []) dX11_map_18 rfl oc_X11_122 rfl rfl (Nat.le_of_ble_eq_true rfl) rfl rfl ovX4 (Nat.le_refl _) (Nat.le_refl _) (c4_read (n := n1) (NM := fun _ => 0) hE hNB hSub.2.1.1 hSub.2.1.2 hTB hv hRef.2.1 (hzr.sm hz7) (CRl_z hz7) hRef.1 ?_ ?_)
  · -- call
    intro s9 i9 kt k4 kc km NM9 es hmr hsh
    refine ⟨_, rfl, ?_⟩
    refine aw_istore_n (pc := 21) (i := 1) dX11_map_21 rfl (Nat.le_of_ble_eq_true rfl) rfl ?_
    refine aw_aload_n (pc := 22) (i := 0) dX11_map_22 rfl rfl ?_
    refine aw_swap5 ?_
    refine pg_X11_10 (pc := 23) (v := .ref ((ad 1) 13)) dX11_map_23 rfl hMain.1 ?_
    refine aw_iconst (pc := 26) dX11_map_26 iconst_0 ?_
    refine aw_swap3 ?_
    refine pp_X11_113 (pc := 27) dX11_map_27 rfl ?_
    refine aw_aload_n (pc := 30) (i := 0) dX11_map_30 rfl rfl ?_
    refine aw_swap ?_
    refine pg_X11_10 (pc := 31) (v := .ref ((ad 1) 13)) dX11_map_31 rfl hMain.1 ?_
    refine aw_swap ?_
    refine pg_X11_126 (pc := 34) (v := .int (nI 0)) dX11_map_34 rfl hmr.2.1 ?_
    refine an_if_eq (pc := 37) (tgt := 50) dX11_map_37 rfl (by decide) (fun h37 => ?_) (fun h37 => absurd h37 (by decide))
    refine aw_aload_n (pc := 50) (i := 0) dX11_map_50 rfl rfl ?_
    refine aw_swap ?_
    refine pg_X11_72 (pc := 51) (v := .ref ((ad 2) 12)) dX11_map_51 rfl hMain.2.1 ?_
    refine aw_aload_n (pc := 54) (i := 0) dX11_map_54 rfl rfl ?_
    refine pg_X11_76 (pc := 55) (v := .ref ((ad 3) 12)) dX11_map_55 rfl hMain.2.2.1 ?_
    have hrj : RJ σ s9 := by have := mapR_rj (σ := σ) (n := n1); rw [es] at this; exact this
    have hrf : RF true (mapB σ n1) s9 := by have := mapR_rf (σ := σ) (n := n1); rw [es] at this; exact this
    have hpb : PB s9 := by have := mapR_pb (σ := σ) (n := n1) hv hRef.2.1; rw [es] at this; exact this
    obtain ⟨sdz, hsdz⟩ := hzr.2.2.2.2.1
    have h411 : k4.1 11 = .int sdz := hsh.2.1.trans hsdz
    have hmh : MH (s9.2.1 7) := hmr.2.2.2.2.2.2.1.2.1
    have hS9 : SRl a9 none (mapT (s9.2.1 6) (s9.2.1 7)) sdz k4 := hmr.2.2.1.srl h411 hmh.2.1 hmh.2.2.2.1
    refine aw_swap6 ?_
    refine aw_swap6 ?_
    refine aw_swap5 ?_
    refine aw_swap5 ?_
    refine aw_swap5 ?_
    refine aw_swap6 ?_
    refine aw_swap6 ?_
    refine cVv (pc := 58) (As := [.ref ((ad 3) 12)]) (rest := []) dX11_map_58 rfl oc_X11_132 rfl rfl (Nat.le_of_ble_eq_true rfl) rfl rfl ovX7 (Nat.le_refl _) (Nat.le_refl _) (c7_copy hSR.2.2.2.2.1 SKV.of hS9 (by rw [mT_1 (by omega)]; exact hmh.2.1) (by rw [mT_1 (by omega)]; exact hmh.2.2.2.1) ?_)
    intro k2 sd2 g2
    refine ⟨rfl, ?_⟩
    refine aw_aload_n (pc := 61) (i := 0) dX11_map_61 rfl rfl ?_
    refine aw_iconst (pc := 62) dX11_map_62 iconst_0 ?_
    refine aw_swap3 ?_
    refine pp_X11_26 (pc := 63) dX11_map_63 rfl ?_
    refine aw_iload_n (pc := 66) (i := 1) dX11_map_66 rfl rfl ?_
    refine aw_swap4 ?_
    refine aw_swap4 ?_
    refine aw_swap5 ?_
    refine aw_swap5 ?_
    refine aw_swap5 ?_
    refine aw_swap6 ?_
    refine aw_back6 ?_
    refine aw_push5 (p1 := 0) (p2 := 2) (p3 := 4) (p4 := 3) (p5 := 1) (by omega) (by omega) (by omega) (by omega) (by omega) (by decide) (by decide) (by decide) (by decide) (by decide) (by decide) (by decide) (by decide) (by decide) (by decide) ?_
    rw [← ck_ch (kd := upN kd n true) (i := n) hn (upN_s _ _ _)]
    refine aw_grow ?_
    refine aw_iret (pc := 67) dX11_map_67 rfl (Nat.le_refl _) (Nat.le_refl _) ?_
    have h27 : s9.1 2 = nI 0 := hrf.1 2 rfl
    have hJ1 : J ae kd ad (upN (upN (upN κ 1 (kF kt 1 (.int (nI 0)))) 3 k4) 4 km) n s9 B := J.up4 ⟨hsh.2.2.1.trans hSub.2.1.1, hsh.2.2.2.trans hSub.2.1.2⟩ (J.up3 h411 (J.rj hrj (fun j => hpb.1.2.1 j) hpb.1.1 ⟨0, ⟨rfl, by omega, fun i hi => by rw [hrj.2.2.1]; show kt.2.1 0 i = _; rw [hsh.1.2]; exact hTB.2.2 i hi⟩, h27, hmr.2.1.trans (congrArg _ hmr.2.2.2.2.2.2.2.2.1.symm)⟩ hJ))
    have hJ2 := J.map (a := a9) (kc := kc) (k2 := k2) (k0 := kF (κ 0) 5 (.int (nI 0))) hB9 hJ1 hpb.2 hmh hmr.2.2.2.1 hmr.2.2.2.2.2.2.2.1 g2 (fun f hf => by show upN (κ 0).1 5 _ f = _; rw [upN_n _ _ _ _ hf]; rfl) rfl rfl
    have := kk (upN kd n true) (upN ad n a9) _ hlen hT9 (upN_n _ _ _ _ (by omega)) (by rw [show mapS σ n1 = mapE s9 by unfold mapS; rw [es]; exact if_pos rfl]; exact hJ2)
    rw [show mapA σ n1 = nI i9 by unfold mapA; rw [es]; exact (if_pos rfl).trans hmr.2.2.2.2.2.2.2.2.2] at this
    exact this
  · -- call
    intro s9 kt k4 kc km i9 es hfr hsh
    refine ⟨_, rfl, ?_⟩
    obtain ⟨k9, hk1, hk2, hk3⟩ : ∃ k, 1 ≤ k ∧ k ≤ 4 ∧ s9.1 15 = nI k := by
      have := BD_mapL 2000 (nx (mapB σ n1)) (mz_2k (PV_nx hv)) (LV_nx (LV_mapB hv hRef.2.1))
      rw [show mapL 2000 (nx (mapB σ n1)) = (false, s9) from es] at this
      exact this rfl
    refine aw_istore_n (pc := 21) (i := 1) dX11_map_21 rfl (Nat.le_of_ble_eq_true rfl) rfl ?_
    refine aw_aload_n (pc := 22) (i := 0) dX11_map_22 rfl rfl ?_
    refine aw_swap5 ?_
    refine pg_X11_10 (pc := 23) (v := .ref ((ad 1) 13)) dX11_map_23 rfl hMain.1 ?_
    refine aw_iconst (pc := 26) dX11_map_26 iconst_0 ?_
    refine aw_swap3 ?_
    refine pp_X11_113 (pc := 27) dX11_map_27 rfl ?_
    refine aw_aload_n (pc := 30) (i := 0) dX11_map_30 rfl rfl ?_
    refine aw_swap ?_
    refine pg_X11_10 (pc := 31) (v := .ref ((ad 1) 13)) dX11_map_31 rfl hMain.1 ?_
    refine aw_swap ?_
    refine pg_X11_126 (pc := 34) (v := .int (nI k9)) dX11_map_34 rfl (hfr.1.trans (congrArg _ hk3)) ?_
    refine an_if_eq (pc := 37) (tgt := 50) dX11_map_37 rfl (by omega) (fun h37 => ?_) (fun h37 => ?_)
    · -- 50
      exfalso; omega
    · -- 40
      refine aw_iconst (pc := 40) dX11_map_40 iconst_m1 ?_
      refine aw_aload_n (pc := 41) (i := 0) dX11_map_41 rfl rfl ?_
      refine aw_swap ?_
      refine pg_X11_10 (pc := 42) (v := .ref ((ad 1) 13)) dX11_map_42 rfl hMain.1 ?_
      refine aw_swap ?_
      refine pg_X11_129 (pc := 45) (v := .int (s9.1 16)) dX11_map_45 rfl hfr.2 ?_
      refine aw_isub (pc := 48) dX11_map_48 ?_
      refine aw_swap4 ?_
      refine aw_swap4 ?_
      refine aw_swap6 ?_
      refine aw_swap5 ?_
      refine aw_swap6 ?_
      refine aw_back6 ?_
      refine aw_push5 (p1 := 0) (p2 := 2) (p3 := 4) (p4 := 3) (p5 := 1) (by omega) (by omega) (by omega) (by omega) (by omega) (by decide) (by decide) (by decide) (by decide) (by decide) (by decide) (by decide) (by decide) (by decide) (by decide) ?_
      rw [← ck_ch (kd := upN kd n true) (i := n) hn (upN_s _ _ _)]
      refine aw_grow ?_
      refine aw_iret (pc := 49) dX11_map_49 rfl (Nat.le_refl _) (Nat.le_refl _) ?_
      have hrj : RJ σ s9 := by have := mapR_rj (σ := σ) (n := n1); rw [es] at this; exact this
      have hrf : RF true (mapB σ n1) s9 := by have := mapR_rf (σ := σ) (n := n1); rw [es] at this; exact this
      have hpb : PB s9 := by have := mapR_pb (σ := σ) (n := n1) hv hRef.2.1; rw [es] at this; exact this
      obtain ⟨sdz, hsdz⟩ := hzr.2.2.2.2.1
      have h411 : k4.1 11 = .int sdz := hsh.2.1.trans hsdz
      have h27 : s9.1 2 = nI 0 := hrf.1 2 rfl
      have hJ1 : J ae kd ad (upN (upN (upN κ 1 (kF kt 1 (.int (nI 0)))) 3 k4) 4 km) n s9 B := J.up4 ⟨hsh.2.2.1.trans hSub.2.1.1, hsh.2.2.2.trans hSub.2.1.2⟩ (J.up3 h411 (J.rj hrj (fun j => hpb.1.2.1 j) hpb.1.1 ⟨0, ⟨rfl, by omega, fun i hi => by rw [hrj.2.2.1]; show kt.2.1 0 i = _; rw [hsh.1.2]; exact hTB.2.2 i hi⟩, h27, hfr.1⟩ hJ))
      have := kk (upN kd n true) (upN ad n a9) (upN (upN (upN (upN κ 1 (kF kt 1 (.int (nI 0)))) 3 k4) 4 km) n kc) hlen hT9 (upN_n _ _ _ _ (by omega)) (by rw [show mapS σ n1 = s9 by unfold mapS; rw [es]; exact if_neg Bool.false_ne_true]; exact hJ1.grow)
      rw [show mapA σ n1 = (-1) - s9.1 16 by unfold mapA; rw [es]; exact if_neg Bool.false_ne_true] at this
      rw [upN_id (upN (upN (upN (upN κ 1 (kF kt 1 (.int (nI 0)))) 3 k4) 4 km) 2 (κ 2)) 0 (v := κ 0) rfl, upN_id (upN (upN (upN κ 1 (kF kt 1 (.int (nI 0)))) 3 k4) 4 km) 2 (v := κ 2) rfl]
      exact this
