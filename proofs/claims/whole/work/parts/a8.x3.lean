section JUP
variable {ae : Nat → Nat} {kd : Nat → Bool} {ad : Nat → Nat → Nat} {κ : Nat → kS} {n : Nat} {σ : mS} {B : Nat}
theorem CHT.up {i jc : Nat} {k : kS} {t : Nat → Nat} {nm NM : Nat → Int64} (hi : i < 24) (h : CHT kd κ n jc t nm NM) : CHT kd (upN κ i k) n jc t nm NM := ⟨h.1, h.2.1, h.2.2.1, by rw [upN_n _ _ _ _ (by have := h.1; omega)]; exact h.2.2.2.1, h.2.2.2.2⟩
theorem SNT.up {i : Nat} {k : kS} {t : Nat → Nat} {sn : Option Nat} (hi : i < 24) (h : SNT ae kd ad κ n t sn) : SNT ae kd ad (upN κ i k) n t sn := by
  rcases h with h | ⟨h1, jx, a1, a2, a3, a4, a5, a6⟩
  · exact Or.inl h
  · exact Or.inr ⟨h1, jx, a1, a2, a3, a4, by rw [upN_n _ _ _ _ (by omega)]; exact a5, by rw [upN_n _ _ _ _ (by omega)]; exact a6⟩
theorem ST1.up {i : Nat} {k : kS} {t : Nat → Nat} {nm : Nat → Int64} {κs : kS} (hi : i < 24) (h : ST1 ae kd ad κ n t nm κs) : ST1 ae kd ad (upN κ i k) n t nm κs := by
  obtain ⟨jc, NM, sn, sd, a1, a2, a3⟩ := h
  exact ⟨jc, NM, sn, sd, a1.up hi, a2, a3.up hi⟩
theorem jPast.up {i jc m pn : Nat} {k : kS} {t un : Nat → Nat} (hi : i < 14 ∨ 22 ≤ i) (h : jPast ad κ jc t un m pn B) : jPast ad (upN κ i k) jc t un m pn B := fun j hj => by
  obtain ⟨⟨sn, sd, a1⟩, a2⟩ := h j hj
  exact ⟨⟨sn, sd, by rw [upN_n _ _ _ _ (by unfold paI; omega)]; exact a1⟩, a2⟩
theorem jImg.up {i im : Nat} {k : kS} (hi : i < 22) (h0 : ¬ i = 0) (h : jImg ae kd ad κ n σ B im) : jImg ae kd ad (upN κ i k) n σ B im := by
  obtain ⟨a1, a2, a3, a4, a5⟩ := h
  refine ⟨by rw [upN_n _ _ _ _ (by omega)]; exact a1, a2, a3, a4, fun j hj hp => ?_⟩
  obtain ⟨b1, b2⟩ := a5 j hj hp
  exact ⟨by rw [upN_n _ _ _ _ (by omega)]; exact b1.up (by omega), b2⟩
theorem jSt.up {i jc m pn im : Nat} {k : kS} {NM : Nat → Int64} {sn : Option Nat} {sd : Int32} (hi : i < 14) (h0 : ¬ i = 0) (h2 : ¬ i = 2) (h : jSt ae kd ad κ n σ B jc NM sn sd m pn im) : jSt ae kd ad (upN κ i k) n σ B jc NM sn sd m pn im := by
  obtain ⟨a1, a2, a3, a4, a5, ⟨b1, b2, b3, b4⟩, a7, a8⟩ := h
  exact ⟨a1.up (by omega), by rw [upN_n _ _ _ _ (by omega)]; exact a2, a3.up (by omega), a4, a5.up (by omega), ⟨b1, by rw [upN_n _ _ _ _ (by omega)]; exact b2, by rw [upN_n _ _ _ _ (by omega)]; exact b3, b4⟩, fun j h1 h9 => by rw [upN_n _ _ _ _ (by omega)]; exact a7 j h1 h9, a8.up (by omega) h0⟩
end JUP
theorem CRl_cong {t u : Nat → Nat} {NM : Nat → Int64} {κ : kS} (h : CRl t NM κ) (h0 : t 0 ≤ 7) (h1 : t 1 ≤ 12) (h2 : t 2 ≤ 6) (e : ∀ j, j < 91 → u j = t j) : CRl u NM κ := by
  obtain ⟨a1, a2, a3, a4, a5, a6, a7⟩ := h
  unfold CRl
  rw [e 0 (by omega), e 1 (by omega), e 2 (by omega)]
  refine ⟨a1, a2, a3, fun k hk => ?_, fun r hr => ?_, fun j hj => ?_, fun k hk => ?_⟩
  · obtain ⟨b1, b2, b3⟩ := a4 k hk
    exact ⟨b1, by rw [e _ (by omega)]; exact b2, by rw [e _ (by omega)]; exact b3⟩
  · obtain ⟨b1, b2, b3, b4⟩ := a5 r hr
    exact ⟨by rw [e _ (by omega)]; exact b1, by rw [e _ (by omega)]; exact b2, by rw [e _ (by omega)]; exact b3, by rw [e _ (by omega)]; exact b4⟩
  · rw [a6 j hj]
    unfold betw
    rw [roadF_of (h := t) (u := u) (e 1 (by omega)) h1 (fun r hr => ⟨e _ (by omega), e _ (by omega)⟩)]
  · obtain ⟨b1, b2⟩ := a7 k hk
    exact ⟨b1, by rw [e _ (by omega)]; exact b2⟩
theorem CHT_cong {kd : Nat → Bool} {κ : Nat → kS} {n jc : Nat} {t u : Nat → Nat} {nm nm' NM : Nat → Int64} (h : CHT kd κ n jc t nm NM) (h0 : t 0 ≤ 7) (h1 : t 1 ≤ 12) (h2 : t 2 ≤ 6) (e : ∀ j, j < 91 → u j = t j) (en : ∀ j, j < 13 → nm' j = nm j) : CHT kd κ n jc u nm' NM := by
  obtain ⟨a1, a2, a3, a4, a5, a6⟩ := h
  refine ⟨a1, a2, a3, CRl_cong a4 h0 h1 h2 e, fun k hk => ?_, fun k hk => ?_⟩
  · rw [e 0 (by omega)] at hk; rw [en _ (by omega)]; exact a5 k hk
  · rw [e 2 (by omega)] at hk; rw [en _ (by omega)]; exact a6 k hk
theorem SNT_cong {ae : Nat → Nat} {kd : Nat → Bool} {ad : Nat → Nat → Nat} {κ : Nat → kS} {n : Nat} {t u : Nat → Nat} {sn : Option Nat} (h : SNT ae kd ad κ n t sn) (h40 : t 138 ≤ 40) (e : ∀ j, 138 ≤ j → j < 319 → u j = t j) : SNT ae kd ad κ n u sn := by
  unfold SNT
  rw [e 138 (by omega) (by omega)]
  rcases h with h | ⟨h1, jx, a1, a2, a3, a4, a5, a6⟩
  · exact Or.inl h
  · refine Or.inr ⟨h1, jx, a1, a2, a3, a4, a5, fun i hi => ?_⟩
    obtain ⟨w, b1, b2, b3, b4, b5, b6⟩ := a6 i hi
    exact ⟨w, b1, b2, b3, by rw [e _ (by omega) (by omega)]; exact b4, by rw [e _ (by omega) (by omega)]; exact b5, by rw [e _ (by omega) (by omega)]; exact b6⟩
theorem SRl_cong {c : Nat → Nat} {sn : Option Nat} {t u : Nat → Nat} {sd : Int32} {κ : kS} (h : SRl c sn t sd κ) (h0 : t 0 ≤ 7) (h2 : t 2 ≤ 6) (e : ∀ j, j < 138 → u j = t j) : SRl c sn u sd κ := by
  obtain ⟨a1, a2, a3, a4, a5, a6, a7⟩ := h
  unfold SRl
  rw [e 93 (by omega), e 91 (by omega), e 0 (by omega), e 2 (by omega)]
  refine ⟨a1, a2, a3, a4, a5, fun l hl => ?_, fun q hq => ?_⟩
  · obtain ⟨b1, b2⟩ := a6 l hl
    exact ⟨by rw [e _ (by omega)]; exact b1, by rw [e _ (by omega)]; exact b2⟩
  · obtain ⟨b1, b2, b3, b4, b5⟩ := a7 q hq
    exact ⟨by rw [e _ (by omega)]; exact b1, by rw [e _ (by omega)]; exact b2, by rw [e _ (by omega)]; exact b3, by rw [e _ (by omega)]; exact b4, by rw [e _ (by omega)]; exact b5⟩
theorem WT_cong {t u : Nat → Nat} (h : WT t) (hu : ∀ j, u j < 2 ^ 30) (e : ∀ j, j < 138 → u j = t j) : WT u := by
  obtain ⟨hb, h0, h1, h2, hR, hP, hD, hC, hT⟩ := h
  have e0 := e 0 (by omega)
  have e1 := e 1 (by omega)
  have e2 := e 2 (by omega)
  refine ⟨hu, by omega, by omega, by omega, fun r hr => ?_, fun q hq => ?_, by rw [e 91 (by omega)]; exact hD, by rw [e 93 (by omega), e1]; exact hC, fun l hl => by rw [e _ (by omega)]; exact hT l hl⟩
  · rw [e (24 + r) (by omega), e (36 + r) (by omega), e0]; exact hR r (by omega)
  · rw [e (79 + q) (by omega), e (108 + q) (by omega), e (114 + q) (by omega), e0]; exact hP q (by omega)
theorem WV_cong {t u : Nat → Nat} {b : Nat} (h : WV t b) (hu : ∀ j, u j < b) (hb : b ≤ 2 ^ 30) (e : ∀ j, j < 138 → u j = t j) : WV u b := ⟨⟨WT_cong h.1.1 (fun j => Nat.lt_of_lt_of_le (hu j) hb) e, hu⟩, fun l hl => by rw [e _ (by omega), e _ (by omega)]; exact h.2.1 l hl, fun q hq => by rw [e _ (by omega)]; exact h.2.2 q hq⟩
theorem TOK_mono {t : Nat → Nat} {b b' : Nat} (h : TOK t b) (hb : b ≤ b') : TOK t b' := ⟨WV_mono h.1 hb, h.2⟩
theorem sumF_cong {f g : Nat → Nat} : ∀ n, (∀ q, q < n → f q = g q) → sumF f n = sumF g n := by
  intro n
  induction n with
  | zero => intro _; rfl
  | succ n ih => intro h; rw [sumF, sumF, ih (fun q hq => h q (by omega)), h n (by omega)]
theorem paT_in {t un : Nat → Nat} {i j : Nat} (h : 91 ≤ j ∧ j < 138) : paT t un i j = un (47 * i + (j - 91)) := by unfold paT cpF; rw [if_pos (by omega)]
theorem paT_out {t un : Nat → Nat} {i j : Nat} (h : ¬ (91 ≤ j ∧ j < 138)) : paT t un i j = t j := by unfold paT cpF; rw [if_neg (by omega)]
theorem paT_cong {t u un : Nat → Nat} {i : Nat} (e : ∀ j, ¬ (91 ≤ j ∧ j < 138) → u j = t j) : paT u un i = paT t un i := by
  funext j
  by_cases h : 91 ≤ j ∧ j < 138
  · rw [paT_in h, paT_in h]
  · rw [paT_out h, paT_out h, e j h]
theorem jImg_mono {ae : Nat → Nat} {kd : Nat → Bool} {ad : Nat → Nat → Nat} {κ : Nat → kS} {n : Nat} {σ : mS} {B B' im : Nat} (h : jImg ae kd ad κ n σ B im) (hb : B ≤ B') : jImg ae kd ad κ n σ B' im := ⟨h.1, h.2.1, h.2.2.1, h.2.2.2.1, fun k hk hp => ⟨(h.2.2.2.2 k hk hp).1, TOK_mono (h.2.2.2.2 k hk hp).2 hb⟩⟩
/-- an act changes what is so on a day alone -/
theorem J.act {ae : Nat → Nat} {kd : Nat → Bool} {ad : Nat → Nat → Nat} {κ : Nat → kS} {n : Nat} {σ : mS} {B B' : Nat} {u : Nat → Nat} {k2 : kS} (h : J ae kd ad κ n σ B) (e : ∀ j, ¬ (91 ≤ j ∧ j < 138) → u j = σ.2.1 6 j) (hu : WV u B') (h92 : u 92 = sumF (fun q => u (132 + q)) (u 2)) (hB : B ≤ B') (hS : ∀ c sn sd, SRl c sn (σ.2.1 6) sd (κ 2) → ∃ sd', SRl c sn u sd' k2) : J ae kd ad (upN κ 2 k2) n (sN σ 6 u) B' := by
  obtain ⟨hn, hMain, hSub, hTape, hR10, hR11, hR12, hR13, hMisc, hRef, hB5, jc, NM, sn, sd, m, pn, im, hCht, hSR, hSnt, hTok, hPast, hPm, hSds, hImg⟩ := id h
  obtain ⟨sd', hS'⟩ := hS _ _ _ hSR
  obtain ⟨hb, h0, h1, h2, hRd, hP, hD, hCl, hT⟩ := id hTok.1.1.1
  refine ⟨hn, hMain, hSub, hTape, hR10, hR11, hR12, hR13, hMisc, hRef, Nat.le_trans hB5 hB, jc, NM, sn, sd', m, pn, im, CHT.up (by decide) (CHT_cong hCht h0 h1 h2 (fun j hj => e j (by omega)) (fun _ _ => rfl)), hS', SNT.up (by decide) (SNT_cong hSnt hTok.2.1.1 (fun j h1 _ => e j (by omega))), ⟨hu, ?_, h92⟩, ?_, hPm, fun i h1 h2 => by rw [upN_n _ _ _ _ (by omega)]; exact hSds i h1 h2, ?_⟩
  · have := hTok.2.1
    have e1 : ∀ j, 138 ≤ j → u j = σ.2.1 6 j := fun j hj => e j (by omega)
    refine ⟨by show u 138 ≤ 40; rw [e1 138 (by omega)]; exact this.1, ?_, fun j hj => by show u (139 + j) < 1024; rw [e1 _ (by omega)]; exact this.2.2 j (by have : (sN σ 6 u).2.1 6 138 = u 138 := rfl; rw [this, e1 138 (by omega)] at hj; exact hj)⟩
    show ∃ D, dpF u 139 (u 138) = some D
    rw [e1 138 (by omega)]
    obtain ⟨D, hD9⟩ := this.2.1
    exact ⟨D, by rw [← hD9]; exact dpF_cong _ (fun j h1 h2 => e1 j (by omega))⟩
  · refine jPast.up (by decide) (fun i hi => ?_)
    obtain ⟨a1, a2, a3⟩ := hPast i hi
    show (∃ sn sd, SRl (ad jc) sn (paT u (σ.2.1 21) i) sd _) ∧ WV (paT u (σ.2.1 21) i) B' ∧ paT u (σ.2.1 21) i 92 = sumF (fun q => paT u (σ.2.1 21) i (132 + q)) (u 2)
    rw [paT_cong e, e 2 (by omega)]
    exact ⟨a1, WV_mono a2 hB, a3⟩
  · exact jImg_mono (jImg.up (by decide) (by decide) hImg) hB
theorem nmI (t un : Nat → Nat) (m : Nat) (hm : m ≤ 8) (i : Nat) (hi : i < keepM m) : (i + 1 = keepM m ∧ paT t (keepU un t m) i = t) ∨ (i + 1 < keepM m ∧ paT t (keepU un t m) i = paT t un (if m = 8 then i + 1 else i)) := by
  unfold keepM at *
  by_cases h8 : m = 8
  · subst h8
    rw [if_pos rfl] at hi ⊢
    by_cases h7 : i + 1 = 8
    · refine Or.inl ⟨h7, ?_⟩
      funext j
      by_cases hj : 91 ≤ j ∧ j < 138
      · rw [paT_in hj]
        show cpF _ t 329 91 47 _ = _
        unfold cpF
        rw [if_pos (by omega), show 91 + (47 * i + (j - 91) - 329) = j by omega]
      · rw [paT_out hj]
    · refine Or.inr ⟨by omega, ?_⟩
      rw [if_pos rfl]
      funext j
      by_cases hj : 91 ≤ j ∧ j < 138
      · rw [paT_in hj, paT_in hj]
        show cpF (cpF un un 0 47 329) t 329 91 47 _ = _
        unfold cpF
        rw [if_neg (by omega), if_pos (by omega), show 47 + (47 * i + (j - 91) - 0) = 47 * (i + 1) + (j - 91) by omega]
      · rw [paT_out hj, paT_out hj]
  · rw [if_neg h8] at hi ⊢
    by_cases h7 : i = m
    · subst h7
      refine Or.inl ⟨rfl, ?_⟩
      funext j
      by_cases hj : 91 ≤ j ∧ j < 138
      · rw [paT_in hj]
        unfold keepU cpF
        rw [if_neg h8, if_pos (by omega), show 91 + (47 * i + (j - 91) - 47 * i) = j by omega]
      · rw [paT_out hj]
    · refine Or.inr ⟨by omega, ?_⟩
      rw [if_neg h8]
      funext j
      by_cases hj : 91 ≤ j ∧ j < 138
      · rw [paT_in hj, paT_in hj]
        unfold keepU cpF
        rw [if_neg h8, if_neg (by omega)]
      · rw [paT_out hj, paT_out hj]
def pnS (pn : Nat) : Nat := if pn = 7 then 0 else pn + 1
theorem keepM_n {m : Nat} (h : ¬ m = 8) : keepM m = m + 1 := if_neg h
theorem pnS_n {m : Nat} (h : ¬ m = 7) : pnS m = m + 1 := if_neg h
theorem pa_new {m pn i : Nat} (hm : m ≤ 8) (hp : pn < 8) (a1 : i + 1 = keepM m) : paI (keepM m) (pnS pn) i = 14 + pn := by
  unfold paI
  rcases (show m = 8 ∨ ¬ m = 8 by omega) with q | q <;> rcases (show pn = 7 ∨ ¬ pn = 7 by omega) with r | r
  · subst q; subst r; have e1 : keepM 8 = 8 := rfl; have e2 : pnS 7 = 0 := rfl; rw [e1] at a1 ⊢; rw [e2]; omega
  · subst q; have e1 : keepM 8 = 8 := rfl; rw [e1] at a1 ⊢; rw [pnS_n r]; omega
  · subst r; have e2 : pnS 7 = 0 := rfl; rw [keepM_n q] at a1 ⊢; rw [e2]; omega
  · rw [keepM_n q] at a1 ⊢; rw [pnS_n r]; omega
theorem pa_old {m pn i : Nat} (hm : m ≤ 8) (hp : pn < 8) (a1 : i + 1 < keepM m) : paI (keepM m) (pnS pn) i = paI m pn (if m = 8 then i + 1 else i) ∧ (if m = 8 then i + 1 else i) < m ∧ ¬ paI m pn (if m = 8 then i + 1 else i) = 14 + pn := by
  unfold paI
  rcases (show m = 8 ∨ ¬ m = 8 by omega) with q | q <;> rcases (show pn = 7 ∨ ¬ pn = 7 by omega) with r | r
  · subst q; subst r; have e1 : keepM 8 = 8 := rfl; have e2 : pnS 7 = 0 := rfl; rw [e1] at a1 ⊢; rw [e2, if_pos rfl]; omega
  · subst q; have e1 : keepM 8 = 8 := rfl; rw [e1] at a1 ⊢; rw [pnS_n r, if_pos rfl]; omega
  · subst r; have e2 : pnS 7 = 0 := rfl; rw [keepM_n q] at a1 ⊢; rw [e2, if_neg q]; omega
  · rw [keepM_n q] at a1 ⊢; rw [pnS_n r, if_neg q]; omega
/-- keeping: one more past state -/
theorem J.keep {ae : Nat → Nat} {kd : Nat → Bool} {ad : Nat → Nat → Nat} {κ : Nat → kS} {n : Nat} {σ : mS} {B jc m pn im : Nat} {NM : Nat → Int64} {sn : Option Nat} {sd : Int32} {kp k0 : kS} (h : J ae kd ad κ n σ B) (hs : jSt ae kd ad κ n σ B jc NM sn sd m pn im) (hk : ∃ sd', SRl (ad jc) sn (σ.2.1 6) sd' kp) (hF : ∀ k, ¬ k = 4 → ¬ k = 5 → k0.1 k = (κ 0).1 k) (hA : k0.2 = (κ 0).2) (h4 : k0.1 4 = .int (nI (pnS pn))) (h5 : k0.1 5 = .int (nI (keepM m))) : J ae kd ad (upN (upN κ (14 + pn) kp) 0 k0) n (keepS σ m) B := by
  obtain ⟨hn, hMain, hSub, hTape, hR10, hR11, hR12, hR13, hMisc, hRef, hB5, -⟩ := id h
  obtain ⟨hCht, hSR, hSnt, hTok, hPast, ⟨c1, c2, c3, c4, c5⟩, hSds, hImg⟩ := id hs
  obtain ⟨sd', hk'⟩ := hk
  have g : ∀ j, ¬ j = 0 → ¬ j = 14 + pn → upN (upN κ (14 + pn) kp) 0 k0 j = κ j := fun j a b => by rw [upN_n _ _ _ _ a, upN_n _ _ _ _ b]
  have hM8 : keepM m ≤ 8 := by unfold keepM; split <;> omega
  have hp8 : pnS pn < 8 := by unfold pnS; split <;> omega
  have hmain' : jMain ad k0 := by
    unfold jMain at *
    rw [hF 0 (by decide) (by decide), hF 1 (by decide) (by decide), hF 2 (by decide) (by decide), hF 8 (by decide) (by decide), hF 9 (by decide) (by decide), hF 11 (by decide) (by decide), hF 12 (by decide) (by decide), hF 13 (by decide) (by decide), hF 14 (by decide) (by decide), hF 15 (by decide) (by decide), hF 16 (by decide) (by decide), hA]
    exact hMain
  have hmisc' : jMisc k0 (keepS σ m) := by
    unfold jMisc at *
    rw [hF 17 (by decide) (by decide), hF 18 (by decide) (by decide), hF 19 (by decide) (by decide), hA]
    exact hMisc
  refine ⟨hn, hmain', ?_, ?_, ?_, ?_, ?_, ?_, hmisc', hRef, hB5, jc, NM, sn, sd, keepM m, pnS pn, im, (hCht.up (by omega)).up (by decide), ?_, (hSnt.up (by omega)).up (by decide), hTok, ?_, ⟨rfl, h4, h5, hM8, hp8⟩, ?_, ?_⟩
  · rw [g 3 (by decide) (by omega), g 4 (by decide) (by omega), g 5 (by decide) (by omega), g 6 (by decide) (by omega), g 7 (by decide) (by omega), g 8 (by decide) (by omega), g 9 (by decide) (by omega)]; exact hSub
  · rw [g 1 (by decide) (by omega)]; exact hTape
  · rw [g 10 (by decide) (by omega)]; exact hR10
  · rw [g 11 (by decide) (by omega)]; exact hR11
  · rw [g 12 (by decide) (by omega)]; exact hR12
  · rw [g 13 (by decide) (by omega)]; exact hR13
  · rw [g 2 (by decide) (by omega)]; exact hSR
  · intro i hi
    show (∃ sn sd, SRl (ad jc) sn (paT (σ.2.1 6) (keepU (σ.2.1 21) (σ.2.1 6) m) i) sd _) ∧ WV (paT (σ.2.1 6) (keepU (σ.2.1 21) (σ.2.1 6) m) i) B ∧ paT (σ.2.1 6) (keepU (σ.2.1 21) (σ.2.1 6) m) i 92 = sumF (fun q => paT (σ.2.1 6) (keepU (σ.2.1 21) (σ.2.1 6) m) i (132 + q)) (σ.2.1 6 2)
    rcases nmI (σ.2.1 6) (σ.2.1 21) m c4 i hi with ⟨a1, a2⟩ | ⟨a1, a2⟩
    · rw [a2, pa_new c4 c5 a1, upN_n _ _ _ _ (by omega), upN_s]
      exact ⟨⟨sn, sd', hk'⟩, hTok.1, hTok.2.2⟩
    · obtain ⟨hidx, hi2, hne⟩ := pa_old (pn := pn) c4 c5 a1
      rw [a2, hidx, g _ (by unfold paI; omega) hne]
      exact hPast _ hi2
  · intro i h1 h2
    by_cases e : i = 14 + pn
    · subst e; rw [upN_n _ _ _ _ (by omega), upN_s]; exact ⟨sd', hk'.2.2.2.2.1⟩
    · rw [g i (by omega) e]; exact hSds i h1 h2
  · obtain ⟨a1, a2, a3, a4, a5⟩ := hImg
    refine ⟨by show k0.1 7 = _; rw [hF 7 (by decide) (by decide)]; exact a1, a2, a3, a4, fun j hj hp => ?_⟩
    obtain ⟨b1, b2⟩ := a5 j hj hp
    exact ⟨by rw [g _ (by omega) (by omega)]; exact (b1.up (by omega)).up (by decide), b2⟩
