/-! The reference at the token that begins at q. -/
def RPq (σ : mS) (s lim q : Nat) : Prop := σ.1 3 = nI s ∧ s ≤ 940 ∧ σ.1 5 = nI lim ∧ lim ≤ 940 ∧ q ≤ s ∧ σ.1 12 = nI (min q (min s lim)) ∧ σ.1 4 = nI (if min s lim ≤ q then q else tkE (σ.2.2.1 1) s q)
  ∧ (min s lim ≤ q → σ.1 11 = nI (if lim < s then 4 else 0))
  ∧ (q < min s lim → isA (chr (σ.2.2.1 1) q) = true → σ.1 11 = nI (tokK (isL (chr (σ.2.2.1 1) q)) (runA (σ.2.2.1 1) q (isL (chr (σ.2.2.1 1) q)) (rlen (σ.2.2.1 1) (s - q) q)) (rlen (σ.2.2.1 1) (s - q) q)) ∧ σ.2.2.2.1 = lN (runW (σ.2.2.1 1) q (rlen (σ.2.2.1 1) (s - q) q)) ∧ σ.1 14 = nI (runN (σ.2.2.1 1) q (rlen (σ.2.2.1 1) (s - q) q)))
  ∧ (q < min s lim → isA (chr (σ.2.2.1 1) q) = false → σ.1 11 = nI (if sgnC (chr (σ.2.2.1 1) q) = true then 3 else 4) ∧ σ.1 14 = nI (chr (σ.2.2.1 1) q))
theorem nextG_arr (σ : mS) (s lim p : Nat) : (nextG σ s lim p).2.2.1 = σ.2.2.1 := by
  unfold nextG
  repeat' split
  all_goals rfl
theorem nextG_sc (σ : mS) (s lim p k : Nat) (hk : k = 3 ∨ k = 5) : (nextG σ s lim p).1 k = σ.1 k := by
  rcases hk with rfl | rfl
  all_goals
    unfold nextG
    repeat' split
    all_goals rfl
theorem RP_next {σ : mS} {s lim p : Nat} (h3 : σ.1 3 = nI s) (hs : s ≤ 940) (h5 : σ.1 5 = nI lim) (hl : lim ≤ 940) (hp : p ≤ s) : RPq (nextS σ s lim p) s lim (skipF (σ.2.2.1 1) (s - p) p) := by
  have hsk := skipF_le (σ.2.2.1 1) (s - p) p
  unfold nextS
  generalize skipF (σ.2.2.1 1) (s - p) p = q at *
  have hq : q ≤ s := by omega
  unfold RPq
  rw [nextG_arr, nextG_sc _ _ _ _ _ (Or.inl rfl), nextG_sc _ _ _ _ _ (Or.inr rfl)]
  refine ⟨h3, hs, h5, hl, hq, ?_⟩
  by_cases c1 : lim < s ∧ lim ≤ q
  · have e : nextG σ s lim q = mI (mI (nextB σ q) 12 (nI lim)) 11 (nI 4) := by unfold nextG; rw [if_pos c1]
    rw [e, show min q (min s lim) = lim by omega, if_pos (show min s lim ≤ q by omega), if_pos c1.1]
    exact ⟨rfl, rfl, fun _ => rfl, fun h => absurd h (by omega), fun h => absurd h (by omega)⟩
  · by_cases c2 : s ≤ q
    · have e : nextG σ s lim q = mI (nextB σ q) 11 (nI 0) := by unfold nextG; rw [if_neg c1, if_pos c2]
      rw [e, show min q (min s lim) = q by omega, if_pos (show min s lim ≤ q by omega), if_neg (show ¬ lim < s by omega)]
      exact ⟨rfl, rfl, fun _ => rfl, fun h => absurd h (by omega), fun h => absurd h (by omega)⟩
    · have hlt : q < min s lim := by omega
      rw [show min q (min s lim) = q by omega, if_neg (show ¬ min s lim ≤ q by omega)]
      unfold tkE
      by_cases c3 : isA (chr (σ.2.2.1 1) q) = true
      · have e : nextG σ s lim q = mI (runS (nextB σ q) (runW (σ.2.2.1 1) q (rlen (σ.2.2.1 1) (s - q) q)) (runN (σ.2.2.1 1) q (rlen (σ.2.2.1 1) (s - q) q)) (rlen (σ.2.2.1 1) (s - q) q) (q + rlen (σ.2.2.1 1) (s - q) q)) 11 (nI (tokK (isL (chr (σ.2.2.1 1) q)) (runA (σ.2.2.1 1) q (isL (chr (σ.2.2.1 1) q)) (rlen (σ.2.2.1 1) (s - q) q)) (rlen (σ.2.2.1 1) (s - q) q))) := by unfold nextG; rw [if_neg c1, if_neg c2, if_pos c3]
        rw [e, if_pos c3]
        exact ⟨rfl, rfl, fun h => absurd h (by omega), fun _ _ => ⟨rfl, rfl, rfl⟩, fun _ h => absurd (c3.symm.trans h) (by decide)⟩
      · have e : nextG σ s lim q = mI (mI (mI (nextB σ q) 11 (nI (if sgnC (chr (σ.2.2.1 1) q) = true then 3 else 4))) 14 (nI (chr (σ.2.2.1 1) q))) 4 (nI (q + 1)) := by unfold nextG; rw [if_neg c1, if_neg c2, if_neg c3]
        rw [e, if_neg c3]
        exact ⟨rfl, rfl, fun h => absurd h (by omega), fun _ h => absurd h c3, fun _ _ => ⟨rfl, rfl⟩⟩
theorem RP_nx {σ : mS} {s lim q : Nat} (h : RPq σ s lim q) (hq : q < min s lim) : RPq (nx σ) s lim (nxq (σ.2.2.1 1) s lim q) := by
  obtain ⟨h3, hs, h5, hl, hqs, -, h4, -⟩ := h
  rw [if_neg (by omega)] at h4
  have ht := tkE_le (τ := σ.2.2.1 1) (s := s) (q := q) (by omega)
  have e : nx σ = nextS σ s lim (tkE (σ.2.2.1 1) s q) := by
    rw [← nx_eq, nxG, h3, h5, h4, nI_clamp (by omega), nI_clamp (by omega), nI_clamp (by omega)]
  rw [e, nxq, if_neg (by omega)]
  exact RP_next h3 hs h5 hl ht.2
/-- what a token is, in both -/
def TC (kd : Nat) (v : Int64) (r : Option Nat) (σ : mS) : Prop :=
    (kd = 0 ∧ r = none ∧ σ.1 11 = nI 0)
  ∨ (kd = 3 ∧ r = none ∧ σ.1 11 = nI 4)
  ∨ (kd = 1 ∧ σ.1 11 = nI 1 ∧ NMR σ.2.2.2.1 v ∧ r = wOf v)
  ∨ (kd = 2 ∧ r = none ∧ σ.1 11 = nI 2 ∧ ∃ m, m < 1000 ∧ σ.1 14 = nI m ∧ v = lN m)
  ∨ (sgnC kd = true ∧ r = none ∧ σ.1 11 = nI 3 ∧ σ.1 14 = nI kd)
theorem RP_tc {σ : mS} {s lim q : Nat} (h : RPq σ s lim q) : TC (tkD (σ.2.2.1 1) s lim q).1 (tkD (σ.2.2.1 1) s lim q).2.2.1 (tkD (σ.2.2.1 1) s lim q).2.2.2 σ ∧ σ.1 12 = nI (tkD (σ.2.2.1 1) s lim q).2.1 ∧ (¬ (tkD (σ.2.2.1 1) s lim q).1 = 0 → ¬ (tkD (σ.2.2.1 1) s lim q).1 = 3 → q < min s lim) := by
  obtain ⟨h3, hs, h5, hl, hqs, h12, h4, hE, hA, hB⟩ := h
  by_cases c1 : min s lim ≤ q
  · have e : tkD (σ.2.2.1 1) s lim q = (if lim < s then 3 else 0, min s lim, 0, none) := by unfold tkD; rw [if_pos c1]
    rw [e, h12, show min q (min s lim) = min s lim by omega]
    have h11 := hE c1
    by_cases c2 : lim < s
    · rw [if_pos c2] at h11 ⊢
      exact ⟨Or.inr (Or.inl ⟨rfl, rfl, h11⟩), rfl, fun _ h => absurd rfl h⟩
    · rw [if_neg c2] at h11 ⊢
      exact ⟨Or.inl ⟨rfl, rfl, h11⟩, rfl, fun h _ => absurd rfl h⟩
  · have hlt : q < min s lim := by omega
    rw [show min q (min s lim) = q by omega] at h12
    by_cases c3 : isA (chr (σ.2.2.1 1) q) = true
    · obtain ⟨h11, hw, h14⟩ := hA hlt c3
      have e : tkD (σ.2.2.1 1) s lim q = ((tkR (σ.2.2.1 1) q (rlen (σ.2.2.1 1) (s - q) q)).1, q, (tkR (σ.2.2.1 1) q (rlen (σ.2.2.1 1) (s - q) q)).2.1, (tkR (σ.2.2.1 1) q (rlen (σ.2.2.1 1) (s - q) q)).2.2) := by unfold tkD; rw [if_neg c1, if_pos c3]
      rw [e]
      have hin := rlen_in (σ.2.2.1 1) (s - q) q
      have hr0 : 0 < rlen (σ.2.2.1 1) (s - q) q := by
        obtain ⟨m, hm⟩ : ∃ m, s - q = m + 1 := ⟨s - q - 1, by omega⟩
        rw [hm, rlen, if_pos c3]; omega
      have hLD := cLD (σ.2.2.1 1) q (rlen (σ.2.2.1 1) (s - q) q)
      generalize rlen (σ.2.2.1 1) (s - q) q = r at *
      refine ⟨?_, h12, fun _ _ => hlt⟩
      show TC (tkR (σ.2.2.1 1) q r).1 (tkR (σ.2.2.1 1) q r).2.1 (tkR (σ.2.2.1 1) q r).2.2 σ
      unfold tkR
      have hfirst : cLs (σ.2.2.1 1) q r = r → isL (chr (σ.2.2.1 1) q) = true := by
        intro e9
        have : cDs (σ.2.2.1 1) q r = 0 := by omega
        have h9 := (run_L (σ.2.2.1 1) q r this).2.1
        have key : ∀ r, 0 < r → runA (σ.2.2.1 1) q true r = true → isL (chr (σ.2.2.1 1) q) = true := by
          intro r
          induction r with
          | zero => intro h; exact absurd h (Nat.not_lt_zero _)
          | succ r ih =>
            intro _ ha
            rw [runA, Bool.and_eq_true] at ha
            rcases Nat.eq_zero_or_pos r with z | z
            · subst z; simpa using ha.2
            · exact ih z ha.1
        exact key r hr0 h9
      by_cases d0 : cDs (σ.2.2.1 1) q r = 0
      · have hl9 := run_L (σ.2.2.1 1) q r d0
        have hsm := hfirst hl9.2.2
        rw [hsm, hl9.2.1] at h11
        by_cases d7 : r ≤ 7
        · rw [if_pos d0, if_pos (by omega)]
          have e11 : tokK true true r = 1 := by unfold tokK; rw [if_neg (by simp; omega), if_pos rfl]
          rw [e11] at h11
          refine Or.inr (Or.inr (Or.inl ⟨rfl, h11, ⟨LSr (σ.2.2.1 1) q r, ⟨by rw [LSr_len]; exact d7, hl9.1⟩, by rw [hw, run_8 _ _ _ d7], run_5 _ _ _ d0⟩, rfl⟩))
        · rw [if_pos d0, if_neg (by omega), if_neg (by omega)]
          have e11 : tokK true true r = 4 := by unfold tokK; rw [if_pos (by simp; omega)]
          rw [e11] at h11
          exact Or.inr (Or.inl ⟨rfl, rfl, h11⟩)
      · by_cases l0 : cLs (σ.2.2.1 1) q r = 0
        · have hd9 := run_D (σ.2.2.1 1) q r l0
          have hsm : isL (chr (σ.2.2.1 1) q) = false := by
            cases hx : isL (chr (σ.2.2.1 1) q) with
            | false => rfl
            | true =>
              have key : ∀ r, 0 < r → 0 < cLs (σ.2.2.1 1) q r := by
                intro r
                induction r with
                | zero => intro h; exact absurd h (Nat.not_lt_zero _)
                | succ r ih =>
                  intro _
                  rw [cLs]
                  rcases Nat.eq_zero_or_pos r with z | z
                  · subst z; rw [Nat.add_zero, if_pos hx]; omega
                  · have := ih z; split <;> omega
              have := key r hr0; omega
          rw [hsm, hd9.1] at h11
          by_cases d3 : r ≤ 3
          · rw [if_neg d0, if_pos l0, if_pos (by omega)]
            have e11 : tokK false true r = 2 := by unfold tokK; rw [if_neg (by simp; omega), if_neg (by decide)]
            rw [e11] at h11
            have hn := run_N (σ.2.2.1 1) q r d3 l0 hin
            have hp : 10 ^ r ≤ 10 ^ 3 := Nat.pow_le_pow_right (by decide) d3
            exact Or.inr (Or.inr (Or.inr (Or.inl ⟨rfl, rfl, h11, runN (σ.2.2.1 1) q r, by omega, h14, by show (nmD (σ.2.2.1 1) q r).toInt64 = _; rw [hn.1, nI_l (by omega)]⟩)))
          · rw [if_neg d0, if_pos l0, if_neg (by omega)]
            have e11 : tokK false true r = 4 := by unfold tokK; rw [if_pos (by simp; omega)]
            rw [e11] at h11
            exact Or.inr (Or.inl ⟨rfl, rfl, h11⟩)
        · rw [if_neg d0, if_neg l0]
          have e11 : tokK (isL (chr (σ.2.2.1 1) q)) (runA (σ.2.2.1 1) q (isL (chr (σ.2.2.1 1) q)) r) r = 4 := by
            unfold tokK
            rw [if_pos]
            left
            cases hx : isL (chr (σ.2.2.1 1) q) with
            | true =>
              cases hy : runA (σ.2.2.1 1) q true r with
              | false => rfl
              | true => exact absurd (runA_t _ _ _ hy) d0
            | false =>
              cases hy : runA (σ.2.2.1 1) q false r with
              | false => rfl
              | true => exact absurd (runA_f _ _ _ hy) l0
          rw [e11] at h11
          exact Or.inr (Or.inl ⟨rfl, rfl, h11⟩)
    · have c4 : isA (chr (σ.2.2.1 1) q) = false := by simpa using c3
      obtain ⟨h11, h14⟩ := hB hlt c4
      have e : tkD (σ.2.2.1 1) s lim q = (if sgnC (chr (σ.2.2.1 1) q) = true then chr (σ.2.2.1 1) q else 3, q, 0, none) := by unfold tkD; rw [if_neg c1, if_neg c3]
      rw [e]
      refine ⟨?_, h12, fun _ _ => hlt⟩
      by_cases c5 : sgnC (chr (σ.2.2.1 1) q) = true
      · rw [if_pos c5] at h11
        show TC (if sgnC (chr (σ.2.2.1 1) q) = true then chr (σ.2.2.1 1) q else 3) 0 none σ
        rw [if_pos c5]
        exact Or.inr (Or.inr (Or.inr (Or.inr ⟨c5, rfl, h11, h14⟩)))
      · rw [if_neg c5] at h11
        show TC (if sgnC (chr (σ.2.2.1 1) q) = true then chr (σ.2.2.1 1) q else 3) 0 none σ
        rw [if_neg c5]
        exact Or.inr (Or.inl ⟨rfl, rfl, h11⟩)
theorem sgnC_b {c : Nat} (h : sgnC c = true) : c = 59 ∨ c = 40 ∨ c = 41 ∨ c = 60 ∨ c = 61 ∨ c = 62 := by
  unfold sgnC at h
  simp at h
  omega
/-- the class and the reference at the same token -/
def TPR (ad : Nat → Nat) (κ : kS) (σ : mS) : Prop := ∃ s lim k nT, RPq σ s lim (psq (σ.2.2.1 1) s lim k) ∧ TPs ad (σ.2.2.1 1) s lim κ k nT
theorem TPR.view {ad : Nat → Nat} {κ : kS} {σ : mS} (h : TPR ad κ σ) : ∃ kd v r, κ.1 8 = .int (nI kd) ∧ κ.1 9 = .long v ∧ κ.1 10 = va_rf (Option.map ad r) ∧ wOK r ∧ kd < 256 ∧ TC kd v r σ := by
  obtain ⟨s, lim, k, nT, h1, h2⟩ := h
  obtain ⟨-, -, -, -, -, -, e8, e9, e10⟩ := h2
  have ht := (RP_tc h1).1
  refine ⟨_, _, _, e8, e9, e10, tkD_ok _ _ _ _, ?_, ht⟩
  rcases ht with h | h | h | h | h
  · rw [h.1]; decide
  · rw [h.1]; decide
  · rw [h.1]; decide
  · rw [h.1]; decide
  · have := sgnC_b h.1; omega
/-- only these parts of the reference's state matter -/
theorem RPq.of {σ σ' : mS} {s lim q : Nat} (h : RPq σ s lim q) (h3 : σ'.1 3 = σ.1 3) (h5 : σ'.1 5 = σ.1 5) (h12 : σ'.1 12 = σ.1 12) (h4 : σ'.1 4 = σ.1 4) (h11 : σ'.1 11 = σ.1 11) (h14 : σ'.1 14 = σ.1 14) (hτ : σ'.2.2.1 1 = σ.2.2.1 1) (hw : σ'.2.2.2.1 = σ.2.2.2.1) : RPq σ' s lim q := by
  unfold RPq at *
  rw [h3, h5, h12, h4, h11, h14, hτ, hw]
  exact h
theorem TPR.of {ad : Nat → Nat} {κ : kS} {σ σ' : mS} (h : TPR ad κ σ) (h3 : σ'.1 3 = σ.1 3) (h5 : σ'.1 5 = σ.1 5) (h12 : σ'.1 12 = σ.1 12) (h4 : σ'.1 4 = σ.1 4) (h11 : σ'.1 11 = σ.1 11) (h14 : σ'.1 14 = σ.1 14) (hτ : σ'.2.2.1 1 = σ.2.2.1 1) (hw : σ'.2.2.2.1 = σ.2.2.2.1) : TPR ad κ σ' := by
  obtain ⟨s, lim, k, nT, h1, h2⟩ := h
  refine ⟨s, lim, k, nT, ?_, ?_⟩
  · rw [hτ]; exact h1.of h3 h5 h12 h4 h11 h14 hτ hw
  · rw [hτ]; exact h2
