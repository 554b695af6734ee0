/-- a change of places that the map does not hold -/
theorem WV_of {t u : Nat → Nat} {b : Nat} (H : WV t b) (hb : b ≤ 2 ^ 30) (hlo : ∀ j, j < 91 → u j = t j) (h91 : u 91 ≤ 400) (hlt : ∀ j, u j < b) (h93 : u 93 < 2 ^ t 1) (hT : ∀ l, l < 7 → u (101 + l) < 128) (hA : ∀ q, q < t 2 → u (108 + q) < t 0) (hL : ∀ q, q < t 2 → 1 ≤ u (114 + q)) (h6 : ∀ q, q < 6 → u (114 + q) ≤ 240) : WV u b := by
  obtain ⟨⟨⟨hb0, h0, h1, h2, hR, hP, hD, hC, hT0⟩, hB⟩, h20, h60⟩ := H
  have e0 := hlo 0 (by omega)
  have e1 := hlo 1 (by omega)
  have e2 := hlo 2 (by omega)
  refine ⟨⟨⟨fun j => Nat.lt_of_lt_of_le (hlt j) hb, by rw [e0]; exact h0, by rw [e1]; exact h1, by rw [e2]; exact h2, fun r hr => ?_, fun q hq => ?_, h91, by rw [e1]; exact h93, hT⟩, hlt⟩, fun l hl => ?_, h6⟩
  · rw [e1] at hr
    rw [e0, hlo (24 + r) (by omega), hlo (36 + r) (by omega)]
    exact hR r hr
  · rw [e2] at hq
    rw [e0, hlo (79 + q) (by omega)]
    exact ⟨(hP q hq).1, hA q hq, hL q hq, h6 q (by omega)⟩
  · rw [hlo (3 + l) (by omega), hlo (10 + l) (by omega)]
    exact h20 l hl
theorem WV_up {t : Nat → Nat} {b x v : Nat} (H : WV t b) (hb : b ≤ 2 ^ 30) (hb5 : 128 ≤ b) (hx : x < 7) (hv : v < 128) : WV (upN t (101 + x) v) b := by
  obtain ⟨⟨⟨hb0, h0, h1, h2, hR, hP, hD, hC, hT⟩, hB⟩, h20, h60⟩ := id H
  have e : ∀ j, ¬ j = 101 + x → upN t (101 + x) v j = t j := fun j hj => upN_n _ _ _ _ hj
  refine WV_of H hb (fun j hj => e j (by omega)) (by rw [e 91 (by omega)]; exact hD) (upN_lt hB (by omega)) (by rw [e 93 (by omega)]; exact hC) (fun l hl => ?_) (fun q hq => by rw [e _ (by omega)]; exact (hP q hq).2.1) (fun q hq => by rw [e _ (by omega)]; exact (hP q hq).2.2.1) (fun q hq => by rw [e _ (by omega)]; exact h60 q hq)
  by_cases h : l = x
  · subst h; rw [upN_s]; exact hv
  · rw [e _ (by omega)]; exact hT l hl
theorem WV_lend {t : Nat → Nat} {b x y n : Nat} (H : WV t b) (hb : b + 99 ≤ 2 ^ 30) (hx : x < 7) (hy : y < 7) (hn : n ≤ 99) : WV (lendF t x y n) (b + 99) := by
  obtain ⟨⟨⟨hb0, h0, h1, h2, hR, hP, hD, hC, hT⟩, hB⟩, h20, h60⟩ := id H
  have e : ∀ j, ¬ j = 94 + x → ¬ j = 94 + y → lendF t x y n j = t j := fun j hj hk => by unfold lendF; rw [upN_n _ _ _ _ hk, upN_n _ _ _ _ hj]
  have hB2 : ∀ j, t j < b + 99 := fun j => Nat.lt_of_lt_of_le (hB j) (by omega)
  refine WV_of (WV_mono H (by omega)) hb (fun j hj => e j (by omega) (by omega)) (by rw [e 91 (by omega) (by omega)]; exact hD) ?_ (by rw [e 93 (by omega) (by omega)]; exact hC) (fun l hl => by rw [e _ (by omega) (by omega)]; exact hT l hl) (fun q hq => by rw [e _ (by omega) (by omega)]; exact (hP q hq).2.1) (fun q hq => by rw [e _ (by omega) (by omega)]; exact (hP q hq).2.2.1) (fun q hq => by rw [e _ (by omega) (by omega)]; exact h60 q hq)
  unfold lendF
  exact upN_lt (upN_lt hB2 (Nat.lt_of_le_of_lt (Nat.sub_le _ _) (hB2 _))) (by have := hB (94 + y); omega)
theorem WV_goG : ∀ (n : Nat) {t : Nat → Nat} {b : Nat}, 500 ≤ b → WV t b → WV (goG n t).2 b ∧ ∀ j, ¬ (91 ≤ j ∧ j < 138) → (goG n t).2 j = t j := by
  intro n
  induction n with
  | zero => intro t b _ H; exact ⟨H, fun _ _ => rfl⟩
  | succ n ih =>
    intro t b hb H
    rw [goG]
    split
    · rename_i h9
      obtain ⟨i1, i2⟩ := ih hb (WV_day H hb h9)
      exact ⟨i1, fun j hj => by rw [i2 j hj, dayF_keep (WT_DK H.1.1) hj]⟩
    · exact ⟨H, fun _ _ => rfl⟩
theorem lend_keep {t : Nat → Nat} {x y n j : Nat} (hx : x < 7) (hy : y < 7) (hj : ¬ (91 ≤ j ∧ j < 138)) : lendF t x y n j = t j := by unfold lendF; rw [upN_n _ _ _ _ (by omega), upN_n _ _ _ _ (by omega)]
theorem WV_does {t : Nat → Nat} {b k x y n : Nat} (H : WV t b) (hb : b + 99 ≤ 2 ^ 29) (hb5 : 4096 ≤ b) (hok : lnOK t k x y n) : WV (doesS t k x y n) (b + 99) ∧ ∀ j, ¬ (91 ≤ j ∧ j < 138) → doesS t k x y n j = t j := by
  obtain ⟨hk6, ok0, ok1, ok3, ok5, ok6⟩ := hok
  have h0 := H.1.1.2.1
  have h2 := H.1.1.2.2.2.1
  have hT := H.1.1.2.2.2.2.2.2.2.2
  unfold doesS
  split
  · rename_i h
    have hk : k = 0 ∨ k = 1 ∨ k = 2 ∨ k = 3 ∨ k = 4 ∨ k = 5 ∨ k = 6 := by omega
    rcases hk with rfl | rfl | rfl | rfl | rfl | rfl | rfl
    · exact ⟨WV_mono (WV_cross H (by omega) (by omega) (ok0 rfl).1 (ok0 rfl).2 h) (by omega), fun j hj => crossF_lo (by have := (ok0 rfl).1; omega) (by have := (ok0 rfl).2; omega) (by omega)⟩
    · have := ok1 (by omega)
      exact ⟨WV_mono (WV_up H (by omega) (by omega) (by omega) (Nat.or_lt_two_pow (n := 7) (hT x (by omega)) (Nat.pow_lt_pow_right (by decide) (by omega)))) (by omega), fun j hj => upN_n _ _ _ _ (by omega)⟩
    · have := ok1 (by omega)
      exact ⟨WV_mono (WV_up H (by omega) (by omega) (by omega) (Nat.xor_lt_two_pow (n := 7) (hT x (by omega)) (Nat.pow_lt_pow_right (by decide) (by omega)))) (by omega), fun j hj => upN_n _ _ _ _ (by omega)⟩
    · have hr : x < t 1 := by
        have h9 : whyTurnF t x true = 0 := h
        unfold whyTurnF at h9
        by_cases hx : t 1 ≤ x
        · rw [if_pos hx] at h9; omega
        · omega
      exact ⟨WV_mono (WV_turn H hb5 hr) (by omega), fun j hj => upN_n _ _ _ _ (by omega)⟩
    · have hr : x < t 1 := by
        have h9 : whyTurnF t x false = 0 := h
        unfold whyTurnF at h9
        by_cases hx : t 1 ≤ x
        · rw [if_pos hx] at h9; omega
        · omega
      exact ⟨WV_mono (WV_turn H hb5 hr) (by omega), fun j hj => upN_n _ _ _ _ (by omega)⟩
    · have := ok1 (by omega)
      have := ok5 rfl
      exact ⟨WV_lend H (by omega) (by omega) (by omega) (by omega), fun j hj => lend_keep (by omega) (by omega) hj⟩
    · obtain ⟨g1, g2⟩ := WV_goG x (by omega) H
      exact ⟨WV_mono g1 (by omega), g2⟩
  · exact ⟨WV_mono H (by omega), fun _ _ => rfl⟩
/-- a line read: nothing of the state s, the line in its place -/
def BT (σ σ' : mS) (m : Nat) : Prop := PV σ' ∧ σ'.2.1 6 = σ.2.1 6 ∧ (∀ j, j < 4 * m → σ'.2.1 8 j = σ.2.1 8 j) ∧ σ'.1 47 = σ.1 47 ∧ mz σ' < mz σ ∧ lnOK (σ.2.1 6) (σ'.2.1 8 (4 * m)) (σ'.2.1 8 (4 * m + 1)) (σ'.2.1 8 (4 * m + 2)) (σ'.2.1 8 (4 * m + 3))
theorem bl2_t {σ : mS} {to : Nat} {five : Bool} (hv : PV σ) (h : (bl2F σ to five).1 = true) : bkI σ < σ.2.1 6 0 ∧ PV (bl2F σ to five).2 ∧ (bl2F σ to five).2.2.1 6 = σ.2.1 6 ∧ (∀ j, ¬ j = to + 2 → ¬ j = to + 3 → (bl2F σ to five).2.2.1 8 j = σ.2.1 8 j) ∧ (bl2F σ to five).2.2.1 8 (to + 2) = bkI σ ∧ (five = true → 1 ≤ (bl2F σ to five).2.2.1 8 (to + 3) ∧ (bl2F σ to five).2.2.1 8 (to + 3) ≤ 99) ∧ (bl2F σ to five).2.1 47 = σ.1 47 ∧ mz (bl2F σ to five).2 ≤ mz σ := by
  unfold bl2F at *
  split at h
  · rename_i h1
    have hS6 : (bl2S σ to).2.1 6 = σ.2.1 6 := by
      show (bkT σ).2.2.1 6 = _
      rw [bkT_n]
    have hS8 : (bl2S σ to).2.1 8 = upN (σ.2.1 8) (to + 2) (bkI σ) := by
      show upN ((bkT σ).2.2.1 8) _ _ = _
      rw [bkT_n]
    have hS47 : (bl2S σ to).1 47 = σ.1 47 := by
      show (bkT σ).2.1 47 = _
      exact takesName_sc h1 (by decide) (by decide)
    have hSm : mz (bl2S σ to) ≤ mz σ := mz_takesName hv h1
    have hvS := PV_bl2S (to := to) hv
    split at h
    · rename_i h2
      split at h
      · rename_i h3
        rw [if_pos h1, if_pos h2, if_pos h3]
        generalize bl2S σ to = ρ at *
        have tn := takes_n ρ 1 99
        have t47 := takes_sc h3 (k := 47) (by decide) (by decide)
        have tz := mz_takes hvS h3
        have tl : 1 ≤ numN ρ ∧ numN ρ ≤ 99 := by
          obtain ⟨j, hj, e⟩ := inC_t (by decide) (by decide) (takes_got h3).2.2.1
          unfold numN
          rw [e, nI_clamp (by omega)]
          exact hj
        have tv := PV_takes (lo := 1) (hi := 99) hvS
        generalize takesF ρ 1 99 = κ at *
        refine ⟨bkT_lt h1, PV_mN tv, ?_, fun j ha hc => ?_, ?_, fun _ => ?_, ?_, ?_⟩
        · show κ.2.2.1 6 = _
          rw [tn, hS6]
        · show upN (κ.2.2.1 8) (to + 3) _ j = _
          rw [upN_n _ _ _ _ hc, tn, hS8, upN_n _ _ _ _ ha]
        · show upN (κ.2.2.1 8) (to + 3) _ (to + 2) = _
          rw [upN_n _ _ _ _ (by omega), tn, hS8, upN_s]
        · show 1 ≤ upN (κ.2.2.1 8) (to + 3) (numN ρ) (to + 3) ∧ upN (κ.2.2.1 8) (to + 3) (numN ρ) (to + 3) ≤ 99
          rw [upN_s]
          exact tl
        · show κ.2.1 47 = _
          rw [t47, hS47]
        · show mz κ.2 ≤ _
          omega
      · exact absurd h (by simp)
    · rename_i h2
      rw [if_pos h1, if_neg h2]
      generalize bl2S σ to = ρ at *
      exact ⟨bkT_lt h1, hvS, hS6, fun j ha _ => by rw [hS8, upN_n _ _ _ _ ha], by rw [hS8, upN_s], fun e => absurd e h2, hS47, hSm⟩
  · exact absurd h (by simp)
theorem blN_t {σ : mS} {to k : Nat} {five : Bool} (hv : PV σ) (h : (blNF σ to five).1 = true) (h8 : σ.2.1 8 to = k) : PV (blNF σ to five).2 ∧ (blNF σ to five).2.2.1 6 = σ.2.1 6 ∧ (∀ j, j < to → (blNF σ to five).2.2.1 8 j = σ.2.1 8 j) ∧ (blNF σ to five).2.1 47 = σ.1 47 ∧ mz (blNF σ to five).2 ≤ mz σ ∧ (blNF σ to five).2.2.1 8 to = k ∧ (blNF σ to five).2.2.1 8 (to + 1) < σ.2.1 6 0 ∧ (blNF σ to five).2.2.1 8 (to + 2) < σ.2.1 6 0 ∧ (five = true → 1 ≤ (blNF σ to five).2.2.1 8 (to + 3) ∧ (blNF σ to five).2.2.1 8 (to + 3) ≤ 99) := by
  unfold blNF at *
  split at h
  · rename_i h1
    rw [if_pos h1]
    have e6 : (mN (bkT σ).2 8 (to + 1) (bkI σ)).2.1 6 = σ.2.1 6 := by
      show (bkT σ).2.2.1 6 = _
      rw [bkT_n]
    have e8 : (mN (bkT σ).2 8 (to + 1) (bkI σ)).2.1 8 = upN (σ.2.1 8) (to + 1) (bkI σ) := by
      show upN ((bkT σ).2.2.1 8) _ _ = _
      rw [bkT_n]
    have e47 : (mN (bkT σ).2 8 (to + 1) (bkI σ)).1 47 = σ.1 47 := by
      show (bkT σ).2.1 47 = _
      exact takesName_sc h1 (by decide) (by decide)
    have ez : mz (mN (bkT σ).2 8 (to + 1) (bkI σ)) ≤ mz σ := mz_takesName hv h1
    have ev : PV (mN (bkT σ).2 8 (to + 1) (bkI σ)) := PV_mN (PV_bkT hv)
    have hlt := bkT_lt h1
    generalize mN (bkT σ).2 8 (to + 1) (bkI σ) = ρ at *
    obtain ⟨a1, a2, a3, a4, a5, a6, a7, a8⟩ := bl2_t ev h
    refine ⟨a2, by rw [a3, e6], fun j hj => by rw [a4 j (by omega) (by omega), e8, upN_n _ _ _ _ (by omega)], by rw [a7, e47], by omega, by rw [a4 to (by omega) (by omega), e8, upN_n _ _ _ _ (by omega)]; exact h8, by rw [a4 (to + 1) (by omega) (by omega), e8, upN_s]; exact hlt, by rw [a5, ← e6]; exact a1, a6⟩
  · exact absurd h (by simp)
theorem blT_t {σ : mS} {to k lo hi : Nat} (hv : PV σ) (hl : lo < 2 ^ 30) (hh : hi < 2 ^ 30) (h : (blTF σ to lo hi).1 = true) (h8 : σ.2.1 8 to = k) : PV (blTF σ to lo hi).2 ∧ (blTF σ to lo hi).2.2.1 6 = σ.2.1 6 ∧ (∀ j, j < to → (blTF σ to lo hi).2.2.1 8 j = σ.2.1 8 j) ∧ (blTF σ to lo hi).2.1 47 = σ.1 47 ∧ mz (blTF σ to lo hi).2 ≤ mz σ ∧ (blTF σ to lo hi).2.2.1 8 to = k ∧ lo ≤ (blTF σ to lo hi).2.2.1 8 (to + 1) ∧ (blTF σ to lo hi).2.2.1 8 (to + 1) ≤ hi := by
  unfold blTF at *
  split at h
  · rename_i h3
    rw [if_pos h3]
    have tn := takes_n σ lo hi
    have t47 := takes_sc h3 (k := 47) (by decide) (by decide)
    have tz := mz_takes hv h3
    have tl : lo ≤ numN σ ∧ numN σ ≤ hi := by
      obtain ⟨j, hj, e⟩ := inC_t hh hl (takes_got h3).2.2.1
      unfold numN
      rw [e, nI_clamp (by omega)]
      exact hj
    have tv := PV_takes (lo := lo) (hi := hi) hv
    generalize takesF σ lo hi = κ at *
    refine ⟨PV_mN tv, ?_, fun j hj => ?_, ?_, ?_, ?_, ?_⟩
    · show κ.2.2.1 6 = _
      rw [tn]
    · show upN (κ.2.2.1 8) (to + 1) _ j = _
      rw [upN_n _ _ _ _ (by omega), tn]
    · show κ.2.1 47 = _
      exact t47
    · show mz κ.2 ≤ _
      exact tz
    · show upN (κ.2.2.1 8) (to + 1) _ to = _
      rw [upN_n _ _ _ _ (by omega), tn]
      exact h8
    · show lo ≤ upN (κ.2.2.1 8) (to + 1) (numN σ) (to + 1) ∧ upN (κ.2.2.1 8) (to + 1) (numN σ) (to + 1) ≤ hi
      rw [upN_s]
      exact tl
  · exact absurd h (by simp)
theorem blS_8 (σ : mS) (m k : Nat) : (blS σ m k).2.1 8 = upN (σ.2.1 8) (4 * m) k := rfl
theorem blS_47 (σ : mS) (m k : Nat) : (blS σ m k).1 47 = σ.1 47 := nx_sc σ 47 (by decide)
theorem blGN_t {σ : mS} {m k : Nat} {five : Bool} (hk : k = 1 ∨ k = 2 ∨ k = 5) (h5 : k = 5 → five = true) (hv : PV σ) (hp : propT σ) (h : (blGN σ m k five).1 = true) : ¬ m = 40 ∧ BT σ (blGN σ m k five).2 m := by
  unfold blGN at *
  split at h
  · exact absurd h (by simp)
  · rename_i h1
    rw [if_neg h1]
    have e8 := blS_8 σ m k
    have e47 := blS_47 σ m k
    have ez : mz (blS σ m k) < mz σ := (mz_nx hv).2 hp
    have ev : PV (blS σ m k) := PV_blS hv
    have e6 : (blS σ m k).2.1 6 = σ.2.1 6 := rfl
    generalize blS σ m k = ρ at *
    obtain ⟨a1, a2, a3, a4, a5, a6, a7, a8, a9⟩ := blN_t (k := k) ev h (by rw [e8, upN_s])
    refine ⟨h1, a1, by rw [a2, e6], fun j hj => by rw [a3 j hj, e8, upN_n _ _ _ _ (by omega)], by rw [a4, e47], by omega, ?_⟩
    rw [a6]
    rw [e6] at a7 a8
    exact ⟨by omega, fun e => by omega, fun _ => ⟨a7, a8⟩, fun e => by omega, fun e => a9 (h5 e), fun e => by omega⟩
theorem blGT_t {σ : mS} {m k lo hi : Nat} (hk : (k = 3 ∧ hi = 11) ∨ (k = 4 ∧ hi = 11) ∨ (k = 6 ∧ lo = 1 ∧ hi = 60)) (hl : lo < 2 ^ 30) (hh : hi < 2 ^ 30) (hv : PV σ) (hp : propT σ) (h : (blGT σ m k lo hi).1 = true) : ¬ m = 40 ∧ BT σ (blGT σ m k lo hi).2 m := by
  unfold blGT at *
  split at h
  · exact absurd h (by simp)
  · rename_i h1
    rw [if_neg h1]
    have e8 := blS_8 σ m k
    have e47 := blS_47 σ m k
    have ez : mz (blS σ m k) < mz σ := (mz_nx hv).2 hp
    have ev : PV (blS σ m k) := PV_blS hv
    have e6 : (blS σ m k).2.1 6 = σ.2.1 6 := rfl
    generalize blS σ m k = ρ at *
    obtain ⟨a1, a2, a3, a4, a5, a6, a7⟩ := blT_t (k := k) ev hl hh h (by rw [e8, upN_s])
    refine ⟨h1, a1, by rw [a2, e6], fun j hj => by rw [a3 j hj, e8, upN_n _ _ _ _ (by omega)], by rw [a4, e47], by omega, ?_⟩
    rw [a6]
    exact ⟨by omega, fun e => by omega, fun e => by omega, fun e => by omega, fun e => by omega, fun e => by omega⟩
theorem isName_p {σ : mS} (h : isNameB σ = true) : propT σ := by
  simp only [isNameB, Bool.and_eq_true, decide_eq_true_eq] at h
  exact Or.inl h.1
theorem blC_t {σ : mS} {m : Nat} (hv : PV σ) (h : (blCF σ m).1 = true) : ¬ m = 40 ∧ BT σ (blCF σ m).2 m := by
  unfold blCF at *
  split at h
  · rename_i h1
    split at h
    · exact absurd h (by simp)
    · rename_i h2
      split at h
      · rename_i h3
        rw [if_pos h1, if_neg h2, if_pos h3]
        have hq : blQ σ < σ.2.1 6 2 := looks_lt h1
        have l6 : (blA σ).2.2.1 = σ.2.1 := looks_n σ _ _
        have l47 : (blA σ).2.1 47 = σ.1 47 := looks_sc h1 (by decide)
        have lz : mz (blA σ).2 = mz σ := mz_looks h1
        have lv : PV (blA σ).2 := PV_looks hv
        have lp : propT (blA σ).2 := by
          have := isName_p (looks_t h1).2.1
          unfold propT at *
          rw [show (blA σ).2.1 11 = σ.1 11 from looks_sc h1 (by decide)]
          exact this
        generalize (blA σ).2 = ρ at *
        have e8 := blS_8 ρ m 0
        have e47 := blS_47 ρ m 0
        have ez : mz (blS ρ m 0) < mz ρ := (mz_nx lv).2 lp
        have ev : PV (blS ρ m 0) := PV_blS lv
        have e6 : (blS ρ m 0).2.1 6 = ρ.2.1 6 := rfl
        generalize blS ρ m 0 = κ at *
        have f8 : (mN (nx κ) 8 (4 * m + 1) (blQ σ)).2.1 8 = upN (κ.2.1 8) (4 * m + 1) (blQ σ) := rfl
        have f6 : (mN (nx κ) 8 (4 * m + 1) (blQ σ)).2.1 6 = κ.2.1 6 := rfl
        have f47 : (mN (nx κ) 8 (4 * m + 1) (blQ σ)).1 47 = κ.1 47 := nx_sc κ 47 (by decide)
        have fz : mz (mN (nx κ) 8 (4 * m + 1) (blQ σ)) ≤ mz κ := (mz_nx ev).1
        have fv : PV (mN (nx κ) 8 (4 * m + 1) (blQ σ)) := PV_mN (PV_nx ev)
        generalize mN (nx κ) 8 (4 * m + 1) (blQ σ) = θ at *
        obtain ⟨a1, a2, a3, a4, a5, a6, a7, a8⟩ := bl2_t fv h
        have t6 : θ.2.1 6 = σ.2.1 6 := by rw [f6, e6, l6]
        have t8 : ∀ j, j < 4 * m → θ.2.1 8 j = σ.2.1 8 j := fun j hj => by rw [f8, upN_n _ _ _ _ (by omega), e8, upN_n _ _ _ _ (by omega), l6]
        refine ⟨h2, a2, by rw [a3, t6], fun j hj => by rw [a4 j (by omega) (by omega), t8 j hj], by rw [a7, f47, e47, l47], by omega, ?_⟩
        rw [a4 (4 * m) (by omega) (by omega), f8, upN_n _ _ _ _ (by omega), e8, upN_s, a4 (4 * m + 1) (by omega) (by omega), f8, upN_s, a5]
        exact ⟨by omega, fun _ => ⟨hq, by rw [← t6]; exact a1⟩, fun e => by omega, fun e => by omega, fun e => by omega, fun e => by omega⟩
      · exact absurd h (by simp)
  · exact absurd h (by simp)
theorem bookLine_t {σ : mS} {m : Nat} (hv : PV σ) (h : (bookLineF σ m).1 = true) : ¬ m = 40 ∧ BT σ (bookLineF σ m).2 m := by
  unfold bookLineF at *
  split at h
  · rename_i q; rw [if_pos q]; exact blGN_t (by omega) (by omega) hv (isWord_p q) h
  · rename_i q1; rw [if_neg q1]; split at h
    · rename_i q; rw [if_pos q]; exact blGN_t (by omega) (by omega) hv (isWord_p q) h
    · rename_i q1; rw [if_neg q1]; split at h
      · rename_i q; rw [if_pos q]; exact blGT_t (by omega) (by decide) (by decide) hv (isWord_p q) h
      · rename_i q1; rw [if_neg q1]; split at h
        · rename_i q; rw [if_pos q]; exact blGT_t (by omega) (by decide) (by decide) hv (isWord_p q) h
        · rename_i q1; rw [if_neg q1]; split at h
          · rename_i q; rw [if_pos q]; exact blGN_t (by omega) (fun _ => rfl) hv (isWord_p q) h
          · rename_i q1; rw [if_neg q1]; split at h
            · rename_i q; rw [if_pos q]; exact blGT_t (by omega) (by decide) (by decide) hv (isWord_p q) h
            · rename_i q1; rw [if_neg q1]; exact blC_t hv h

/-- what reading leaves: all scalars but its own, all arrays but h, read and the new names -/
def kOK (k : Nat) : Prop := ¬ k = 4 ∧ ¬ k = 11 ∧ ¬ k = 12 ∧ ¬ k = 13 ∧ ¬ k = 14 ∧ ¬ k = 15 ∧ ¬ k = 16 ∧ ¬ k = 18 ∧ ¬ k = 19 ∧ ¬ k = 20 ∧ ¬ k = 47
def FR (σ σ' : mS) : Prop := (∀ k, kOK k → σ'.1 k = σ.1 k) ∧ (∀ k, ¬ k = 7 → ¬ k = 8 → σ'.2.1 k = σ.2.1 k) ∧ σ'.2.2.1 = σ.2.2.1 ∧ (∀ k, ¬ k = 9 → σ'.2.2.2.2 k = σ.2.2.2.2 k) ∧ ∀ j, j < 13 → σ'.2.2.2.2 9 j = σ.2.2.2.2 9 j
theorem FR_rf (σ : mS) : FR σ σ := ⟨fun _ _ => rfl, fun _ _ _ => rfl, rfl, fun _ _ => rfl, fun _ _ => rfl⟩
theorem FR_tr {σ ρ κ : mS} (h1 : FR σ ρ) (h2 : FR ρ κ) : FR σ κ := ⟨fun k hk => (h2.1 k hk).trans (h1.1 k hk), fun k a b => (h2.2.1 k a b).trans (h1.2.1 k a b), h2.2.2.1.trans h1.2.2.1, fun k a => (h2.2.2.2.1 k a).trans (h1.2.2.2.1 k a), fun j a => (h2.2.2.2.2 j a).trans (h1.2.2.2.2 j a)⟩
theorem FR_mI {σ : mS} {k : Nat} {x : Int32} (hk : ¬ kOK k) : FR σ (mI σ k x) := ⟨fun j hj => mI_o _ _ _ _ (fun e => hk (e ▸ hj)), fun _ _ _ => rfl, rfl, fun _ _ => rfl, fun _ _ => rfl⟩
theorem FR_mN {σ : mS} {k i v : Nat} (hk : k = 7 ∨ k = 8) : FR σ (mN σ k i v) := ⟨fun _ _ => rfl, fun j a b => upN_n _ _ _ _ (by omega), rfl, fun _ _ => rfl, fun _ _ => rfl⟩
theorem FR_mL {σ : mS} {i : Nat} {v : Int64} (hi : 13 ≤ i) : FR σ (mL σ 9 i v) := ⟨fun _ _ => rfl, fun _ _ _ => rfl, rfl, fun j a => upN_n _ _ _ _ a, fun j a => by show upN (σ.2.2.2.2 9) i v j = _; exact upN_n _ _ _ _ (by omega)⟩
theorem FR_nx (σ : mS) : FR σ (nx σ) := ⟨fun k hk => nx_sc σ k ⟨hk.1, hk.2.1, hk.2.2.1, hk.2.2.2.1, hk.2.2.2.2.1⟩, fun _ _ _ => rfl, rfl, fun _ _ => rfl, fun _ _ => rfl⟩
theorem FR_bad (σ : mS) (k : Nat) : FR σ (badF σ k) := FR_tr (FR_mI (by unfold kOK; omega)) (FR_mI (by unfold kOK; omega))
theorem FR_sign (σ : mS) (c : Nat) : FR σ (signF σ c).2 := by unfold signF; split; exact FR_nx σ; exact FR_bad σ 1
theorem FR_takes (σ : mS) (lo hi : Nat) : FR σ (takesF σ lo hi).2 := by
  unfold takesF
  split
  · split
    · exact FR_tr (FR_mI (by unfold kOK; omega)) (FR_nx _)
    · exact FR_bad σ 2
  · exact FR_bad σ 1
theorem FR_puts (σ : mS) (to lo hi : Nat) : FR σ (putsF σ to lo hi).2 := by
  unfold putsF
  split
  · exact FR_tr (FR_takes σ lo hi) (FR_mN (Or.inl rfl))
  · exact FR_takes σ lo hi
theorem FR_fresh (σ : mS) {to : Nat} (h : 13 ≤ to) : FR σ (freshF σ to).2 := by
  unfold freshF
  split
  · split
    · exact FR_bad σ 3
    · split
      · exact FR_bad σ 3
      · exact FR_tr (FR_mL h) (FR_nx _)
  · exact FR_bad σ 1
theorem FR_looks (σ : mS) (fr mn : Nat) : FR σ (looksF σ fr mn).2 := by
  unfold looksF
  split
  · split
    · exact FR_mI (by unfold kOK; omega)
    · exact FR_tr (FR_mI (by unfold kOK; omega)) (FR_bad _ 3)
  · exact FR_bad σ 1
theorem FR_takesName (σ : mS) (fr mn : Nat) : FR σ (takesNameF σ fr mn).2 := by
  unfold takesNameF
  split
  · exact FR_tr (FR_looks σ fr mn) (FR_nx _)
  · exact FR_looks σ fr mn
theorem FR_readLand (σ : mS) : FR σ (readLandF σ).2 := by
  unfold readLandF
  have f1 := FR_tr (FR_nx σ) (FR_fresh (nx σ) (to := 13 + σ.2.1 7 0) (by omega))
  split
  · exact FR_bad σ 4
  · split
    · split
      · split
        · exact FR_tr (FR_tr (FR_tr f1 (FR_puts _ _ _ _)) (FR_puts _ _ _ _)) (FR_mN (Or.inl rfl))
        · exact FR_tr (FR_tr f1 (FR_puts _ _ _ _)) (FR_puts _ _ _ _)
      · exact FR_tr f1 (FR_puts _ _ _ _)
    · exact f1
theorem FR_readStore (σ : mS) : FR σ (readStoreF σ).2 := by
  unfold readStoreF
  have f1 := FR_tr (FR_nx σ) (FR_looks (nx σ) 13 (σ.2.1 7 0))
  split
  · split
    · exact FR_tr f1 (FR_bad _ 3)
    · exact FR_tr (FR_tr (FR_tr f1 (FR_mI (by unfold kOK; omega))) (FR_nx _)) (FR_puts _ _ _ _)
  · exact f1
theorem FR_readTreaty (σ : mS) : FR σ (readTreatyF σ).2 := by
  unfold readTreatyF
  have f1 := FR_tr (FR_nx σ) (FR_takesName (nx σ) 13 (σ.2.1 7 0))
  have f2 := FR_tr f1 (FR_looks _ 13 (σ.2.1 7 0))
  split
  · split
    · split
      · exact FR_tr f2 (FR_bad _ 3)
      · split
        · exact FR_tr f2 (FR_bad _ 3)
        · exact FR_tr (FR_tr f2 (FR_mN (Or.inl rfl))) (FR_nx _)
    · exact f2
  · exact f1
theorem FR_readPerson (σ : mS) : FR σ (readPersonF σ).2 := by
  unfold readPersonF
  have f1 := FR_tr (FR_nx σ) (FR_fresh (nx σ) (to := 20 + σ.2.1 7 2) (by omega))
  have f2 := FR_tr f1 (FR_takesName _ 13 (σ.2.1 7 0))
  split
  · exact FR_bad σ 4
  · split
    · split
      · split
        · exact FR_tr (FR_tr (FR_tr f2 (FR_mN (Or.inl rfl))) (FR_puts _ _ _ _)) (FR_mN (Or.inl rfl))
        · exact FR_tr (FR_tr f2 (FR_mN (Or.inl rfl))) (FR_puts _ _ _ _)
      · exact f2
    · exact f1
theorem FR_readRoad (σ : mS) : FR σ (readRoadF σ).2 := by
  unfold readRoadF
  have f1 := FR_tr (FR_nx σ) (FR_takesName (nx σ) 13 (σ.2.1 7 0))
  have f2 := FR_tr f1 (FR_looks (takesNameF (nx σ) 13 (σ.2.1 7 0)).2 13 (σ.2.1 7 0))
  generalize looksF (takesNameF (nx σ) 13 (σ.2.1 7 0)).2 13 (σ.2.1 7 0) = b at f2 ⊢
  generalize (findW (takesNameF (nx σ) 13 (σ.2.1 7 0)).2 13 (σ.2.1 7 0)).getD 0 = y at f2 ⊢
  generalize (findW (nx σ) 13 (σ.2.1 7 0)).getD 0 = x at f2 ⊢
  generalize takesNameF (nx σ) 13 (σ.2.1 7 0) = q at f1 ⊢
  have f3 := FR_tr (FR_tr (FR_tr f2 (FR_mN (σ := b.2) (k := 7) (i := 24 + σ.2.1 7 1) (v := x) (Or.inl rfl))) (FR_mN (k := 7) (i := 36 + σ.2.1 7 1) (v := y) (Or.inl rfl))) (FR_nx _)
  generalize nx (mN (mN b.2 7 (24 + σ.2.1 7 1) x) 7 (36 + σ.2.1 7 1) y) = c at f3 ⊢
  have f4 := FR_tr f3 (FR_puts c (48 + σ.2.1 7 1) 0 240)
  generalize putsF c (48 + σ.2.1 7 1) 0 240 = e at f4 ⊢
  have f5 := FR_tr f4 (FR_puts e.2 (60 + σ.2.1 7 1) (e.2.2.1 7 (48 + σ.2.1 7 1)) 240)
  generalize putsF e.2 (60 + σ.2.1 7 1) (e.2.2.1 7 (48 + σ.2.1 7 1)) 240 = g at f5 ⊢
  split
  · exact FR_bad σ 4
  · split
    · split
      · split
        · exact FR_tr f2 (FR_bad _ 3)
        · split
          · exact FR_tr f2 (FR_bad _ 3)
          · split
            · split
              · exact FR_tr f5 (FR_mN (Or.inl rfl))
              · exact f5
            · exact f4
      · exact f2
    · exact f1
theorem FR_line (σ : mS) : FR σ (lineF σ).2 := by
  unfold lineF
  split
  · exact FR_readLand σ
  · split
    · exact FR_readStore σ
    · split
      · exact FR_readRoad σ
      · split
        · exact FR_readTreaty σ
        · split
          · exact FR_readPerson σ
          · exact FR_bad σ 1
theorem FR_mapL : ∀ (n : Nat) (σ : mS), FR σ (mapL n σ).2 := by
  intro n
  induction n with
  | zero => intro σ; exact FR_rf σ
  | succ n ih =>
    intro σ
    rw [mapL]
    split
    · exact FR_rf σ
    · split
      · split
        · exact FR_tr (FR_tr (FR_tr (FR_line σ) (FR_sign _ 59)) (FR_mI (by unfold kOK; omega))) (ih _)
        · exact FR_tr (FR_line σ) (FR_sign _ 59)
      · exact FR_line σ
theorem FR_bl2 (σ : mS) (to : Nat) (five : Bool) : FR σ (bl2F σ to five).2 := by
  unfold bl2F
  have f1 : FR σ (bkT σ).2 := FR_takesName σ _ _
  have f2 : FR σ (bl2S σ to) := FR_tr f1 (FR_mN (Or.inr rfl))
  split
  · split
    · split
      · exact FR_tr (FR_tr f2 (FR_takes _ 1 99)) (FR_mN (Or.inr rfl))
      · exact FR_tr f2 (FR_takes _ 1 99)
    · exact f2
  · exact f1
theorem FR_blN (σ : mS) (to : Nat) (five : Bool) : FR σ (blNF σ to five).2 := by
  unfold blNF
  have f1 : FR σ (bkT σ).2 := FR_takesName σ _ _
  split
  · exact FR_tr (FR_tr f1 (FR_mN (Or.inr rfl))) (FR_bl2 _ _ _)
  · exact f1
theorem FR_blT (σ : mS) (to lo hi : Nat) : FR σ (blTF σ to lo hi).2 := by
  unfold blTF
  split
  · exact FR_tr (FR_takes σ lo hi) (FR_mN (Or.inr rfl))
  · exact FR_takes σ lo hi
theorem FR_blS (σ : mS) (m k : Nat) : FR σ (blS σ m k) := FR_tr (FR_nx σ) (FR_mN (Or.inr rfl))
theorem FR_bookLine (σ : mS) (m : Nat) : FR σ (bookLineF σ m).2 := by
  have gN : ∀ k five, FR σ (blGN σ m k five).2 := fun k five => by
    unfold blGN
    split
    · exact FR_bad σ 4
    · exact FR_tr (FR_blS σ m k) (FR_blN _ _ _)
  have gT : ∀ k lo hi, FR σ (blGT σ m k lo hi).2 := fun k lo hi => by
    unfold blGT
    split
    · exact FR_bad σ 4
    · exact FR_tr (FR_blS σ m k) (FR_blT _ _ _ _)
  have gC : FR σ (blCF σ m).2 := by
    unfold blCF
    have f1 : FR σ (blA σ).2 := FR_looks σ _ _
    split
    · split
      · exact FR_tr f1 (FR_bad _ 4)
      · split
        · exact FR_tr (FR_tr (FR_tr (FR_tr f1 (FR_blS _ m 0)) (FR_nx _)) (FR_mN (Or.inr rfl))) (FR_bl2 _ _ _)
        · exact FR_tr (FR_tr f1 (FR_blS _ m 0)) (FR_bad _ 1)
    · exact f1
  unfold bookLineF
  split
  · exact gN _ _
  · split
    · exact gN _ _
    · split
      · exact gT _ _ _
      · split
        · exact gT _ _ _
        · split
          · exact gN _ _
          · split
            · exact gT _ _ _
            · exact gC
theorem bookLine_23 (σ : mS) (m : Nat) : (bookLineF σ m).2.1 23 = σ.1 23 := (FR_bookLine σ m).1 23 (by unfold kOK; omega)

