theorem BD_bl2 (σ : mS) (to : Nat) (five : Bool) : BD (bl2F σ to five) := by
  unfold bl2F
  exact BD_if (BD_takesName _ _ _) (BD_ite (BD_if (BD_takes _ _ _) (BD_true _)) (BD_true _))
theorem BD_blN (σ : mS) (to : Nat) (five : Bool) : BD (blNF σ to five) := by
  unfold blNF
  exact BD_if (BD_takesName _ _ _) (BD_bl2 _ _ _)
theorem BD_blT (σ : mS) (to lo hi : Nat) : BD (blTF σ to lo hi) := by
  unfold blTF
  exact BD_if (BD_takes _ _ _) (BD_true _)
theorem BD_blGN (σ : mS) (m k : Nat) (five : Bool) : BD (blGN σ m k five) := by
  unfold blGN
  exact BD_ite (BD_bad (by decide) (by decide)) (BD_blN _ _ _)
theorem BD_blGT (σ : mS) (m k lo hi : Nat) : BD (blGT σ m k lo hi) := by
  unfold blGT
  exact BD_ite (BD_bad (by decide) (by decide)) (BD_blT _ _ _ _)
theorem BD_blC (σ : mS) (m : Nat) : BD (blCF σ m) := by
  unfold blCF
  exact BD_if (BD_looks _ _ _) (BD_ite (BD_bad (by decide) (by decide)) (BD_ite (BD_bl2 _ _ _) (BD_bad (by decide) (by decide))))
theorem BD_bookLine (σ : mS) (m : Nat) : BD (bookLineF σ m) := by
  unfold bookLineF
  exact BD_ite (BD_blGN _ _ _ _) (BD_ite (BD_blGN _ _ _ _) (BD_ite (BD_blGT _ _ _ _ _) (BD_ite (BD_blGT _ _ _ _ _) (BD_ite (BD_blGN _ _ _ _) (BD_ite (BD_blGT _ _ _ _ _) (BD_blC _ _))))))
theorem BD_bkL {t : Nat → Nat} : ∀ (n : Nat) (σ : mS) (m : Nat), mz σ < n → BV t σ m → (bkL n σ m).1 = false → ∃ k, 1 ≤ k ∧ k ≤ 4 ∧ (bkL n σ m).2.1.1 15 = nI k := by
  intro n
  induction n with
  | zero => intro σ m h _; exact absurd h (Nat.not_lt_zero _)
  | succ n ih =>
    intro σ m h H hf
    rw [bkL] at hf ⊢
    by_cases e0 : σ.1 11 = nI 0
    · rw [if_pos e0] at hf; cases hf
    · rw [if_neg e0] at hf ⊢
      by_cases e : (bookLineF σ m).1 = true
      · rw [if_pos e] at hf ⊢
        by_cases e2 : (signF (bookLineF σ m).2 59).1 = true
        · rw [if_pos e2] at hf ⊢
          obtain ⟨b1, b2⟩ := BV_line H e e2
          exact ih _ _ (by omega) b1 hf
        · rw [if_neg e2]; exact BD_sign _ _ (by simpa using e2)
      · rw [if_neg e]; exact BD_bookLine _ _ (by simpa using e)
theorem BD_opG (σ : mS) (x : Nat) : BD (opG σ x) := by
  unfold opG
  exact BD_ite (BD_bad (by decide) (by decide)) (BD_ite (BD_bad (by decide) (by decide)) (BD_true _))
theorem BD_opM (σ : mS) : BD (opM σ) := by unfold opM; exact BD_ite (BD_true _) (BD_bad (by decide) (by decide))
theorem BD_opB (σ : mS) : BD (opB σ) := by
  unfold opB
  exact BD_ite (BD_true _) (BD_ite (BD_if (BD_looks _ _ _) (BD_true _)) (BD_ite (BD_ite (BD_bad (by decide) (by decide)) (BD_ite (BD_bad (by decide) (by decide)) (BD_opM _))) (BD_bad (by decide) (by decide))))
theorem BD_operand (σ : mS) : BD (operandF σ) := by
  unfold operandF opL
  exact BD_ite (BD_opG _ _) (BD_ite (BD_opG _ _) (BD_ite (BD_bad (by decide) (by decide)) (BD_ite (BD_bad (by decide) (by decide)) (BD_ite (BD_bad (by decide) (by decide)) (BD_opB _)))))
theorem BD_behind (σ : mS) : BD (behindF σ) := by
  unfold behindF
  exact BD_ite (BD_true _) (BD_ite (BD_true _) (BD_ite (BD_ite (BD_bad (by decide) (by decide)) (BD_true _)) (BD_bad (by decide) (by decide))))
theorem BD_senL : ∀ (n : Nat) (σ : mS) (b : Bool), mz σ < n → SV σ b → σ.2.1 6 0 ≤ 7 → BD (senL n σ) := by
  intro n
  induction n with
  | zero => intro σ b h _ _; exact absurd h (Nat.not_lt_zero _)
  | succ n ih =>
    intro σ b h H hl
    rw [senL]
    by_cases h1 : σ.1 55 = nI 1
    · have hb : b = true := by
        cases b with
        | true => rfl
        | false => exact absurd (h1.symm.trans H.2.2.2.2.2.1) (by decide)
      subst hb
      rw [if_pos h1]
      by_cases h2 : σ.1 11 = nI 0
      · rw [if_pos h2]; exact BD_ite (BD_true _) (BD_bad (by decide) (by decide))
      · rw [if_neg h2]
        by_cases h3 : (behindF σ).1 = true
        · rw [if_pos h3]
          obtain ⟨⟨b2, s1⟩, s2, s3⟩ := behind_t H h3
          exact ih _ b2 (by omega) s1 (by rw [s3]; exact hl)
        · rw [if_neg h3]; exact fun _ => BD_behind _ (by simpa using h3)
    · have hb : b = false := by
        cases b with
        | false => rfl
        | true => exact absurd H.2.2.2.2.2.1 h1
      subst hb
      rw [if_neg h1]
      by_cases h3 : (operandF σ).1 = true
      · rw [if_pos h3]
        obtain ⟨⟨b2, s1⟩, s2, s3⟩ := operand_t H hl h3
        exact ih _ b2 (by omega) s1 (by rw [s3]; exact hl)
      · rw [if_neg h3]; exact fun _ => BD_operand _ (by simpa using h3)
