/-- the reference's number of a word in a sentence -/
def cwd (i : Nat) : Nat := if 15 ≤ i then i - 15 else 34 - i
def STq (ad : Nat → Nat) (κ : kS) (f : Nat → Nat) (b i : Nat) : Prop := ∃ w, 12 ≤ w ∧ w < 24 ∧ κ.2.2.2 2 i = some (ad w) ∧ f (b + 3 * i) = cwd w ∧ κ.2.1 3 i = nI (f (b + 3 * i + 1)) ∧ κ.2.1 4 i = nI (f (b + 3 * i + 2))
def stK (ad : Nat → Nat) (κ : kS) (s w y z : Nat) : kS := kF (kI (kI (kP κ 2 s (Option.map ad (some w))) 3 s (nI y)) 4 s (nI z)) 5 (.int (nI (s + 1)))
theorem STq_code {ad : Nat → Nat} {κ : kS} {σ : mS} {w y z : Nat} (h : ∀ i, i < sC σ → STq ad κ (σ.2.1 8) 0 i) (h1 : 12 ≤ w) (h2 : w < 24) : ∀ i, i < sC σ + 1 → STq ad (stK ad κ (sC σ) w y z) ((codeF σ (cwd w) y z).2.1 8) 0 i := by
  intro i hi
  rw [code_8]
  by_cases e : i = sC σ
  · subst e
    refine ⟨w, h1, h2, upN_s _ _ _, ?_, ?_, ?_⟩
    · rw [Nat.zero_add, upN_n _ _ _ _ (by omega), upN_n _ _ _ _ (by omega), upN_s]
    · rw [Nat.zero_add, upN_n _ _ _ _ (by omega), upN_s]; exact upN_s _ _ _
    · rw [Nat.zero_add, upN_s]; exact upN_s _ _ _
  · obtain ⟨w9, a1, a2, a3, a4, a5, a6⟩ := h i (by omega)
    refine ⟨w9, a1, a2, (upN_n _ _ _ _ e).trans a3, ?_, ?_, ?_⟩
    · rw [upN_n _ _ _ _ (by omega), upN_n _ _ _ _ (by omega), upN_n _ _ _ _ (by omega)]; exact a4
    · rw [upN_n _ _ _ _ (by omega), upN_n _ _ _ _ (by omega), upN_n _ _ _ _ (by omega)]; exact (upN_n _ _ _ _ e).trans a5
    · rw [upN_n _ _ _ _ (by omega), upN_n _ _ _ _ (by omega), upN_n _ _ _ _ (by omega)]; exact (upN_n _ _ _ _ e).trans a6
set_option maxHeartbeats 1000000 in
set_option maxRecDepth 20000 in
theorem c6_add {G : xG} {d : Nat} {Q : xQ} {a ad x : Nat → Nat} {tw ts : Nat} {κT κX : kS} {R : va_W} {s w y z : Nat} (hE : EB ad tw ts G) (hX5 : κX.1 5 = .int (nI s)) (hs : s < 40) (hw : w < 24) (kk : Q (some (.int (bI true))) (wSe G.2.2.1 x (stK ad κX s w y z) ++ (wTp G.2.2.1 a κT ++ R))) : MT G MX6_addStep d 0 0 [.ref (x 8), va_rf (Option.map ad (some w)), .int (nI y), .int (nI z)] (wSe G.2.2.1 x κX ++ (wTp G.2.2.1 a κT ++ R)) Q := by
  refine mt_start (L := [some (.ref (x 8)), some (va_rf (Option.map ad (some w))), some (.int (nI y)), some (.int (nI z))]) rfl (Nat.le_of_ble_eq_true rfl) rfl ?_
  refine aw_aload_n (pc := 0) (i := 0) dX6_addStep_0 rfl rfl ?_
  refine pg_X6_24 (pc := 1) (v := .int (nI s)) dX6_addStep_1 rfl hX5 ?_
  refine aw_bipush (pc := 4) dX6_addStep_4 bipush_40 ?_
  refine an_icmp_lt (pc := 6) (tgt := 18) dX6_addStep_6 rfl (by omega) (by decide) (fun h6 => ?_) (fun h6 => ?_)
  · -- 18
    refine aw_aload_n (pc := 18) (i := 0) dX6_addStep_18 rfl rfl ?_
    refine pg_X6_13 (pc := 19) dX6_addStep_19 rfl ?_
    refine aw_aload_n (pc := 22) (i := 0) dX6_addStep_22 rfl rfl ?_
    refine pg_X6_24 (pc := 23) (v := .int (nI s)) dX6_addStep_23 rfl hX5 ?_
    refine aw_qload_n (pc := 26) (i := 1) dX6_addStep_26 rfl rfl ?_
    refine ps_X6_what (pc := 27) dX6_addStep_27 hE (by omega) (wOK_some hw) ?_
    refine aw_aload_n (pc := 28) (i := 0) dX6_addStep_28 rfl rfl ?_
    refine pg_X6_17 (pc := 29) dX6_addStep_29 rfl ?_
    refine aw_aload_n (pc := 32) (i := 0) dX6_addStep_32 rfl rfl ?_
    refine pg_X6_24 (pc := 33) (v := .int (nI s)) dX6_addStep_33 rfl hX5 ?_
    refine aw_iload_n (pc := 36) (i := 2) dX6_addStep_36 rfl rfl ?_
    refine ps_X6_sign (pc := 37) dX6_addStep_37 (by omega) ?_
    refine aw_aload_n (pc := 38) (i := 0) dX6_addStep_38 rfl rfl ?_
    refine pg_X6_21 (pc := 39) dX6_addStep_39 rfl ?_
    refine aw_aload_n (pc := 42) (i := 0) dX6_addStep_42 rfl rfl ?_
    refine pg_X6_24 (pc := 43) (v := .int (nI s)) dX6_addStep_43 rfl hX5 ?_
    refine aw_iload_n (pc := 46) (i := 3) dX6_addStep_46 rfl rfl ?_
    refine ps_X6_value (pc := 47) dX6_addStep_47 (by omega) ?_
    refine aw_aload_n (pc := 48) (i := 0) dX6_addStep_48 rfl rfl ?_
    refine aw_dup (pc := 49) dX6_addStep_49 rfl ?_
    refine pg_X6_24 (pc := 50) (v := .int (nI s)) dX6_addStep_50 rfl hX5 ?_
    refine aw_iconst (pc := 53) dX6_addStep_53 iconst_1 ?_
    refine an_add (pc := 54) dX6_addStep_54 ?_
    refine pp_X6_24 (pc := 55) dX6_addStep_55 rfl ?_
    refine aw_iconst (pc := 58) dX6_addStep_58 iconst_1 ?_
    exact ab_ret1 (pc := 59) dX6_addStep_59 rfl (Nat.le_refl _) (Nat.le_refl _) (kk)
  · -- 9
    exfalso; omega
theorem wMap_s {i : Nat} (hi : i < 24) : (14 ≤ i → 12 ≤ wMap i ∧ wMap i ≤ 21) ∧ (i < 14 → wMap i < 12) := by
  have := (by decide : ∀ k : Fin 24, (14 ≤ k.1 → 12 ≤ wMap k.1 ∧ wMap k.1 ≤ 21) ∧ (k.1 < 14 → wMap k.1 < 12)) ⟨i, hi⟩
  exact this
def bgB (r : Option Nat) : Bool := match r with
  | none => false
  | some i => decide (14 ≤ i)
set_option maxHeartbeats 1000000 in
set_option maxRecDepth 20000 in
theorem c6_begins {G : xG} {d : Nat} {Q : xQ} {ws : va_W} {ad : Nat → Nat} {tw ts : Nat} {r : Option Nat} (hE : EB ad tw ts G) (hr : wOK r) (kk : Q (some (.int (bI (bgB r)))) ws) : MT G MX6_beginsOne (d + 1) 0 0 [va_rf (Option.map ad r)] ws Q := by
  refine mt_start (L := [some (va_rf (Option.map ad r))]) rfl (by cases r <;> exact Nat.le_of_ble_eq_true rfl) (by cases r <;> rfl) ?_
  refine aw_qload_n (pc := 0) (i := 0) dX6_beginsOne_0 rfl rfl ?_
  refine aw_wnonnull (ad := ad) (pc := 1) (tgt := 6) dX6_beginsOne_1 rfl (fun h1 => ?_) (fun h1 => ?_)
  · -- 6
    obtain ⟨i, rfl⟩ : ∃ i, r = some i := by cases r with | none => exact absurd rfl h1 | some i => exact ⟨i, rfl⟩
    have hi := hr i rfl
    refine aw_gsm (pc := 6) dX6_beginsOne_6 rfl hE gs_X6_117 ?_
    refine aw_qload_n (pc := 9) (i := 0) dX6_beginsOne_9 rfl rfl ?_
    refine co_X6 (pc := 10) dX6_beginsOne_10 rfl hE (by omega) (Nat.le_of_ble_eq_true rfl) (Nat.le_refl _) (Nat.le_refl _) ?_
    refine aw_tm (pc := 13) dX6_beginsOne_13 hE (by omega) ?_
    rcases (show i < 14 ∨ i = 14 ∨ i = 15 ∨ i = 16 ∨ i = 17 ∨ i = 18 ∨ i = 19 ∨ i = 20 ∨ i = 21 ∨ i = 22 ∨ i = 23 by omega) with h5 | rfl | rfl | rfl | rfl | rfl | rfl | rfl | rfl | rfl | rfl
    · refine aw_tabOut (pc := 14) (tgt := 70) dX6_beginsOne_14 (Or.inl (by have := (wMap_s hi).2 h5; rw [nI_toInt (by omega)]; omega)) rfl ?_
      refine aw_iconst (pc := 70) dX6_beginsOne_70 iconst_0 ?_
      exact ab_ret0 (pc := 71) dX6_beginsOne_71 rfl (Nat.le_refl _) (Nat.le_refl _) (by rw [show bgB (some i) = false from decide_eq_false (by omega)] at kk; exact kk)
    · refine aw_tabIn (pc := 14) (tgt := 68) dX6_beginsOne_14 (by decide) (by decide) rfl rfl ?_
      refine aw_iconst (pc := 68) dX6_beginsOne_68 iconst_1 ?_
      exact ab_ret1 (pc := 69) dX6_beginsOne_69 rfl (Nat.le_refl _) (Nat.le_refl _) (kk)
    · refine aw_tabIn (pc := 14) (tgt := 68) dX6_beginsOne_14 (by decide) (by decide) rfl rfl ?_
      refine aw_iconst (pc := 68) dX6_beginsOne_68 iconst_1 ?_
      exact ab_ret1 (pc := 69) dX6_beginsOne_69 rfl (Nat.le_refl _) (Nat.le_refl _) (kk)
    · refine aw_tabIn (pc := 14) (tgt := 68) dX6_beginsOne_14 (by decide) (by decide) rfl rfl ?_
      refine aw_iconst (pc := 68) dX6_beginsOne_68 iconst_1 ?_
      exact ab_ret1 (pc := 69) dX6_beginsOne_69 rfl (Nat.le_refl _) (Nat.le_refl _) (kk)
    · refine aw_tabIn (pc := 14) (tgt := 68) dX6_beginsOne_14 (by decide) (by decide) rfl rfl ?_
      refine aw_iconst (pc := 68) dX6_beginsOne_68 iconst_1 ?_
      exact ab_ret1 (pc := 69) dX6_beginsOne_69 rfl (Nat.le_refl _) (Nat.le_refl _) (kk)
    · refine aw_tabIn (pc := 14) (tgt := 68) dX6_beginsOne_14 (by decide) (by decide) rfl rfl ?_
      refine aw_iconst (pc := 68) dX6_beginsOne_68 iconst_1 ?_
      exact ab_ret1 (pc := 69) dX6_beginsOne_69 rfl (Nat.le_refl _) (Nat.le_refl _) (kk)
    · refine aw_tabIn (pc := 14) (tgt := 68) dX6_beginsOne_14 (by decide) (by decide) rfl rfl ?_
      refine aw_iconst (pc := 68) dX6_beginsOne_68 iconst_1 ?_
      exact ab_ret1 (pc := 69) dX6_beginsOne_69 rfl (Nat.le_refl _) (Nat.le_refl _) (kk)
    · refine aw_tabIn (pc := 14) (tgt := 68) dX6_beginsOne_14 (by decide) (by decide) rfl rfl ?_
      refine aw_iconst (pc := 68) dX6_beginsOne_68 iconst_1 ?_
      exact ab_ret1 (pc := 69) dX6_beginsOne_69 rfl (Nat.le_refl _) (Nat.le_refl _) (kk)
    · refine aw_tabIn (pc := 14) (tgt := 68) dX6_beginsOne_14 (by decide) (by decide) rfl rfl ?_
      refine aw_iconst (pc := 68) dX6_beginsOne_68 iconst_1 ?_
      exact ab_ret1 (pc := 69) dX6_beginsOne_69 rfl (Nat.le_refl _) (Nat.le_refl _) (kk)
    · refine aw_tabIn (pc := 14) (tgt := 68) dX6_beginsOne_14 (by decide) (by decide) rfl rfl ?_
      refine aw_iconst (pc := 68) dX6_beginsOne_68 iconst_1 ?_
      exact ab_ret1 (pc := 69) dX6_beginsOne_69 rfl (Nat.le_refl _) (Nat.le_refl _) (kk)
    · refine aw_tabIn (pc := 14) (tgt := 68) dX6_beginsOne_14 (by decide) (by decide) rfl rfl ?_
      refine aw_iconst (pc := 68) dX6_beginsOne_68 iconst_1 ?_
      exact ab_ret1 (pc := 69) dX6_beginsOne_69 rfl (Nat.le_refl _) (Nat.le_refl _) (kk)
  · -- 4
    refine aw_iconst (pc := 4) dX6_beginsOne_4 iconst_0 ?_
    exact ab_ret0 (pc := 5) dX6_beginsOne_5 rfl (Nat.le_refl _) (Nat.le_refl _) (by rw [h1] at kk; exact kk)
