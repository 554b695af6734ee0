/-- what a day needs -/
def DK (t : Nat → Nat) : Prop := (∀ j, t j < 2 ^ 30) ∧ t 2 ≤ 6 ∧ ∀ q, q < t 2 → t (79 + q) < 7
theorem DK_dayG {t : Nat → Nat} (h : DK t) : ∀ n, n ≤ t 2 → DK (dayG t n) := fun n hn => by
  have e := dayG_keep n (by have := h.2.1; omega) (fun q hq => h.2.2 q (by omega))
  refine ⟨dayG_lt h.1 (by decide) n, by rw [e 2 (by omega) (by omega)]; exact h.2.1, fun q hq => ?_⟩
  rw [e 2 (by omega) (by omega)] at hq
  have := h.2.1
  rw [e (79 + q) (by omega) (by omega)]
  exact h.2.2 q hq
theorem dayG_91 {t : Nat → Nat} (h : DK t) : dayG t (t 2) 91 = t 91 := dayG_keep _ h.2.1 h.2.2 91 (by omega) (by omega)
theorem DK_dayF {t : Nat → Nat} (h : DK t) (h9 : t 91 < 400) : DK (dayF t) := by
  obtain ⟨k1, k2, k3⟩ := DK_dayG h (t 2) (Nat.le_refl _)
  unfold dayF
  refine ⟨upN_lt k1 (by rw [dayG_91 h]; omega), by rw [upN_n _ _ _ _ (by decide)]; exact k2, fun q hq => ?_⟩
  rw [upN_n _ _ _ _ (by decide)] at hq
  rw [upN_n _ _ _ _ (by omega)]
  exact k3 q hq
def goG : Nat → (Nat → Nat) → Nat × (Nat → Nat)
  | 0, t => (0, t)
  | n + 1, t => if t 91 < 400 then ((goG n (dayF t)).1 + 1, (goG n (dayF t)).2) else (0, t)
def cpF (x y : Nat → Nat) (b o n : Nat) : Nat → Nat := fun j => if b ≤ j ∧ j < b + n then y (o + (j - b)) else x j
theorem cpF_0 (x y : Nat → Nat) (b o : Nat) : cpF x y b o 0 = x := by
  funext j
  unfold cpF
  rw [if_neg (by omega)]
theorem cpF_out {x y : Nat → Nat} {b o n j : Nat} (h : ¬ (b ≤ j ∧ j < b + n)) : cpF x y b o n j = x j := if_neg h
theorem cpF_in {x y : Nat → Nat} {b o n j : Nat} (h : b ≤ j ∧ j < b + n) : cpF x y b o n j = y (o + (j - b)) := if_pos h
theorem cpF_next {x y : Nat → Nat} {b o n i v : Nat} (hi : i = b + n) (hv : v = y (o + n)) : upN (cpF x y b o n) i v = cpF x y b o (n + 1) := by
  subst hi
  subst hv
  funext j
  unfold upN cpF
  by_cases h : j = b + n
  · rw [if_pos h, if_pos (by omega), h, Nat.add_sub_cancel_left]
  · rw [if_neg h]
    by_cases h2 : b ≤ j ∧ j < b + n
    · rw [if_pos h2, if_pos (by omega)]
    · rw [if_neg h2, if_neg (by omega)]
theorem sN_id (g : Nat → ClassId) (a : Nat → Nat) (σ : mS) : mW g a (sN σ 6 (σ.2.1 6)) = mW g a σ := rfl

set_option maxHeartbeats 1000000 in
set_option maxRecDepth 20000 in
theorem day_loop {G : xG} {d : Nat} {Q : xQ} {a : Nat → Nat} {σ : mS} (hk : DK (σ.2.1 6)) (kk : Q none (mW G.2.2.1 a (sN σ 6 (dayF (σ.2.1 6))))) : ∀ (n i : Nat) (u : Nat → Nat), u = dayG (σ.2.1 6) i → i + n = σ.2.1 6 2 → AW G MX12_day (d + 1) 0 0 Q 2 [some (.ref (a 60)), some (.int (nI i))] [] (mW G.2.2.1 a (sN σ 6 u)) 0 0 := by
  intro n
  induction n with
  | zero =>
    intro i u hug hi
    have hu : DK u := by rw [hug]; exact DK_dayG hk i (by omega)
    have hu2 : u 2 = σ.2.1 6 2 := by rw [hug]; exact dayG_keep i (by have := hk.2.1; omega) (fun q hq => hk.2.2 q (by omega)) 2 (by omega) (by omega)
    have hs2 := hk.2.1
    refine aw_iload_n (pc := 2) (i := 1) dX12_day_2 rfl rfl ?_
    refine aw_aload_n (pc := 3) (i := 0) dX12_day_3 rfl rfl ?_
    refine mg_s (pc := 4) dX12_day_4 rfl ?_
    refine aw_iconst (pc := 7) dX12_day_7 iconst_2 ?_
    refine ml_s (pc := 8) dX12_day_8 (by decide) ?_
    refine aw_top (y := (nI (u 2))) rfl ?_
    refine an_icmp_ge (pc := 9) (tgt := 63) dX12_day_9 rfl (by omega) (Nat.lt_trans (hu.1 _) (by decide)) (fun h9 => ?_) (fun h9 => ?_)
    · -- 63
      refine aw_aload_n (pc := 63) (i := 0) dX12_day_63 rfl rfl ?_
      refine mg_s (pc := 64) dX12_day_64 rfl ?_
      refine aw_bipush (pc := 67) dX12_day_67 bipush_91 ?_
      refine aw_dup2 (pc := 69) dX12_day_69 rfl rfl ?_
      refine ml_s (pc := 70) dX12_day_70 (by decide) ?_
      refine aw_top (y := (nI (u 91))) rfl ?_
      refine aw_iconst (pc := 71) dX12_day_71 iconst_1 ?_
      refine an_add (pc := 72) dX12_day_72 ?_
      refine ms_s (pc := 73) dX12_day_73 (by decide) ?_
      exact aw_vret (pc := 74) dX12_day_74 rfl (Nat.le_refl _) (Nat.le_refl _) (by have e : i = σ.2.1 6 2 := (by omega); subst e; rw [dayF, ← hug] at kk; exact kk)
    · -- 12
      exfalso; omega
  | succ n ih =>
    intro i u hug hi
    have hu : DK u := by rw [hug]; exact DK_dayG hk i (by omega)
    have hu2 : u 2 = σ.2.1 6 2 := by rw [hug]; exact dayG_keep i (by have := hk.2.1; omega) (fun q hq => hk.2.2 q (by omega)) 2 (by omega) (by omega)
    have hs2 := hk.2.1
    have hui := hu.2.2 i (by omega)
    refine aw_iload_n (pc := 2) (i := 1) dX12_day_2 rfl rfl ?_
    refine aw_aload_n (pc := 3) (i := 0) dX12_day_3 rfl rfl ?_
    refine mg_s (pc := 4) dX12_day_4 rfl ?_
    refine aw_iconst (pc := 7) dX12_day_7 iconst_2 ?_
    refine ml_s (pc := 8) dX12_day_8 (by decide) ?_
    refine aw_top (y := (nI (u 2))) rfl ?_
    refine an_icmp_ge (pc := 9) (tgt := 63) dX12_day_9 rfl (by omega) (Nat.lt_trans (hu.1 _) (by decide)) (fun h9 => ?_) (fun h9 => ?_)
    · -- 63
      exfalso; omega
    · -- 12
      refine aw_aload_n (pc := 12) (i := 0) dX12_day_12 rfl rfl ?_
      refine aw_iload_n (pc := 13) (i := 1) dX12_day_13 rfl rfl ?_
      refine mc_I (pc := 14) (As := [.int (nI i)]) (rest := []) dX12_day_14 rfl ok_X12_321 rfl rfl rfl (Nat.le_of_ble_eq_true rfl) (s_grows hu.1 (by omega) (hu.2.2 i (by omega)) ⟨_, _, rfl, rfl, ?_⟩)
      refine aw_top (y := bI (growsF u i)) rfl ?_
      refine ab_if_ne (pc := 17) (tgt := 23) dX12_day_17 rfl (fun h17 => ?_) (fun h17 => ?_)
      · -- 23
        refine aw_aload_n (pc := 23) (i := 0) dX12_day_23 rfl rfl ?_
        refine mg_s (pc := 24) dX12_day_24 rfl ?_
        refine aw_bipush (pc := 27) dX12_day_27 bipush_114 ?_
        refine aw_iload_n (pc := 29) (i := 1) dX12_day_29 rfl rfl ?_
        refine an_add (pc := 30) dX12_day_30 ?_
        refine aw_dup2 (pc := 31) dX12_day_31 rfl rfl ?_
        refine ml_s (pc := 32) dX12_day_32 (by omega) ?_
        refine aw_top (y := (nI (u (114 + i)))) rfl ?_
        refine aw_iconst (pc := 33) dX12_day_33 iconst_1 ?_
        refine an_add (pc := 34) dX12_day_34 ?_
        refine ms_s (pc := 35) dX12_day_35 (by omega) ?_
        refine aw_aload_n (pc := 36) (i := 0) dX12_day_36 rfl rfl ?_
        refine mg_s (pc := 37) dX12_day_37 rfl ?_
        refine aw_bipush (pc := 40) dX12_day_40 bipush_94 ?_
        refine aw_aload_n (pc := 42) (i := 0) dX12_day_42 rfl rfl ?_
        refine mg_s (pc := 43) dX12_day_43 rfl ?_
        refine aw_bipush (pc := 46) dX12_day_46 bipush_79 ?_
        refine aw_iload_n (pc := 48) (i := 1) dX12_day_48 rfl rfl ?_
        refine an_add (pc := 49) dX12_day_49 ?_
        refine ml_s (pc := 50) dX12_day_50 (by omega) ?_
        refine aw_top (y := (nI (u (79 + i)))) (congrArg nI (upN_n _ _ _ _ (by omega))) ?_
        refine an_add (pc := 51) dX12_day_51 ?_
        refine aw_dup2 (pc := 52) dX12_day_52 rfl rfl ?_
        refine ml_s (pc := 53) dX12_day_53 (by omega) ?_
        refine aw_top (y := (nI (u (94 + (u (79 + i)))))) (congrArg nI (upN_n _ _ _ _ (by omega))) ?_
        refine aw_iconst (pc := 54) dX12_day_54 iconst_1 ?_
        refine an_sub (pc := 55) dX12_day_55 (by simp [growsF] at h17; omega) ?_
        refine ms_s (pc := 56) dX12_day_56 (by omega) ?_
        refine an_inc (pc := 57) (z := 1) dX12_day_57 rfl (Nat.le_of_ble_eq_true rfl) rfl ?_
        refine aw_goto (pc := 60) (tgt := 2) dX12_day_60 rfl ?_
        refine aw_ws (w9 := mW G.2.2.1 a (sN σ 6 (dayS u i))) (by rw [dayS, if_pos h17]; rfl) ?_
        exact ih (i + 1) (dayS u i) (by rw [hug]; rfl) (by omega)
      · -- 20
        refine aw_goto (pc := 20) (tgt := 57) dX12_day_20 rfl ?_
        refine an_inc (pc := 57) (z := 1) dX12_day_57 rfl (Nat.le_of_ble_eq_true rfl) rfl ?_
        refine aw_goto (pc := 60) (tgt := 2) dX12_day_60 rfl ?_
        refine aw_ws (w9 := mW G.2.2.1 a (sN σ 6 (dayS u i))) (by rw [dayS, if_neg (by rw [h17]; decide)]) ?_
        exact ih (i + 1) (dayS u i) (by rw [hug]; rfl) (by omega)
set_option maxHeartbeats 1000000 in
set_option maxRecDepth 20000 in
theorem s_day {G : xG} {d : Nat} {Q : xQ} {a : Nat → Nat} {σ : mS} (hk : DK (σ.2.1 6)) (kk : Q none (mW G.2.2.1 a (sN σ 6 (dayF (σ.2.1 6))))) : MT G MX12_day (d + 1) 0 0 [.ref (a 60)] (mW G.2.2.1 a σ) Q := by
  refine mt_start (L := [some (.ref (a 60)), none]) rfl (Nat.le_of_ble_eq_true rfl) rfl ?_
  refine aw_iconst (pc := 0) dX12_day_0 iconst_0 ?_
  refine aw_istore_n (pc := 1) (i := 1) dX12_day_1 rfl (Nat.le_of_ble_eq_true rfl) rfl ?_
  exact day_loop hk kk (σ.2.1 6 2) 0 (σ.2.1 6) rfl (by omega)
set_option maxHeartbeats 1000000 in
set_option maxRecDepth 20000 in
theorem goesOn_loop {G : xG} {d : Nat} {Q : xQ} {a : Nat → Nat} {σ : mS} {m : Nat} (hm : m < 2 ^ 31) : ∀ (n i : Nat) (u : Nat → Nat), DK u → i + n = m → Q (some (.int (nI (i + (goG n u).1)))) (mW G.2.2.1 a (sN σ 6 (goG n u).2)) → AW G MX12_goesOn (d + 2) 0 0 Q 2 [some (.ref (a 60)), some (.int (nI m)), some (.int (nI i))] [] (mW G.2.2.1 a (sN σ 6 u)) 0 0 := by
  intro n
  induction n with
  | zero =>
    intro i u hu hi hr
    refine aw_iload_n (pc := 2) (i := 2) dX12_goesOn_2 rfl rfl ?_
    refine aw_iload_n (pc := 3) (i := 1) dX12_goesOn_3 rfl rfl ?_
    refine an_icmp_ge (pc := 4) (tgt := 30) dX12_goesOn_4 rfl (by omega) (by omega) (fun h4 => ?_) (fun h4 => ?_)
    · -- 30
      refine aw_iload_n (pc := 30) (i := 2) dX12_goesOn_30 rfl rfl ?_
      exact aw_iret (pc := 31) dX12_goesOn_31 rfl (Nat.le_refl _) (Nat.le_refl _) (by first | exact hr | (rw [goG, if_neg (by omega)] at hr; exact hr))
    · -- 7
      exfalso; omega
  | succ n ih =>
    intro i u hu hi hr
    refine aw_iload_n (pc := 2) (i := 2) dX12_goesOn_2 rfl rfl ?_
    refine aw_iload_n (pc := 3) (i := 1) dX12_goesOn_3 rfl rfl ?_
    refine an_icmp_ge (pc := 4) (tgt := 30) dX12_goesOn_4 rfl (by omega) (by omega) (fun h4 => ?_) (fun h4 => ?_)
    · -- 30
      refine aw_iload_n (pc := 30) (i := 2) dX12_goesOn_30 rfl rfl ?_
      exact aw_iret (pc := 31) dX12_goesOn_31 rfl (Nat.le_refl _) (Nat.le_refl _) (by first | exact hr | (rw [goG, if_neg (by omega)] at hr; exact hr))
    · -- 7
      refine aw_aload_n (pc := 7) (i := 0) dX12_goesOn_7 rfl rfl ?_
      refine mg_s (pc := 8) dX12_goesOn_8 rfl ?_
      refine aw_bipush (pc := 11) dX12_goesOn_11 bipush_91 ?_
      refine ml_s (pc := 13) dX12_goesOn_13 (by decide) ?_
      refine aw_top (y := (nI (u 91))) rfl ?_
      refine aw_sipush (pc := 14) dX12_goesOn_14 sipush_400 ?_
      refine an_icmp_ge (pc := 17) (tgt := 30) dX12_goesOn_17 rfl (Nat.lt_trans (hu.1 _) (by decide)) (by decide) (fun h17 => ?_) (fun h17 => ?_)
      · -- 30
        refine aw_iload_n (pc := 30) (i := 2) dX12_goesOn_30 rfl rfl ?_
        exact aw_iret (pc := 31) dX12_goesOn_31 rfl (Nat.le_refl _) (Nat.le_refl _) (by first | exact hr | (rw [goG, if_neg (by omega)] at hr; exact hr))
      · -- 20
        refine aw_aload_n (pc := 20) (i := 0) dX12_goesOn_20 rfl rfl ?_
        refine mc_V (pc := 21) (As := []) (rest := []) dX12_goesOn_21 rfl ok_X12_324 rfl rfl rfl (Nat.le_of_ble_eq_true rfl) (s_day hu ⟨_, rfl, rfl, ?_⟩)
        refine an_inc (pc := 24) (z := 1) dX12_goesOn_24 rfl (Nat.le_of_ble_eq_true rfl) rfl ?_
        refine aw_goto (pc := 27) (tgt := 2) dX12_goesOn_27 rfl ?_
        exact ih (i + 1) (dayF u) (DK_dayF hu h17) (by omega) (by rw [goG, if_pos h17] at hr; rw [show i + 1 + (goG n (dayF u)).1 = i + ((goG n (dayF u)).1 + 1) by omega]; exact hr)
set_option maxHeartbeats 1000000 in
set_option maxRecDepth 20000 in
theorem s_goesOn {G : xG} {d : Nat} {Q : xQ} {a : Nat → Nat} {σ : mS} {m : Nat} (hk : DK (σ.2.1 6)) (hm : m < 2 ^ 31) (kk : Q (some (.int (nI (goG m (σ.2.1 6)).1))) (mW G.2.2.1 a (sN σ 6 (goG m (σ.2.1 6)).2))) : MT G MX12_goesOn (d + 2) 0 0 [.ref (a 60), .int (nI m)] (mW G.2.2.1 a σ) Q := by
  refine mt_start (L := [some (.ref (a 60)), some (.int (nI m)), none]) rfl (Nat.le_of_ble_eq_true rfl) rfl ?_
  refine aw_iconst (pc := 0) dX12_goesOn_0 iconst_0 ?_
  refine aw_istore_n (pc := 1) (i := 2) dX12_goesOn_1 rfl (Nat.le_of_ble_eq_true rfl) rfl ?_
  exact goesOn_loop hm m 0 (σ.2.1 6) hk (by omega) (by rw [Nat.zero_add]; exact kk)
set_option maxHeartbeats 1000000 in
set_option maxRecDepth 20000 in
theorem tries_loop {G : xG} {d : Nat} {Q : xQ} {a : Nat → Nat} {σ : mS} (kk : Q none (mW G.2.2.1 a (sN σ 22 (cpF (σ.2.1 22) (σ.2.1 6) 0 91 47)))) : ∀ (n i : Nat), i + n = 47 → AW G MX12_tries (d) 0 0 Q 2 [some (.ref (a 60)), some (.int (nI i))] [] (mW G.2.2.1 a (sN σ 22 (cpF (σ.2.1 22) (σ.2.1 6) 0 91 i))) 0 0 := by
  intro n
  induction n with
  | zero =>
    intro i hi
    refine aw_iload_n (pc := 2) (i := 1) dX12_tries_2 rfl rfl ?_
    refine aw_bipush (pc := 3) dX12_tries_3 bipush_47 ?_
    refine an_icmp_ge (pc := 5) (tgt := 29) dX12_tries_5 rfl (by omega) (by decide) (fun h5 => ?_) (fun h5 => ?_)
    · -- 29
      exact aw_vret (pc := 29) dX12_tries_29 rfl (Nat.le_refl _) (Nat.le_refl _) (by have e : i = 47 := (by omega); subst e; exact kk)
    · -- 8
      exfalso; omega
  | succ n ih =>
    intro i hi
    refine aw_iload_n (pc := 2) (i := 1) dX12_tries_2 rfl rfl ?_
    refine aw_bipush (pc := 3) dX12_tries_3 bipush_47 ?_
    refine an_icmp_ge (pc := 5) (tgt := 29) dX12_tries_5 rfl (by omega) (by decide) (fun h5 => ?_) (fun h5 => ?_)
    · -- 29
      exfalso; omega
    · -- 8
      refine aw_aload_n (pc := 8) (i := 0) dX12_tries_8 rfl rfl ?_
      refine mg_before (pc := 9) dX12_tries_9 rfl ?_
      refine aw_iload_n (pc := 12) (i := 1) dX12_tries_12 rfl rfl ?_
      refine aw_aload_n (pc := 13) (i := 0) dX12_tries_13 rfl rfl ?_
      refine mg_s (pc := 14) dX12_tries_14 rfl ?_
      refine aw_bipush (pc := 17) dX12_tries_17 bipush_91 ?_
      refine aw_iload_n (pc := 19) (i := 1) dX12_tries_19 rfl rfl ?_
      refine an_add (pc := 20) dX12_tries_20 ?_
      refine ml_s (pc := 21) dX12_tries_21 (by omega) ?_
      refine ms_before (pc := 22) dX12_tries_22 (by omega) ?_
      refine an_inc (pc := 23) (z := 1) dX12_tries_23 rfl (Nat.le_of_ble_eq_true rfl) rfl ?_
      refine aw_goto (pc := 26) (tgt := 2) dX12_tries_26 rfl ?_
      refine aw_ws (w9 := mW G.2.2.1 a (sN σ 22 (cpF (σ.2.1 22) (σ.2.1 6) 0 91 (i + 1)))) (congrArg (fun z => mW G.2.2.1 a (sN σ 22 z)) (cpF_next (by omega) (by first | rfl | (rw [Nat.zero_add]; rfl) | (congr 1; omega)))) ?_
      exact ih (i + 1) (by omega)
set_option maxHeartbeats 1000000 in
set_option maxRecDepth 20000 in
theorem s_tries {G : xG} {d : Nat} {Q : xQ} {a : Nat → Nat} {σ : mS} (kk : Q none (mW G.2.2.1 a (sN σ 22 (cpF (σ.2.1 22) (σ.2.1 6) 0 91 47)))) : MT G MX12_tries (d) 0 0 [.ref (a 60)] (mW G.2.2.1 a σ) Q := by
  refine mt_start (L := [some (.ref (a 60)), none]) rfl (Nat.le_of_ble_eq_true rfl) rfl ?_
  refine aw_iconst (pc := 0) dX12_tries_0 iconst_0 ?_
  refine aw_istore_n (pc := 1) (i := 1) dX12_tries_1 rfl (Nat.le_of_ble_eq_true rfl) rfl ?_
  refine aw_ws (w9 := mW G.2.2.1 a (sN σ 22 (cpF (σ.2.1 22) (σ.2.1 6) 0 91 0))) (by rw [cpF_0]; rfl) ?_
  exact tries_loop kk 47 0 (by omega)
set_option maxHeartbeats 1000000 in
set_option maxRecDepth 20000 in
theorem back_loop {G : xG} {d : Nat} {Q : xQ} {a : Nat → Nat} {σ : mS} (kk : Q none (mW G.2.2.1 a (sN σ 6 (cpF (σ.2.1 6) (σ.2.1 22) 91 0 47)))) : ∀ (n i : Nat), i + n = 47 → AW G MX12_back (d) 0 0 Q 2 [some (.ref (a 60)), some (.int (nI i))] [] (mW G.2.2.1 a (sN σ 6 (cpF (σ.2.1 6) (σ.2.1 22) 91 0 i))) 0 0 := by
  intro n
  induction n with
  | zero =>
    intro i hi
    refine aw_iload_n (pc := 2) (i := 1) dX12_back_2 rfl rfl ?_
    refine aw_bipush (pc := 3) dX12_back_3 bipush_47 ?_
    refine an_icmp_ge (pc := 5) (tgt := 29) dX12_back_5 rfl (by omega) (by decide) (fun h5 => ?_) (fun h5 => ?_)
    · -- 29
      exact aw_vret (pc := 29) dX12_back_29 rfl (Nat.le_refl _) (Nat.le_refl _) (by have e : i = 47 := (by omega); subst e; exact kk)
    · -- 8
      exfalso; omega
  | succ n ih =>
    intro i hi
    refine aw_iload_n (pc := 2) (i := 1) dX12_back_2 rfl rfl ?_
    refine aw_bipush (pc := 3) dX12_back_3 bipush_47 ?_
    refine an_icmp_ge (pc := 5) (tgt := 29) dX12_back_5 rfl (by omega) (by decide) (fun h5 => ?_) (fun h5 => ?_)
    · -- 29
      exfalso; omega
    · -- 8
      refine aw_aload_n (pc := 8) (i := 0) dX12_back_8 rfl rfl ?_
      refine mg_s (pc := 9) dX12_back_9 rfl ?_
      refine aw_bipush (pc := 12) dX12_back_12 bipush_91 ?_
      refine aw_iload_n (pc := 14) (i := 1) dX12_back_14 rfl rfl ?_
      refine an_add (pc := 15) dX12_back_15 ?_
      refine aw_aload_n (pc := 16) (i := 0) dX12_back_16 rfl rfl ?_
      refine mg_before (pc := 17) dX12_back_17 rfl ?_
      refine aw_iload_n (pc := 20) (i := 1) dX12_back_20 rfl rfl ?_
      refine ml_before (pc := 21) dX12_back_21 (by omega) ?_
      refine ms_s (pc := 22) dX12_back_22 (by omega) ?_
      refine an_inc (pc := 23) (z := 1) dX12_back_23 rfl (Nat.le_of_ble_eq_true rfl) rfl ?_
      refine aw_goto (pc := 26) (tgt := 2) dX12_back_26 rfl ?_
      refine aw_ws (w9 := mW G.2.2.1 a (sN σ 6 (cpF (σ.2.1 6) (σ.2.1 22) 91 0 (i + 1)))) (congrArg (fun z => mW G.2.2.1 a (sN σ 6 z)) (cpF_next (by omega) (by first | rfl | (rw [Nat.zero_add]; rfl) | (congr 1; omega)))) ?_
      exact ih (i + 1) (by omega)
set_option maxHeartbeats 1000000 in
set_option maxRecDepth 20000 in
theorem s_back {G : xG} {d : Nat} {Q : xQ} {a : Nat → Nat} {σ : mS} (kk : Q none (mW G.2.2.1 a (sN σ 6 (cpF (σ.2.1 6) (σ.2.1 22) 91 0 47)))) : MT G MX12_back (d) 0 0 [.ref (a 60)] (mW G.2.2.1 a σ) Q := by
  refine mt_start (L := [some (.ref (a 60)), none]) rfl (Nat.le_of_ble_eq_true rfl) rfl ?_
  refine aw_iconst (pc := 0) dX12_back_0 iconst_0 ?_
  refine aw_istore_n (pc := 1) (i := 1) dX12_back_1 rfl (Nat.le_of_ble_eq_true rfl) rfl ?_
  refine aw_ws (w9 := mW G.2.2.1 a (sN σ 6 (cpF (σ.2.1 6) (σ.2.1 22) 91 0 0))) (by rw [cpF_0]; rfl) ?_
  exact back_loop kk 47 0 (by omega)
def keepM (m : Nat) : Nat := if m = 8 then 8 else m + 1
def keepU (u t : Nat → Nat) (m : Nat) : Nat → Nat := if m = 8 then cpF (cpF u u 0 47 329) t 329 91 47 else cpF u t (47 * m) 91 47
/-- the state with its undo rows as keep() leaves them -/
def keepS (σ : mS) (m : Nat) : mS := mI (sN σ 21 (keepU (σ.2.1 21) (σ.2.1 6) m)) 23 (nI (keepM m))
set_option maxHeartbeats 1000000 in
set_option maxRecDepth 20000 in
theorem keep_loop2 {G : xG} {d : Nat} {Q : xQ} {a : Nat → Nat} {σ : mS} {m : Nat} (hm : σ.1 23 = nI m) (hm8 : m < 8) (kk : Q none (mW G.2.2.1 a (mI (sN σ 21 (cpF (σ.2.1 21) (σ.2.1 6) (47 * m) 91 47)) 23 (nI (m + 1))))) : ∀ (n i : Nat), i + n = 47 → AW G MX12_keep (d) 0 0 Q 47 [some (.ref (a 60)), some (.int (nI i))] [] (mW G.2.2.1 a (sN σ 21 (cpF (σ.2.1 21) (σ.2.1 6) (47 * m) 91 i))) 0 0 := by
  intro n
  induction n with
  | zero =>
    intro i hi
    refine aw_iload_n (pc := 47) (i := 1) dX12_keep_47 rfl rfl ?_
    refine aw_bipush (pc := 48) dX12_keep_48 bipush_47 ?_
    refine an_icmp_ge (pc := 50) (tgt := 82) dX12_keep_50 rfl (by omega) (by decide) (fun h50 => ?_) (fun h50 => ?_)
    · -- 82
      refine aw_aload_n (pc := 82) (i := 0) dX12_keep_82 rfl rfl ?_
      refine aw_dup (pc := 83) dX12_keep_83 rfl ?_
      refine mg_undoMany (pc := 84) dX12_keep_84 rfl ?_
      refine aw_top (y := (nI m)) hm ?_
      refine aw_iconst (pc := 87) dX12_keep_87 iconst_1 ?_
      refine an_add (pc := 88) dX12_keep_88 ?_
      refine mp_undoMany (pc := 89) dX12_keep_89 rfl ?_
      exact aw_vret (pc := 92) dX12_keep_92 rfl (Nat.le_refl _) (Nat.le_refl _) (by have e : i = 47 := (by omega); subst e; exact kk)
    · -- 53
      exfalso; omega
  | succ n ih =>
    intro i hi
    refine aw_iload_n (pc := 47) (i := 1) dX12_keep_47 rfl rfl ?_
    refine aw_bipush (pc := 48) dX12_keep_48 bipush_47 ?_
    refine an_icmp_ge (pc := 50) (tgt := 82) dX12_keep_50 rfl (by omega) (by decide) (fun h50 => ?_) (fun h50 => ?_)
    · -- 82
      exfalso; omega
    · -- 53
      refine aw_aload_n (pc := 53) (i := 0) dX12_keep_53 rfl rfl ?_
      refine mg_undone (pc := 54) dX12_keep_54 rfl ?_
      refine aw_bipush (pc := 57) dX12_keep_57 bipush_47 ?_
      refine aw_aload_n (pc := 59) (i := 0) dX12_keep_59 rfl rfl ?_
      refine mg_undoMany (pc := 60) dX12_keep_60 rfl ?_
      refine aw_top (y := (nI m)) hm ?_
      refine an_mul (pc := 63) dX12_keep_63 ?_
      refine aw_iload_n (pc := 64) (i := 1) dX12_keep_64 rfl rfl ?_
      refine an_add (pc := 65) dX12_keep_65 ?_
      refine aw_aload_n (pc := 66) (i := 0) dX12_keep_66 rfl rfl ?_
      refine mg_s (pc := 67) dX12_keep_67 rfl ?_
      refine aw_bipush (pc := 70) dX12_keep_70 bipush_91 ?_
      refine aw_iload_n (pc := 72) (i := 1) dX12_keep_72 rfl rfl ?_
      refine an_add (pc := 73) dX12_keep_73 ?_
      refine ml_s (pc := 74) dX12_keep_74 (by omega) ?_
      refine ms_undone (pc := 75) dX12_keep_75 (by omega) ?_
      refine an_inc (pc := 76) (z := 1) dX12_keep_76 rfl (Nat.le_of_ble_eq_true rfl) rfl ?_
      refine aw_goto (pc := 79) (tgt := 47) dX12_keep_79 rfl ?_
      refine aw_ws (w9 := mW G.2.2.1 a (sN σ 21 (cpF (σ.2.1 21) (σ.2.1 6) (47 * m) 91 (i + 1)))) (congrArg (fun z => mW G.2.2.1 a (sN σ 21 z)) (cpF_next (by omega) (by first | rfl | (rw [Nat.zero_add]; rfl) | (congr 1; omega)))) ?_
      exact ih (i + 1) (by omega)
set_option maxHeartbeats 1000000 in
set_option maxRecDepth 20000 in
theorem keep_loop1 {G : xG} {d : Nat} {Q : xQ} {a : Nat → Nat} {σ : mS} (kk : Q none (mW G.2.2.1 a (mI (sN σ 21 (cpF (cpF (σ.2.1 21) (σ.2.1 21) 0 47 329) (σ.2.1 6) 329 91 47)) 23 (nI 8)))) : ∀ (n i : Nat), i + n = 329 → AW G MX12_keep (d) 0 0 Q 11 [some (.ref (a 60)), some (.int (nI i))] [] (mW G.2.2.1 a (sN σ 21 (cpF (σ.2.1 21) (σ.2.1 21) 0 47 i))) 0 0 := by
  intro n
  induction n with
  | zero =>
    intro i hi
    refine aw_iload_n (pc := 11) (i := 1) dX12_keep_11 rfl rfl ?_
    refine aw_sipush (pc := 12) dX12_keep_12 sipush_329 ?_
    refine an_icmp_ge (pc := 15) (tgt := 39) dX12_keep_15 rfl (by omega) (by decide) (fun h15 => ?_) (fun h15 => ?_)
    · -- 39
      refine aw_aload_n (pc := 39) (i := 0) dX12_keep_39 rfl rfl ?_
      refine aw_bipush (pc := 40) dX12_keep_40 bipush_7 ?_
      refine mp_undoMany (pc := 42) dX12_keep_42 rfl ?_
      refine aw_iconst (pc := 45) dX12_keep_45 iconst_0 ?_
      refine aw_istore_n (pc := 46) (i := 1) dX12_keep_46 rfl (Nat.le_of_ble_eq_true rfl) rfl ?_
      have e : i = 329 := by omega
      subst e
      refine aw_ws (w9 := mW G.2.2.1 a (sN (mI (sN σ 21 (cpF (σ.2.1 21) (σ.2.1 21) 0 47 329)) 23 (nI 7)) 21 (cpF (cpF (σ.2.1 21) (σ.2.1 21) 0 47 329) (σ.2.1 6) (47 * 7) 91 0))) (by rw [cpF_0]; rfl) ?_
      exact keep_loop2 (σ := mI (sN σ 21 (cpF (σ.2.1 21) (σ.2.1 21) 0 47 329)) 23 (nI 7)) (m := 7) rfl (by omega) kk 47 0 (by omega)
    · -- 18
      exfalso; omega
  | succ n ih =>
    intro i hi
    refine aw_iload_n (pc := 11) (i := 1) dX12_keep_11 rfl rfl ?_
    refine aw_sipush (pc := 12) dX12_keep_12 sipush_329 ?_
    refine an_icmp_ge (pc := 15) (tgt := 39) dX12_keep_15 rfl (by omega) (by decide) (fun h15 => ?_) (fun h15 => ?_)
    · -- 39
      exfalso; omega
    · -- 18
      refine aw_aload_n (pc := 18) (i := 0) dX12_keep_18 rfl rfl ?_
      refine mg_undone (pc := 19) dX12_keep_19 rfl ?_
      refine aw_iload_n (pc := 22) (i := 1) dX12_keep_22 rfl rfl ?_
      refine aw_aload_n (pc := 23) (i := 0) dX12_keep_23 rfl rfl ?_
      refine mg_undone (pc := 24) dX12_keep_24 rfl ?_
      refine aw_iload_n (pc := 27) (i := 1) dX12_keep_27 rfl rfl ?_
      refine aw_bipush (pc := 28) dX12_keep_28 bipush_47 ?_
      refine an_add (pc := 30) dX12_keep_30 ?_
      refine ml_undone (pc := 31) dX12_keep_31 (by omega) ?_
      refine aw_top (y := (nI ((cpF (σ.2.1 21) (σ.2.1 21) 0 47 i) (i + 47)))) rfl ?_
      refine aw_top (y := (nI (σ.2.1 21 (i + 47)))) (congrArg nI (cpF_out (by omega))) ?_
      refine ms_undone (pc := 32) dX12_keep_32 (by omega) ?_
      refine an_inc (pc := 33) (z := 1) dX12_keep_33 rfl (Nat.le_of_ble_eq_true rfl) rfl ?_
      refine aw_goto (pc := 36) (tgt := 11) dX12_keep_36 rfl ?_
      refine aw_ws (w9 := mW G.2.2.1 a (sN σ 21 (cpF (σ.2.1 21) (σ.2.1 21) 0 47 (i + 1)))) (congrArg (fun z => mW G.2.2.1 a (sN σ 21 z)) (cpF_next (by omega) (congrArg (σ.2.1 21) (by omega)))) ?_
      exact ih (i + 1) (by omega)
set_option maxHeartbeats 1000000 in
set_option maxRecDepth 20000 in
theorem s_keep {G : xG} {d : Nat} {Q : xQ} {a : Nat → Nat} {σ : mS} {m : Nat} (hm : σ.1 23 = nI m) (hm8 : m ≤ 8) (kk : Q none (mW G.2.2.1 a (keepS σ m))) : MT G MX12_keep (d) 0 0 [.ref (a 60)] (mW G.2.2.1 a σ) Q := by
  refine mt_start (L := [some (.ref (a 60)), none]) rfl (Nat.le_of_ble_eq_true rfl) rfl ?_
  refine aw_aload_n (pc := 0) (i := 0) dX12_keep_0 rfl rfl ?_
  refine mg_undoMany (pc := 1) dX12_keep_1 rfl ?_
  refine aw_top (y := (nI m)) hm ?_
  refine aw_bipush (pc := 4) dX12_keep_4 bipush_8 ?_
  refine an_icmp_ne (pc := 6) (tgt := 45) dX12_keep_6 rfl (by omega) (by decide) (fun h6 => ?_) (fun h6 => ?_)
  · -- 45
    refine aw_iconst (pc := 45) dX12_keep_45 iconst_0 ?_
    refine aw_istore_n (pc := 46) (i := 1) dX12_keep_46 rfl (Nat.le_of_ble_eq_true rfl) rfl ?_
    rw [keepS, keepM, keepU, if_neg h6, if_neg h6] at kk
    refine aw_ws (w9 := mW G.2.2.1 a (sN σ 21 (cpF (σ.2.1 21) (σ.2.1 6) (47 * m) 91 0))) (by rw [cpF_0]; rfl) ?_
    exact keep_loop2 hm (by omega) kk 47 0 (by omega)
  · -- 9
    refine aw_iconst (pc := 9) dX12_keep_9 iconst_0 ?_
    refine aw_istore_n (pc := 10) (i := 1) dX12_keep_10 rfl (Nat.le_of_ble_eq_true rfl) rfl ?_
    rw [keepS, keepM, keepU, if_pos h6, if_pos h6] at kk
    refine aw_ws (w9 := mW G.2.2.1 a (sN σ 21 (cpF (σ.2.1 21) (σ.2.1 21) 0 47 0))) (by rw [cpF_0]; rfl) ?_
    exact keep_loop1 kk 329 0 (by omega)
/-- undo(): its answer, its state -/
def undoA (m : Nat) : Int32 := if m = 0 then -1 else nI (m - 1)
def undoS (σ : mS) (m : Nat) : mS := if m = 0 then mI σ 0 (nI 0) else sN (mI (mI σ 0 (nI 0)) 23 (nI (m - 1))) 6 (cpF (σ.2.1 6) (σ.2.1 21) 91 (47 * (m - 1)) 47)
set_option maxHeartbeats 1000000 in
set_option maxRecDepth 20000 in
theorem undo_loop {G : xG} {d : Nat} {Q : xQ} {a : Nat → Nat} {σ : mS} {m : Nat} (hm : σ.1 23 = nI m) (hm8 : m < 8) (kk : Q (some (.int (nI m))) (mW G.2.2.1 a (sN σ 6 (cpF (σ.2.1 6) (σ.2.1 21) 91 (47 * m) 47)))) : ∀ (n i : Nat), i + n = 47 → AW G MX12_undo (d) 0 0 Q 26 [some (.ref (a 60)), some (.int (nI i))] [] (mW G.2.2.1 a (sN σ 6 (cpF (σ.2.1 6) (σ.2.1 21) 91 (47 * m) i))) 0 0 := by
  intro n
  induction n with
  | zero =>
    intro i hi
    refine aw_iload_n (pc := 26) (i := 1) dX12_undo_26 rfl rfl ?_
    refine aw_bipush (pc := 27) dX12_undo_27 bipush_47 ?_
    refine an_icmp_ge (pc := 29) (tgt := 61) dX12_undo_29 rfl (by omega) (by decide) (fun h29 => ?_) (fun h29 => ?_)
    · -- 61
      refine aw_aload_n (pc := 61) (i := 0) dX12_undo_61 rfl rfl ?_
      refine mg_undoMany (pc := 62) dX12_undo_62 rfl ?_
      refine aw_top (y := (nI m)) hm ?_
      exact aw_iret (pc := 65) dX12_undo_65 rfl (Nat.le_refl _) (Nat.le_refl _) (by have e : i = 47 := (by omega); subst e; exact kk)
    · -- 32
      exfalso; omega
  | succ n ih =>
    intro i hi
    refine aw_iload_n (pc := 26) (i := 1) dX12_undo_26 rfl rfl ?_
    refine aw_bipush (pc := 27) dX12_undo_27 bipush_47 ?_
    refine an_icmp_ge (pc := 29) (tgt := 61) dX12_undo_29 rfl (by omega) (by decide) (fun h29 => ?_) (fun h29 => ?_)
    · -- 61
      exfalso; omega
    · -- 32
      refine aw_aload_n (pc := 32) (i := 0) dX12_undo_32 rfl rfl ?_
      refine mg_s (pc := 33) dX12_undo_33 rfl ?_
      refine aw_bipush (pc := 36) dX12_undo_36 bipush_91 ?_
      refine aw_iload_n (pc := 38) (i := 1) dX12_undo_38 rfl rfl ?_
      refine an_add (pc := 39) dX12_undo_39 ?_
      refine aw_aload_n (pc := 40) (i := 0) dX12_undo_40 rfl rfl ?_
      refine mg_undone (pc := 41) dX12_undo_41 rfl ?_
      refine aw_bipush (pc := 44) dX12_undo_44 bipush_47 ?_
      refine aw_aload_n (pc := 46) (i := 0) dX12_undo_46 rfl rfl ?_
      refine mg_undoMany (pc := 47) dX12_undo_47 rfl ?_
      refine aw_top (y := (nI m)) hm ?_
      refine an_mul (pc := 50) dX12_undo_50 ?_
      refine aw_iload_n (pc := 51) (i := 1) dX12_undo_51 rfl rfl ?_
      refine an_add (pc := 52) dX12_undo_52 ?_
      refine ml_undone (pc := 53) dX12_undo_53 (by omega) ?_
      refine ms_s (pc := 54) dX12_undo_54 (by omega) ?_
      refine an_inc (pc := 55) (z := 1) dX12_undo_55 rfl (Nat.le_of_ble_eq_true rfl) rfl ?_
      refine aw_goto (pc := 58) (tgt := 26) dX12_undo_58 rfl ?_
      refine aw_ws (w9 := mW G.2.2.1 a (sN σ 6 (cpF (σ.2.1 6) (σ.2.1 21) 91 (47 * m) (i + 1)))) (congrArg (fun z => mW G.2.2.1 a (sN σ 6 z)) (cpF_next (by omega) (by first | rfl | (rw [Nat.zero_add]; rfl) | (congr 1; omega)))) ?_
      exact ih (i + 1) (by omega)
set_option maxHeartbeats 1000000 in
set_option maxRecDepth 20000 in
theorem s_undo {G : xG} {d : Nat} {Q : xQ} {a : Nat → Nat} {σ : mS} {m : Nat} (hm : σ.1 23 = nI m) (hm8 : m ≤ 8) (kk : Q (some (.int (undoA m))) (mW G.2.2.1 a (undoS σ m))) : MT G MX12_undo (d) 0 0 [.ref (a 60)] (mW G.2.2.1 a σ) Q := by
  refine mt_start (L := [some (.ref (a 60)), none]) rfl (Nat.le_of_ble_eq_true rfl) rfl ?_
  refine aw_aload_n (pc := 0) (i := 0) dX12_undo_0 rfl rfl ?_
  refine aw_iconst (pc := 1) dX12_undo_1 iconst_0 ?_
  refine mp_thrown (pc := 2) dX12_undo_2 rfl ?_
  refine aw_aload_n (pc := 5) (i := 0) dX12_undo_5 rfl rfl ?_
  refine mg_undoMany (pc := 6) dX12_undo_6 rfl ?_
  refine aw_top (y := σ.1 23) rfl ?_
  refine aw_top (y := (nI m)) hm ?_
  refine an_if_ne (pc := 9) (tgt := 14) dX12_undo_9 rfl (by omega) (fun h9 => ?_) (fun h9 => ?_)
  · -- 14
    refine aw_aload_n (pc := 14) (i := 0) dX12_undo_14 rfl rfl ?_
    refine aw_dup (pc := 15) dX12_undo_15 rfl ?_
    refine mg_undoMany (pc := 16) dX12_undo_16 rfl ?_
    refine aw_top (y := σ.1 23) rfl ?_
    refine aw_top (y := (nI m)) hm ?_
    refine aw_iconst (pc := 19) dX12_undo_19 iconst_1 ?_
    refine an_sub (pc := 20) dX12_undo_20 (by omega) ?_
    refine mp_undoMany (pc := 21) dX12_undo_21 rfl ?_
    refine aw_iconst (pc := 24) dX12_undo_24 iconst_0 ?_
    refine aw_istore_n (pc := 25) (i := 1) dX12_undo_25 rfl (Nat.le_of_ble_eq_true rfl) rfl ?_
    rw [undoA, undoS, if_neg (by omega), if_neg (by omega)] at kk
    refine aw_ws (w9 := mW G.2.2.1 a (sN (mI (mI σ 0 (nI 0)) 23 (nI (m - 1))) 6 (cpF (σ.2.1 6) (σ.2.1 21) 91 (47 * (m - 1)) 0))) (by rw [cpF_0]; rfl) ?_
    exact undo_loop (σ := mI (mI σ 0 (nI 0)) 23 (nI (m - 1))) (m := m - 1) rfl (by omega) kk 47 0 (by omega)
  · -- 12
    refine aw_iconst (pc := 12) dX12_undo_12 iconst_m1 ?_
    exact aw_iret (pc := 13) dX12_undo_13 rfl (Nat.le_refl _) (Nat.le_refl _) (by rw [undoA, undoS, if_pos (by omega), if_pos (by omega)] at kk; exact kk)
