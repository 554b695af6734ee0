/-- where, much, store, step, by depth -/
abbrev pS : Type := (Nat → Nat) × (Nat → Nat) × (Nat → Nat) × (Nat → Int32)
def scr (σ : mS) (p : pS) (d : Int32) (sp hm : Nat) : mS := mI (mI (mI (sA (sN (sN (sN σ 24 p.1) 25 p.2.1) 26 p.2.2.1) 27 p.2.2.2) 30 (nI hm)) 29 (nI sp)) 28 d
/-- the land that is tried next at a depth -/
def xN (τ : Nat → Int32) (i : Nat) : Nat := (τ i + nI 1).toNatClampNeg
def nGv (t : Nat → Nat) (hm x m s : Nat) : Nat := if x = hm then givenF t x m s else 0
def nTl (t : Nat → Nat) (sp x : Nat) : Nat := if sp.testBit x = true then 0 else t (3 + x)
def pushP (t : Nat → Nat) (hm sp d x : Nat) (p : pS) : pS := (upN p.1 (d + 1) x, upN p.2.1 (d + 1) (p.2.1 d + nGv t hm x (p.2.1 d) (p.2.2.1 d) - nTl t sp x), upN p.2.2.1 (d + 1) (p.2.2.1 d - nGv t hm x (p.2.1 d) (p.2.2.1 d)), upN p.2.2.2 (d + 1) (-1))
def startP (t : Nat → Nat) (q : Nat) (p : pS) : pS := (upN p.1 0 (t (108 + q)), upN p.2.1 0 (t (114 + q)), upN p.2.2.1 0 (t (94 + t (79 + q))), upN p.2.2.2 0 (-1))
def setX (p : pS) (d : Nat) (v : Int32) : pS := (p.1, p.2.1, p.2.2.1, upN p.2.2.2 d v)
def goF (t : Nat → Nat) (hm sp k : Nat) : Nat → Nat → pS → Option (Bool × Nat × pS)
  | 0, _, _ => none
  | _ + 1, 0, p => some (false, 0, p)
  | n + 1, d + 1, p => if t 0 ≤ xN p.2.2.2 d then goF t hm sp k n d (setX p d (nI (xN p.2.2.2 d))) else if whyBy t (p.1 d) (xN p.2.2.2 d) (p.2.1 d) sp = 0 then (if d + 1 = k then some (true, d + 2, pushP t hm sp d (xN p.2.2.2 d) (setX p d (nI (xN p.2.2.2 d)))) else goF t hm sp k n (d + 2) (pushP t hm sp d (xN p.2.2.2 d) (setX p d (nI (xN p.2.2.2 d))))) else goF t hm sp k n (d + 1) (setX p d (nI (xN p.2.2.2 d)))
def PO (e : Nat) (p : pS) : Prop := (∀ i, i < e → p.1 i < 7 ∧ p.2.1 i ≤ 240 ∧ p.2.2.1 i < 2 ^ 30 ∧ p.2.2.2 i + nI 1 = nI (xN p.2.2.2 i) ∧ xN p.2.2.2 i ≤ 7) ∧ ∀ i, i + 1 < e → 1 ≤ xN p.2.2.2 i
def dpI (e : Nat) : Int32 := nI e + (-1)
theorem dpI_s (d : Nat) : dpI (d + 1) = nI d := nI_dec (Nat.le_add_left _ _)
theorem dpI_sub (d : Nat) : nI d - nI 1 = dpI d := by
  cases d with
  | zero => decide
  | succ d => rw [dpI_s, pk_sub (Nat.le_add_left _ _)]; rfl
theorem xN_v {τ : Nat → Int32} {i v : Nat} (hv : v < 2 ^ 30) : xN (upN τ i (nI v)) i = v + 1 := by
  unfold xN
  rw [upN_s, nI_add, nI_clamp (by omega)]
theorem xN_m (τ : Nat → Int32) (i : Nat) : xN (upN τ i (-1)) i = 0 := by
  unfold xN
  rw [upN_s]
  decide
theorem xN_o {τ : Nat → Int32} {i j : Nat} {v : Int32} (h : ¬ j = i) : xN (upN τ i v) j = xN τ j := by
  unfold xN
  rw [upN_n _ _ _ _ h]
theorem whyBy_z {t : Nat → Nat} {x y m sp : Nat} (h : whyBy t x y m sp = 0) : sp.testBit y = true ∨ t (3 + y) < m := by
  unfold whyBy at h
  split at h
  · omega
  · rename_i r hr
    by_cases h1 : sp.testBit y = true
    · exact Or.inl h1
    · right
      by_cases h2 : t (3 + y) < m
      · exact h2
      · exfalso
        have h3 : m ≤ t (3 + y) := by omega
        have h1' : sp.testBit y = false := by simpa using h1
        simp [h1', h3] at h
        repeat' split at h
        all_goals omega
theorem nGv_le {t : Nat → Nat} {hm x m s : Nat} : nGv t hm x m s ≤ s ∧ nGv t hm x m s ≤ 240 - m := by
  unfold nGv givenF
  split <;> omega
theorem nTl_le {t : Nat → Nat} {x y m sp : Nat} (h : whyBy t x y m sp = 0) : nTl t sp y ≤ m := by
  unfold nTl
  rcases whyBy_z h with h1 | h1
  · rw [if_pos h1]; exact Nat.zero_le _
  · split <;> omega
theorem PO_set {e d : Nat} {p : pS} (h : PO (d + 1) p) (hx : xN p.2.2.2 d ≤ 6) : PO (d + 1) (setX p d (nI (xN p.2.2.2 d))) := by
  refine ⟨fun i hi => ?_, fun i hi => ?_⟩
  · obtain ⟨a, b, c, e1, f⟩ := h.1 i hi
    by_cases hd : i = d
    · subst hd
      refine ⟨a, b, c, ?_, ?_⟩
      · show upN p.2.2.2 i (nI (xN p.2.2.2 i)) i + nI 1 = nI (xN (upN p.2.2.2 i (nI (xN p.2.2.2 i))) i)
        rw [xN_v (by omega), upN_s, nI_add]
      · show xN (upN p.2.2.2 i (nI (xN p.2.2.2 i))) i ≤ 7
        rw [xN_v (by omega)]; omega
    · refine ⟨a, b, c, ?_, ?_⟩
      · show upN p.2.2.2 d _ i + nI 1 = nI (xN (upN p.2.2.2 d _) i)
        rw [xN_o hd, upN_n _ _ _ _ hd]; exact e1
      · show xN (upN p.2.2.2 d _) i ≤ 7
        rw [xN_o hd]; exact f
  · show 1 ≤ xN (upN p.2.2.2 d _) i
    rw [xN_o (by omega)]
    exact h.2 i hi
theorem PO_pop {d : Nat} {p : pS} {v : Int32} (h : PO (d + 1) p) : PO d (setX p d v) := by
  refine ⟨fun i hi => ?_, fun i hi => ?_⟩
  · obtain ⟨a, b, c, e1, f⟩ := h.1 i (by omega)
    refine ⟨a, b, c, ?_, ?_⟩
    · show upN p.2.2.2 d _ i + nI 1 = nI (xN (upN p.2.2.2 d _) i)
      rw [xN_o (by omega), upN_n _ _ _ _ (by omega)]; exact e1
    · show xN (upN p.2.2.2 d _) i ≤ 7
      rw [xN_o (by omega)]; exact f
  · show 1 ≤ xN (upN p.2.2.2 d _) i
    rw [xN_o (by omega)]
    exact h.2 i (by omega)
theorem PO_push {t : Nat → Nat} {hm sp d x : Nat} {p : pS} (h : PO (d + 1) p) (hx : x < 7) (h1 : 1 ≤ xN p.2.2.2 d) : PO (d + 2) (pushP t hm sp d x p) := by
  have hd := h.1 d (by omega)
  have hg := nGv_le (t := t) (hm := hm) (x := x) (m := p.2.1 d) (s := p.2.2.1 d)
  refine ⟨fun i hi => ?_, fun i hi => ?_⟩
  · by_cases e : i = d + 1
    · subst e
      refine ⟨?_, ?_, ?_, ?_, ?_⟩
      · show upN p.1 (d + 1) x (d + 1) < 7; rw [upN_s]; exact hx
      · show upN p.2.1 (d + 1) _ (d + 1) ≤ 240; rw [upN_s]; omega
      · show upN p.2.2.1 (d + 1) _ (d + 1) < 2 ^ 30; rw [upN_s]; omega
      · show upN p.2.2.2 (d + 1) (-1) (d + 1) + nI 1 = nI (xN (upN p.2.2.2 (d + 1) (-1)) (d + 1)); rw [xN_m, upN_s]; decide
      · show xN (upN p.2.2.2 (d + 1) (-1)) (d + 1) ≤ 7; rw [xN_m]; omega
    · obtain ⟨a, b, c, e1, f⟩ := h.1 i (by omega)
      refine ⟨?_, ?_, ?_, ?_, ?_⟩
      · show upN p.1 (d + 1) x i < 7; rw [upN_n _ _ _ _ e]; exact a
      · show upN p.2.1 (d + 1) _ i ≤ 240; rw [upN_n _ _ _ _ e]; exact b
      · show upN p.2.2.1 (d + 1) _ i < 2 ^ 30; rw [upN_n _ _ _ _ e]; exact c
      · show upN p.2.2.2 (d + 1) (-1) i + nI 1 = nI (xN (upN p.2.2.2 (d + 1) (-1)) i); rw [xN_o e, upN_n _ _ _ _ e]; exact e1
      · show xN (upN p.2.2.2 (d + 1) (-1)) i ≤ 7; rw [xN_o e]; exact f
  · show 1 ≤ xN (upN p.2.2.2 (d + 1) (-1)) i
    rw [xN_o (by omega)]
    by_cases e : i = d
    · subst e; exact h1
    · exact h.2 i (by omega)

set_option maxHeartbeats 1000000 in
set_option maxRecDepth 20000 in
theorem s_starts {G : xG} {d : Nat} {Q : xQ} {a : Nat → Nat} {σ : mS} {p : pS} {dd : Int32} {sp hm : Nat} {q : Nat} (hb : ∀ j, σ.2.1 6 j < 2 ^ 30) (hq : q < 6) (hh : σ.2.1 6 (79 + q) < 7) (kk : Q none (mW G.2.2.1 a (scr σ (startP (σ.2.1 6) q p) (nI 0) (sparedF (σ.2.1 6) q) (σ.2.1 6 (79 + q))))) : MT G MX12_starts (d + 1) 0 0 [.ref (a 60), .int (nI q)] (mW G.2.2.1 a (scr σ p dd sp hm)) Q := by
  refine mt_start (L := [some (.ref (a 60)), some (.int (nI q))]) rfl (Nat.le_of_ble_eq_true rfl) rfl ?_
  refine aw_aload_n (pc := 0) (i := 0) dX12_starts_0 rfl rfl ?_
  refine aw_aload_n (pc := 1) (i := 0) dX12_starts_1 rfl rfl ?_
  refine mg_s (pc := 2) dX12_starts_2 rfl ?_
  refine aw_bipush (pc := 5) dX12_starts_5 bipush_79 ?_
  refine aw_iload_n (pc := 7) (i := 1) dX12_starts_7 rfl rfl ?_
  refine an_add (pc := 8) dX12_starts_8 ?_
  refine ml_s (pc := 9) dX12_starts_9 (by omega) ?_
  refine aw_top (y := (nI (σ.2.1 6 (79 + q)))) rfl ?_
  refine mp_home (pc := 10) dX12_starts_10 rfl ?_
  refine aw_aload_n (pc := 13) (i := 0) dX12_starts_13 rfl rfl ?_
  refine aw_aload_n (pc := 14) (i := 0) dX12_starts_14 rfl rfl ?_
  refine aw_iload_n (pc := 15) (i := 1) dX12_starts_15 rfl rfl ?_
  refine mc_I (pc := 16) (As := [.int (nI q)]) (rest := [.ref (a 60)]) dX12_starts_16 rfl ok_X12_284 rfl rfl rfl (Nat.le_of_ble_eq_true rfl) (s_sparedIn hb (by omega) hh ⟨_, _, rfl, rfl, ?_⟩)
  refine aw_top (y := nI (sparedF (σ.2.1 6) q)) rfl ?_
  refine mp_sparing (pc := 19) dX12_starts_19 rfl ?_
  refine aw_aload_n (pc := 22) (i := 0) dX12_starts_22 rfl rfl ?_
  refine aw_iconst (pc := 23) dX12_starts_23 iconst_0 ?_
  refine mp_depth (pc := 24) dX12_starts_24 rfl ?_
  refine aw_aload_n (pc := 27) (i := 0) dX12_starts_27 rfl rfl ?_
  refine mg_where (pc := 28) dX12_starts_28 rfl ?_
  refine aw_iconst (pc := 31) dX12_starts_31 iconst_0 ?_
  refine aw_aload_n (pc := 32) (i := 0) dX12_starts_32 rfl rfl ?_
  refine mg_s (pc := 33) dX12_starts_33 rfl ?_
  refine aw_bipush (pc := 36) dX12_starts_36 bipush_108 ?_
  refine aw_iload_n (pc := 38) (i := 1) dX12_starts_38 rfl rfl ?_
  refine an_add (pc := 39) dX12_starts_39 ?_
  refine ml_s (pc := 40) dX12_starts_40 (by omega) ?_
  refine aw_top (y := (nI (σ.2.1 6 (108 + q)))) rfl ?_
  refine ms_where (pc := 41) dX12_starts_41 (by decide) ?_
  refine aw_aload_n (pc := 42) (i := 0) dX12_starts_42 rfl rfl ?_
  refine mg_much (pc := 43) dX12_starts_43 rfl ?_
  refine aw_iconst (pc := 46) dX12_starts_46 iconst_0 ?_
  refine aw_aload_n (pc := 47) (i := 0) dX12_starts_47 rfl rfl ?_
  refine mg_s (pc := 48) dX12_starts_48 rfl ?_
  refine aw_bipush (pc := 51) dX12_starts_51 bipush_114 ?_
  refine aw_iload_n (pc := 53) (i := 1) dX12_starts_53 rfl rfl ?_
  refine an_add (pc := 54) dX12_starts_54 ?_
  refine ml_s (pc := 55) dX12_starts_55 (by omega) ?_
  refine aw_top (y := (nI (σ.2.1 6 (114 + q)))) rfl ?_
  refine ms_much (pc := 56) dX12_starts_56 (by decide) ?_
  refine aw_aload_n (pc := 57) (i := 0) dX12_starts_57 rfl rfl ?_
  refine mg_store (pc := 58) dX12_starts_58 rfl ?_
  refine aw_iconst (pc := 61) dX12_starts_61 iconst_0 ?_
  refine aw_aload_n (pc := 62) (i := 0) dX12_starts_62 rfl rfl ?_
  refine mg_s (pc := 63) dX12_starts_63 rfl ?_
  refine aw_bipush (pc := 66) dX12_starts_66 bipush_94 ?_
  refine aw_aload_n (pc := 68) (i := 0) dX12_starts_68 rfl rfl ?_
  refine mg_home (pc := 69) dX12_starts_69 rfl ?_
  refine aw_top (y := nI (σ.2.1 6 (79 + q))) rfl ?_
  refine an_add (pc := 72) dX12_starts_72 ?_
  refine ml_s (pc := 73) dX12_starts_73 (by omega) ?_
  refine aw_top (y := (nI (σ.2.1 6 (94 + (σ.2.1 6 (79 + q)))))) rfl ?_
  refine ms_store (pc := 74) dX12_starts_74 (by decide) ?_
  refine aw_aload_n (pc := 75) (i := 0) dX12_starts_75 rfl rfl ?_
  refine mg_step (pc := 76) dX12_starts_76 rfl ?_
  refine aw_iconst (pc := 79) dX12_starts_79 iconst_0 ?_
  refine aw_iconst (pc := 80) dX12_starts_80 iconst_m1 ?_
  refine ms_step (pc := 81) dX12_starts_81 (by decide) ?_
  exact aw_vret (pc := 82) dX12_starts_82 rfl (Nat.le_refl _) (Nat.le_refl _) (kk)
set_option maxHeartbeats 1000000 in
set_option maxRecDepth 20000 in
theorem s_steps {G : xG} {d : Nat} {Q : xQ} {a : Nat → Nat} {σ : mS} {p : pS} {dd : Int32} {sp hm : Nat} {e x : Nat} (hb : ∀ j, σ.2.1 6 j < 2 ^ 30) (h1 : σ.2.1 6 1 ≤ 12) (hsp : sp < 2 ^ 31) (hx : x < 7) (he : e ≤ 4) (hw9 : p.1 e < 7) (hm9 : p.2.1 e ≤ 240) (hs9 : p.2.2.1 e < 2 ^ 30) (hhm : hm < 2 ^ 31) (hst : p.2.2.2 e = nI x) (k1 : whyBy (σ.2.1 6) (p.1 e) x (p.2.1 e) sp = 0 → Q (some (.int (bI true))) (mW G.2.2.1 a (scr σ (pushP (σ.2.1 6) hm sp e x p) dd sp hm))) (k0 : 0 < whyBy (σ.2.1 6) (p.1 e) x (p.2.1 e) sp → Q (some (.int (bI false))) (mW G.2.2.1 a (scr σ p dd sp hm))) : MT G MX12_steps (d + 3) 0 0 [.ref (a 60), .int (nI e)] (mW G.2.2.1 a (scr σ p dd sp hm)) Q := by
  refine mt_start (L := [some (.ref (a 60)), some (.int (nI e)), none, none]) rfl (Nat.le_of_ble_eq_true rfl) rfl ?_
  refine aw_aload_n (pc := 0) (i := 0) dX12_steps_0 rfl rfl ?_
  refine mg_step (pc := 1) dX12_steps_1 rfl ?_
  refine aw_iload_n (pc := 4) (i := 1) dX12_steps_4 rfl rfl ?_
  refine ml_step (pc := 5) dX12_steps_5 (by omega) ?_
  refine aw_top (y := (p.2.2.2 e)) rfl ?_
  refine aw_top (y := (nI x)) hst ?_
  refine aw_istore_n (pc := 6) (i := 2) dX12_steps_6 rfl (Nat.le_of_ble_eq_true rfl) rfl ?_
  refine aw_aload_n (pc := 7) (i := 0) dX12_steps_7 rfl rfl ?_
  refine aw_aload_n (pc := 8) (i := 0) dX12_steps_8 rfl rfl ?_
  refine mg_where (pc := 9) dX12_steps_9 rfl ?_
  refine aw_iload_n (pc := 12) (i := 1) dX12_steps_12 rfl rfl ?_
  refine ml_where (pc := 13) dX12_steps_13 (by omega) ?_
  refine aw_top (y := (nI (p.1 e))) rfl ?_
  refine aw_iload_n (pc := 14) (i := 2) dX12_steps_14 rfl rfl ?_
  refine aw_aload_n (pc := 15) (i := 0) dX12_steps_15 rfl rfl ?_
  refine mg_much (pc := 16) dX12_steps_16 rfl ?_
  refine aw_iload_n (pc := 19) (i := 1) dX12_steps_19 rfl rfl ?_
  refine ml_much (pc := 20) dX12_steps_20 (by omega) ?_
  refine aw_top (y := (nI (p.2.1 e))) rfl ?_
  refine aw_aload_n (pc := 21) (i := 0) dX12_steps_21 rfl rfl ?_
  refine mg_sparing (pc := 22) dX12_steps_22 rfl ?_
  refine aw_top (y := (nI sp)) rfl ?_
  refine mc_I (pc := 25) (As := [.int (nI (p.1 e)), .int (nI x), .int (nI (p.2.1 e)), .int (nI sp)]) (rest := []) dX12_steps_25 rfl ok_X12_288 rfl rfl rfl (Nat.le_of_ble_eq_true rfl) (s_whyBy hb h1 (by omega) hx (by omega) hsp ⟨_, _, rfl, rfl, ?_⟩)
  refine aw_top (y := nI (whyBy (σ.2.1 6) (p.1 e) x (p.2.1 e) sp)) rfl ?_
  refine an_if_le (pc := 28) (tgt := 33) dX12_steps_28 rfl (by have := whyBy_le (σ.2.1 6) (p.1 e) x (p.2.1 e) sp; omega) (fun h28 => ?_) (fun h28 => ?_)
  · -- 33
    refine aw_iload_n (pc := 33) (i := 2) dX12_steps_33 rfl rfl ?_
    refine aw_aload_n (pc := 34) (i := 0) dX12_steps_34 rfl rfl ?_
    refine mg_home (pc := 35) dX12_steps_35 rfl ?_
    refine aw_top (y := (nI hm)) rfl ?_
    refine an_icmp_ne (pc := 38) (tgt := 61) dX12_steps_38 rfl (by omega) (by omega) (fun h38 => ?_) (fun h38 => ?_)
    · -- 61
      refine aw_iconst (pc := 61) dX12_steps_61 iconst_0 ?_
      refine aw_top (y := nI (nGv (σ.2.1 6) hm x (p.2.1 e) (p.2.2.1 e))) (congrArg nI (show 0 = nGv (σ.2.1 6) hm x (p.2.1 e) (p.2.2.1 e) by unfold nGv; rw [if_neg h38])) ?_
      refine aw_istore_n (pc := 62) (i := 3) dX12_steps_62 rfl (Nat.le_of_ble_eq_true rfl) rfl ?_
      refine aw_aload_n (pc := 63) (i := 0) dX12_steps_63 rfl rfl ?_
      refine mg_where (pc := 64) dX12_steps_64 rfl ?_
      refine aw_iload_n (pc := 67) (i := 1) dX12_steps_67 rfl rfl ?_
      refine aw_iconst (pc := 68) dX12_steps_68 iconst_1 ?_
      refine an_add (pc := 69) dX12_steps_69 ?_
      refine aw_iload_n (pc := 70) (i := 2) dX12_steps_70 rfl rfl ?_
      refine ms_where (pc := 71) dX12_steps_71 (by omega) ?_
      refine aw_aload_n (pc := 72) (i := 0) dX12_steps_72 rfl rfl ?_
      refine mg_store (pc := 73) dX12_steps_73 rfl ?_
      refine aw_iload_n (pc := 76) (i := 1) dX12_steps_76 rfl rfl ?_
      refine aw_iconst (pc := 77) dX12_steps_77 iconst_1 ?_
      refine an_add (pc := 78) dX12_steps_78 ?_
      refine aw_aload_n (pc := 79) (i := 0) dX12_steps_79 rfl rfl ?_
      refine mg_store (pc := 80) dX12_steps_80 rfl ?_
      refine aw_iload_n (pc := 83) (i := 1) dX12_steps_83 rfl rfl ?_
      refine ml_store (pc := 84) dX12_steps_84 (by omega) ?_
      refine aw_top (y := (nI (p.2.2.1 e))) rfl ?_
      refine aw_iload_n (pc := 85) (i := 3) dX12_steps_85 rfl rfl ?_
      refine an_sub (pc := 86) dX12_steps_86 (nGv_le).1 ?_
      refine ms_store (pc := 87) dX12_steps_87 (by omega) ?_
      refine aw_aload_n (pc := 88) (i := 0) dX12_steps_88 rfl rfl ?_
      refine mg_much (pc := 89) dX12_steps_89 rfl ?_
      refine aw_iload_n (pc := 92) (i := 1) dX12_steps_92 rfl rfl ?_
      refine aw_iconst (pc := 93) dX12_steps_93 iconst_1 ?_
      refine an_add (pc := 94) dX12_steps_94 ?_
      refine aw_aload_n (pc := 95) (i := 0) dX12_steps_95 rfl rfl ?_
      refine mg_much (pc := 96) dX12_steps_96 rfl ?_
      refine aw_iload_n (pc := 99) (i := 1) dX12_steps_99 rfl rfl ?_
      refine ml_much (pc := 100) dX12_steps_100 (by omega) ?_
      refine aw_top (y := (nI (p.2.1 e))) rfl ?_
      refine aw_iload_n (pc := 101) (i := 3) dX12_steps_101 rfl rfl ?_
      refine an_add (pc := 102) dX12_steps_102 ?_
      refine aw_aload_n (pc := 103) (i := 0) dX12_steps_103 rfl rfl ?_
      refine mg_sparing (pc := 104) dX12_steps_104 rfl ?_
      refine aw_top (y := (nI sp)) rfl ?_
      refine aw_iload_n (pc := 107) (i := 2) dX12_steps_107 rfl rfl ?_
      refine mt_I (pc := 108) (As := [.int (nI sp), .int (nI x)]) (rest := [.int (nI ((p.2.1 e) + (nGv (σ.2.1 6) hm x (p.2.1 e) (p.2.2.1 e)))), .int (nI (e + 1)), .ref (a 25)]) dX12_steps_108 rfl ok_X12_257 rfl rfl rfl (Nat.le_of_ble_eq_true rfl) (s_bitOf hsp (by omega) ⟨_, _, rfl, rfl, ?_⟩)
      refine ab_if_eq (pc := 111) (tgt := 118) dX12_steps_111 rfl (fun h111 => ?_) (fun h111 => ?_)
      · -- 118
        refine aw_aload_n (pc := 118) (i := 0) dX12_steps_118 rfl rfl ?_
        refine mg_s (pc := 119) dX12_steps_119 rfl ?_
        refine aw_iconst (pc := 122) dX12_steps_122 iconst_3 ?_
        refine aw_iload_n (pc := 123) (i := 2) dX12_steps_123 rfl rfl ?_
        refine an_add (pc := 124) dX12_steps_124 ?_
        refine ml_s (pc := 125) dX12_steps_125 (by omega) ?_
        refine aw_top (y := (nI (σ.2.1 6 (3 + x)))) rfl ?_
        refine aw_top (y := nI (nTl (σ.2.1 6) sp x)) (congrArg nI (show σ.2.1 6 (3 + x) = nTl (σ.2.1 6) sp x by unfold nTl; rw [if_neg (by rw [h111]; decide)])) ?_
        refine an_sub (pc := 126) dX12_steps_126 (Nat.le_trans (nTl_le h28) (Nat.le_add_right _ _)) ?_
        refine ms_much (pc := 127) dX12_steps_127 (by omega) ?_
        refine aw_aload_n (pc := 128) (i := 0) dX12_steps_128 rfl rfl ?_
        refine mg_step (pc := 129) dX12_steps_129 rfl ?_
        refine aw_iload_n (pc := 132) (i := 1) dX12_steps_132 rfl rfl ?_
        refine aw_iconst (pc := 133) dX12_steps_133 iconst_1 ?_
        refine an_add (pc := 134) dX12_steps_134 ?_
        refine aw_iconst (pc := 135) dX12_steps_135 iconst_m1 ?_
        refine ms_step (pc := 136) dX12_steps_136 (by omega) ?_
        refine aw_iconst (pc := 137) dX12_steps_137 iconst_1 ?_
        exact ab_ret1 (pc := 138) dX12_steps_138 rfl (Nat.le_refl _) (Nat.le_refl _) (k1 h28)
      · -- 114
        refine aw_iconst (pc := 114) dX12_steps_114 iconst_0 ?_
        refine aw_goto (pc := 115) (tgt := 126) dX12_steps_115 rfl ?_
        refine aw_top (y := nI (nTl (σ.2.1 6) sp x)) (congrArg nI (show 0 = nTl (σ.2.1 6) sp x by unfold nTl; rw [if_pos h111])) ?_
        refine an_sub (pc := 126) dX12_steps_126 (Nat.le_trans (nTl_le h28) (Nat.le_add_right _ _)) ?_
        refine ms_much (pc := 127) dX12_steps_127 (by omega) ?_
        refine aw_aload_n (pc := 128) (i := 0) dX12_steps_128 rfl rfl ?_
        refine mg_step (pc := 129) dX12_steps_129 rfl ?_
        refine aw_iload_n (pc := 132) (i := 1) dX12_steps_132 rfl rfl ?_
        refine aw_iconst (pc := 133) dX12_steps_133 iconst_1 ?_
        refine an_add (pc := 134) dX12_steps_134 ?_
        refine aw_iconst (pc := 135) dX12_steps_135 iconst_m1 ?_
        refine ms_step (pc := 136) dX12_steps_136 (by omega) ?_
        refine aw_iconst (pc := 137) dX12_steps_137 iconst_1 ?_
        exact ab_ret1 (pc := 138) dX12_steps_138 rfl (Nat.le_refl _) (Nat.le_refl _) (k1 h28)
    · -- 41
      refine aw_aload_n (pc := 41) (i := 0) dX12_steps_41 rfl rfl ?_
      refine aw_iload_n (pc := 42) (i := 2) dX12_steps_42 rfl rfl ?_
      refine aw_aload_n (pc := 43) (i := 0) dX12_steps_43 rfl rfl ?_
      refine mg_much (pc := 44) dX12_steps_44 rfl ?_
      refine aw_iload_n (pc := 47) (i := 1) dX12_steps_47 rfl rfl ?_
      refine ml_much (pc := 48) dX12_steps_48 (by omega) ?_
      refine aw_top (y := (nI (p.2.1 e))) rfl ?_
      refine aw_aload_n (pc := 49) (i := 0) dX12_steps_49 rfl rfl ?_
      refine mg_store (pc := 50) dX12_steps_50 rfl ?_
      refine aw_iload_n (pc := 53) (i := 1) dX12_steps_53 rfl rfl ?_
      refine ml_store (pc := 54) dX12_steps_54 (by omega) ?_
      refine aw_top (y := (nI (p.2.2.1 e))) rfl ?_
      refine mc_I (pc := 55) (As := [.int (nI x), .int (nI (p.2.1 e)), .int (nI (p.2.2.1 e))]) (rest := []) dX12_steps_55 rfl ok_X12_298 rfl rfl rfl (Nat.le_of_ble_eq_true rfl) (s_given hb hx (by omega) (by omega) ⟨_, _, rfl, rfl, ?_⟩)
      refine aw_goto (pc := 58) (tgt := 62) dX12_steps_58 rfl ?_
      refine aw_top (y := nI (nGv (σ.2.1 6) hm x (p.2.1 e) (p.2.2.1 e))) (congrArg nI (show givenF (σ.2.1 6) x (p.2.1 e) (p.2.2.1 e) = nGv (σ.2.1 6) hm x (p.2.1 e) (p.2.2.1 e) by unfold nGv; rw [if_pos h38])) ?_
      refine aw_istore_n (pc := 62) (i := 3) dX12_steps_62 rfl (Nat.le_of_ble_eq_true rfl) rfl ?_
      refine aw_aload_n (pc := 63) (i := 0) dX12_steps_63 rfl rfl ?_
      refine mg_where (pc := 64) dX12_steps_64 rfl ?_
      refine aw_iload_n (pc := 67) (i := 1) dX12_steps_67 rfl rfl ?_
      refine aw_iconst (pc := 68) dX12_steps_68 iconst_1 ?_
      refine an_add (pc := 69) dX12_steps_69 ?_
      refine aw_iload_n (pc := 70) (i := 2) dX12_steps_70 rfl rfl ?_
      refine ms_where (pc := 71) dX12_steps_71 (by omega) ?_
      refine aw_aload_n (pc := 72) (i := 0) dX12_steps_72 rfl rfl ?_
      refine mg_store (pc := 73) dX12_steps_73 rfl ?_
      refine aw_iload_n (pc := 76) (i := 1) dX12_steps_76 rfl rfl ?_
      refine aw_iconst (pc := 77) dX12_steps_77 iconst_1 ?_
      refine an_add (pc := 78) dX12_steps_78 ?_
      refine aw_aload_n (pc := 79) (i := 0) dX12_steps_79 rfl rfl ?_
      refine mg_store (pc := 80) dX12_steps_80 rfl ?_
      refine aw_iload_n (pc := 83) (i := 1) dX12_steps_83 rfl rfl ?_
      refine ml_store (pc := 84) dX12_steps_84 (by omega) ?_
      refine aw_top (y := (nI (p.2.2.1 e))) rfl ?_
      refine aw_iload_n (pc := 85) (i := 3) dX12_steps_85 rfl rfl ?_
      refine an_sub (pc := 86) dX12_steps_86 (nGv_le).1 ?_
      refine ms_store (pc := 87) dX12_steps_87 (by omega) ?_
      refine aw_aload_n (pc := 88) (i := 0) dX12_steps_88 rfl rfl ?_
      refine mg_much (pc := 89) dX12_steps_89 rfl ?_
      refine aw_iload_n (pc := 92) (i := 1) dX12_steps_92 rfl rfl ?_
      refine aw_iconst (pc := 93) dX12_steps_93 iconst_1 ?_
      refine an_add (pc := 94) dX12_steps_94 ?_
      refine aw_aload_n (pc := 95) (i := 0) dX12_steps_95 rfl rfl ?_
      refine mg_much (pc := 96) dX12_steps_96 rfl ?_
      refine aw_iload_n (pc := 99) (i := 1) dX12_steps_99 rfl rfl ?_
      refine ml_much (pc := 100) dX12_steps_100 (by omega) ?_
      refine aw_top (y := (nI (p.2.1 e))) rfl ?_
      refine aw_iload_n (pc := 101) (i := 3) dX12_steps_101 rfl rfl ?_
      refine an_add (pc := 102) dX12_steps_102 ?_
      refine aw_aload_n (pc := 103) (i := 0) dX12_steps_103 rfl rfl ?_
      refine mg_sparing (pc := 104) dX12_steps_104 rfl ?_
      refine aw_top (y := (nI sp)) rfl ?_
      refine aw_iload_n (pc := 107) (i := 2) dX12_steps_107 rfl rfl ?_
      refine mt_I (pc := 108) (As := [.int (nI sp), .int (nI x)]) (rest := [.int (nI ((p.2.1 e) + (nGv (σ.2.1 6) hm x (p.2.1 e) (p.2.2.1 e)))), .int (nI (e + 1)), .ref (a 25)]) dX12_steps_108 rfl ok_X12_257 rfl rfl rfl (Nat.le_of_ble_eq_true rfl) (s_bitOf hsp (by omega) ⟨_, _, rfl, rfl, ?_⟩)
      refine ab_if_eq (pc := 111) (tgt := 118) dX12_steps_111 rfl (fun h111 => ?_) (fun h111 => ?_)
      · -- 118
        refine aw_aload_n (pc := 118) (i := 0) dX12_steps_118 rfl rfl ?_
        refine mg_s (pc := 119) dX12_steps_119 rfl ?_
        refine aw_iconst (pc := 122) dX12_steps_122 iconst_3 ?_
        refine aw_iload_n (pc := 123) (i := 2) dX12_steps_123 rfl rfl ?_
        refine an_add (pc := 124) dX12_steps_124 ?_
        refine ml_s (pc := 125) dX12_steps_125 (by omega) ?_
        refine aw_top (y := (nI (σ.2.1 6 (3 + x)))) rfl ?_
        refine aw_top (y := nI (nTl (σ.2.1 6) sp x)) (congrArg nI (show σ.2.1 6 (3 + x) = nTl (σ.2.1 6) sp x by unfold nTl; rw [if_neg (by rw [h111]; decide)])) ?_
        refine an_sub (pc := 126) dX12_steps_126 (Nat.le_trans (nTl_le h28) (Nat.le_add_right _ _)) ?_
        refine ms_much (pc := 127) dX12_steps_127 (by omega) ?_
        refine aw_aload_n (pc := 128) (i := 0) dX12_steps_128 rfl rfl ?_
        refine mg_step (pc := 129) dX12_steps_129 rfl ?_
        refine aw_iload_n (pc := 132) (i := 1) dX12_steps_132 rfl rfl ?_
        refine aw_iconst (pc := 133) dX12_steps_133 iconst_1 ?_
        refine an_add (pc := 134) dX12_steps_134 ?_
        refine aw_iconst (pc := 135) dX12_steps_135 iconst_m1 ?_
        refine ms_step (pc := 136) dX12_steps_136 (by omega) ?_
        refine aw_iconst (pc := 137) dX12_steps_137 iconst_1 ?_
        exact ab_ret1 (pc := 138) dX12_steps_138 rfl (Nat.le_refl _) (Nat.le_refl _) (k1 h28)
      · -- 114
        refine aw_iconst (pc := 114) dX12_steps_114 iconst_0 ?_
        refine aw_goto (pc := 115) (tgt := 126) dX12_steps_115 rfl ?_
        refine aw_top (y := nI (nTl (σ.2.1 6) sp x)) (congrArg nI (show 0 = nTl (σ.2.1 6) sp x by unfold nTl; rw [if_pos h111])) ?_
        refine an_sub (pc := 126) dX12_steps_126 (Nat.le_trans (nTl_le h28) (Nat.le_add_right _ _)) ?_
        refine ms_much (pc := 127) dX12_steps_127 (by omega) ?_
        refine aw_aload_n (pc := 128) (i := 0) dX12_steps_128 rfl rfl ?_
        refine mg_step (pc := 129) dX12_steps_129 rfl ?_
        refine aw_iload_n (pc := 132) (i := 1) dX12_steps_132 rfl rfl ?_
        refine aw_iconst (pc := 133) dX12_steps_133 iconst_1 ?_
        refine an_add (pc := 134) dX12_steps_134 ?_
        refine aw_iconst (pc := 135) dX12_steps_135 iconst_m1 ?_
        refine ms_step (pc := 136) dX12_steps_136 (by omega) ?_
        refine aw_iconst (pc := 137) dX12_steps_137 iconst_1 ?_
        exact ab_ret1 (pc := 138) dX12_steps_138 rfl (Nat.le_refl _) (Nat.le_refl _) (k1 h28)
  · -- 31
    refine aw_iconst (pc := 31) dX12_steps_31 iconst_0 ?_
    exact ab_ret0 (pc := 32) dX12_steps_32 rfl (Nat.le_refl _) (Nat.le_refl _) (k0 h28)
