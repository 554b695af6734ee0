def sC (σ : mS) : Nat := (σ.1 51).toNatClampNeg
def sO (σ : mS) : Nat := (σ.1 52).toNatClampNeg
def sT (σ : mS) : Nat := (σ.1 53).toNatClampNeg
def sE (σ : mS) : Nat := (σ.1 54).toNatClampNeg
theorem sX_of {σ : mS} {k n : Nat} (h : σ.1 k = nI n) (hn : n < 2 ^ 31) : (σ.1 k).toNatClampNeg = n := by rw [h, nI_clamp hn]
def codeF (σ : mS) (x y z : Nat) : mS := mI (mN (mN (mN σ 8 (3 * sC σ) x) 8 (3 * sC σ + 1) y) 8 (3 * sC σ + 2) z) 51 (nI (sC σ + 1))
def notsF : Nat → mS → mS
  | 0, σ => σ
  | n + 1, σ => if σ.2.1 50 n = 20 then notsF n (codeF (mI (mI σ 53 (nI n)) 54 (nI (sE σ - 1))) 20 0 0) else σ
def joinsF : Nat → Bool → mS → mS
  | 0, _, σ => σ
  | n + 1, o, σ => if σ.2.1 50 n = 21 then joinsF n o (codeF (mI σ 53 (nI n)) (σ.2.1 50 n) 0 0) else if σ.2.1 50 n = 22 then (if o = true then joinsF n o (codeF (mI σ 53 (nI n)) (σ.2.1 50 n) 0 0) else σ) else σ
def leafO (σ : mS) : Nat := if isWordB σ (1752132965 : Int64) = true then 0 else if isWordB σ (495875089259 : Int64) = true then 1 else if isWordB σ (26990 : Int64) = true then 2 else if isWordB σ (28518 : Int64) = true then 3 else if isWordB σ (1718773093 : Int64) = true then 4 else if isWordB σ (119182899770472 : Int64) = true then 5 else if isWordB σ (499850634606 : Int64) = true then 6 else if isWordB σ (27991845698233700 : Int64) = true then 7 else if isWordB σ (121450625394034 : Int64) = true then 8 else 9
def opN (σ : mS) : mS := nx (mI σ 52 (nI (sO σ + 1)))
def opG (σ : mS) (x : Nat) : Bool × mS := if sO σ = 20 then (false, badF σ 4) else if 8 < sE σ then (false, badF σ 4) else (true, mI (mI (mN (opN σ) 50 (sT σ) x) 53 (nI (sT σ + 1))) 54 (nI (sE σ + 1)))
def opW (σ : mS) : mS := mI (opN σ) 55 (nI 1)
def opM (σ : mS) : Bool × mS := if (nx (opW σ)).1 11 = nI 2 then (true, nx (codeF (nx (opW σ)) (leafO σ) (numN (opW σ)) (numN (nx (opW σ))))) else (false, badF (nx (opW σ)) 1)
def opA (σ : mS) : Bool × mS := looksF (opW σ) 0 (σ.2.1 6 0)
def opI (σ : mS) : Nat := (findW (opW σ) 0 (σ.2.1 6 0)).getD 0
def opB (σ : mS) : Bool × mS := if leafO σ < 2 then (true, codeF (opW σ) (leafO σ) 0 0) else if leafO σ < 5 then (if (opA σ).1 = true then (true, nx (codeF (opA σ).2 (leafO σ) 0 (opI σ))) else (false, (opA σ).2)) else if (opW σ).1 11 = nI 3 then (if numN (opW σ) < 60 then (false, badF (opW σ) 1) else if 62 < numN (opW σ) then (false, badF (opW σ) 1) else opM σ) else (false, badF (opW σ) 1)
def opL (σ : mS) : Bool × mS := if sO σ = 20 then (false, badF σ 4) else if 8 < sE σ then (false, badF σ 4) else opB σ
def operandF (σ : mS) : Bool × mS := if isWordB σ (7237492 : Int64) = true then opG σ 20 else if isSignB σ 40 = true then opG σ 23 else if leafO σ = 9 then (false, badF σ 1) else opL σ
def bhN (σ : mS) : mS := notsF (sT σ) σ
def bhJ (σ : mS) (o : Bool) : mS := joinsF (sT (bhN σ)) o (bhN σ)
def bhP (σ : mS) (x : Nat) : mS := nx (mI (mI (mN σ 50 (sT σ) x) 53 (nI (sT σ + 1))) 55 (nI 0))
def behindF (σ : mS) : Bool × mS := if isWordB (bhN σ) (6385252 : Int64) = true then (true, bhP (bhJ σ false) 21) else if isWordB (bhN σ) (28530 : Int64) = true then (true, bhP (bhJ σ true) 22) else if isSignB (bhJ σ true) 41 = true then (if sT (bhJ σ true) = 0 then (false, badF (bhJ σ true) 1) else (true, nx (mI (mI (bhJ σ true) 53 (nI (sT (bhJ σ true) - 1))) 54 (nI (sE (bhJ σ true) - 1))))) else (false, badF (bhJ σ true) 1)
def senL : Nat → mS → Bool × mS
  | 0, σ => (false, σ)
  | n + 1, σ => if σ.1 55 = nI 1 then (if σ.1 11 = nI 0 then (if sT (bhJ σ true) = 0 then (true, bhJ σ true) else (false, badF (bhJ σ true) 1)) else if (behindF σ).1 = true then senL n (behindF σ).2 else (false, (behindF σ).2)) else if (operandF σ).1 = true then senL n (operandF σ).2 else (false, (operandF σ).2)
/-- what the codes say: how many truths lie there behind the first so many -/
def dpS (n x z : Nat) : Option Nat := if x = 20 then (if 1 ≤ n then some n else none) else if x = 21 ∨ x = 22 then (if 2 ≤ n then some (n - 1) else none) else if x ≤ 8 ∧ (x = 4 → z < 7) then some (n + 1) else none
def dpF (f : Nat → Nat) (b : Nat) : Nat → Option Nat
  | 0 => some 0
  | i + 1 => match dpF f b i with
    | none => none
    | some n => dpS n (f (b + 3 * i)) (f (b + 3 * i + 2))
def cnO (f : Nat → Nat) : Nat → Nat
  | 0 => 0
  | n + 1 => cnO f n + if f n = 20 ∨ f n = 23 then 1 else 0
def cnJ (f : Nat → Nat) : Nat → Nat
  | 0 => 0
  | n + 1 => cnJ f n + if f n = 21 ∨ f n = 22 then 1 else 0
def b1 (b : Bool) : Nat := if b = true then 1 else 0
/-- a sentence as far as it is read -/
def SV (σ : mS) (b : Bool) : Prop := PV σ ∧ σ.1 51 = nI (sC σ) ∧ σ.1 52 = nI (sO σ) ∧ σ.1 53 = nI (sT σ) ∧ σ.1 54 = nI (sE σ) ∧ σ.1 55 = bI b ∧ sO σ ≤ 20 ∧ sC σ + sT σ + b1 b ≤ 2 * sO σ ∧ sE σ = 1 + cnO (σ.2.1 50) (sT σ) ∧ (∀ j, j < sT σ → 20 ≤ σ.2.1 50 j ∧ σ.2.1 50 j ≤ 23) ∧ dpF (σ.2.1 8) 0 (sC σ) = some (cnJ (σ.2.1 50) (sT σ) + b1 b) ∧ (∀ j, j < 3 * sC σ → σ.2.1 8 j < 1024)
theorem numN_of {σ : mS} (h : PV σ) : σ.1 14 = nI (numN σ) ∧ numN σ < 2 ^ 30 := by
  obtain ⟨s, lim, p, nm, tk, at', h3, hs, h5, hl, h4, hp, h14, hnm, -⟩ := h
  unfold numN
  rw [h14, nI_clamp (by omega)]
  exact ⟨rfl, hnm⟩
theorem PV_code {σ : mS} {x y z : Nat} (h : PV σ) : PV (codeF σ x y z) := PV_mI (PV_mN (PV_mN (PV_mN h))) (by decide)
theorem PV_opN {σ : mS} (h : PV σ) : PV (opN σ) := PV_nx (PV_mI h (by decide))
theorem PV_opW {σ : mS} (h : PV σ) : PV (opW σ) := PV_mI (PV_opN h) (by decide)
theorem cnO_le (f : Nat → Nat) : ∀ n, cnO f n ≤ n := by
  intro n
  induction n with
  | zero => exact Nat.le_refl _
  | succ n ih => unfold cnO; split <;> omega

set_option maxHeartbeats 1000000 in
set_option maxRecDepth 20000 in
theorem s_code {G : xG} {d : Nat} {Q : xQ} {a : Nat → Nat} {σ : mS} {x y z : Nat} (hc : σ.1 51 = nI (sC σ)) (h5 : sC σ ≤ 52) (kk : Q none (mW G.2.2.1 a (codeF σ x y z))) : MT G MX12_code (d) 0 0 [.ref (a 60), .int (nI x), .int (nI y), .int (nI z)] (mW G.2.2.1 a σ) Q := by
  refine mt_start (L := [some (.ref (a 60)), some (.int (nI x)), some (.int (nI y)), some (.int (nI z))]) rfl (Nat.le_of_ble_eq_true rfl) rfl ?_
  refine aw_aload_n (pc := 0) (i := 0) dX12_code_0 rfl rfl ?_
  refine mg_read (pc := 1) dX12_code_1 rfl ?_
  refine aw_iconst (pc := 4) dX12_code_4 iconst_3 ?_
  refine aw_aload_n (pc := 5) (i := 0) dX12_code_5 rfl rfl ?_
  refine mg_codes (pc := 6) dX12_code_6 rfl ?_
  refine aw_top (y := (nI (sC σ))) hc ?_
  refine an_mul (pc := 9) dX12_code_9 ?_
  refine aw_iload_n (pc := 10) (i := 1) dX12_code_10 rfl rfl ?_
  refine ms_read (pc := 11) dX12_code_11 (by omega) ?_
  refine aw_aload_n (pc := 12) (i := 0) dX12_code_12 rfl rfl ?_
  refine mg_read (pc := 13) dX12_code_13 rfl ?_
  refine aw_iconst (pc := 16) dX12_code_16 iconst_3 ?_
  refine aw_aload_n (pc := 17) (i := 0) dX12_code_17 rfl rfl ?_
  refine mg_codes (pc := 18) dX12_code_18 rfl ?_
  refine aw_top (y := σ.1 51) rfl ?_
  refine aw_top (y := (nI (sC σ))) hc ?_
  refine an_mul (pc := 21) dX12_code_21 ?_
  refine aw_iconst (pc := 22) dX12_code_22 iconst_1 ?_
  refine an_add (pc := 23) dX12_code_23 ?_
  refine aw_iload_n (pc := 24) (i := 2) dX12_code_24 rfl rfl ?_
  refine ms_read (pc := 25) dX12_code_25 (by omega) ?_
  refine aw_aload_n (pc := 26) (i := 0) dX12_code_26 rfl rfl ?_
  refine mg_read (pc := 27) dX12_code_27 rfl ?_
  refine aw_iconst (pc := 30) dX12_code_30 iconst_3 ?_
  refine aw_aload_n (pc := 31) (i := 0) dX12_code_31 rfl rfl ?_
  refine mg_codes (pc := 32) dX12_code_32 rfl ?_
  refine aw_top (y := σ.1 51) rfl ?_
  refine aw_top (y := (nI (sC σ))) hc ?_
  refine an_mul (pc := 35) dX12_code_35 ?_
  refine aw_iconst (pc := 36) dX12_code_36 iconst_2 ?_
  refine an_add (pc := 37) dX12_code_37 ?_
  refine aw_iload_n (pc := 38) (i := 3) dX12_code_38 rfl rfl ?_
  refine ms_read (pc := 39) dX12_code_39 (by omega) ?_
  refine aw_aload_n (pc := 40) (i := 0) dX12_code_40 rfl rfl ?_
  refine aw_dup (pc := 41) dX12_code_41 rfl ?_
  refine mg_codes (pc := 42) dX12_code_42 rfl ?_
  refine aw_top (y := σ.1 51) rfl ?_
  refine aw_top (y := (nI (sC σ))) hc ?_
  refine aw_iconst (pc := 45) dX12_code_45 iconst_1 ?_
  refine an_add (pc := 46) dX12_code_46 ?_
  refine mp_codes (pc := 47) dX12_code_47 rfl ?_
  exact aw_vret (pc := 50) dX12_code_50 rfl (Nat.le_refl _) (Nat.le_refl _) (kk)
set_option maxHeartbeats 1000000 in
set_option maxRecDepth 20000 in
theorem nots_loop {G : xG} {d : Nat} {Q : xQ} {a : Nat → Nat} : ∀ (n : Nat) (σ : mS), σ.1 53 = nI n → σ.1 51 = nI (sC σ) → sC σ + n ≤ 45 → σ.1 54 = nI (sE σ) → 1 + cnO (σ.2.1 50) n ≤ sE σ → sE σ ≤ 100 → (∀ j, j < n → σ.2.1 50 j ≤ 23) → Q none (mW G.2.2.1 a (notsF n σ)) → AW G MX12_nots (d + 1) 0 0 Q 0 [some (.ref (a 60))] [] (mW G.2.2.1 a σ) 0 0 := by
  intro n
  induction n with
  | zero =>
    intro σ h53 hc hcn he hen he1 h23 kk
    refine aw_aload_n (pc := 0) (i := 0) dX12_nots_0 rfl rfl ?_
    refine mg_top (pc := 1) dX12_nots_1 rfl ?_
    refine aw_top (y := (nI 0)) h53 ?_
    refine an_if_le (pc := 4) (tgt := 54) dX12_nots_4 rfl (by decide) (fun h4 => ?_) (fun h4 => absurd h4 (by decide))
    exact aw_vret (pc := 54) dX12_nots_54 rfl (Nat.le_refl _) (Nat.le_refl _) (kk)
  | succ n ih =>
    intro σ h53 hc hcn he hen he1 h23 kk
    have hcnO : cnO (σ.2.1 50) (n + 1) = cnO (σ.2.1 50) n + if σ.2.1 50 n = 20 ∨ σ.2.1 50 n = 23 then 1 else 0 := rfl
    have h23n := h23 n (by omega)
    refine aw_aload_n (pc := 0) (i := 0) dX12_nots_0 rfl rfl ?_
    refine mg_top (pc := 1) dX12_nots_1 rfl ?_
    refine aw_top (y := (nI (n + 1))) h53 ?_
    refine an_if_le (pc := 4) (tgt := 54) dX12_nots_4 rfl (by omega) (fun h4 => ?_) (fun h4 => ?_)
    · -- 54
      exfalso; omega
    · -- 7
      refine aw_aload_n (pc := 7) (i := 0) dX12_nots_7 rfl rfl ?_
      refine mg_stack (pc := 8) dX12_nots_8 rfl ?_
      refine aw_aload_n (pc := 11) (i := 0) dX12_nots_11 rfl rfl ?_
      refine mg_top (pc := 12) dX12_nots_12 rfl ?_
      refine aw_top (y := (nI (n + 1))) h53 ?_
      refine aw_iconst (pc := 15) dX12_nots_15 iconst_1 ?_
      refine an_sub (pc := 16) dX12_nots_16 (by omega) ?_
      refine aw_top (y := (nI n)) rfl ?_
      refine ml_stack (pc := 17) dX12_nots_17 (by omega) ?_
      refine aw_bipush (pc := 18) dX12_nots_18 bipush_20 ?_
      refine an_icmp_ne (pc := 20) (tgt := 54) dX12_nots_20 rfl (by omega) (by decide) (fun h20 => ?_) (fun h20 => ?_)
      · -- 54
        exact aw_vret (pc := 54) dX12_nots_54 rfl (Nat.le_refl _) (Nat.le_refl _) (by rw [notsF, if_neg h20] at kk; exact kk)
      · -- 23
        refine aw_aload_n (pc := 23) (i := 0) dX12_nots_23 rfl rfl ?_
        refine aw_dup (pc := 24) dX12_nots_24 rfl ?_
        refine mg_top (pc := 25) dX12_nots_25 rfl ?_
        refine aw_top (y := (nI (n + 1))) h53 ?_
        refine aw_iconst (pc := 28) dX12_nots_28 iconst_1 ?_
        refine an_sub (pc := 29) dX12_nots_29 (by omega) ?_
        refine aw_top (y := (nI n)) rfl ?_
        refine mp_top (pc := 30) dX12_nots_30 rfl ?_
        refine aw_aload_n (pc := 33) (i := 0) dX12_nots_33 rfl rfl ?_
        refine aw_dup (pc := 34) dX12_nots_34 rfl ?_
        refine mg_deep (pc := 35) dX12_nots_35 rfl ?_
        refine aw_top (y := σ.1 54) rfl ?_
        refine aw_top (y := (nI (sE σ))) he ?_
        refine aw_iconst (pc := 38) dX12_nots_38 iconst_1 ?_
        refine an_sub (pc := 39) dX12_nots_39 (by omega) ?_
        refine mp_deep (pc := 40) dX12_nots_40 rfl ?_
        refine aw_aload_n (pc := 43) (i := 0) dX12_nots_43 rfl rfl ?_
        refine aw_bipush (pc := 44) dX12_nots_44 bipush_20 ?_
        refine aw_iconst (pc := 46) dX12_nots_46 iconst_0 ?_
        refine aw_iconst (pc := 47) dX12_nots_47 iconst_0 ?_
        refine mc_V (pc := 48) (As := [.int (nI 20), .int (nI 0), .int (nI 0)]) (rest := []) dX12_nots_48 rfl ok_X12_456 rfl rfl rfl (Nat.le_of_ble_eq_true rfl) (s_code hc (by show sC σ ≤ 52; omega) ⟨_, rfl, rfl, ?_⟩)
        refine aw_goto (pc := 51) (tgt := 0) dX12_nots_51 rfl ?_
        rw [if_pos (Or.inl h20)] at hcnO
        have e1 := nI_clamp (n := sC σ + 1) (by omega)
        have e2 := nI_clamp (n := sE σ - 1) (by omega)
        refine ih _ rfl (by show nI (sC σ + 1) = nI (nI (sC σ + 1)).toNatClampNeg; rw [e1]) (by show (nI (sC σ + 1)).toNatClampNeg + n ≤ 45; omega) (by show nI (sE σ - 1) = nI (nI (sE σ - 1)).toNatClampNeg; rw [e2]) (by show 1 + cnO (σ.2.1 50) n ≤ (nI (sE σ - 1)).toNatClampNeg; omega) (by show (nI (sE σ - 1)).toNatClampNeg ≤ 100; omega) (fun j hj => h23 j (by omega)) ?_
        rw [notsF, if_pos h20] at kk
        exact kk
set_option maxHeartbeats 1000000 in
set_option maxRecDepth 20000 in
theorem s_nots {G : xG} {d : Nat} {Q : xQ} {a : Nat → Nat} {σ : mS} {n : Nat} (h53 : σ.1 53 = nI n) (hc : σ.1 51 = nI (sC σ)) (hcn : sC σ + n ≤ 45) (he : σ.1 54 = nI (sE σ)) (hen : 1 + cnO (σ.2.1 50) n ≤ sE σ) (he1 : sE σ ≤ 100) (h23 : ∀ j, j < n → σ.2.1 50 j ≤ 23) (kk : Q none (mW G.2.2.1 a (notsF n σ))) : MT G MX12_nots (d + 1) 0 0 [.ref (a 60)] (mW G.2.2.1 a σ) Q := by
  refine mt_start (L := [some (.ref (a 60))]) rfl (Nat.le_of_ble_eq_true rfl) rfl ?_
  exact nots_loop n σ h53 hc hcn he hen he1 h23 kk
set_option maxHeartbeats 1000000 in
set_option maxRecDepth 20000 in
theorem joins_true {G : xG} {d : Nat} {Q : xQ} {a : Nat → Nat} : ∀ (n : Nat) (σ : mS), σ.1 53 = nI n → σ.1 51 = nI (sC σ) → sC σ + n ≤ 45 → (∀ j, j < n → σ.2.1 50 j ≤ 23) → Q none (mW G.2.2.1 a (joinsF n true σ)) → AW G MX12_joins (d + 1) 0 0 Q 0 [some (.ref (a 60)), some (.int (nI 22))] [] (mW G.2.2.1 a σ) 0 0 := by
  intro n
  induction n with
  | zero =>
    intro σ h53 hc hcn h23 kk
    refine aw_aload_n (pc := 0) (i := 0) dX12_joins_0 rfl rfl ?_
    refine mg_top (pc := 1) dX12_joins_1 rfl ?_
    refine aw_top (y := (nI 0)) h53 ?_
    refine an_if_le (pc := 4) (tgt := 73) dX12_joins_4 rfl (by decide) (fun h4 => ?_) (fun h4 => absurd h4 (by decide))
    exact aw_vret (pc := 73) dX12_joins_73 rfl (Nat.le_refl _) (Nat.le_refl _) (kk)
  | succ n ih =>
    intro σ h53 hc hcn h23 kk
    have h23n := h23 n (by omega)
    refine aw_aload_n (pc := 0) (i := 0) dX12_joins_0 rfl rfl ?_
    refine mg_top (pc := 1) dX12_joins_1 rfl ?_
    refine aw_top (y := (nI (n + 1))) h53 ?_
    refine an_if_le (pc := 4) (tgt := 73) dX12_joins_4 rfl (by omega) (fun h4 => ?_) (fun h4 => ?_)
    · -- 73
      exfalso; omega
    · -- 7
      refine aw_aload_n (pc := 7) (i := 0) dX12_joins_7 rfl rfl ?_
      refine mg_stack (pc := 8) dX12_joins_8 rfl ?_
      refine aw_aload_n (pc := 11) (i := 0) dX12_joins_11 rfl rfl ?_
      refine mg_top (pc := 12) dX12_joins_12 rfl ?_
      refine aw_top (y := (nI (n + 1))) h53 ?_
      refine aw_iconst (pc := 15) dX12_joins_15 iconst_1 ?_
      refine an_sub (pc := 16) dX12_joins_16 (by omega) ?_
      refine aw_top (y := (nI n)) rfl ?_
      refine ml_stack (pc := 17) dX12_joins_17 (by omega) ?_
      refine aw_bipush (pc := 18) dX12_joins_18 bipush_21 ?_
      refine an_icmp_eq (pc := 20) (tgt := 45) dX12_joins_20 rfl (by omega) (by decide) (fun h20 => ?_) (fun h20 => ?_)
      · -- 45
        refine aw_aload_n (pc := 45) (i := 0) dX12_joins_45 rfl rfl ?_
        refine aw_dup (pc := 46) dX12_joins_46 rfl ?_
        refine mg_top (pc := 47) dX12_joins_47 rfl ?_
        refine aw_top (y := (nI (n + 1))) h53 ?_
        refine aw_iconst (pc := 50) dX12_joins_50 iconst_1 ?_
        refine an_sub (pc := 51) dX12_joins_51 (by omega) ?_
        refine aw_top (y := (nI n)) rfl ?_
        refine mp_top (pc := 52) dX12_joins_52 rfl ?_
        refine aw_aload_n (pc := 55) (i := 0) dX12_joins_55 rfl rfl ?_
        refine aw_aload_n (pc := 56) (i := 0) dX12_joins_56 rfl rfl ?_
        refine mg_stack (pc := 57) dX12_joins_57 rfl ?_
        refine aw_aload_n (pc := 60) (i := 0) dX12_joins_60 rfl rfl ?_
        refine mg_top (pc := 61) dX12_joins_61 rfl ?_
        refine aw_top (y := nI n) rfl ?_
        refine ml_stack (pc := 64) dX12_joins_64 (by omega) ?_
        refine aw_top (y := (nI (σ.2.1 50 n))) rfl ?_
        refine aw_iconst (pc := 65) dX12_joins_65 iconst_0 ?_
        refine aw_iconst (pc := 66) dX12_joins_66 iconst_0 ?_
        refine mc_V (pc := 67) (As := [.int (nI (σ.2.1 50 n)), .int (nI 0), .int (nI 0)]) (rest := []) dX12_joins_67 rfl ok_X12_456 rfl rfl rfl (Nat.le_of_ble_eq_true rfl) (s_code hc (by show sC σ ≤ 52; omega) ⟨_, rfl, rfl, ?_⟩)
        refine aw_goto (pc := 70) (tgt := 0) dX12_joins_70 rfl ?_
        have e1 := nI_clamp (n := sC σ + 1) (by omega)
        refine ih _ rfl (by show nI (sC σ + 1) = nI (nI (sC σ + 1)).toNatClampNeg; rw [e1]) (by show (nI (sC σ + 1)).toNatClampNeg + n ≤ 45; omega) (fun j hj => h23 j (by omega)) ?_
        rw [joinsF, if_pos h20] at kk
        exact kk
      · -- 23
        refine aw_aload_n (pc := 23) (i := 0) dX12_joins_23 rfl rfl ?_
        refine mg_stack (pc := 24) dX12_joins_24 rfl ?_
        refine aw_aload_n (pc := 27) (i := 0) dX12_joins_27 rfl rfl ?_
        refine mg_top (pc := 28) dX12_joins_28 rfl ?_
        refine aw_top (y := (nI (n + 1))) h53 ?_
        refine aw_iconst (pc := 31) dX12_joins_31 iconst_1 ?_
        refine an_sub (pc := 32) dX12_joins_32 (by omega) ?_
        refine aw_top (y := (nI n)) rfl ?_
        refine ml_stack (pc := 33) dX12_joins_33 (by omega) ?_
        refine aw_bipush (pc := 34) dX12_joins_34 bipush_22 ?_
        refine an_icmp_ne (pc := 36) (tgt := 73) dX12_joins_36 rfl (by omega) (by decide) (fun h36 => ?_) (fun h36 => ?_)
        · -- 73
          exact aw_vret (pc := 73) dX12_joins_73 rfl (Nat.le_refl _) (Nat.le_refl _) (by rw [joinsF, if_neg h20, if_neg h36] at kk; exact kk)
        · -- 39
          refine aw_iload_n (pc := 39) (i := 1) dX12_joins_39 rfl rfl ?_
          refine aw_bipush (pc := 40) dX12_joins_40 bipush_22 ?_
          refine an_icmp_ne (pc := 42) (tgt := 73) dX12_joins_42 rfl (by decide) (by decide) (fun h42 => absurd h42 (by decide)) (fun h42 => ?_)
          refine aw_aload_n (pc := 45) (i := 0) dX12_joins_45 rfl rfl ?_
          refine aw_dup (pc := 46) dX12_joins_46 rfl ?_
          refine mg_top (pc := 47) dX12_joins_47 rfl ?_
          refine aw_top (y := (nI (n + 1))) h53 ?_
          refine aw_iconst (pc := 50) dX12_joins_50 iconst_1 ?_
          refine an_sub (pc := 51) dX12_joins_51 (by omega) ?_
          refine aw_top (y := (nI n)) rfl ?_
          refine mp_top (pc := 52) dX12_joins_52 rfl ?_
          refine aw_aload_n (pc := 55) (i := 0) dX12_joins_55 rfl rfl ?_
          refine aw_aload_n (pc := 56) (i := 0) dX12_joins_56 rfl rfl ?_
          refine mg_stack (pc := 57) dX12_joins_57 rfl ?_
          refine aw_aload_n (pc := 60) (i := 0) dX12_joins_60 rfl rfl ?_
          refine mg_top (pc := 61) dX12_joins_61 rfl ?_
          refine aw_top (y := nI n) rfl ?_
          refine ml_stack (pc := 64) dX12_joins_64 (by omega) ?_
          refine aw_top (y := (nI (σ.2.1 50 n))) rfl ?_
          refine aw_iconst (pc := 65) dX12_joins_65 iconst_0 ?_
          refine aw_iconst (pc := 66) dX12_joins_66 iconst_0 ?_
          refine mc_V (pc := 67) (As := [.int (nI (σ.2.1 50 n)), .int (nI 0), .int (nI 0)]) (rest := []) dX12_joins_67 rfl ok_X12_456 rfl rfl rfl (Nat.le_of_ble_eq_true rfl) (s_code hc (by show sC σ ≤ 52; omega) ⟨_, rfl, rfl, ?_⟩)
          refine aw_goto (pc := 70) (tgt := 0) dX12_joins_70 rfl ?_
          have e1 := nI_clamp (n := sC σ + 1) (by omega)
          refine ih _ rfl (by show nI (sC σ + 1) = nI (nI (sC σ + 1)).toNatClampNeg; rw [e1]) (by show (nI (sC σ + 1)).toNatClampNeg + n ≤ 45; omega) (fun j hj => h23 j (by omega)) ?_
          rw [joinsF, if_neg h20, if_pos h36, if_pos rfl] at kk
          exact kk
set_option maxHeartbeats 1000000 in
set_option maxRecDepth 20000 in
theorem s_joins_true {G : xG} {d : Nat} {Q : xQ} {a : Nat → Nat} {σ : mS} {n : Nat} (h53 : σ.1 53 = nI n) (hc : σ.1 51 = nI (sC σ)) (hcn : sC σ + n ≤ 45) (h23 : ∀ j, j < n → σ.2.1 50 j ≤ 23) (kk : Q none (mW G.2.2.1 a (joinsF n true σ))) : MT G MX12_joins (d + 1) 0 0 [.ref (a 60), .int (nI 22)] (mW G.2.2.1 a σ) Q := by
  refine mt_start (L := [some (.ref (a 60)), some (.int (nI 22))]) rfl (Nat.le_of_ble_eq_true rfl) rfl ?_
  exact joins_true n σ h53 hc hcn h23 kk
set_option maxHeartbeats 1000000 in
set_option maxRecDepth 20000 in
theorem joins_false {G : xG} {d : Nat} {Q : xQ} {a : Nat → Nat} : ∀ (n : Nat) (σ : mS), σ.1 53 = nI n → σ.1 51 = nI (sC σ) → sC σ + n ≤ 45 → (∀ j, j < n → σ.2.1 50 j ≤ 23) → Q none (mW G.2.2.1 a (joinsF n false σ)) → AW G MX12_joins (d + 1) 0 0 Q 0 [some (.ref (a 60)), some (.int (nI 21))] [] (mW G.2.2.1 a σ) 0 0 := by
  intro n
  induction n with
  | zero =>
    intro σ h53 hc hcn h23 kk
    refine aw_aload_n (pc := 0) (i := 0) dX12_joins_0 rfl rfl ?_
    refine mg_top (pc := 1) dX12_joins_1 rfl ?_
    refine aw_top (y := (nI 0)) h53 ?_
    refine an_if_le (pc := 4) (tgt := 73) dX12_joins_4 rfl (by decide) (fun h4 => ?_) (fun h4 => absurd h4 (by decide))
    exact aw_vret (pc := 73) dX12_joins_73 rfl (Nat.le_refl _) (Nat.le_refl _) (kk)
  | succ n ih =>
    intro σ h53 hc hcn h23 kk
    have h23n := h23 n (by omega)
    refine aw_aload_n (pc := 0) (i := 0) dX12_joins_0 rfl rfl ?_
    refine mg_top (pc := 1) dX12_joins_1 rfl ?_
    refine aw_top (y := (nI (n + 1))) h53 ?_
    refine an_if_le (pc := 4) (tgt := 73) dX12_joins_4 rfl (by omega) (fun h4 => ?_) (fun h4 => ?_)
    · -- 73
      exfalso; omega
    · -- 7
      refine aw_aload_n (pc := 7) (i := 0) dX12_joins_7 rfl rfl ?_
      refine mg_stack (pc := 8) dX12_joins_8 rfl ?_
      refine aw_aload_n (pc := 11) (i := 0) dX12_joins_11 rfl rfl ?_
      refine mg_top (pc := 12) dX12_joins_12 rfl ?_
      refine aw_top (y := (nI (n + 1))) h53 ?_
      refine aw_iconst (pc := 15) dX12_joins_15 iconst_1 ?_
      refine an_sub (pc := 16) dX12_joins_16 (by omega) ?_
      refine aw_top (y := (nI n)) rfl ?_
      refine ml_stack (pc := 17) dX12_joins_17 (by omega) ?_
      refine aw_bipush (pc := 18) dX12_joins_18 bipush_21 ?_
      refine an_icmp_eq (pc := 20) (tgt := 45) dX12_joins_20 rfl (by omega) (by decide) (fun h20 => ?_) (fun h20 => ?_)
      · -- 45
        refine aw_aload_n (pc := 45) (i := 0) dX12_joins_45 rfl rfl ?_
        refine aw_dup (pc := 46) dX12_joins_46 rfl ?_
        refine mg_top (pc := 47) dX12_joins_47 rfl ?_
        refine aw_top (y := (nI (n + 1))) h53 ?_
        refine aw_iconst (pc := 50) dX12_joins_50 iconst_1 ?_
        refine an_sub (pc := 51) dX12_joins_51 (by omega) ?_
        refine aw_top (y := (nI n)) rfl ?_
        refine mp_top (pc := 52) dX12_joins_52 rfl ?_
        refine aw_aload_n (pc := 55) (i := 0) dX12_joins_55 rfl rfl ?_
        refine aw_aload_n (pc := 56) (i := 0) dX12_joins_56 rfl rfl ?_
        refine mg_stack (pc := 57) dX12_joins_57 rfl ?_
        refine aw_aload_n (pc := 60) (i := 0) dX12_joins_60 rfl rfl ?_
        refine mg_top (pc := 61) dX12_joins_61 rfl ?_
        refine aw_top (y := nI n) rfl ?_
        refine ml_stack (pc := 64) dX12_joins_64 (by omega) ?_
        refine aw_top (y := (nI (σ.2.1 50 n))) rfl ?_
        refine aw_iconst (pc := 65) dX12_joins_65 iconst_0 ?_
        refine aw_iconst (pc := 66) dX12_joins_66 iconst_0 ?_
        refine mc_V (pc := 67) (As := [.int (nI (σ.2.1 50 n)), .int (nI 0), .int (nI 0)]) (rest := []) dX12_joins_67 rfl ok_X12_456 rfl rfl rfl (Nat.le_of_ble_eq_true rfl) (s_code hc (by show sC σ ≤ 52; omega) ⟨_, rfl, rfl, ?_⟩)
        refine aw_goto (pc := 70) (tgt := 0) dX12_joins_70 rfl ?_
        have e1 := nI_clamp (n := sC σ + 1) (by omega)
        refine ih _ rfl (by show nI (sC σ + 1) = nI (nI (sC σ + 1)).toNatClampNeg; rw [e1]) (by show (nI (sC σ + 1)).toNatClampNeg + n ≤ 45; omega) (fun j hj => h23 j (by omega)) ?_
        rw [joinsF, if_pos h20] at kk
        exact kk
      · -- 23
        refine aw_aload_n (pc := 23) (i := 0) dX12_joins_23 rfl rfl ?_
        refine mg_stack (pc := 24) dX12_joins_24 rfl ?_
        refine aw_aload_n (pc := 27) (i := 0) dX12_joins_27 rfl rfl ?_
        refine mg_top (pc := 28) dX12_joins_28 rfl ?_
        refine aw_top (y := (nI (n + 1))) h53 ?_
        refine aw_iconst (pc := 31) dX12_joins_31 iconst_1 ?_
        refine an_sub (pc := 32) dX12_joins_32 (by omega) ?_
        refine aw_top (y := (nI n)) rfl ?_
        refine ml_stack (pc := 33) dX12_joins_33 (by omega) ?_
        refine aw_bipush (pc := 34) dX12_joins_34 bipush_22 ?_
        refine an_icmp_ne (pc := 36) (tgt := 73) dX12_joins_36 rfl (by omega) (by decide) (fun h36 => ?_) (fun h36 => ?_)
        · -- 73
          exact aw_vret (pc := 73) dX12_joins_73 rfl (Nat.le_refl _) (Nat.le_refl _) (by rw [joinsF, if_neg h20, if_neg h36] at kk; exact kk)
        · -- 39
          refine aw_iload_n (pc := 39) (i := 1) dX12_joins_39 rfl rfl ?_
          refine aw_bipush (pc := 40) dX12_joins_40 bipush_22 ?_
          refine an_icmp_ne (pc := 42) (tgt := 73) dX12_joins_42 rfl (by decide) (by decide) (fun h42 => ?_) (fun h42 => absurd h42 (by decide))
          exact aw_vret (pc := 73) dX12_joins_73 rfl (Nat.le_refl _) (Nat.le_refl _) (by rw [joinsF, if_neg h20, if_pos h36, if_neg (by decide)] at kk; exact kk)
set_option maxHeartbeats 1000000 in
set_option maxRecDepth 20000 in
theorem s_joins_false {G : xG} {d : Nat} {Q : xQ} {a : Nat → Nat} {σ : mS} {n : Nat} (h53 : σ.1 53 = nI n) (hc : σ.1 51 = nI (sC σ)) (hcn : sC σ + n ≤ 45) (h23 : ∀ j, j < n → σ.2.1 50 j ≤ 23) (kk : Q none (mW G.2.2.1 a (joinsF n false σ))) : MT G MX12_joins (d + 1) 0 0 [.ref (a 60), .int (nI 21)] (mW G.2.2.1 a σ) Q := by
  refine mt_start (L := [some (.ref (a 60)), some (.int (nI 21))]) rfl (Nat.le_of_ble_eq_true rfl) rfl ?_
  exact joins_false n σ h53 hc hcn h23 kk
theorem ite_le9 {c : Prop} [Decidable c] {x y : Nat} (hx : x ≤ 9) (hy : y ≤ 9) : (if c then x else y) ≤ 9 := by split <;> assumption
theorem leafO_9 (σ : mS) : leafO σ ≤ 9 := ite_le9 (by decide) (ite_le9 (by decide) (ite_le9 (by decide) (ite_le9 (by decide) (ite_le9 (by decide) (ite_le9 (by decide) (ite_le9 (by decide) (ite_le9 (by decide) (ite_le9 (by decide) (by decide)))))))))
set_option maxHeartbeats 1000000 in
set_option maxRecDepth 20000 in
theorem s_leafOf {G : xG} {d : Nat} {Q : xQ} {a : Nat → Nat} {σ : mS} (k1 : leafO σ < 9 → Q (some (.int (nI (leafO σ)))) (mW G.2.2.1 a σ)) (k0 : leafO σ = 9 → Q (some (.int (-1))) (mW G.2.2.1 a σ)) : MT G MX12_leafOf (d + 1) 0 0 [.ref (a 60)] (mW G.2.2.1 a σ) Q := by
  refine mt_start (L := [some (.ref (a 60))]) rfl (Nat.le_of_ble_eq_true rfl) rfl ?_
  refine aw_aload_n (pc := 0) (i := 0) dX12_leafOf_0 rfl rfl ?_
  refine aw_ldc2 (pc := 1) dX12_leafOf_1 tw_1396 ?_
  refine mc_I (pc := 4) (As := [.long ((1752132965 : Int64))]) (rest := []) dX12_leafOf_4 rfl ok_X12_229 rfl rfl rfl (Nat.le_of_ble_eq_true rfl) (s_isWord ⟨_, _, rfl, rfl, ?_⟩)
  refine ab_if_eq (pc := 7) (tgt := 14) dX12_leafOf_7 rfl (fun h7 => ?_) (fun h7 => ?_)
  · -- 14
    refine aw_aload_n (pc := 14) (i := 0) dX12_leafOf_14 rfl rfl ?_
    refine aw_ldc2 (pc := 15) dX12_leafOf_15 tw_1397 ?_
    refine mc_I (pc := 18) (As := [.long ((495875089259 : Int64))]) (rest := []) dX12_leafOf_18 rfl ok_X12_229 rfl rfl rfl (Nat.le_of_ble_eq_true rfl) (s_isWord ⟨_, _, rfl, rfl, ?_⟩)
    refine ab_if_eq (pc := 21) (tgt := 28) dX12_leafOf_21 rfl (fun h21 => ?_) (fun h21 => ?_)
    · -- 28
      refine aw_aload_n (pc := 28) (i := 0) dX12_leafOf_28 rfl rfl ?_
      refine aw_ldc2 (pc := 29) dX12_leafOf_29 tw_1398 ?_
      refine mc_I (pc := 32) (As := [.long ((26990 : Int64))]) (rest := []) dX12_leafOf_32 rfl ok_X12_229 rfl rfl rfl (Nat.le_of_ble_eq_true rfl) (s_isWord ⟨_, _, rfl, rfl, ?_⟩)
      refine ab_if_eq (pc := 35) (tgt := 42) dX12_leafOf_35 rfl (fun h35 => ?_) (fun h35 => ?_)
      · -- 42
        refine aw_aload_n (pc := 42) (i := 0) dX12_leafOf_42 rfl rfl ?_
        refine aw_ldc2 (pc := 43) dX12_leafOf_43 tw_1399 ?_
        refine mc_I (pc := 46) (As := [.long ((28518 : Int64))]) (rest := []) dX12_leafOf_46 rfl ok_X12_229 rfl rfl rfl (Nat.le_of_ble_eq_true rfl) (s_isWord ⟨_, _, rfl, rfl, ?_⟩)
        refine ab_if_eq (pc := 49) (tgt := 56) dX12_leafOf_49 rfl (fun h49 => ?_) (fun h49 => ?_)
        · -- 56
          refine aw_aload_n (pc := 56) (i := 0) dX12_leafOf_56 rfl rfl ?_
          refine aw_ldc2 (pc := 57) dX12_leafOf_57 tw_1400 ?_
          refine mc_I (pc := 60) (As := [.long ((1718773093 : Int64))]) (rest := []) dX12_leafOf_60 rfl ok_X12_229 rfl rfl rfl (Nat.le_of_ble_eq_true rfl) (s_isWord ⟨_, _, rfl, rfl, ?_⟩)
          refine ab_if_eq (pc := 63) (tgt := 70) dX12_leafOf_63 rfl (fun h63 => ?_) (fun h63 => ?_)
          · -- 70
            refine aw_aload_n (pc := 70) (i := 0) dX12_leafOf_70 rfl rfl ?_
            refine aw_ldc2 (pc := 71) dX12_leafOf_71 tw_1401 ?_
            refine mc_I (pc := 74) (As := [.long ((119182899770472 : Int64))]) (rest := []) dX12_leafOf_74 rfl ok_X12_229 rfl rfl rfl (Nat.le_of_ble_eq_true rfl) (s_isWord ⟨_, _, rfl, rfl, ?_⟩)
            refine ab_if_eq (pc := 77) (tgt := 84) dX12_leafOf_77 rfl (fun h77 => ?_) (fun h77 => ?_)
            · -- 84
              refine aw_aload_n (pc := 84) (i := 0) dX12_leafOf_84 rfl rfl ?_
              refine aw_ldc2 (pc := 85) dX12_leafOf_85 tw_1402 ?_
              refine mc_I (pc := 88) (As := [.long ((499850634606 : Int64))]) (rest := []) dX12_leafOf_88 rfl ok_X12_229 rfl rfl rfl (Nat.le_of_ble_eq_true rfl) (s_isWord ⟨_, _, rfl, rfl, ?_⟩)
              refine ab_if_eq (pc := 91) (tgt := 99) dX12_leafOf_91 rfl (fun h91 => ?_) (fun h91 => ?_)
              · -- 99
                refine aw_aload_n (pc := 99) (i := 0) dX12_leafOf_99 rfl rfl ?_
                refine aw_ldc2 (pc := 100) dX12_leafOf_100 tw_1403 ?_
                refine mc_I (pc := 103) (As := [.long ((27991845698233700 : Int64))]) (rest := []) dX12_leafOf_103 rfl ok_X12_229 rfl rfl rfl (Nat.le_of_ble_eq_true rfl) (s_isWord ⟨_, _, rfl, rfl, ?_⟩)
                refine ab_if_eq (pc := 106) (tgt := 114) dX12_leafOf_106 rfl (fun h106 => ?_) (fun h106 => ?_)
                · -- 114
                  refine aw_aload_n (pc := 114) (i := 0) dX12_leafOf_114 rfl rfl ?_
                  refine aw_ldc2 (pc := 115) dX12_leafOf_115 tw_1404 ?_
                  refine mc_I (pc := 118) (As := [.long ((121450625394034 : Int64))]) (rest := []) dX12_leafOf_118 rfl ok_X12_229 rfl rfl rfl (Nat.le_of_ble_eq_true rfl) (s_isWord ⟨_, _, rfl, rfl, ?_⟩)
                  refine ab_if_eq (pc := 121) (tgt := 129) dX12_leafOf_121 rfl (fun h121 => ?_) (fun h121 => ?_)
                  · -- 129
                    refine aw_iconst (pc := 129) dX12_leafOf_129 iconst_m1 ?_
                    exact aw_iret (pc := 130) dX12_leafOf_130 rfl (Nat.le_refl _) (Nat.le_refl _) (k0 (by simp only [leafO, h7, h21, h35, h49, h63, h77, h91, h106, h121, Bool.true_and, Bool.and_true, Bool.false_and, Bool.and_false, Bool.not_true, Bool.not_false, Bool.or_true, Bool.or_false, Bool.true_or, Bool.false_or, Bool.false_eq_true, Bool.true_eq_false, if_true, if_false, ite_true, ite_false, reduceIte, reduceCtorEq]))
                  · -- 124
                    refine aw_bipush (pc := 124) dX12_leafOf_124 bipush_8 ?_
                    refine aw_goto (pc := 126) (tgt := 130) dX12_leafOf_126 rfl ?_
                    exact aw_iret (pc := 130) dX12_leafOf_130 rfl (Nat.le_refl _) (Nat.le_refl _) (by have e : leafO σ = 8 := (by simp only [leafO, h7, h21, h35, h49, h63, h77, h91, h106, h121, Bool.true_and, Bool.and_true, Bool.false_and, Bool.and_false, Bool.not_true, Bool.not_false, Bool.or_true, Bool.or_false, Bool.true_or, Bool.false_or, Bool.false_eq_true, Bool.true_eq_false, if_true, if_false, ite_true, ite_false, reduceIte, reduceCtorEq]); have := k1 (by omega); rw [e] at this; exact this)
                · -- 109
                  refine aw_bipush (pc := 109) dX12_leafOf_109 bipush_7 ?_
                  refine aw_goto (pc := 111) (tgt := 130) dX12_leafOf_111 rfl ?_
                  exact aw_iret (pc := 130) dX12_leafOf_130 rfl (Nat.le_refl _) (Nat.le_refl _) (by have e : leafO σ = 7 := (by simp only [leafO, h7, h21, h35, h49, h63, h77, h91, h106, Bool.true_and, Bool.and_true, Bool.false_and, Bool.and_false, Bool.not_true, Bool.not_false, Bool.or_true, Bool.or_false, Bool.true_or, Bool.false_or, Bool.false_eq_true, Bool.true_eq_false, if_true, if_false, ite_true, ite_false, reduceIte, reduceCtorEq]); have := k1 (by omega); rw [e] at this; exact this)
              · -- 94
                refine aw_bipush (pc := 94) dX12_leafOf_94 bipush_6 ?_
                refine aw_goto (pc := 96) (tgt := 130) dX12_leafOf_96 rfl ?_
                exact aw_iret (pc := 130) dX12_leafOf_130 rfl (Nat.le_refl _) (Nat.le_refl _) (by have e : leafO σ = 6 := (by simp only [leafO, h7, h21, h35, h49, h63, h77, h91, Bool.true_and, Bool.and_true, Bool.false_and, Bool.and_false, Bool.not_true, Bool.not_false, Bool.or_true, Bool.or_false, Bool.true_or, Bool.false_or, Bool.false_eq_true, Bool.true_eq_false, if_true, if_false, ite_true, ite_false, reduceIte, reduceCtorEq]); have := k1 (by omega); rw [e] at this; exact this)
            · -- 80
              refine aw_iconst (pc := 80) dX12_leafOf_80 iconst_5 ?_
              refine aw_goto (pc := 81) (tgt := 130) dX12_leafOf_81 rfl ?_
              exact aw_iret (pc := 130) dX12_leafOf_130 rfl (Nat.le_refl _) (Nat.le_refl _) (by have e : leafO σ = 5 := (by simp only [leafO, h7, h21, h35, h49, h63, h77, Bool.true_and, Bool.and_true, Bool.false_and, Bool.and_false, Bool.not_true, Bool.not_false, Bool.or_true, Bool.or_false, Bool.true_or, Bool.false_or, Bool.false_eq_true, Bool.true_eq_false, if_true, if_false, ite_true, ite_false, reduceIte, reduceCtorEq]); have := k1 (by omega); rw [e] at this; exact this)
          · -- 66
            refine aw_iconst (pc := 66) dX12_leafOf_66 iconst_4 ?_
            refine aw_goto (pc := 67) (tgt := 130) dX12_leafOf_67 rfl ?_
            exact aw_iret (pc := 130) dX12_leafOf_130 rfl (Nat.le_refl _) (Nat.le_refl _) (by have e : leafO σ = 4 := (by simp only [leafO, h7, h21, h35, h49, h63, Bool.true_and, Bool.and_true, Bool.false_and, Bool.and_false, Bool.not_true, Bool.not_false, Bool.or_true, Bool.or_false, Bool.true_or, Bool.false_or, Bool.false_eq_true, Bool.true_eq_false, if_true, if_false, ite_true, ite_false, reduceIte, reduceCtorEq]); have := k1 (by omega); rw [e] at this; exact this)
        · -- 52
          refine aw_iconst (pc := 52) dX12_leafOf_52 iconst_3 ?_
          refine aw_goto (pc := 53) (tgt := 130) dX12_leafOf_53 rfl ?_
          exact aw_iret (pc := 130) dX12_leafOf_130 rfl (Nat.le_refl _) (Nat.le_refl _) (by have e : leafO σ = 3 := (by simp only [leafO, h7, h21, h35, h49, Bool.true_and, Bool.and_true, Bool.false_and, Bool.and_false, Bool.not_true, Bool.not_false, Bool.or_true, Bool.or_false, Bool.true_or, Bool.false_or, Bool.false_eq_true, Bool.true_eq_false, if_true, if_false, ite_true, ite_false, reduceIte, reduceCtorEq]); have := k1 (by omega); rw [e] at this; exact this)
      · -- 38
        refine aw_iconst (pc := 38) dX12_leafOf_38 iconst_2 ?_
        refine aw_goto (pc := 39) (tgt := 130) dX12_leafOf_39 rfl ?_
        exact aw_iret (pc := 130) dX12_leafOf_130 rfl (Nat.le_refl _) (Nat.le_refl _) (by have e : leafO σ = 2 := (by simp only [leafO, h7, h21, h35, Bool.true_and, Bool.and_true, Bool.false_and, Bool.and_false, Bool.not_true, Bool.not_false, Bool.or_true, Bool.or_false, Bool.true_or, Bool.false_or, Bool.false_eq_true, Bool.true_eq_false, if_true, if_false, ite_true, ite_false, reduceIte, reduceCtorEq]); have := k1 (by omega); rw [e] at this; exact this)
    · -- 24
      refine aw_iconst (pc := 24) dX12_leafOf_24 iconst_1 ?_
      refine aw_goto (pc := 25) (tgt := 130) dX12_leafOf_25 rfl ?_
      exact aw_iret (pc := 130) dX12_leafOf_130 rfl (Nat.le_refl _) (Nat.le_refl _) (by have e : leafO σ = 1 := (by simp only [leafO, h7, h21, Bool.true_and, Bool.and_true, Bool.false_and, Bool.and_false, Bool.not_true, Bool.not_false, Bool.or_true, Bool.or_false, Bool.true_or, Bool.false_or, Bool.false_eq_true, Bool.true_eq_false, if_true, if_false, ite_true, ite_false, reduceIte, reduceCtorEq]); have := k1 (by omega); rw [e] at this; exact this)
  · -- 10
    refine aw_iconst (pc := 10) dX12_leafOf_10 iconst_0 ?_
    refine aw_goto (pc := 11) (tgt := 130) dX12_leafOf_11 rfl ?_
    exact aw_iret (pc := 130) dX12_leafOf_130 rfl (Nat.le_refl _) (Nat.le_refl _) (by have e : leafO σ = 0 := (by simp only [leafO, h7, Bool.true_and, Bool.and_true, Bool.false_and, Bool.and_false, Bool.not_true, Bool.not_false, Bool.or_true, Bool.or_false, Bool.true_or, Bool.false_or, Bool.false_eq_true, Bool.true_eq_false, if_true, if_false, ite_true, ite_false, reduceIte, reduceCtorEq]); have := k1 (by omega); rw [e] at this; exact this)
