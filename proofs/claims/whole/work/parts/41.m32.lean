def oI (o : Option Nat) : Int32 := match o with
  | none => -1
  | some b => nI b
/-- whether there is a way, with treaties with the lands of a set besides -/
def fewB (t : Nat → Nat) (q l n sp : Nat) : Bool := (fewG t q l n sp 6 0).isSome
/-- the best set of those below -/
def spG (t : Nat → Nat) (q l n : Nat) : Nat → Option Nat
  | 0 => none
  | i + 1 => if ¬ i &&& sparedF t q = 0 then spG t q l n i else match spG t q l n i with
    | none => if fewB t q l n (sparedF t q ||| i) = true then some i else none
    | some b => if bitsN b ≤ bitsN i then some b else if fewB t q l n (sparedF t q ||| i) = true then some i else some b
theorem spG_lt {t : Nat → Nat} {q l n : Nat} : ∀ i b, spG t q l n i = some b → b < i := by
  intro i
  induction i with
  | zero => intro b h; cases h
  | succ i ih =>
    intro b h
    rw [spG] at h
    split at h
    · exact Nat.lt_succ_of_lt (ih b h)
    · split at h
      · split at h
        · cases h; exact Nat.lt_succ_self _
        · cases h
      · rename_i b' hb'
        split at h
        · cases h; exact Nat.lt_succ_of_lt (ih _ hb')
        · split at h
          · cases h; exact Nat.lt_succ_self _
          · cases h; exact Nat.lt_succ_of_lt (ih _ hb')
theorem spG_a {t : Nat → Nat} {q l n i : Nat} (h : ¬ i &&& sparedF t q = 0) : spG t q l n (i + 1) = spG t q l n i := by rw [spG, if_pos h]
theorem spG_n1 {t : Nat → Nat} {q l n i : Nat} (h : i &&& sparedF t q = 0) (hb : spG t q l n i = none) (hf : fewB t q l n (sparedF t q ||| i) = true) : spG t q l n (i + 1) = some i := by
  rw [spG, if_neg (fun e => e h), hb]; simp only [hf, if_true]
theorem spG_n0 {t : Nat → Nat} {q l n i : Nat} (h : i &&& sparedF t q = 0) (hb : spG t q l n i = none) (hf : fewB t q l n (sparedF t q ||| i) = false) : spG t q l n (i + 1) = spG t q l n i := by
  rw [spG, if_neg (fun e => e h), hb]; simp [hf]
theorem spG_sk {t : Nat → Nat} {q l n i b : Nat} (hb : spG t q l n i = some b) (hc : bitsN b ≤ bitsN i) : spG t q l n (i + 1) = spG t q l n i := by
  by_cases h : i &&& sparedF t q = 0
  · rw [spG, if_neg (fun e => e h), hb]; simp only [if_pos hc]
  · exact spG_a h
theorem spG_s1 {t : Nat → Nat} {q l n i b : Nat} (h : i &&& sparedF t q = 0) (hb : spG t q l n i = some b) (hc : bitsN i < bitsN b) (hf : fewB t q l n (sparedF t q ||| i) = true) : spG t q l n (i + 1) = some i := by
  rw [spG, if_neg (fun e => e h), hb]; simp only [if_neg (Nat.not_le.mpr hc), hf, if_true]
theorem spG_s0 {t : Nat → Nat} {q l n i b : Nat} (h : i &&& sparedF t q = 0) (hb : spG t q l n i = some b) (hc : bitsN i < bitsN b) (hf : fewB t q l n (sparedF t q ||| i) = false) : spG t q l n (i + 1) = spG t q l n i := by
  rw [spG, if_neg (fun e => e h), hb]; simp [if_neg (Nat.not_le.mpr hc), hf]
def spareR (t : Nat → Nat) (x y z : Int32) : Option Nat := if inB (t 2) x = true then (if inB (t 0) y = true then (if inC (nI 0) (nI 240) z = true then spG t x.toNatClampNeg y.toNatClampNeg z.toNatClampNeg (2 ^ t 0) else none) else none) else none
theorem bitsN_le (x : Nat) : bitsN x ≤ 12 := by
  have : ∀ n y, pop n y ≤ n := by
    intro n
    induction n with
    | zero => intro y; exact Nat.le_refl _
    | succ n ih => intro y; rw [pop]; have := ih (y / 2); have := Nat.mod_lt y (by decide : 0 < 2); omega
  exact this 12 x

set_option maxHeartbeats 1000000 in
set_option maxRecDepth 20000 in
theorem sp_loop {G : xG} {d : Nat} {Q : xQ} {a : Nat → Nat} {σ : mS} {q l n : Nat} (hw : WT (σ.2.1 6)) (hq : q < σ.2.1 6 2) (hl : l < 2 ^ 31) (hn : n < 2 ^ 31) (kk : ∀ (p9 : pS) (dd9 : Int32) (sp9 hm9 i9 : Nat), AW G MX12_spare (d + 6) 0 0 Q 114 [some (.ref (a 60)), some (.int (nI q)), some (.int (nI l)), some (.int (nI n)), some (.int (nI (sparedF (σ.2.1 6) q))), some (.int (oI (spG (σ.2.1 6) q l n (2 ^ σ.2.1 6 0)))), some (.int (nI i9))] [] (mW G.2.2.1 a (scr σ p9 dd9 sp9 hm9)) 0 0) : ∀ (m i : Nat), i + m = 2 ^ σ.2.1 6 0 → ∀ (p : pS) (dd : Int32) (sp hm : Nat), AW G MX12_spare (d + 6) 0 0 Q 47 [some (.ref (a 60)), some (.int (nI q)), some (.int (nI l)), some (.int (nI n)), some (.int (nI (sparedF (σ.2.1 6) q))), some (.int (oI (spG (σ.2.1 6) q l n i))), some (.int (nI i))] [] (mW G.2.2.1 a (scr σ p dd sp hm)) 0 0 := by
  obtain ⟨hb, h0, h1, h2, hR, hP, hD, hC, hT⟩ := id hw
  have hh := hP q hq
  have hsp : sparedF (σ.2.1 6) q < 2 ^ 31 := sparedF_lt hb (by omega)
  have h27 : 2 ^ σ.2.1 6 0 ≤ 128 := Nat.pow_le_pow_right (n := 2) (by decide) h0
  intro m
  induction m with
  | zero =>
    intro i hi p dd sp hm
    refine aw_iload (pc := 47) dX12_spare_47 rfl ?_
    refine aw_iconst (pc := 49) dX12_spare_49 iconst_1 ?_
    refine aw_aload_n (pc := 50) (i := 0) dX12_spare_50 rfl rfl ?_
    refine mg_s (pc := 51) dX12_spare_51 rfl ?_
    refine aw_iconst (pc := 54) dX12_spare_54 iconst_0 ?_
    refine ml_s (pc := 55) dX12_spare_55 (by decide) ?_
    refine aw_top (y := (nI (σ.2.1 6 0))) rfl ?_
    refine aw_ishl (pc := 56) dX12_spare_56 ?_
    refine aw_top (y := (nI (2 ^ σ.2.1 6 0))) (nI_1shl (by omega)) ?_
    refine an_icmp_ge (pc := 57) (tgt := 114) dX12_spare_57 rfl (by omega) (by omega) (fun h57 => ?_) (fun h57 => ?_)
    · -- 114
      rw [show i = 2 ^ σ.2.1 6 0 by omega]
      exact kk p dd sp hm _
    · -- 60
      exfalso; omega
  | succ m ih =>
    intro i hi p dd sp hm
    refine aw_iload (pc := 47) dX12_spare_47 rfl ?_
    refine aw_iconst (pc := 49) dX12_spare_49 iconst_1 ?_
    refine aw_aload_n (pc := 50) (i := 0) dX12_spare_50 rfl rfl ?_
    refine mg_s (pc := 51) dX12_spare_51 rfl ?_
    refine aw_iconst (pc := 54) dX12_spare_54 iconst_0 ?_
    refine ml_s (pc := 55) dX12_spare_55 (by decide) ?_
    refine aw_top (y := (nI (σ.2.1 6 0))) rfl ?_
    refine aw_ishl (pc := 56) dX12_spare_56 ?_
    refine aw_top (y := (nI (2 ^ σ.2.1 6 0))) (nI_1shl (by omega)) ?_
    refine an_icmp_ge (pc := 57) (tgt := 114) dX12_spare_57 rfl (by omega) (by omega) (fun h57 => ?_) (fun h57 => ?_)
    · -- 114
      exfalso; omega
    · -- 60
      refine aw_iload (pc := 60) dX12_spare_60 rfl ?_
      refine aw_iload (pc := 62) dX12_spare_62 rfl ?_
      refine aw_iand (pc := 64) dX12_spare_64 ?_
      refine aw_top (y := (nI (i &&& sparedF (σ.2.1 6) q))) (nI_and _ _ (by omega) (by omega)) ?_
      refine an_if_ne (pc := 65) (tgt := 108) dX12_spare_65 rfl (Nat.lt_of_le_of_lt Nat.and_le_left (by omega)) (fun h65 => ?_) (fun h65 => ?_)
      · -- 108
        have hst := spG_a (t := σ.2.1 6) (l := l) (n := n) (Nat.ne_of_gt h65)
        refine an_inc (pc := 108) (z := 1) dX12_spare_108 rfl (Nat.le_of_ble_eq_true rfl) rfl ?_
        refine aw_goto (pc := 111) (tgt := 47) dX12_spare_111 rfl ?_
        refine aw_L (L9 := [some (.ref (a 60)), some (.int (nI q)), some (.int (nI l)), some (.int (nI n)), some (.int (nI (sparedF (σ.2.1 6) q))), some (.int (oI (spG (σ.2.1 6) q l n (i + 1)))), some (.int (nI (i + 1)))]) (by rw [hst]; rfl) ?_
        exact ih (i + 1) (by omega) _ _ _ _
      · -- 68
        cases hbs : spG (σ.2.1 6) q l n i with
        | none =>
          refine aw_L (L9 := [some (.ref (a 60)), some (.int (nI q)), some (.int (nI l)), some (.int (nI n)), some (.int (nI (sparedF (σ.2.1 6) q))), some (.int ((-1))), some (.int (nI i))]) rfl ?_
          refine aw_iload (pc := 68) dX12_spare_68 rfl ?_
          refine an_ifm_lt (pc := 70) (tgt := 89) dX12_spare_70 rfl ?_
          refine aw_aload_n (pc := 89) (i := 0) dX12_spare_89 rfl rfl ?_
          refine aw_iload_n (pc := 90) (i := 1) dX12_spare_90 rfl rfl ?_
          refine aw_iload_n (pc := 91) (i := 2) dX12_spare_91 rfl rfl ?_
          refine aw_iload_n (pc := 92) (i := 3) dX12_spare_92 rfl rfl ?_
          refine aw_iload (pc := 93) dX12_spare_93 rfl ?_
          refine mc_I (pc := 95) (As := [.int (nI q), .int (nI l), .int (nI n), .int (nI i)]) (rest := []) dX12_spare_95 rfl ok_X12_373 rfl rfl rfl (Nat.le_of_ble_eq_true rfl) (s_fewest hw hq hl hn (by omega) ?_ ?_)
          · -- call
            intro k9 row hrow hk9 p9 hp9 hpt
            refine ⟨_, _, rfl, rfl, ?_⟩
            have hfw : fewB (σ.2.1 6) q l n (sparedF (σ.2.1 6) q ||| i) = true := by rw [fewB, hrow]; rfl
            refine aw_ldcw (pc := 98) dX12_spare_98 tc_372 ?_
            refine aw_top (y := (nI 1000000)) rfl ?_
            refine an_icmp_ge (pc := 101) (tgt := 108) dX12_spare_101 rfl (by omega) (by decide) (fun h101 => ?_) (fun h101 => ?_)
            · -- 108
              exact absurd h101 (by omega)
            · -- 104
              refine aw_iload (pc := 104) dX12_spare_104 rfl ?_
              refine aw_istore (pc := 106) (i := 5) dX12_spare_106 (Nat.le_of_ble_eq_true rfl) rfl ?_
              have hst := spG_n1 h65 hbs hfw
              refine an_inc (pc := 108) (z := 1) dX12_spare_108 rfl (Nat.le_of_ble_eq_true rfl) rfl ?_
              refine aw_goto (pc := 111) (tgt := 47) dX12_spare_111 rfl ?_
              refine aw_L (L9 := [some (.ref (a 60)), some (.int (nI q)), some (.int (nI l)), some (.int (nI n)), some (.int (nI (sparedF (σ.2.1 6) q))), some (.int (oI (spG (σ.2.1 6) q l n (i + 1)))), some (.int (nI (i + 1)))]) (by rw [hst]; rfl) ?_
              exact ih (i + 1) (by omega) _ _ _ _
          · -- call
            intro hnone p9 dd9 sp9 hm9
            refine ⟨_, _, rfl, rfl, ?_⟩
            have hfw : fewB (σ.2.1 6) q l n (sparedF (σ.2.1 6) q ||| i) = false := by rw [fewB, hnone]; rfl
            refine aw_ldcw (pc := 98) dX12_spare_98 tc_372 ?_
            refine aw_top (y := (nI 1000000)) rfl ?_
            refine an_icmp_ge (pc := 101) (tgt := 108) dX12_spare_101 rfl (by decide) (by decide) (fun h101 => ?_) (fun h101 => absurd h101 (by decide))
            have hst := spG_n0 h65 hbs hfw
            rw [hbs] at hst
            refine an_inc (pc := 108) (z := 1) dX12_spare_108 rfl (Nat.le_of_ble_eq_true rfl) rfl ?_
            refine aw_goto (pc := 111) (tgt := 47) dX12_spare_111 rfl ?_
            refine aw_L (L9 := [some (.ref (a 60)), some (.int (nI q)), some (.int (nI l)), some (.int (nI n)), some (.int (nI (sparedF (σ.2.1 6) q))), some (.int (oI (spG (σ.2.1 6) q l n (i + 1)))), some (.int (nI (i + 1)))]) (by rw [hst]; rfl) ?_
            exact ih (i + 1) (by omega) _ _ _ _
        | some b =>
          have hbi := spG_lt _ _ hbs
          refine aw_L (L9 := [some (.ref (a 60)), some (.int (nI q)), some (.int (nI l)), some (.int (nI n)), some (.int (nI (sparedF (σ.2.1 6) q))), some (.int (nI b)), some (.int (nI i))]) rfl ?_
          refine aw_iload (pc := 68) dX12_spare_68 rfl ?_
          refine an_if_lt (pc := 70) (tgt := 89) dX12_spare_70 rfl (by omega) ?_
          refine aw_iload (pc := 73) dX12_spare_73 rfl ?_
          refine mt_I (pc := 75) (As := [.int (nI i)]) (rest := []) dX12_spare_75 rfl ok_X12_315 rfl rfl rfl (Nat.le_of_ble_eq_true rfl) (s_bits (by omega) ⟨_, _, rfl, rfl, ?_⟩)
          refine aw_iload (pc := 78) dX12_spare_78 rfl ?_
          refine mt_I (pc := 80) (As := [.int (nI b)]) (rest := [.int (nI (bitsN i))]) dX12_spare_80 rfl ok_X12_315 rfl rfl rfl (Nat.le_of_ble_eq_true rfl) (s_bits (by omega) ⟨_, _, rfl, rfl, ?_⟩)
          refine an_icmp_lt (pc := 83) (tgt := 89) dX12_spare_83 rfl (Nat.lt_of_le_of_lt (bitsN_le _) (by decide)) (Nat.lt_of_le_of_lt (bitsN_le _) (by decide)) (fun h83 => ?_) (fun h83 => ?_)
          · -- 89
            refine aw_aload_n (pc := 89) (i := 0) dX12_spare_89 rfl rfl ?_
            refine aw_iload_n (pc := 90) (i := 1) dX12_spare_90 rfl rfl ?_
            refine aw_iload_n (pc := 91) (i := 2) dX12_spare_91 rfl rfl ?_
            refine aw_iload_n (pc := 92) (i := 3) dX12_spare_92 rfl rfl ?_
            refine aw_iload (pc := 93) dX12_spare_93 rfl ?_
            refine mc_I (pc := 95) (As := [.int (nI q), .int (nI l), .int (nI n), .int (nI i)]) (rest := []) dX12_spare_95 rfl ok_X12_373 rfl rfl rfl (Nat.le_of_ble_eq_true rfl) (s_fewest hw hq hl hn (by omega) ?_ ?_)
            · -- call
              intro k9 row hrow hk9 p9 hp9 hpt
              refine ⟨_, _, rfl, rfl, ?_⟩
              have hfw : fewB (σ.2.1 6) q l n (sparedF (σ.2.1 6) q ||| i) = true := by rw [fewB, hrow]; rfl
              refine aw_ldcw (pc := 98) dX12_spare_98 tc_372 ?_
              refine aw_top (y := (nI 1000000)) rfl ?_
              refine an_icmp_ge (pc := 101) (tgt := 108) dX12_spare_101 rfl (by omega) (by decide) (fun h101 => ?_) (fun h101 => ?_)
              · -- 108
                exact absurd h101 (by omega)
              · -- 104
                refine aw_iload (pc := 104) dX12_spare_104 rfl ?_
                refine aw_istore (pc := 106) (i := 5) dX12_spare_106 (Nat.le_of_ble_eq_true rfl) rfl ?_
                have hst := spG_s1 h65 hbs h83 hfw
                refine an_inc (pc := 108) (z := 1) dX12_spare_108 rfl (Nat.le_of_ble_eq_true rfl) rfl ?_
                refine aw_goto (pc := 111) (tgt := 47) dX12_spare_111 rfl ?_
                refine aw_L (L9 := [some (.ref (a 60)), some (.int (nI q)), some (.int (nI l)), some (.int (nI n)), some (.int (nI (sparedF (σ.2.1 6) q))), some (.int (oI (spG (σ.2.1 6) q l n (i + 1)))), some (.int (nI (i + 1)))]) (by rw [hst]; rfl) ?_
                exact ih (i + 1) (by omega) _ _ _ _
            · -- call
              intro hnone p9 dd9 sp9 hm9
              refine ⟨_, _, rfl, rfl, ?_⟩
              have hfw : fewB (σ.2.1 6) q l n (sparedF (σ.2.1 6) q ||| i) = false := by rw [fewB, hnone]; rfl
              refine aw_ldcw (pc := 98) dX12_spare_98 tc_372 ?_
              refine aw_top (y := (nI 1000000)) rfl ?_
              refine an_icmp_ge (pc := 101) (tgt := 108) dX12_spare_101 rfl (by decide) (by decide) (fun h101 => ?_) (fun h101 => absurd h101 (by decide))
              have hst := spG_s0 h65 hbs h83 hfw
              rw [hbs] at hst
              refine an_inc (pc := 108) (z := 1) dX12_spare_108 rfl (Nat.le_of_ble_eq_true rfl) rfl ?_
              refine aw_goto (pc := 111) (tgt := 47) dX12_spare_111 rfl ?_
              refine aw_L (L9 := [some (.ref (a 60)), some (.int (nI q)), some (.int (nI l)), some (.int (nI n)), some (.int (nI (sparedF (σ.2.1 6) q))), some (.int (oI (spG (σ.2.1 6) q l n (i + 1)))), some (.int (nI (i + 1)))]) (by rw [hst]; rfl) ?_
              exact ih (i + 1) (by omega) _ _ _ _
          · -- 86
            refine aw_goto (pc := 86) (tgt := 108) dX12_spare_86 rfl ?_
            have hst := spG_sk hbs h83
            rw [hbs] at hst
            refine an_inc (pc := 108) (z := 1) dX12_spare_108 rfl (Nat.le_of_ble_eq_true rfl) rfl ?_
            refine aw_goto (pc := 111) (tgt := 47) dX12_spare_111 rfl ?_
            refine aw_L (L9 := [some (.ref (a 60)), some (.int (nI q)), some (.int (nI l)), some (.int (nI n)), some (.int (nI (sparedF (σ.2.1 6) q))), some (.int (oI (spG (σ.2.1 6) q l n (i + 1)))), some (.int (nI (i + 1)))]) (by rw [hst]; rfl) ?_
            exact ih (i + 1) (by omega) _ _ _ _
set_option maxHeartbeats 1000000 in
set_option maxRecDepth 20000 in
theorem s_spare {G : xG} {d : Nat} {Q : xQ} {a : Nat → Nat} {σ : mS} {x y z : Int32} (hw : WT (σ.2.1 6)) (k0 : spareR (σ.2.1 6) x y z = none → ∀ (p9 : pS) (dd9 : Int32) (sp9 hm9 : Nat), Q (some (.int (-1))) (mW G.2.2.1 a (scr (mI σ 0 (nI 0)) p9 dd9 sp9 hm9))) (k1 : ∀ b, spareR (σ.2.1 6) x y z = some b → b < 128 → ∀ (p9 : pS) (dd9 : Int32) (sp9 hm9 : Nat), Q (some (.int (nI (bitsN b)))) (mW G.2.2.1 a (mI (mI (scr (mI σ 0 (nI 0)) p9 dd9 sp9 hm9) 38 (nI 1)) 37 (nI b)))) : MT G MX12_spare (d + 6) 0 0 [.ref (a 60), .int x, .int y, .int z] (mW G.2.2.1 a σ) Q := by
  obtain ⟨hb, h0, h1, h2, hR, hP, hD, hC, hT⟩ := id hw
  refine mt_start (L := [some (.ref (a 60)), some (.int x), some (.int y), some (.int z), none, none, none]) rfl (Nat.le_of_ble_eq_true rfl) rfl ?_
  refine aw_aload_n (pc := 0) (i := 0) dX12_spare_0 rfl rfl ?_
  refine aw_iconst (pc := 1) dX12_spare_1 iconst_0 ?_
  refine mp_thrown (pc := 2) dX12_spare_2 rfl ?_
  refine aw_aload_n (pc := 5) (i := 0) dX12_spare_5 rfl rfl ?_
  refine aw_iload_n (pc := 6) (i := 1) dX12_spare_6 rfl rfl ?_
  refine mc_I (pc := 7) (As := [.int x]) (rest := []) dX12_spare_7 rfl ok_X12_302 rfl rfl rfl (Nat.le_of_ble_eq_true rfl) (s_isPerson ⟨_, _, rfl, rfl, ?_⟩)
  refine aw_top (y := bI (inB (σ.2.1 6 2) x)) rfl ?_
  refine ab_if_eq (pc := 10) (tgt := 32) dX12_spare_10 rfl (fun h10 => ?_) (fun h10 => ?_)
  · -- 32
    refine aw_iconst (pc := 32) dX12_spare_32 iconst_m1 ?_
    refine aw_iret (pc := 33) dX12_spare_33 rfl (Nat.le_refl _) (Nat.le_refl _) ?_
    obtain ⟨p0, dd0, sp0, hm0, hsc⟩ := scr_at (mI σ 0 (nI 0))
    have := k0 (by simp only [spareR, h10, Bool.true_and, Bool.and_true, Bool.false_and, Bool.and_false, Bool.not_true, Bool.not_false, Bool.or_true, Bool.or_false, Bool.true_or, Bool.false_or, Bool.false_eq_true, Bool.true_eq_false, if_true, if_false, ite_true, ite_false, reduceIte, reduceCtorEq]) p0 dd0 sp0 hm0
    rw [← hsc] at this
    exact this
  · -- 13
    obtain ⟨q, b_q, rfl⟩ := inB_t (by omega) h10
    have e_q := nI_clamp (n := q) (by omega)
    refine aw_aload_n (pc := 13) (i := 0) dX12_spare_13 rfl rfl ?_
    refine aw_iload_n (pc := 14) (i := 2) dX12_spare_14 rfl rfl ?_
    refine mc_I (pc := 15) (As := [.int y]) (rest := []) dX12_spare_15 rfl ok_X12_312 rfl rfl rfl (Nat.le_of_ble_eq_true rfl) (s_isLand ⟨_, _, rfl, rfl, ?_⟩)
    refine aw_top (y := bI (inB (σ.2.1 6 0) y)) rfl ?_
    refine ab_if_eq (pc := 18) (tgt := 32) dX12_spare_18 rfl (fun h18 => ?_) (fun h18 => ?_)
    · -- 32
      refine aw_iconst (pc := 32) dX12_spare_32 iconst_m1 ?_
      refine aw_iret (pc := 33) dX12_spare_33 rfl (Nat.le_refl _) (Nat.le_refl _) ?_
      obtain ⟨p0, dd0, sp0, hm0, hsc⟩ := scr_at (mI σ 0 (nI 0))
      have := k0 (by simp only [spareR, h10, e_q, h18, Bool.true_and, Bool.and_true, Bool.false_and, Bool.and_false, Bool.not_true, Bool.not_false, Bool.or_true, Bool.or_false, Bool.true_or, Bool.false_or, Bool.false_eq_true, Bool.true_eq_false, if_true, if_false, ite_true, ite_false, reduceIte, reduceCtorEq]) p0 dd0 sp0 hm0
      rw [← hsc] at this
      exact this
    · -- 21
      obtain ⟨l, b_l, rfl⟩ := inB_t (by omega) h18
      have e_l := nI_clamp (n := l) (by omega)
      refine aw_iload_n (pc := 21) (i := 3) dX12_spare_21 rfl rfl ?_
      refine aw_iconst (pc := 22) dX12_spare_22 iconst_0 ?_
      refine aw_sipush (pc := 23) dX12_spare_23 sipush_240 ?_
      refine mt_I (pc := 26) (As := [.int z, .int (nI 0), .int (nI 240)]) (rest := []) dX12_spare_26 rfl ok_X12_207 rfl rfl rfl (Nat.le_of_ble_eq_true rfl) (s_isIn ⟨_, _, rfl, rfl, ?_⟩)
      refine aw_top (y := bI (inC (nI 0) (nI 240) z)) rfl ?_
      refine ab_if_ne (pc := 29) (tgt := 34) dX12_spare_29 rfl (fun h29 => ?_) (fun h29 => ?_)
      · -- 34
        obtain ⟨n, b_n, rfl⟩ := inC_t (by decide) (by decide) h29
        have e_n := nI_clamp (n := n) (by omega)
        have hh := hP q (by assumption)
        have h27 : 2 ^ σ.2.1 6 0 ≤ 128 := Nat.pow_le_pow_right (n := 2) (by decide) h0
        obtain ⟨p0, dd0, sp0, hm0, hsc⟩ := scr_at (mI σ 0 (nI 0))
        refine aw_ws (w9 := mW G.2.2.1 a (scr (mI σ 0 (nI 0)) p0 dd0 sp0 hm0)) (congrArg (mW G.2.2.1 a) hsc) ?_
        refine aw_aload_n (pc := 34) (i := 0) dX12_spare_34 rfl rfl ?_
        refine aw_iload_n (pc := 35) (i := 1) dX12_spare_35 rfl rfl ?_
        refine mc_I (pc := 36) (As := [.int (nI q)]) (rest := []) dX12_spare_36 rfl ok_X12_284 rfl rfl rfl (Nat.le_of_ble_eq_true rfl) (s_sparedIn hb (by omega) (by show σ.2.1 6 (79 + q) < 7; omega) ⟨_, _, rfl, rfl, ?_⟩)
        refine aw_top (y := nI (sparedF (σ.2.1 6) q)) rfl ?_
        refine aw_istore (pc := 39) (i := 4) dX12_spare_39 (Nat.le_of_ble_eq_true rfl) rfl ?_
        refine aw_iconst (pc := 41) dX12_spare_41 iconst_m1 ?_
        refine aw_istore (pc := 42) (i := 5) dX12_spare_42 (Nat.le_of_ble_eq_true rfl) rfl ?_
        refine aw_iconst (pc := 44) dX12_spare_44 iconst_0 ?_
        refine aw_istore (pc := 45) (i := 6) dX12_spare_45 (Nat.le_of_ble_eq_true rfl) rfl ?_
        refine sp_loop (σ := mI σ 0 (nI 0)) hw (by assumption) (by omega) (by omega) (fun p9 dd9 sp9 hm9 i9 => ?_) _ 0 (Nat.zero_add _) p0 dd0 sp0 hm0
        refine aw_L (L9 := [some (.ref (a 60)), some (.int (nI q)), some (.int (nI l)), some (.int (nI n)), some (.int (nI (sparedF (σ.2.1 6) q))), some (.int (oI (spG (σ.2.1 6) q l n (2 ^ σ.2.1 6 0)))), some (.int (nI i9))]) rfl ?_
        have hR9 : spareR (σ.2.1 6) (nI q) (nI l) (nI n) = spG (σ.2.1 6) q l n (2 ^ σ.2.1 6 0) := by simp only [spareR, h10, e_q, h18, e_l, h29, e_n, Bool.true_and, Bool.and_true, Bool.false_and, Bool.and_false, Bool.not_true, Bool.not_false, Bool.or_true, Bool.or_false, Bool.true_or, Bool.false_or, Bool.false_eq_true, Bool.true_eq_false, if_true, if_false, ite_true, ite_false, reduceIte, reduceCtorEq]
        rw [hR9] at k0 k1
        cases hbs : spG (σ.2.1 6) q l n (2 ^ σ.2.1 6 0) with
        | none =>
          refine aw_L (L9 := [some (.ref (a 60)), some (.int (nI q)), some (.int (nI l)), some (.int (nI n)), some (.int (nI (sparedF (σ.2.1 6) q))), some (.int ((-1))), some (.int (nI i9))]) rfl ?_
          refine aw_iload (pc := 114) dX12_spare_114 rfl ?_
          refine an_ifm_ge (pc := 116) (tgt := 121) dX12_spare_116 rfl ?_
          refine aw_iconst (pc := 119) dX12_spare_119 iconst_m1 ?_
          exact aw_iret (pc := 120) dX12_spare_120 rfl (Nat.le_refl _) (Nat.le_refl _) (k0 hbs _ _ _ _)
        | some b =>
          have hbi := spG_lt _ _ hbs
          refine aw_L (L9 := [some (.ref (a 60)), some (.int (nI q)), some (.int (nI l)), some (.int (nI n)), some (.int (nI (sparedF (σ.2.1 6) q))), some (.int (nI b)), some (.int (nI i9))]) rfl ?_
          refine aw_iload (pc := 114) dX12_spare_114 rfl ?_
          refine an_if_ge (pc := 116) (tgt := 121) dX12_spare_116 rfl (by omega) ?_
          refine aw_aload_n (pc := 121) (i := 0) dX12_spare_121 rfl rfl ?_
          refine aw_iconst (pc := 122) dX12_spare_122 iconst_1 ?_
          refine mp_hasSpared (pc := 123) dX12_spare_123 rfl (by decide) (by decide) ?_
          refine aw_aload_n (pc := 126) (i := 0) dX12_spare_126 rfl rfl ?_
          refine aw_iload (pc := 127) dX12_spare_127 rfl ?_
          refine mp_sparedSet (pc := 129) dX12_spare_129 rfl ?_
          refine aw_iload (pc := 132) dX12_spare_132 rfl ?_
          refine mt_I (pc := 134) (As := [.int (nI b)]) (rest := []) dX12_spare_134 rfl ok_X12_315 rfl rfl rfl (Nat.le_of_ble_eq_true rfl) (s_bits (by omega) ⟨_, _, rfl, rfl, ?_⟩)
          exact aw_iret (pc := 137) dX12_spare_137 rfl (Nat.le_refl _) (Nat.le_refl _) (k1 b hbs (by omega) _ _ _ _)
      · -- 32
        refine aw_iconst (pc := 32) dX12_spare_32 iconst_m1 ?_
        refine aw_iret (pc := 33) dX12_spare_33 rfl (Nat.le_refl _) (Nat.le_refl _) ?_
        obtain ⟨p0, dd0, sp0, hm0, hsc⟩ := scr_at (mI σ 0 (nI 0))
        have := k0 (by simp only [spareR, h10, e_q, h18, e_l, h29, Bool.true_and, Bool.and_true, Bool.false_and, Bool.and_false, Bool.not_true, Bool.not_false, Bool.or_true, Bool.or_false, Bool.true_or, Bool.false_or, Bool.false_eq_true, Bool.true_eq_false, if_true, if_false, ite_true, ite_false, reduceIte, reduceCtorEq]) p0 dd0 sp0 hm0
        rw [← hsc] at this
        exact this
