theorem scr_sp (σ : mS) (p : pS) (d : Int32) (sp sp' hm : Nat) : mI (scr σ p d sp hm) 29 (nI sp') = scr σ p d sp' hm := by
  have h : upN (upN (upN (upN σ.1 30 (nI hm)) 29 (nI sp)) 28 d) 29 (nI sp') = upN (upN (upN σ.1 30 (nI hm)) 29 (nI sp')) 28 d := by
    funext j
    simp only [upN]
    split <;> rename_i h1 <;> split <;> rename_i h2 <;> first | rfl | omega | (subst h1; simp at h2) | simp_all
  show (upN (upN (upN (upN σ.1 30 (nI hm)) 29 (nI sp)) 28 d) 29 (nI sp'), (scr σ p d sp hm).2) = (upN (upN (upN σ.1 30 (nI hm)) 29 (nI sp')) 28 d, (scr σ p d sp' hm).2)
  rw [h]; rfl
/-- the scratch of one search over another's is its own -/
theorem fwB_iff {l n : Nat} {r : List Nat × nD} : fwB l n r = true ↔ r.2.1 = l ∧ n ≤ r.2.2.1 := by unfold fwB; rw [Bool.and_eq_true, decide_eq_true_iff, decide_eq_true_iff]
theorem fewK_0 (t : Nat → Nat) (q l n sp : Nat) : fewK t q l n sp 0 = if t (108 + q) = l ∧ n ≤ t (114 + q) then some ([], nd0 t q) else none := by
  unfold fewK
  rw [rwF, List.find?_cons]
  by_cases h : t (108 + q) = l ∧ n ≤ t (114 + q)
  · rw [if_pos h, show fwB l n ([], nd0 t q) = true from fwB_iff.mpr h]
  · rw [if_neg h, show fwB l n ([], nd0 t q) = false from Bool.eq_false_iff.mpr (fun hc => h (fwB_iff.mp hc))]; rfl
theorem fewG_s {t : Nat → Nat} {q l n sp m k : Nat} {r : List Nat × nD} (h : fewK t q l n sp k = some r) : fewG t q l n sp (m + 1) k = some (k, r.1) := by rw [fewG, h]
theorem fewG_n {t : Nat → Nat} {q l n sp m k : Nat} (h : fewK t q l n sp k = none) : fewG t q l n sp (m + 1) k = fewG t q l n sp m (k + 1) := by rw [fewG, h]
def FAR : Nat := 1000000

set_option maxHeartbeats 1000000 in
set_option maxRecDepth 20000 in
theorem few_loop {G : xG} {d : Nat} {Q : xQ} {a : Nat → Nat} {σ : mS} {q l n mo : Nat} (hw : WT (σ.2.1 6)) (hq : q < σ.2.1 6 2) (hl : l < 2 ^ 31) (hn : n < 2 ^ 31) (hmo : mo < 2 ^ 31) : ∀ (m k : Nat), k + m = 6 → ∀ (p : pS) (dd : Int32) (sp hm : Nat), (∀ k9 row, fewG (σ.2.1 6) q l n (sparedF (σ.2.1 6) q ||| mo) m k = some (k9, row) → k9 ≤ 5 → ∀ p9 : pS, PO (k9 + 1) p9 → ptF p9.2.2.2 k9 = row → Q (some (.int (nI k9))) (mW G.2.2.1 a (scr σ p9 (nI k9) (sparedF (σ.2.1 6) q ||| mo) (σ.2.1 6 (79 + q))))) → (fewG (σ.2.1 6) q l n (sparedF (σ.2.1 6) q ||| mo) m k = none → ∀ (p9 : pS) (dd9 : Int32) (sp9 hm9 : Nat), Q (some (.int (nI 1000000))) (mW G.2.2.1 a (scr σ p9 dd9 sp9 hm9))) → AW G MX12_fewest (d + 5) 0 0 Q 3 [some (.ref (a 60)), some (.int (nI q)), some (.int (nI l)), some (.int (nI n)), some (.int (nI mo)), some (.int (nI k))] [] (mW G.2.2.1 a (scr σ p dd sp hm)) 0 0 := by
  obtain ⟨hb, h0, h1, h2, hR, hP, hD, hC, hT⟩ := id hw
  have hh := hP q hq
  have hsp : sparedF (σ.2.1 6) q ||| mo < 2 ^ 31 := Nat.or_lt_two_pow (n := 31) (sparedF_lt hb (by omega)) hmo
  have hhm : σ.2.1 6 (79 + q) < 2 ^ 31 := by omega
  have hsq : sparedF (σ.2.1 6) q < 2 ^ 31 := sparedF_lt hb (by omega)
  intro m
  induction m with
  | zero =>
    intro k hk p dd sp hm kS kN
    refine aw_iload (pc := 3) dX12_fewest_3 rfl ?_
    refine aw_iconst (pc := 5) dX12_fewest_5 iconst_5 ?_
    refine an_icmp_gt (pc := 6) (tgt := 97) dX12_fewest_6 rfl (by omega) (by decide) (fun h6 => ?_) (fun h6 => ?_)
    · -- 97
      refine aw_ldcw (pc := 97) dX12_fewest_97 tc_372 ?_
      refine aw_top (y := (nI 1000000)) rfl ?_
      exact aw_iret (pc := 100) dX12_fewest_100 rfl (Nat.le_refl _) (Nat.le_refl _) (kN rfl _ _ _ _)
    · -- 9
      exfalso; omega
  | succ m ih =>
    intro k hk p dd sp hm kS kN
    refine aw_iload (pc := 3) dX12_fewest_3 rfl ?_
    refine aw_iconst (pc := 5) dX12_fewest_5 iconst_5 ?_
    refine an_icmp_gt (pc := 6) (tgt := 97) dX12_fewest_6 rfl (by omega) (by decide) (fun h6 => ?_) (fun h6 => ?_)
    · -- 97
      exfalso; omega
    · -- 9
      refine aw_aload_n (pc := 9) (i := 0) dX12_fewest_9 rfl rfl ?_
      refine aw_iload_n (pc := 10) (i := 1) dX12_fewest_10 rfl rfl ?_
      refine mc_V (pc := 11) (As := [.int (nI q)]) (rest := []) dX12_fewest_11 rfl ok_X12_366 rfl rfl rfl (Nat.le_of_ble_eq_true rfl) (s_starts hb (by omega) (by omega) ⟨_, rfl, rfl, ?_⟩)
      refine aw_aload_n (pc := 14) (i := 0) dX12_fewest_14 rfl rfl ?_
      refine aw_dup (pc := 15) dX12_fewest_15 rfl ?_
      refine mg_sparing (pc := 16) dX12_fewest_16 rfl ?_
      refine aw_top (y := (nI (sparedF (σ.2.1 6) q))) rfl ?_
      refine aw_iload (pc := 19) dX12_fewest_19 rfl ?_
      refine aw_ior (pc := 21) dX12_fewest_21 ?_
      refine aw_top (y := (nI (sparedF (σ.2.1 6) q ||| mo))) (nI_or _ _ (by omega) (by omega)) ?_
      refine mp_sparing (pc := 22) dX12_fewest_22 rfl ?_
      refine aw_ws (w9 := mW G.2.2.1 a (scr σ (startP (σ.2.1 6) q p) (nI 0) (sparedF (σ.2.1 6) q ||| mo) (σ.2.1 6 (79 + q)))) (congrArg (mW G.2.2.1 a) (scr_sp _ _ _ _ _ _)) ?_
      refine aw_iload (pc := 25) dX12_fewest_25 rfl ?_
      refine an_if_ne (pc := 27) (tgt := 52) dX12_fewest_27 rfl (by omega) (fun h27 => ?_) (fun h27 => ?_)
      · -- 52
        refine few_0 (p := startP (σ.2.1 6) q p) (sp := (sparedF (σ.2.1 6) q ||| mo)) (hm := (σ.2.1 6 (79 + q))) hb h0 h1 hsp hhm (by omega) (by omega) hl hn (PO_start hw hq p) ?_ ?_
        · intro row hrow p9 hp9 hpt
          rw [RB_start p (by omega)] at hrow
          exact kS k row.1 (fewG_s hrow) (by omega) p9 hp9 hpt
        · intro hnone p9 dd9
          rw [RB_start p (by omega)] at hnone
          refine an_inc (pc := 91) (z := 1) dX12_fewest_91 rfl (Nat.le_of_ble_eq_true rfl) rfl ?_
          refine aw_goto (pc := 94) (tgt := 3) dX12_fewest_94 rfl ?_
          exact ih (k + 1) (by omega) p9 dd9 _ _ (fun k9 row e => kS k9 row ((fewG_n hnone).trans e)) (fun e => kN ((fewG_n hnone).trans e))
      · -- 30
        subst h27
        refine aw_aload_n (pc := 30) (i := 0) dX12_fewest_30 rfl rfl ?_
        refine mg_where (pc := 31) dX12_fewest_31 rfl ?_
        refine aw_iconst (pc := 34) dX12_fewest_34 iconst_0 ?_
        refine ml_where (pc := 35) dX12_fewest_35 (by decide) ?_
        refine aw_top (y := (nI ((startP (σ.2.1 6) q p).1 0))) rfl ?_
        refine aw_top (y := (nI (σ.2.1 6 (108 + q)))) rfl ?_
        refine aw_iload_n (pc := 36) (i := 2) dX12_fewest_36 rfl rfl ?_
        refine an_icmp_ne (pc := 37) (tgt := 52) dX12_fewest_37 rfl (Nat.lt_trans (hb _) (by decide)) (by omega) (fun h37 => ?_) (fun h37 => ?_)
        · -- 52
          refine aw_iload (pc := 52) dX12_fewest_52 rfl ?_
          refine an_if_le (pc := 54) (tgt := 91) dX12_fewest_54 rfl (by decide) (fun h54 => ?_) (fun h54 => absurd h54 (by decide))
          have hnone : fewK (σ.2.1 6) q l n (sparedF (σ.2.1 6) q ||| mo) 0 = none := by rw [fewK_0, if_neg (by omega)]
          refine an_inc (pc := 91) (z := 1) dX12_fewest_91 rfl (Nat.le_of_ble_eq_true rfl) rfl ?_
          refine aw_goto (pc := 94) (tgt := 3) dX12_fewest_94 rfl ?_
          exact ih (0 + 1) (by omega) _ _ _ _ (fun k9 row e => kS k9 row ((fewG_n hnone).trans e)) (fun e => kN ((fewG_n hnone).trans e))
        · -- 40
          refine aw_aload_n (pc := 40) (i := 0) dX12_fewest_40 rfl rfl ?_
          refine mg_much (pc := 41) dX12_fewest_41 rfl ?_
          refine aw_iconst (pc := 44) dX12_fewest_44 iconst_0 ?_
          refine ml_much (pc := 45) dX12_fewest_45 (by decide) ?_
          refine aw_top (y := (nI ((startP (σ.2.1 6) q p).2.1 0))) rfl ?_
          refine aw_top (y := (nI (σ.2.1 6 (114 + q)))) rfl ?_
          refine aw_iload_n (pc := 46) (i := 3) dX12_fewest_46 rfl rfl ?_
          refine an_icmp_lt (pc := 47) (tgt := 52) dX12_fewest_47 rfl (Nat.lt_trans (hb _) (by decide)) (by omega) (fun h47 => ?_) (fun h47 => ?_)
          · -- 52
            refine aw_iload (pc := 52) dX12_fewest_52 rfl ?_
            refine an_if_le (pc := 54) (tgt := 91) dX12_fewest_54 rfl (by decide) (fun h54 => ?_) (fun h54 => absurd h54 (by decide))
            have hnone : fewK (σ.2.1 6) q l n (sparedF (σ.2.1 6) q ||| mo) 0 = none := by rw [fewK_0, if_neg (by omega)]
            refine an_inc (pc := 91) (z := 1) dX12_fewest_91 rfl (Nat.le_of_ble_eq_true rfl) rfl ?_
            refine aw_goto (pc := 94) (tgt := 3) dX12_fewest_94 rfl ?_
            exact ih (0 + 1) (by omega) _ _ _ _ (fun k9 row e => kS k9 row ((fewG_n hnone).trans e)) (fun e => kN ((fewG_n hnone).trans e))
          · -- 50
            refine aw_iconst (pc := 50) dX12_fewest_50 iconst_0 ?_
            exact aw_iret (pc := 51) dX12_fewest_51 rfl (Nat.le_refl _) (Nat.le_refl _) (kS 0 [] (fewG_s (r := ([], nd0 (σ.2.1 6) q)) (by rw [fewK_0, if_pos (by omega)])) (by omega) _ (PO_start hw hq p) rfl)
set_option maxHeartbeats 1000000 in
set_option maxRecDepth 20000 in
theorem s_fewest {G : xG} {d : Nat} {Q : xQ} {a : Nat → Nat} {σ : mS} {p : pS} {dd : Int32} {sp hm q l n mo : Nat} (hw : WT (σ.2.1 6)) (hq : q < σ.2.1 6 2) (hl : l < 2 ^ 31) (hn : n < 2 ^ 31) (hmo : mo < 2 ^ 31) (kS : ∀ k9 row, fewG (σ.2.1 6) q l n (sparedF (σ.2.1 6) q ||| mo) 6 0 = some (k9, row) → k9 ≤ 5 → ∀ p9 : pS, PO (k9 + 1) p9 → ptF p9.2.2.2 k9 = row → Q (some (.int (nI k9))) (mW G.2.2.1 a (scr σ p9 (nI k9) (sparedF (σ.2.1 6) q ||| mo) (σ.2.1 6 (79 + q))))) (kN : fewG (σ.2.1 6) q l n (sparedF (σ.2.1 6) q ||| mo) 6 0 = none → ∀ (p9 : pS) (dd9 : Int32) (sp9 hm9 : Nat), Q (some (.int (nI 1000000))) (mW G.2.2.1 a (scr σ p9 dd9 sp9 hm9))) : MT G MX12_fewest (d + 5) 0 0 [.ref (a 60), .int (nI q), .int (nI l), .int (nI n), .int (nI mo)] (mW G.2.2.1 a (scr σ p dd sp hm)) Q := by
  refine mt_start (L := [some (.ref (a 60)), some (.int (nI q)), some (.int (nI l)), some (.int (nI n)), some (.int (nI mo)), none]) rfl (Nat.le_of_ble_eq_true rfl) rfl ?_
  refine aw_iconst (pc := 0) dX12_fewest_0 iconst_0 ?_
  refine aw_istore (pc := 1) (i := 5) dX12_fewest_1 (Nat.le_of_ble_eq_true rfl) rfl ?_
  exact few_loop hw hq hl hn hmo 6 0 rfl p dd sp hm kS kN
