def nd0 (t : Nat → Nat) (q : Nat) : nD := (t (108 + q), t (114 + q), t (94 + t (79 + q)))
def fwB (l n : Nat) (r : List Nat × nD) : Bool := decide (r.2.1 = l) && decide (n ≤ r.2.2.1)
theorem fwB_t {l n : Nat} {r : List Nat × nD} (h1 : r.2.1 = l) (h2 : n ≤ r.2.2.1) : fwB l n r = true := by unfold fwB; rw [decide_eq_true h1, decide_eq_true h2]; rfl
theorem fwB_f1 {l n : Nat} {r : List Nat × nD} (h1 : ¬ r.2.1 = l) : ¬ fwB l n r = true := by unfold fwB; rw [decide_eq_false h1]; exact Bool.false_ne_true
theorem fwB_f2 {l n : Nat} {r : List Nat × nD} (h2 : r.2.2.1 < n) : ¬ fwB l n r = true := by unfold fwB; rw [decide_eq_false (Nat.not_le.mpr h2), Bool.and_false]; exact Bool.false_ne_true
def fewK (t : Nat → Nat) (q l n sp k : Nat) : Option (List Nat × nD) := (rwF t (t (79 + q)) sp k (nd0 t q)).find? (fwB l n)
def fewG (t : Nat → Nat) (q l n sp : Nat) : Nat → Nat → Option (Nat × List Nat)
  | 0, _ => none
  | m + 1, k => match fewK t q l n sp k with
    | some r => some (k, r.1)
    | none => fewG t q l n sp m (k + 1)
def fewF (t : Nat → Nat) (q l n sp : Nat) : Option (Nat × List Nat) := fewG t q l n sp 6 0
theorem PO_st {e i : Nat} {p : pS} (h : PO e p) (hi : i + 1 < e) : p.2.2.2 i = nI (xN p.2.2.2 i - 1) := by
  obtain ⟨-, -, -, h1, h2⟩ := h.1 i (by omega)
  have h3 := h.2 i hi
  have e1 : p.2.2.2 i = p.2.2.2 i + nI 1 + (-1) := by rw [Int32.add_assoc, show nI 1 + (-1 : Int32) = 0 by decide, Int32.add_zero]
  rw [e1, h1, nI_dec h3]
theorem PO_start {t : Nat → Nat} {q : Nat} (hw : WT t) (hq : q < t 2) (p : pS) : PO 1 (startP t q p) := by
  obtain ⟨hb, h0, h1, h2, hR, hP, hD, hC, hT⟩ := hw
  have := hP q hq
  refine ⟨fun i hi => ?_, fun i hi => by omega⟩
  rw [show i = 0 by omega]
  refine ⟨?_, ?_, ?_, ?_, ?_⟩
  · show upN p.1 0 (t (108 + q)) 0 < 7; rw [upN_s]; omega
  · show upN p.2.1 0 (t (114 + q)) 0 ≤ 240; rw [upN_s]; omega
  · show upN p.2.2.1 0 _ 0 < 2 ^ 30; rw [upN_s]; exact hb _
  · show upN p.2.2.2 0 (-1) 0 + nI 1 = nI (xN (upN p.2.2.2 0 (-1)) 0); rw [xN_m, upN_s]; decide
  · show xN (upN p.2.2.2 0 (-1)) 0 ≤ 7; rw [xN_m]; omega
theorem RB_start {t : Nat → Nat} {hm sp k q : Nat} (p : pS) (hk : 1 ≤ k) : RB t hm sp k 1 (startP t q p) = rwF t hm sp k (nd0 t q) := by
  obtain ⟨j, rfl⟩ : ∃ j, k = j + 1 := ⟨k - 1, by omega⟩
  rw [RB, rwF, show xN (startP t q p).2.2.2 0 = 0 from xN_m _ _, show ndP (startP t q p) 0 = nd0 t q from rfl]
  simp [ptF, RB]
theorem go_ex {t : Nat → Nat} {hm sp k e : Nat} {p : pS} (h0 : t 0 ≤ 7) (hp : PO e p) (he : e ≤ k) : ∃ n r, goF t hm sp k n e p = some r := go_end h0 _ e p (Nat.lt_succ_self _) hp he
theorem PO_le {e e' : Nat} {p : pS} (h : PO e p) (he : e' ≤ e) : PO e' p := ⟨fun i hi => h.1 i (by omega), fun i hi => h.2 i (by omega)⟩
theorem nI_ex (x : Int32) : ∃ n, n < 2 ^ 32 ∧ x = nI n := ⟨x.toBitVec.toNat, x.toBitVec.isLt, by
  apply Int32.toBitVec_inj.mp
  show _ = BitVec.ofNat 32 _
  simp⟩
theorem upN_id {α : Type} (f : Nat → α) (k : Nat) {v : α} (h : f k = v) : upN f k v = f := by
  funext j
  by_cases e : j = k
  · subst e; rw [upN_s, h]
  · rw [upN_n _ _ _ _ e]
def p0S (σ : mS) : pS := (σ.2.1 24, σ.2.1 25, σ.2.1 26, σ.2.2.1 27)
theorem scr_id (σ : mS) {sp hm : Nat} (h29 : σ.1 29 = nI sp) (h30 : σ.1 30 = nI hm) : scr σ (p0S σ) (σ.1 28) sp hm = σ := by
  show (upN (upN (upN σ.1 30 (nI hm)) 29 (nI sp)) 28 (σ.1 28), upN (upN (upN σ.2.1 24 (σ.2.1 24)) 25 (σ.2.1 25)) 26 (σ.2.1 26), upN σ.2.2.1 27 (σ.2.2.1 27), σ.2.2.2) = σ
  rw [upN_id σ.1 30 h30, upN_id σ.1 29 h29, upN_id σ.1 28 rfl, upN_id σ.2.1 24 rfl, upN_id σ.2.1 25 rfl, upN_id σ.2.1 26 rfl, upN_id σ.2.2.1 27 rfl]

set_option maxHeartbeats 1000000 in
set_option maxRecDepth 20000 in
theorem few_K0 {G : xG} {d : Nat} {Q : xQ} {a : Nat → Nat} {σ : mS} {sp hm k q l n mo : Nat} (hb : ∀ j, σ.2.1 6 j < 2 ^ 30) (h0 : σ.2.1 6 0 ≤ 7) (h1 : σ.2.1 6 1 ≤ 12) (hsp : sp < 2 ^ 31) (hhm : hm < 2 ^ 31) (hk5 : k ≤ 5) (hk1 : 1 ≤ k) (hl : l < 2 ^ 31) (hn : n < 2 ^ 31) : ∀ (R : List (List Nat × nD)) (p : pS), PO k p → RB (σ.2.1 6) hm sp k k p = R → (∀ row, R.find? (fwB l n) = some row → ∀ p9 : pS, PO (k + 1) p9 → ptF p9.2.2.2 k = row.1 → Q (some (.int (nI k))) (mW G.2.2.1 a (scr σ p9 (nI k) sp hm))) → (R.find? (fwB l n) = none → ∀ (p9 : pS) (dd : Int32), AW G MX12_fewest (d + 5) 0 0 Q 91 [some (.ref (a 60)), some (.int (nI q)), some (.int (nI l)), some (.int (nI n)), some (.int (nI mo)), some (.int (nI k))] [] (mW G.2.2.1 a (scr σ p9 dd sp hm)) 0 0) → AW G MX12_fewest (d + 5) 0 0 Q 52 [some (.ref (a 60)), some (.int (nI q)), some (.int (nI l)), some (.int (nI n)), some (.int (nI mo)), some (.int (nI k))] [] (mW G.2.2.1 a (scr σ p (nI k) sp hm)) 0 0 := by
  intro R
  induction R with
  | nil =>
    intro p hp hR k1 k0
    obtain ⟨m, r, hr⟩ := go_ex (hm := hm) (sp := sp) h0 hp (Nat.le_refl _)
    refine aw_iload (pc := 52) dX12_fewest_52 rfl ?_
    refine an_if_le (pc := 54) (tgt := 91) dX12_fewest_54 rfl (by omega) (fun h54 => ?_) (fun h54 => ?_)
    · -- 91
      exfalso; omega
    · -- 57
      refine aw_aload_n (pc := 57) (i := 0) dX12_fewest_57 rfl rfl ?_
      refine aw_iload (pc := 58) dX12_fewest_58 rfl ?_
      refine mc_I (pc := 60) (As := [.int (nI k)]) (rest := []) dX12_fewest_60 rfl ok_X12_369 rfl rfl rfl (Nat.le_of_ble_eq_true rfl) (s_goesK hb h0 h1 hsp hhm hk5 hr hp ⟨_, _, rfl, rfl, ?_⟩)
      refine ab_if_eq (pc := 63) (tgt := 91) dX12_fewest_63 rfl (fun h63 => ?_) (fun h63 => ?_)
      · -- 91
        exact k0 rfl _ _
      · -- 66
        have g1 := ((go_ok h0 _ _ _ r hr hp (Nat.le_refl _)).2 h63).1
        rw [hR] at g1
        exact absurd g1 (by simp)
  | cons row R ih =>
    intro p hp hR k1 k0
    obtain ⟨m, r, hr⟩ := go_ex (hm := hm) (sp := sp) h0 hp (Nat.le_refl _)
    refine aw_iload (pc := 52) dX12_fewest_52 rfl ?_
    refine an_if_le (pc := 54) (tgt := 91) dX12_fewest_54 rfl (by omega) (fun h54 => ?_) (fun h54 => ?_)
    · -- 91
      exfalso; omega
    · -- 57
      refine aw_aload_n (pc := 57) (i := 0) dX12_fewest_57 rfl rfl ?_
      refine aw_iload (pc := 58) dX12_fewest_58 rfl ?_
      refine mc_I (pc := 60) (As := [.int (nI k)]) (rest := []) dX12_fewest_60 rfl ok_X12_369 rfl rfl rfl (Nat.le_of_ble_eq_true rfl) (s_goesK hb h0 h1 hsp hhm hk5 hr hp ⟨_, _, rfl, rfl, ?_⟩)
      refine ab_if_eq (pc := 63) (tgt := 91) dX12_fewest_63 rfl (fun h63 => ?_) (fun h63 => ?_)
      · -- 91
        have g1 := ((go_ok h0 _ _ _ r hr hp (Nat.le_refl _)).1 h63).1
        rw [hR] at g1
        exact absurd g1 (by simp)
      · -- 66
        obtain ⟨g1, g2, g3⟩ := (go_ok h0 _ _ _ r hr hp (Nat.le_refl _)).2 h63
        refine aw_ws (w9 := mW G.2.2.1 a (scr σ r.2.2 (nI k) sp hm)) (by rw [g2, dpI_s]) ?_
        clear hr h63 g2
        generalize r.2.2 = u at *
        rw [g1] at hR
        injection hR with hR1 hR2
        subst hR1
        have g4 := g3.1 k (by omega)
        refine aw_aload_n (pc := 66) (i := 0) dX12_fewest_66 rfl rfl ?_
        refine mg_where (pc := 67) dX12_fewest_67 rfl ?_
        refine aw_iload (pc := 70) dX12_fewest_70 rfl ?_
        refine ml_where (pc := 72) dX12_fewest_72 (by omega) ?_
        refine aw_top (y := (nI (u.1 k))) rfl ?_
        refine aw_iload_n (pc := 73) (i := 2) dX12_fewest_73 rfl rfl ?_
        refine an_icmp_ne (pc := 74) (tgt := 52) dX12_fewest_74 rfl (by omega) (by omega) (fun h74 => ?_) (fun h74 => ?_)
        · -- 52
          have hng : ¬ fwB l n (ptF u.2.2.2 k, ndP u k) = true := fwB_f1 h74
          refine ih u (PO_le g3 (by omega)) hR2 (fun rw9 hrow => k1 rw9 (by rw [List.find?_cons_of_neg hng]; exact hrow)) (fun h9 => k0 (by rw [List.find?_cons_of_neg hng]; exact h9))
        · -- 77
          refine aw_aload_n (pc := 77) (i := 0) dX12_fewest_77 rfl rfl ?_
          refine mg_much (pc := 78) dX12_fewest_78 rfl ?_
          refine aw_iload (pc := 81) dX12_fewest_81 rfl ?_
          refine ml_much (pc := 83) dX12_fewest_83 (by omega) ?_
          refine aw_top (y := (nI (u.2.1 k))) rfl ?_
          refine aw_iload_n (pc := 84) (i := 3) dX12_fewest_84 rfl rfl ?_
          refine an_icmp_lt (pc := 85) (tgt := 52) dX12_fewest_85 rfl (by omega) (by omega) (fun h85 => ?_) (fun h85 => ?_)
          · -- 52
            have hng : ¬ fwB l n (ptF u.2.2.2 k, ndP u k) = true := fwB_f2 h85
            refine ih u (PO_le g3 (by omega)) hR2 (fun rw9 hrow => k1 rw9 (by rw [List.find?_cons_of_neg hng]; exact hrow)) (fun h9 => k0 (by rw [List.find?_cons_of_neg hng]; exact h9))
          · -- 88
            refine aw_iload (pc := 88) dX12_fewest_88 rfl ?_
            exact aw_iret (pc := 90) dX12_fewest_90 rfl (Nat.le_refl _) (Nat.le_refl _) (k1 _ (List.find?_cons_of_pos (show fwB l n (ptF u.2.2.2 k, ndP u k) = true from fwB_t h74 h85)) u g3 rfl)
set_option maxHeartbeats 1000000 in
set_option maxRecDepth 20000 in
theorem few_0 {G : xG} {d : Nat} {Q : xQ} {a : Nat → Nat} {σ : mS} {sp hm k q l n mo : Nat} {p : pS} (hb : ∀ j, σ.2.1 6 j < 2 ^ 30) (h0 : σ.2.1 6 0 ≤ 7) (h1 : σ.2.1 6 1 ≤ 12) (hsp : sp < 2 ^ 31) (hhm : hm < 2 ^ 31) (hk5 : k ≤ 5) (hk1 : 1 ≤ k) (hl : l < 2 ^ 31) (hn : n < 2 ^ 31) (hp : PO 1 p) (k1 : ∀ row, (RB (σ.2.1 6) hm sp k 1 p).find? (fwB l n) = some row → ∀ p9 : pS, PO (k + 1) p9 → ptF p9.2.2.2 k = row.1 → Q (some (.int (nI k))) (mW G.2.2.1 a (scr σ p9 (nI k) sp hm))) (k0 : (RB (σ.2.1 6) hm sp k 1 p).find? (fwB l n) = none → ∀ (p9 : pS) (dd : Int32), AW G MX12_fewest (d + 5) 0 0 Q 91 [some (.ref (a 60)), some (.int (nI q)), some (.int (nI l)), some (.int (nI n)), some (.int (nI mo)), some (.int (nI k))] [] (mW G.2.2.1 a (scr σ p9 dd sp hm)) 0 0) : AW G MX12_fewest (d + 5) 0 0 Q 52 [some (.ref (a 60)), some (.int (nI q)), some (.int (nI l)), some (.int (nI n)), some (.int (nI mo)), some (.int (nI k))] [] (mW G.2.2.1 a (scr σ p (nI 0) sp hm)) 0 0 := by
  obtain ⟨m, r, hr⟩ := go_ex (hm := hm) (sp := sp) h0 hp hk1
  refine aw_iload (pc := 52) dX12_fewest_52 rfl ?_
  refine an_if_le (pc := 54) (tgt := 91) dX12_fewest_54 rfl (by omega) (fun h54 => ?_) (fun h54 => ?_)
  · -- 91
    exfalso; omega
  · -- 57
    refine aw_aload_n (pc := 57) (i := 0) dX12_fewest_57 rfl rfl ?_
    refine aw_iload (pc := 58) dX12_fewest_58 rfl ?_
    refine mc_I (pc := 60) (As := [.int (nI k)]) (rest := []) dX12_fewest_60 rfl ok_X12_369 rfl rfl rfl (Nat.le_of_ble_eq_true rfl) (s_goes0 hb h0 h1 hsp hhm hk5 hk1 hr hp ⟨_, _, rfl, rfl, ?_⟩)
    refine ab_if_eq (pc := 63) (tgt := 91) dX12_fewest_63 rfl (fun h63 => ?_) (fun h63 => ?_)
    · -- 91
      have g1 := ((go_ok h0 _ _ _ r hr hp hk1).1 h63).1
      exact k0 (by rw [g1]; rfl) _ _
    · -- 66
      obtain ⟨g1, g2, g3⟩ := (go_ok h0 _ _ _ r hr hp hk1).2 h63
      refine aw_ws (w9 := mW G.2.2.1 a (scr σ r.2.2 (nI k) sp hm)) (by rw [g2, dpI_s]) ?_
      clear hr h63 g2
      generalize r.2.2 = u at *
      rw [g1] at k1 k0
      have g4 := g3.1 k (by omega)
      refine aw_aload_n (pc := 66) (i := 0) dX12_fewest_66 rfl rfl ?_
      refine mg_where (pc := 67) dX12_fewest_67 rfl ?_
      refine aw_iload (pc := 70) dX12_fewest_70 rfl ?_
      refine ml_where (pc := 72) dX12_fewest_72 (by omega) ?_
      refine aw_top (y := (nI (u.1 k))) rfl ?_
      refine aw_iload_n (pc := 73) (i := 2) dX12_fewest_73 rfl rfl ?_
      refine an_icmp_ne (pc := 74) (tgt := 52) dX12_fewest_74 rfl (by omega) (by omega) (fun h74 => ?_) (fun h74 => ?_)
      · -- 52
        have hng : ¬ fwB l n (ptF u.2.2.2 k, ndP u k) = true := fwB_f1 h74
        refine few_K0 hb h0 h1 hsp hhm hk5 hk1 hl hn _ u (PO_le g3 (by omega)) rfl (fun rw9 hrow => k1 rw9 (by rw [List.find?_cons_of_neg hng]; exact hrow)) (fun h9 => k0 (by rw [List.find?_cons_of_neg hng]; exact h9))
      · -- 77
        refine aw_aload_n (pc := 77) (i := 0) dX12_fewest_77 rfl rfl ?_
        refine mg_much (pc := 78) dX12_fewest_78 rfl ?_
        refine aw_iload (pc := 81) dX12_fewest_81 rfl ?_
        refine ml_much (pc := 83) dX12_fewest_83 (by omega) ?_
        refine aw_top (y := (nI (u.2.1 k))) rfl ?_
        refine aw_iload_n (pc := 84) (i := 3) dX12_fewest_84 rfl rfl ?_
        refine an_icmp_lt (pc := 85) (tgt := 52) dX12_fewest_85 rfl (by omega) (by omega) (fun h85 => ?_) (fun h85 => ?_)
        · -- 52
          have hng : ¬ fwB l n (ptF u.2.2.2 k, ndP u k) = true := fwB_f2 h85
          refine few_K0 hb h0 h1 hsp hhm hk5 hk1 hl hn _ u (PO_le g3 (by omega)) rfl (fun rw9 hrow => k1 rw9 (by rw [List.find?_cons_of_neg hng]; exact hrow)) (fun h9 => k0 (by rw [List.find?_cons_of_neg hng]; exact h9))
        · -- 88
          refine aw_iload (pc := 88) dX12_fewest_88 rfl ?_
          exact aw_iret (pc := 90) dX12_fewest_90 rfl (Nat.le_refl _) (Nat.le_refl _) (k1 _ (List.find?_cons_of_pos (show fwB l n (ptF u.2.2.2 k, ndP u k) = true from fwB_t h74 h85)) u g3 rfl)
