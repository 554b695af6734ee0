/-- the fault is the reference's -/
def FRl (κ : kS) (σ : mS) : Prop := κ.1 11 = .int (σ.1 15) ∧ κ.1 12 = .int (σ.1 16)
theorem nI_m1 {x : Nat} (h : x < 2 ^ 31) : ¬ nI x = -1 := fun e => by
  have h1 := congrArg Int32.toInt e
  rw [nI_toInt h] at h1
  have h2 : (-1 : Int32).toInt = -1 := by decide
  omega
theorem nI_ne {x y : Nat} (hx : x < 2 ^ 31) (hy : y < 2 ^ 31) (h : ¬ x = y) : ¬ nI x = nI y := fun e => h ((nI_eq hx hy).mp e)
theorem TC.prop {kd : Nat} {v : Int64} {r : Option Nat} {σ : mS} (h : TC kd v r σ) (hp : σ.1 11 = nI 1 ∨ σ.1 11 = nI 2 ∨ σ.1 11 = nI 3) : ¬ kd = 0 ∧ ¬ kd = 3 := by
  rcases h with h | h | h | h | h
  · rw [h.2.2] at hp; exact absurd hp (by decide)
  · rw [h.2.2] at hp; exact absurd hp (by decide)
  · omega
  · omega
  · have := sgnC_b h.1; omega
theorem TC.sign {kd c : Nat} {v : Int64} {r : Option Nat} {σ : mS} (h : TC kd v r σ) (hk : kd < 256) (hc : sgnC c = true) : isSignB σ c = true ↔ kd = c := by
  have hb := sgnC_b hc
  unfold isSignB
  rw [Bool.and_eq_true, decide_eq_true_eq, decide_eq_true_eq]
  rcases h with h | h | h | h | h
  · rw [h.2.2]; exact ⟨fun e => absurd e.1 (by decide), fun e => by omega⟩
  · rw [h.2.2]; exact ⟨fun e => absurd e.1 (by decide), fun e => by omega⟩
  · rw [h.2.1]; exact ⟨fun e => absurd e.1 (by decide), fun e => by omega⟩
  · rw [h.2.2.1]; exact ⟨fun e => absurd e.1 (by decide), fun e => by omega⟩
  · rw [h.2.2.1, h.2.2.2]; exact ⟨fun e => (nI_eq (by omega) (by omega)).mp e.2, fun e => ⟨rfl, by rw [e]⟩⟩
theorem TC.word {kd k : Nat} {v : Int64} {r : Option Nat} {σ : mS} (h : TC kd v r σ) (hk : k < 24) : isWordB σ (wC8 k) = true ↔ r = some k := by
  unfold isWordB
  rw [Bool.and_eq_true, decide_eq_true_eq, decide_eq_true_eq]
  rcases h with h | h | h | h | h
  · rw [h.2.2, h.2.1]; exact ⟨fun e => absurd e.1 (by decide), fun e => by cases e⟩
  · rw [h.2.2, h.2.1]; exact ⟨fun e => absurd e.1 (by decide), fun e => by cases e⟩
  · rw [h.2.1, h.2.2.2]; exact ⟨fun e => (wOf_iff h.2.2.1 hk).mpr e.2, fun e => ⟨rfl, (wOf_iff h.2.2.1 hk).mp e⟩⟩
  · rw [h.2.2.1, h.2.1]; exact ⟨fun e => absurd e.1 (by decide), fun e => by cases e⟩
  · rw [h.2.2.1, h.2.1]; exact ⟨fun e => absurd e.1 (by decide), fun e => by cases e⟩
theorem TC.stop {kd : Nat} {v : Int64} {r : Option Nat} {σ : mS} (h : TC kd v r σ) : σ.1 11 = nI 0 ↔ kd = 0 := by
  rcases h with h | h | h | h | h
  · exact ⟨fun _ => h.1, fun _ => h.2.2⟩
  · rw [h.2.2]; exact ⟨fun e => absurd e (by decide), fun e => by omega⟩
  · rw [h.2.1]; exact ⟨fun e => absurd e (by decide), fun e => by omega⟩
  · rw [h.2.2.1]; exact ⟨fun e => absurd e (by decide), fun e => by omega⟩
  · rw [h.2.2.1]; exact ⟨fun e => absurd e (by decide), fun e => by have := sgnC_b h.1; omega⟩
/-- the reference's words that no name may be -/
def RES (σ : mS) : Prop := ∀ k, k < 24 → σ.2.2.2.2 10 k = wC8 k
theorem resF_iff {r : Nat → Int64} {x : Int64} : ∀ n, resF r x n = true ↔ ∀ k, k < n → ¬ x = r k := by
  intro n
  induction n with
  | zero => exact ⟨fun _ k hk => absurd hk (Nat.not_lt_zero _), fun _ => rfl⟩
  | succ n ih =>
    rw [resF, Bool.and_eq_true, decide_eq_true_eq, ih]
    constructor
    · intro h k hk
      rcases Nat.lt_or_ge k n with q | q
      · exact h.1 k q
      · rw [show k = n by omega]; exact h.2
    · intro h; exact ⟨fun k hk => h k (by omega), h n (by omega)⟩
theorem TC.name {kd : Nat} {v : Int64} {r : Option Nat} {σ : mS} (h : TC kd v r σ) (hR : RES σ) : isNameB σ = true ↔ kd = 1 ∧ r = none := by
  unfold isNameB
  rw [Bool.and_eq_true, decide_eq_true_eq, resF_iff]
  rcases h with h | h | h | h | h
  · rw [h.2.2]; exact ⟨fun e => absurd e.1 (by decide), fun e => by omega⟩
  · rw [h.2.2]; exact ⟨fun e => absurd e.1 (by decide), fun e => by omega⟩
  · rw [h.2.1, h.2.2.2, wOf_no h.2.2.1]
    exact ⟨fun e => ⟨h.1, fun k hk => by rw [← hR k hk]; exact e.2 k hk⟩, fun e => ⟨rfl, fun k hk => by rw [hR k hk]; exact e.2 k hk⟩⟩
  · rw [h.2.2.1]; exact ⟨fun e => absurd e.1 (by decide), fun e => by omega⟩
  · rw [h.2.2.1]; exact ⟨fun e => absurd e.1 (by decide), fun e => by have := sgnC_b h.1; omega⟩
theorem TC.nmr {kd : Nat} {v : Int64} {r : Option Nat} {σ : mS} (h : TC kd v r σ) (h1 : kd = 1) : NMR σ.2.2.2.1 v ∧ σ.1 11 = nI 1 := by
  rcases h with h | h | h | h | h
  · omega
  · omega
  · exact ⟨h.2.2.1, h.2.1⟩
  · omega
  · have := sgnC_b h.1; omega
theorem TC.num {kd : Nat} {v : Int64} {r : Option Nat} {σ : mS} (h : TC kd v r σ) : (σ.1 11 = nI 2 ↔ kd = 2) ∧ (kd = 2 → ∃ m, m < 1000 ∧ σ.1 14 = nI m ∧ v = lN m) := by
  rcases h with h | h | h | h | h
  · rw [h.2.2]; exact ⟨⟨fun e => absurd e (by decide), fun e => by omega⟩, fun e => by omega⟩
  · rw [h.2.2]; exact ⟨⟨fun e => absurd e (by decide), fun e => by omega⟩, fun e => by omega⟩
  · rw [h.2.1]; exact ⟨⟨fun e => absurd e (by decide), fun e => by omega⟩, fun e => by omega⟩
  · exact ⟨⟨fun _ => h.1, fun _ => h.2.2.1⟩, fun _ => h.2.2.2⟩
  · have := sgnC_b h.1; rw [h.2.2.1]; exact ⟨⟨fun e => absurd e (by decide), fun e => by omega⟩, fun e => by omega⟩
theorem c8_stepR {G : xG} {d : Nat} {Q : xQ} {a ad : Nat → Nat} {κ : kS} {R : va_W} {σ : mS} (h : TPR ad κ σ) (hp : σ.1 11 = nI 1 ∨ σ.1 11 = nI 2 ∨ σ.1 11 = nI 3) (kk : ∀ κ9, TPR ad κ9 (nx σ) → TBs κ κ9 → κ9.1 11 = κ.1 11 → Q none (wTp G.2.2.1 a κ9 ++ R)) : MT G MX8_step d 0 0 [.ref (a 13)] (wTp G.2.2.1 a κ ++ R) Q := by
  obtain ⟨s, lim, k, nT, h1, h2⟩ := h
  obtain ⟨ht, -, hq⟩ := RP_tc h1
  have hp2 := ht.prop hp
  have hlt := hq hp2.1 hp2.2
  have hm := h2.2.2.2.2.2.1
  have hk : k < nT := by
    rcases Nat.lt_or_ge k nT with q | q
    · exact q
    · have := h2.2.2.1; rw [show k = nT by omega] at hlt; omega
  exact c8_step h2 hk (fun κ9 g1 g2 g3 g4 => kk κ9 ⟨s, lim, k + 1, nT, RP_nx h1 hlt, g1⟩ g2 g3)
theorem c8_refuse {G : xG} {d : Nat} {Q : xQ} {a ad : Nat → Nat} {κ : kS} {R : va_W} {σ : mS} {x : Nat} (h : TPR ad κ σ) (hf : κ.1 11 = .int (nI 0)) (kk : ∀ κ9, κ9.1 11 = .int (nI x) → κ9.1 12 = .int (σ.1 12) → TBs κ κ9 → Q (some (.int (bI false))) (wTp G.2.2.1 a κ9 ++ R)) : MT G MX8_refuse d 0 0 [.ref (a 13), .int (nI x)] (wTp G.2.2.1 a κ ++ R) Q := by
  obtain ⟨s, lim, k, nT, h1, h2⟩ := h
  obtain ⟨-, h12, -⟩ := RP_tc h1
  exact c8_refuse0 h2 hf (kk _ rfl (by rw [h12]; rfl) ⟨rfl, rfl⟩)
set_option maxHeartbeats 1000000 in
set_option maxRecDepth 20000 in
theorem c8_atEnd {G : xG} {d : Nat} {Q : xQ} {a ad : Nat → Nat} {κ : kS} {R : va_W} {σ : mS} (h : TPR ad κ σ) (kk : Q (some (.int (bI (decide (σ.1 11 = nI 0))))) (wTp G.2.2.1 a κ ++ R)) : MT G MX8_atEnd (d) 0 0 [.ref (a 13)] (wTp G.2.2.1 a κ ++ R) Q := by
  obtain ⟨kd, v, r, e8, e9, e10, hr, hkd, tc⟩ := h.view
  refine mt_start (L := [some (.ref (a 13))]) rfl (Nat.le_of_ble_eq_true rfl) rfl ?_
  refine aw_aload_n (pc := 0) (i := 0) dX8_atEnd_0 rfl rfl ?_
  refine pg_X8_42 (pc := 1) (v := .int (nI kd)) dX8_atEnd_1 rfl e8 ?_
  refine an_if_ne (pc := 4) (tgt := 11) dX8_atEnd_4 rfl (by omega) (fun h4 => ?_) (fun h4 => ?_)
  · -- 11
    refine aw_iconst (pc := 11) dX8_atEnd_11 iconst_0 ?_
    exact ab_ret0 (pc := 12) dX8_atEnd_12 rfl (Nat.le_refl _) (Nat.le_refl _) (by rw [show decide (σ.1 11 = nI 0) = false from decide_eq_false (fun e => absurd (tc.stop.mp e) (by omega))] at kk; exact kk)
  · -- 7
    refine aw_iconst (pc := 7) dX8_atEnd_7 iconst_1 ?_
    refine aw_goto (pc := 8) (tgt := 12) dX8_atEnd_8 rfl ?_
    exact ab_ret1 (pc := 12) dX8_atEnd_12 rfl (Nat.le_refl _) (Nat.le_refl _) (by rw [show decide (σ.1 11 = nI 0) = true from decide_eq_true (tc.stop.mpr h4)] at kk; exact kk)
set_option maxHeartbeats 1000000 in
set_option maxRecDepth 20000 in
theorem c8_atName {G : xG} {d : Nat} {Q : xQ} {a ad : Nat → Nat} {κ : kS} {R : va_W} {σ : mS} (h : TPR ad κ σ) (hR : RES σ) (kk : Q (some (.int (bI (isNameB σ)))) (wTp G.2.2.1 a κ ++ R)) : MT G MX8_atName (d) 0 0 [.ref (a 13)] (wTp G.2.2.1 a κ ++ R) Q := by
  obtain ⟨kd, v, r, e8, e9, e10, hr, hkd, tc⟩ := h.view
  refine mt_start (L := [some (.ref (a 13))]) rfl (Nat.le_of_ble_eq_true rfl) rfl ?_
  refine aw_aload_n (pc := 0) (i := 0) dX8_atName_0 rfl rfl ?_
  refine pg_X8_42 (pc := 1) (v := .int (nI kd)) dX8_atName_1 rfl e8 ?_
  refine aw_iconst (pc := 4) dX8_atName_4 iconst_1 ?_
  refine an_icmp_ne (pc := 5) (tgt := 19) dX8_atName_5 rfl (by omega) (by decide) (fun h5 => ?_) (fun h5 => ?_)
  · -- 19
    refine aw_iconst (pc := 19) dX8_atName_19 iconst_0 ?_
    exact ab_ret0 (pc := 20) dX8_atName_20 rfl (Nat.le_refl _) (Nat.le_refl _) (by rw [show isNameB σ = false from by cases hx : isNameB σ with | false => rfl | true => exact absurd ((tc.name hR).mp hx).1 (by omega)] at kk; exact kk)
  · -- 8
    refine aw_aload_n (pc := 8) (i := 0) dX8_atName_8 rfl rfl ?_
    refine pg_X8_49 (pc := 9) (v := va_rf (Option.map ad r)) dX8_atName_9 rfl e10 ?_
    refine aw_wnonnull (ad := ad) (pc := 12) (tgt := 19) dX8_atName_12 rfl (fun h12 => ?_) (fun h12 => ?_)
    · -- 19
      refine aw_iconst (pc := 19) dX8_atName_19 iconst_0 ?_
      exact ab_ret0 (pc := 20) dX8_atName_20 rfl (Nat.le_refl _) (Nat.le_refl _) (by rw [show isNameB σ = false from by cases hx : isNameB σ with | false => rfl | true => exact absurd ((tc.name hR).mp hx).2 h12] at kk; exact kk)
    · -- 15
      refine aw_iconst (pc := 15) dX8_atName_15 iconst_1 ?_
      refine aw_goto (pc := 16) (tgt := 20) dX8_atName_16 rfl ?_
      exact ab_ret1 (pc := 20) dX8_atName_20 rfl (Nat.le_refl _) (Nat.le_refl _) (by rw [show isNameB σ = true from (tc.name hR).mpr ⟨h5, h12⟩] at kk; exact kk)
set_option maxHeartbeats 1000000 in
set_option maxRecDepth 20000 in
theorem c8_takeSign {G : xG} {d : Nat} {Q : xQ} {a ad : Nat → Nat} {κ : kS} {R : va_W} {σ : mS} {c : Nat} (h : TPR ad κ σ) (hf : κ.1 11 = .int (nI 0)) (hc : sgnC c = true) (k1 : (signF σ c).1 = true → ∀ κ9, TPR ad κ9 (signF σ c).2 → TBs κ κ9 → κ9.1 11 = .int (nI 0) → Q (some (.int (bI true))) (wTp G.2.2.1 a κ9 ++ R)) (k0 : (signF σ c).1 = false → ∀ κ9, FRl κ9 (signF σ c).2 → TBs κ κ9 → Q (some (.int (bI false))) (wTp G.2.2.1 a κ9 ++ R)) : MT G MX8_takeSign (d + 1) 0 0 [.ref (a 13), .int (nI c)] (wTp G.2.2.1 a κ ++ R) Q := by
  obtain ⟨kd, v, r, e8, e9, e10, hr, hkd, tc⟩ := h.view
  have hcb := sgnC_b hc
  refine mt_start (L := [some (.ref (a 13)), some (.int (nI c))]) rfl (Nat.le_of_ble_eq_true rfl) rfl ?_
  refine aw_aload_n (pc := 0) (i := 0) dX8_takeSign_0 rfl rfl ?_
  refine pg_X8_42 (pc := 1) (v := .int (nI kd)) dX8_takeSign_1 rfl e8 ?_
  refine aw_iload_n (pc := 4) (i := 1) dX8_takeSign_4 rfl rfl ?_
  refine an_icmp_eq (pc := 5) (tgt := 14) dX8_takeSign_5 rfl (by omega) (by omega) (fun h5 => ?_) (fun h5 => ?_)
  · -- 14
    refine aw_aload_n (pc := 14) (i := 0) dX8_takeSign_14 rfl rfl ?_
    refine cVv (pc := 15) (As := []) (rest := []) dX8_takeSign_15 rfl oc_X8_76 rfl rfl (Nat.le_of_ble_eq_true rfl) rfl rfl ovX8 (Nat.le_refl _) (Nat.le_refl _) (c8_stepR (σ := σ) h (by have hs := (tc.sign hkd hc).mpr h5; unfold isSignB at hs; rw [Bool.and_eq_true, decide_eq_true_eq] at hs; exact Or.inr (Or.inr hs.1)) ?_)
    intro κ9 g1 g2 g3
    refine ⟨rfl, ?_⟩
    refine aw_iconst (pc := 18) dX8_takeSign_18 iconst_1 ?_
    exact ab_ret1 (pc := 19) dX8_takeSign_19 rfl (Nat.le_refl _) (Nat.le_refl _) (by have hs := (tc.sign hkd hc).mpr h5; unfold signF at k1; rw [if_pos hs] at k1; exact k1 rfl κ9 g1 g2 (g3.trans hf))
  · -- 8
    refine aw_aload_n (pc := 8) (i := 0) dX8_takeSign_8 rfl rfl ?_
    refine aw_iconst (pc := 9) dX8_takeSign_9 iconst_1 ?_
    refine cVi (pc := 10) (As := [.int (nI 1)]) (rest := []) dX8_takeSign_10 rfl oc_X8_104 rfl rfl (Nat.le_of_ble_eq_true rfl) rfl rfl ovX8 (Nat.le_refl _) (Nat.le_refl _) (c8_refuse h hf ?_)
    intro κ9 g1 g2 g3
    refine ⟨_, rfl, ?_⟩
    exact ab_ret (pc := 13) dX8_takeSign_13 rfl (Nat.le_refl _) (Nat.le_refl _) (by have hs : ¬ isSignB σ c = true := fun e => h5 ((tc.sign hkd hc).mp e); unfold signF at k0; rw [if_neg hs] at k0; exact k0 rfl κ9 ⟨g1, g2⟩ g3)
def wordF (σ : mS) (k : Nat) : Bool × mS := if isWordB σ (wC8 k) = true then (true, nx σ) else (false, badF σ 1)
set_option maxHeartbeats 1000000 in
set_option maxRecDepth 20000 in
theorem c8_takeWord {G : xG} {d : Nat} {Q : xQ} {a ad : Nat → Nat} {tw ts : Nat} {κ : kS} {R : va_W} {σ : mS} {i : Nat} (hE : EB ad tw ts G) (h : TPR ad κ σ) (hf : κ.1 11 = .int (nI 0)) (hk : i < 24) (k1 : (wordF σ i).1 = true → ∀ κ9, TPR ad κ9 (wordF σ i).2 → TBs κ κ9 → κ9.1 11 = .int (nI 0) → Q (some (.int (bI true))) (wTp G.2.2.1 a κ9 ++ R)) (k0 : (wordF σ i).1 = false → ∀ κ9, FRl κ9 (wordF σ i).2 → TBs κ κ9 → Q (some (.int (bI false))) (wTp G.2.2.1 a κ9 ++ R)) : MT G MX8_takeWord (d + 1) 0 0 [.ref (a 13), va_rf (Option.map ad (some i))] (wTp G.2.2.1 a κ ++ R) Q := by
  obtain ⟨kd, v, r, e8, e9, e10, hr, hkd, tc⟩ := h.view
  refine mt_start (L := [some (.ref (a 13)), some (va_rf (Option.map ad (some i)))]) rfl (Nat.le_of_ble_eq_true rfl) rfl ?_
  refine aw_aload_n (pc := 0) (i := 0) dX8_takeWord_0 rfl rfl ?_
  refine pg_X8_49 (pc := 1) (v := va_rf (Option.map ad r)) dX8_takeWord_1 rfl e10 ?_
  refine aw_qload_n (pc := 4) (i := 1) dX8_takeWord_4 rfl rfl ?_
  refine aw_wcmp_eq (pc := 5) (tgt := 14) dX8_takeWord_5 rfl hE hr (wOK_some hk) (fun h5 => ?_) (fun h5 => ?_)
  · -- 14
    refine aw_aload_n (pc := 14) (i := 0) dX8_takeWord_14 rfl rfl ?_
    refine cVv (pc := 15) (As := []) (rest := []) dX8_takeWord_15 rfl oc_X8_76 rfl rfl (Nat.le_of_ble_eq_true rfl) rfl rfl ovX8 (Nat.le_refl _) (Nat.le_refl _) (c8_stepR (σ := σ) h (by have hs := (tc.word hk).mpr h5; unfold isWordB at hs; rw [Bool.and_eq_true, decide_eq_true_eq] at hs; exact Or.inl hs.1) ?_)
    intro κ9 g1 g2 g3
    refine ⟨rfl, ?_⟩
    refine aw_iconst (pc := 18) dX8_takeWord_18 iconst_1 ?_
    exact ab_ret1 (pc := 19) dX8_takeWord_19 rfl (Nat.le_refl _) (Nat.le_refl _) (by have hs := (tc.word hk).mpr h5; unfold wordF at k1; rw [if_pos hs] at k1; exact k1 rfl κ9 g1 g2 (g3.trans hf))
  · -- 8
    refine aw_aload_n (pc := 8) (i := 0) dX8_takeWord_8 rfl rfl ?_
    refine aw_iconst (pc := 9) dX8_takeWord_9 iconst_1 ?_
    refine cVi (pc := 10) (As := [.int (nI 1)]) (rest := []) dX8_takeWord_10 rfl oc_X8_104 rfl rfl (Nat.le_of_ble_eq_true rfl) rfl rfl ovX8 (Nat.le_refl _) (Nat.le_refl _) (c8_refuse h hf ?_)
    intro κ9 g1 g2 g3
    refine ⟨_, rfl, ?_⟩
    exact ab_ret (pc := 13) dX8_takeWord_13 rfl (Nat.le_refl _) (Nat.le_refl _) (by have hs : ¬ isWordB σ (wC8 i) = true := fun e => h5 ((tc.word hk).mp e); unfold wordF at k0; rw [if_neg hs] at k0; exact k0 rfl κ9 ⟨g1, g2⟩ g3)
section AJN
variable {G : xG} {μ : xM} {d mc ms : Nat} {Q : xQ} {pc : Nat} {L : List (Option Value)} {st : List Value} {ws : va_W} {n k : Nat}
theorem ajn_if_lt {x y : Nat} {off : Int} {tgt : Nat} (hd : decode μ.2.1 pc = .ok (.ifCond .lt off, 3)) (ht : (pc : Int) + off = (tgt : Int)) (hx : x < 2 ^ 31) (hy : y < 2 ^ 31) (kt : x < y → AW G μ d mc ms Q tgt L st ws n k) (kf : y ≤ x → AW G μ d mc ms Q (pc + 3) L st ws n k) : AW G μ d mc ms Q pc L (.int (lg_cmp (lN x) (lN y)) :: st) ws n k := aw_if_lt hd ht (fun h => kt ((lN_lt hx hy).mp ((lg_cmp_lt _ _).mp h))) (fun h => kf (Nat.not_lt.mp fun e => h ((lg_cmp_lt _ _).mpr ((lN_lt hx hy).mpr e))))
theorem ajn_if_le {x y : Nat} {off : Int} {tgt : Nat} (hd : decode μ.2.1 pc = .ok (.ifCond .le off, 3)) (ht : (pc : Int) + off = (tgt : Int)) (hx : x < 2 ^ 31) (hy : y < 2 ^ 31) (kt : x ≤ y → AW G μ d mc ms Q tgt L st ws n k) (kf : y < x → AW G μ d mc ms Q (pc + 3) L st ws n k) : AW G μ d mc ms Q pc L (.int (lg_cmp (lN x) (lN y)) :: st) ws n k := aw_if_le hd ht (fun h => kt ((lN_le hx hy).mp ((lg_cmp_le _ _).mp h))) (fun h => kf (Nat.not_le.mp fun e => h ((lg_cmp_le _ _).mpr ((lN_le hx hy).mpr e))))
end AJN
theorem inC_nat {lo hi m : Nat} (hl : lo < 2 ^ 31) (hh : hi < 2 ^ 31) (hm : m < 2 ^ 31) : inC (nI lo) (nI hi) (nI m) = (decide (lo ≤ m) && decide (m ≤ hi)) := by
  unfold inC
  congr 1
  · exact decide_eq_decide.mpr (nI_leI hl hm)
  · exact decide_eq_decide.mpr (nI_leI hm hh)
set_option maxHeartbeats 1000000 in
set_option maxRecDepth 20000 in
theorem c8_takeNumber {G : xG} {d : Nat} {Q : xQ} {a ad : Nat → Nat} {κ : kS} {R : va_W} {σ : mS} {lo hi : Nat} (h : TPR ad κ σ) (hf : κ.1 11 = .int (nI 0)) (hlo : lo < 2 ^ 31) (hhi : hi < 2 ^ 31) (k1 : ∀ m, m < 1000 → σ.1 14 = nI m → lo ≤ m → m ≤ hi → (takesF σ lo hi).1 = true → ∀ κ9, TPR ad κ9 (takesF σ lo hi).2 → TBs κ κ9 → κ9.1 11 = .int (nI 0) → Q (some (.int (nI m))) (wTp G.2.2.1 a κ9 ++ R)) (k0 : (takesF σ lo hi).1 = false → ∀ κ9, FRl κ9 (takesF σ lo hi).2 → TBs κ κ9 → Q (some (.int (-1))) (wTp G.2.2.1 a κ9 ++ R)) : MT G MX8_takeNumber (d + 1) 0 0 [.ref (a 13), .int (nI lo), .int (nI hi)] (wTp G.2.2.1 a κ ++ R) Q := by
  obtain ⟨kd, v, r, e8, e9, e10, hr, hkd, tc⟩ := h.view
  have h18 : TPR ad κ (mI σ 18 (σ.1 14)) := h.of rfl rfl rfl rfl rfl rfl rfl rfl
  refine mt_start (L := [some (.ref (a 13)), some (.int (nI lo)), some (.int (nI hi)), none]) rfl (Nat.le_of_ble_eq_true rfl) rfl ?_
  refine aw_aload_n (pc := 0) (i := 0) dX8_takeNumber_0 rfl rfl ?_
  refine pg_X8_42 (pc := 1) (v := .int (nI kd)) dX8_takeNumber_1 rfl e8 ?_
  refine aw_iconst (pc := 4) dX8_takeNumber_4 iconst_2 ?_
  refine an_icmp_eq (pc := 5) (tgt := 16) dX8_takeNumber_5 rfl (by omega) (by decide) (fun h5 => ?_) (fun h5 => ?_)
  · -- 16
    obtain ⟨m, hm, h14, rfl⟩ := tc.num.2 h5
    refine aw_aload_n (pc := 16) (i := 0) dX8_takeNumber_16 rfl rfl ?_
    refine pg_X8_45 (pc := 17) (v := .long (lN m)) dX8_takeNumber_17 rfl e9 ?_
    refine aw_iload_n (pc := 20) (i := 1) dX8_takeNumber_20 rfl rfl ?_
    refine aw_i2l (pc := 21) dX8_takeNumber_21 ?_
    refine aw_topJ (y := lN lo) (nI_l (by omega)) ?_
    refine aw_lcmp (pc := 22) dX8_takeNumber_22 ?_
    refine ajn_if_lt (pc := 23) (tgt := 36) dX8_takeNumber_23 rfl (by omega) (by omega) (fun h23 => ?_) (fun h23 => ?_)
    · -- 36
      refine aw_aload_n (pc := 36) (i := 0) dX8_takeNumber_36 rfl rfl ?_
      refine aw_iconst (pc := 37) dX8_takeNumber_37 iconst_2 ?_
      refine cVi (pc := 38) (As := [.int (nI 2)]) (rest := []) dX8_takeNumber_38 rfl oc_X8_104 rfl rfl (Nat.le_of_ble_eq_true rfl) rfl rfl ovX8 (Nat.le_refl _) (Nat.le_refl _) (c8_refuse h hf ?_)
      intro κ9 g1 g2 g3
      refine ⟨_, rfl, ?_⟩
      refine aw_pop (pc := 41) dX8_takeNumber_41 rfl ?_
      refine aw_iconst (pc := 42) dX8_takeNumber_42 iconst_m1 ?_
      exact aw_iret (pc := 43) dX8_takeNumber_43 rfl (Nat.le_refl _) (Nat.le_refl _) (by have e2 := tc.num.1.mpr h5; have hs : takesF σ lo hi = (false, badF σ 2) := (by unfold takesF; rw [if_pos e2, h14, inC_nat (by omega) (by omega) (by omega), if_neg (by simp; omega)]); exact k0 (by rw [hs]) κ9 (by rw [hs]; exact ⟨g1, g2⟩) g3)
    · -- 26
      refine aw_aload_n (pc := 26) (i := 0) dX8_takeNumber_26 rfl rfl ?_
      refine pg_X8_45 (pc := 27) (v := .long (lN m)) dX8_takeNumber_27 rfl e9 ?_
      refine aw_iload_n (pc := 30) (i := 2) dX8_takeNumber_30 rfl rfl ?_
      refine aw_i2l (pc := 31) dX8_takeNumber_31 ?_
      refine aw_topJ (y := lN hi) (nI_l (by omega)) ?_
      refine aw_lcmp (pc := 32) dX8_takeNumber_32 ?_
      refine ajn_if_le (pc := 33) (tgt := 44) dX8_takeNumber_33 rfl (by omega) (by omega) (fun h33 => ?_) (fun h33 => ?_)
      · -- 44
        refine aw_aload_n (pc := 44) (i := 0) dX8_takeNumber_44 rfl rfl ?_
        refine pg_X8_45 (pc := 45) (v := .long (lN m)) dX8_takeNumber_45 rfl e9 ?_
        refine aw_l2i (pc := 48) dX8_takeNumber_48 ?_
        refine aw_top (y := (nI m)) (lN_i m) ?_
        refine aw_istore_n (pc := 49) (i := 3) dX8_takeNumber_49 rfl (Nat.le_of_ble_eq_true rfl) rfl ?_
        refine aw_aload_n (pc := 50) (i := 0) dX8_takeNumber_50 rfl rfl ?_
        refine cVv (pc := 51) (As := []) (rest := []) dX8_takeNumber_51 rfl oc_X8_76 rfl rfl (Nat.le_of_ble_eq_true rfl) rfl rfl ovX8 (Nat.le_refl _) (Nat.le_refl _) (c8_stepR (σ := (mI σ 18 (σ.1 14))) h18 (Or.inr (Or.inl (tc.num.1.mpr h5))) ?_)
        intro κ9 g1 g2 g3
        refine ⟨rfl, ?_⟩
        refine aw_iload_n (pc := 54) (i := 3) dX8_takeNumber_54 rfl rfl ?_
        exact aw_iret (pc := 55) dX8_takeNumber_55 rfl (Nat.le_refl _) (Nat.le_refl _) (by have e2 := tc.num.1.mpr h5; have hs : takesF σ lo hi = (true, nx (mI σ 18 (σ.1 14))) := (by unfold takesF; rw [if_pos e2, h14, inC_nat (by omega) (by omega) (by omega), if_pos (by simp; omega)]); exact k1 m hm h14 (by omega) (by omega) (by rw [hs]) κ9 (by rw [hs]; exact g1) g2 (g3.trans hf))
      · -- 36
        refine aw_aload_n (pc := 36) (i := 0) dX8_takeNumber_36 rfl rfl ?_
        refine aw_iconst (pc := 37) dX8_takeNumber_37 iconst_2 ?_
        refine cVi (pc := 38) (As := [.int (nI 2)]) (rest := []) dX8_takeNumber_38 rfl oc_X8_104 rfl rfl (Nat.le_of_ble_eq_true rfl) rfl rfl ovX8 (Nat.le_refl _) (Nat.le_refl _) (c8_refuse h hf ?_)
        intro κ9 g1 g2 g3
        refine ⟨_, rfl, ?_⟩
        refine aw_pop (pc := 41) dX8_takeNumber_41 rfl ?_
        refine aw_iconst (pc := 42) dX8_takeNumber_42 iconst_m1 ?_
        exact aw_iret (pc := 43) dX8_takeNumber_43 rfl (Nat.le_refl _) (Nat.le_refl _) (by have e2 := tc.num.1.mpr h5; have hs : takesF σ lo hi = (false, badF σ 2) := (by unfold takesF; rw [if_pos e2, h14, inC_nat (by omega) (by omega) (by omega), if_neg (by simp; omega)]); exact k0 (by rw [hs]) κ9 (by rw [hs]; exact ⟨g1, g2⟩) g3)
  · -- 8
    refine aw_aload_n (pc := 8) (i := 0) dX8_takeNumber_8 rfl rfl ?_
    refine aw_iconst (pc := 9) dX8_takeNumber_9 iconst_1 ?_
    refine cVi (pc := 10) (As := [.int (nI 1)]) (rest := []) dX8_takeNumber_10 rfl oc_X8_104 rfl rfl (Nat.le_of_ble_eq_true rfl) rfl rfl ovX8 (Nat.le_refl _) (Nat.le_refl _) (c8_refuse h hf ?_)
    intro κ9 g1 g2 g3
    refine ⟨_, rfl, ?_⟩
    refine aw_pop (pc := 13) dX8_takeNumber_13 rfl ?_
    refine aw_iconst (pc := 14) dX8_takeNumber_14 iconst_m1 ?_
    exact aw_iret (pc := 15) dX8_takeNumber_15 rfl (Nat.le_refl _) (Nat.le_refl _) (by have hs : takesF σ lo hi = (false, badF σ 1) := (by unfold takesF; rw [if_neg (fun e => h5 (tc.num.1.mp e))]); exact k0 (by rw [hs]) κ9 (by rw [hs]; exact ⟨g1, g2⟩) g3)
theorem findF_congr {p q : Nat → Bool} : ∀ (n i : Nat), (∀ k, i ≤ k → k < i + n → p k = q k) → findF p n i = findF q n i := by
  intro n
  induction n with
  | zero => intro i _; rfl
  | succ n ih => intro i h; rw [findF, findF, h i (Nat.le_refl _) (by omega), ih (i + 1) (fun k h1 h2 => h k (by omega) (by omega))]
theorem findW_eq {σ : mS} {fr mn : Nat} {N : Nat → Int64} {v : Int64} (hw : NMR σ.2.2.2.1 v) (hn : ∀ k, k < mn → NMR (σ.2.2.2.2 9 (fr + k)) (N k)) : findF (fun k => decide (N k = v)) mn 0 = findW σ fr mn := by
  unfold findW
  refine findF_congr _ _ (fun k _ hk => ?_)
  exact decide_eq_decide.mpr ((hn k (by omega)).eq hw).symm
set_option maxHeartbeats 1000000 in
set_option maxRecDepth 20000 in
theorem c8_landHere {G : xG} {d : Nat} {Q : xQ} {a ad : Nat → Nat} {κ : kS} {R : va_W} {σ : mS} {c : Nat → Nat} {t : Nat → Nat} {NM : Nat → Int64} {fr : Nat} (h : TPR ad κ σ) (hf : κ.1 11 = .int (nI 0)) (hC : CHR G R c t NM) (hR : RES σ) (hl : t 0 ≤ 7) (hn : ∀ k, k < t 0 → NMR (σ.2.2.2.2 9 (fr + k)) ((NM) k)) (k1 : ∀ i, i < t 0 → findW σ fr (t 0) = some i → (looksF σ fr (t 0)).1 = true → Q (some (.int (nI i))) (wTp G.2.2.1 a κ ++ R)) (k0 : (looksF σ fr (t 0)).1 = false → ∀ κ9, FRl κ9 (looksF σ fr (t 0)).2 → TBs κ κ9 → Q (some (.int (-1))) (wTp G.2.2.1 a κ9 ++ R)) : MT G MX8_landHere (d + 1) 0 0 [.ref (a 13), .ref (c 13)] (wTp G.2.2.1 a κ ++ R) Q := by
  obtain ⟨kd, v, r, e8, e9, e10, hr, hkd, tc⟩ := h.view
  refine mt_start (L := [some (.ref (a 13)), some (.ref (c 13)), none]) rfl (Nat.le_of_ble_eq_true rfl) rfl ?_
  refine aw_aload_n (pc := 0) (i := 0) dX8_landHere_0 rfl rfl ?_
  refine cVi (pc := 1) (As := []) (rest := []) dX8_landHere_1 rfl oc_X8_107 rfl rfl (Nat.le_of_ble_eq_true rfl) rfl rfl ovX8 (Nat.le_refl _) (Nat.le_refl _) (c8_atName h hR ⟨_, rfl, ?_⟩)
  refine ab_if_eq (pc := 4) (tgt := 18) dX8_landHere_4 rfl (fun h4 => ?_) (fun h4 => ?_)
  · -- 18
    refine aw_iconst (pc := 18) dX8_landHere_18 iconst_m1 ?_
    refine aw_istore_n (pc := 19) (i := 2) dX8_landHere_19 rfl (Nat.le_of_ble_eq_true rfl) rfl ?_
    refine aw_iload_n (pc := 20) (i := 2) dX8_landHere_20 rfl rfl ?_
    refine aw_iconst (pc := 21) dX8_landHere_21 iconst_m1 ?_
    refine aw_icmp_ne (pc := 22) (tgt := 42) dX8_landHere_22 rfl (fun h22 => ?_) (fun h22 => ?_)
    · -- 42
      exact absurd rfl h22
    · -- 25
      refine aw_aload_n (pc := 25) (i := 0) dX8_landHere_25 rfl rfl ?_
      refine aw_aload_n (pc := 26) (i := 0) dX8_landHere_26 rfl rfl ?_
      refine cVi (pc := 27) (As := []) (rest := [.ref (a 13)]) dX8_landHere_27 rfl oc_X8_107 rfl rfl (Nat.le_of_ble_eq_true rfl) rfl rfl ovX8 (Nat.le_refl _) (Nat.le_refl _) (c8_atName h hR ⟨_, rfl, ?_⟩)
      refine ab_if_eq (pc := 30) (tgt := 37) dX8_landHere_30 rfl (fun h30 => ?_) (fun h30 => ?_)
      · -- 37
        refine aw_iconst (pc := 37) dX8_landHere_37 iconst_1 ?_
        refine cVi (pc := 38) (As := [.int (nI 1)]) (rest := []) dX8_landHere_38 rfl oc_X8_104 rfl rfl (Nat.le_of_ble_eq_true rfl) rfl rfl ovX8 (Nat.le_refl _) (Nat.le_refl _) (c8_refuse h hf ?_)
        intro κ9 g1 g2 g3
        refine ⟨_, rfl, ?_⟩
        refine aw_pop (pc := 41) dX8_landHere_41 rfl ?_
        refine aw_iload_n (pc := 42) (i := 2) dX8_landHere_42 rfl rfl ?_
        exact aw_iret (pc := 43) dX8_landHere_43 rfl (Nat.le_refl _) (Nat.le_refl _) (by have hs : looksF σ fr (t 0) = (false, badF σ 1) := (by unfold looksF; rw [if_neg (by rw [h4]; decide)]); exact k0 (by rw [hs]) κ9 (by rw [hs]; exact ⟨g1, g2⟩) g3)
      · -- 33
        exact absurd (h4.symm.trans h30) (by decide)
  · -- 7
    refine aw_aload_n (pc := 7) (i := 1) dX8_landHere_7 rfl rfl ?_
    refine aw_aload_n (pc := 8) (i := 0) dX8_landHere_8 rfl rfl ?_
    refine pg_X8_45 (pc := 9) (v := .long v) dX8_landHere_9 rfl e9 ?_
    refine cVi (pc := 12) (As := [.long v]) (rest := []) dX8_landHere_12 rfl oc_X8_111 rfl rfl (Nat.le_of_ble_eq_true rfl) rfl rfl (hC.sub mem_app).ov (Nat.le_refl _) (Nat.le_refl _) (c3_landNamed (hC.sub mem_app) hl ?_ ?_)
    · -- call
      intro hf9
      refine ⟨_, rfl, ?_⟩
      have hnm9 := (tc.name hR).mp h4
      rw [findW_eq (tc.nmr hnm9.1).1 hn] at hf9
      refine aw_goto (pc := 15) (tgt := 19) dX8_landHere_15 rfl ?_
      refine aw_istore_n (pc := 19) (i := 2) dX8_landHere_19 rfl (Nat.le_of_ble_eq_true rfl) rfl ?_
      refine aw_iload_n (pc := 20) (i := 2) dX8_landHere_20 rfl rfl ?_
      refine aw_iconst (pc := 21) dX8_landHere_21 iconst_m1 ?_
      refine aw_icmp_ne (pc := 22) (tgt := 42) dX8_landHere_22 rfl (fun h22 => ?_) (fun h22 => ?_)
      · -- 42
        exact absurd rfl h22
      · -- 25
        refine aw_aload_n (pc := 25) (i := 0) dX8_landHere_25 rfl rfl ?_
        refine aw_aload_n (pc := 26) (i := 0) dX8_landHere_26 rfl rfl ?_
        refine cVi (pc := 27) (As := []) (rest := [.ref (a 13)]) dX8_landHere_27 rfl oc_X8_107 rfl rfl (Nat.le_of_ble_eq_true rfl) rfl rfl ovX8 (Nat.le_refl _) (Nat.le_refl _) (c8_atName h hR ⟨_, rfl, ?_⟩)
        refine ab_if_eq (pc := 30) (tgt := 37) dX8_landHere_30 rfl (fun h30 => ?_) (fun h30 => ?_)
        · -- 37
          exact absurd (h4.symm.trans h30) (by decide)
        · -- 33
          refine aw_iconst (pc := 33) dX8_landHere_33 iconst_3 ?_
          refine aw_goto (pc := 34) (tgt := 38) dX8_landHere_34 rfl ?_
          refine cVi (pc := 38) (As := [.int (nI 3)]) (rest := []) dX8_landHere_38 rfl oc_X8_104 rfl rfl (Nat.le_of_ble_eq_true rfl) rfl rfl ovX8 (Nat.le_refl _) (Nat.le_refl _) (c8_refuse h hf ?_)
          intro κ9 g1 g2 g3
          refine ⟨_, rfl, ?_⟩
          refine aw_pop (pc := 41) dX8_landHere_41 rfl ?_
          refine aw_iload_n (pc := 42) (i := 2) dX8_landHere_42 rfl rfl ?_
          exact aw_iret (pc := 43) dX8_landHere_43 rfl (Nat.le_refl _) (Nat.le_refl _) (by have hs : looksF σ fr (t 0) = (false, badF (mI σ 18 (-1)) 3) := (by unfold looksF; rw [if_pos h4, if_neg (by rw [hf9]; decide)]); exact k0 (by rw [hs]) κ9 (by rw [hs]; exact ⟨g1, g2⟩) g3)
    · -- call
      intro i hf9 hi
      refine ⟨_, rfl, ?_⟩
      have hnm9 := (tc.name hR).mp h4
      rw [findW_eq (tc.nmr hnm9.1).1 hn] at hf9
      refine aw_goto (pc := 15) (tgt := 19) dX8_landHere_15 rfl ?_
      refine aw_istore_n (pc := 19) (i := 2) dX8_landHere_19 rfl (Nat.le_of_ble_eq_true rfl) rfl ?_
      refine aw_iload_n (pc := 20) (i := 2) dX8_landHere_20 rfl rfl ?_
      refine aw_iconst (pc := 21) dX8_landHere_21 iconst_m1 ?_
      refine aw_icmp_ne (pc := 22) (tgt := 42) dX8_landHere_22 rfl (fun h22 => ?_) (fun h22 => ?_)
      · -- 42
        refine aw_iload_n (pc := 42) (i := 2) dX8_landHere_42 rfl rfl ?_
        exact aw_iret (pc := 43) dX8_landHere_43 rfl (Nat.le_refl _) (Nat.le_refl _) (by have hs : looksF σ fr (t 0) = (true, mI σ 18 (nI i)) := (by unfold looksF; rw [if_pos h4, if_pos (by rw [hf9]; rfl), hf9]; rfl); exact k1 i hi hf9 (by rw [hs]))
      · -- 25
        exact absurd h22 (nI_m1 (by omega))
set_option maxHeartbeats 1000000 in
set_option maxRecDepth 20000 in
theorem c8_personHere {G : xG} {d : Nat} {Q : xQ} {a ad : Nat → Nat} {κ : kS} {R : va_W} {σ : mS} {c : Nat → Nat} {t : Nat → Nat} {NM : Nat → Int64} {fr : Nat} (h : TPR ad κ σ) (hf : κ.1 11 = .int (nI 0)) (hC : CHR G R c t NM) (hR : RES σ) (hl : t 2 ≤ 6) (hn : ∀ k, k < t 2 → NMR (σ.2.2.2.2 9 (fr + k)) ((fun k => NM (7 + k)) k)) (k1 : ∀ i, i < t 2 → findW σ fr (t 2) = some i → (looksF σ fr (t 2)).1 = true → Q (some (.int (nI i))) (wTp G.2.2.1 a κ ++ R)) (k0 : (looksF σ fr (t 2)).1 = false → ∀ κ9, FRl κ9 (looksF σ fr (t 2)).2 → TBs κ κ9 → Q (some (.int (-1))) (wTp G.2.2.1 a κ9 ++ R)) : MT G MX8_personHere (d + 1) 0 0 [.ref (a 13), .ref (c 13)] (wTp G.2.2.1 a κ ++ R) Q := by
  obtain ⟨kd, v, r, e8, e9, e10, hr, hkd, tc⟩ := h.view
  refine mt_start (L := [some (.ref (a 13)), some (.ref (c 13)), none]) rfl (Nat.le_of_ble_eq_true rfl) rfl ?_
  refine aw_aload_n (pc := 0) (i := 0) dX8_personHere_0 rfl rfl ?_
  refine cVi (pc := 1) (As := []) (rest := []) dX8_personHere_1 rfl oc_X8_107 rfl rfl (Nat.le_of_ble_eq_true rfl) rfl rfl ovX8 (Nat.le_refl _) (Nat.le_refl _) (c8_atName h hR ⟨_, rfl, ?_⟩)
  refine ab_if_eq (pc := 4) (tgt := 18) dX8_personHere_4 rfl (fun h4 => ?_) (fun h4 => ?_)
  · -- 18
    refine aw_iconst (pc := 18) dX8_personHere_18 iconst_m1 ?_
    refine aw_istore_n (pc := 19) (i := 2) dX8_personHere_19 rfl (Nat.le_of_ble_eq_true rfl) rfl ?_
    refine aw_iload_n (pc := 20) (i := 2) dX8_personHere_20 rfl rfl ?_
    refine aw_iconst (pc := 21) dX8_personHere_21 iconst_m1 ?_
    refine aw_icmp_ne (pc := 22) (tgt := 42) dX8_personHere_22 rfl (fun h22 => ?_) (fun h22 => ?_)
    · -- 42
      exact absurd rfl h22
    · -- 25
      refine aw_aload_n (pc := 25) (i := 0) dX8_personHere_25 rfl rfl ?_
      refine aw_aload_n (pc := 26) (i := 0) dX8_personHere_26 rfl rfl ?_
      refine cVi (pc := 27) (As := []) (rest := [.ref (a 13)]) dX8_personHere_27 rfl oc_X8_107 rfl rfl (Nat.le_of_ble_eq_true rfl) rfl rfl ovX8 (Nat.le_refl _) (Nat.le_refl _) (c8_atName h hR ⟨_, rfl, ?_⟩)
      refine ab_if_eq (pc := 30) (tgt := 37) dX8_personHere_30 rfl (fun h30 => ?_) (fun h30 => ?_)
      · -- 37
        refine aw_iconst (pc := 37) dX8_personHere_37 iconst_1 ?_
        refine cVi (pc := 38) (As := [.int (nI 1)]) (rest := []) dX8_personHere_38 rfl oc_X8_104 rfl rfl (Nat.le_of_ble_eq_true rfl) rfl rfl ovX8 (Nat.le_refl _) (Nat.le_refl _) (c8_refuse h hf ?_)
        intro κ9 g1 g2 g3
        refine ⟨_, rfl, ?_⟩
        refine aw_pop (pc := 41) dX8_personHere_41 rfl ?_
        refine aw_iload_n (pc := 42) (i := 2) dX8_personHere_42 rfl rfl ?_
        exact aw_iret (pc := 43) dX8_personHere_43 rfl (Nat.le_refl _) (Nat.le_refl _) (by have hs : looksF σ fr (t 2) = (false, badF σ 1) := (by unfold looksF; rw [if_neg (by rw [h4]; decide)]); exact k0 (by rw [hs]) κ9 (by rw [hs]; exact ⟨g1, g2⟩) g3)
      · -- 33
        exact absurd (h4.symm.trans h30) (by decide)
  · -- 7
    refine aw_aload_n (pc := 7) (i := 1) dX8_personHere_7 rfl rfl ?_
    refine aw_aload_n (pc := 8) (i := 0) dX8_personHere_8 rfl rfl ?_
    refine pg_X8_45 (pc := 9) (v := .long v) dX8_personHere_9 rfl e9 ?_
    refine cVi (pc := 12) (As := [.long v]) (rest := []) dX8_personHere_12 rfl oc_X8_117 rfl rfl (Nat.le_of_ble_eq_true rfl) rfl rfl (hC.sub mem_app).ov (Nat.le_refl _) (Nat.le_refl _) (c3_personNamed (hC.sub mem_app) hl ?_ ?_)
    · -- call
      intro hf9
      refine ⟨_, rfl, ?_⟩
      have hnm9 := (tc.name hR).mp h4
      rw [findW_eq (tc.nmr hnm9.1).1 hn] at hf9
      refine aw_goto (pc := 15) (tgt := 19) dX8_personHere_15 rfl ?_
      refine aw_istore_n (pc := 19) (i := 2) dX8_personHere_19 rfl (Nat.le_of_ble_eq_true rfl) rfl ?_
      refine aw_iload_n (pc := 20) (i := 2) dX8_personHere_20 rfl rfl ?_
      refine aw_iconst (pc := 21) dX8_personHere_21 iconst_m1 ?_
      refine aw_icmp_ne (pc := 22) (tgt := 42) dX8_personHere_22 rfl (fun h22 => ?_) (fun h22 => ?_)
      · -- 42
        exact absurd rfl h22
      · -- 25
        refine aw_aload_n (pc := 25) (i := 0) dX8_personHere_25 rfl rfl ?_
        refine aw_aload_n (pc := 26) (i := 0) dX8_personHere_26 rfl rfl ?_
        refine cVi (pc := 27) (As := []) (rest := [.ref (a 13)]) dX8_personHere_27 rfl oc_X8_107 rfl rfl (Nat.le_of_ble_eq_true rfl) rfl rfl ovX8 (Nat.le_refl _) (Nat.le_refl _) (c8_atName h hR ⟨_, rfl, ?_⟩)
        refine ab_if_eq (pc := 30) (tgt := 37) dX8_personHere_30 rfl (fun h30 => ?_) (fun h30 => ?_)
        · -- 37
          exact absurd (h4.symm.trans h30) (by decide)
        · -- 33
          refine aw_iconst (pc := 33) dX8_personHere_33 iconst_3 ?_
          refine aw_goto (pc := 34) (tgt := 38) dX8_personHere_34 rfl ?_
          refine cVi (pc := 38) (As := [.int (nI 3)]) (rest := []) dX8_personHere_38 rfl oc_X8_104 rfl rfl (Nat.le_of_ble_eq_true rfl) rfl rfl ovX8 (Nat.le_refl _) (Nat.le_refl _) (c8_refuse h hf ?_)
          intro κ9 g1 g2 g3
          refine ⟨_, rfl, ?_⟩
          refine aw_pop (pc := 41) dX8_personHere_41 rfl ?_
          refine aw_iload_n (pc := 42) (i := 2) dX8_personHere_42 rfl rfl ?_
          exact aw_iret (pc := 43) dX8_personHere_43 rfl (Nat.le_refl _) (Nat.le_refl _) (by have hs : looksF σ fr (t 2) = (false, badF (mI σ 18 (-1)) 3) := (by unfold looksF; rw [if_pos h4, if_neg (by rw [hf9]; decide)]); exact k0 (by rw [hs]) κ9 (by rw [hs]; exact ⟨g1, g2⟩) g3)
    · -- call
      intro i hf9 hi
      refine ⟨_, rfl, ?_⟩
      have hnm9 := (tc.name hR).mp h4
      rw [findW_eq (tc.nmr hnm9.1).1 hn] at hf9
      refine aw_goto (pc := 15) (tgt := 19) dX8_personHere_15 rfl ?_
      refine aw_istore_n (pc := 19) (i := 2) dX8_personHere_19 rfl (Nat.le_of_ble_eq_true rfl) rfl ?_
      refine aw_iload_n (pc := 20) (i := 2) dX8_personHere_20 rfl rfl ?_
      refine aw_iconst (pc := 21) dX8_personHere_21 iconst_m1 ?_
      refine aw_icmp_ne (pc := 22) (tgt := 42) dX8_personHere_22 rfl (fun h22 => ?_) (fun h22 => ?_)
      · -- 42
        refine aw_iload_n (pc := 42) (i := 2) dX8_personHere_42 rfl rfl ?_
        exact aw_iret (pc := 43) dX8_personHere_43 rfl (Nat.le_refl _) (Nat.le_refl _) (by have hs : looksF σ fr (t 2) = (true, mI σ 18 (nI i)) := (by unfold looksF; rw [if_pos h4, if_pos (by rw [hf9]; rfl), hf9]; rfl); exact k1 i hi hf9 (by rw [hs]))
      · -- 25
        exact absurd h22 (nI_m1 (by omega))
set_option maxHeartbeats 1000000 in
set_option maxRecDepth 20000 in
theorem c8_takeLand {G : xG} {d : Nat} {Q : xQ} {a ad : Nat → Nat} {κ : kS} {R : va_W} {σ : mS} {c : Nat → Nat} {t : Nat → Nat} {NM : Nat → Int64} {fr : Nat} (h : TPR ad κ σ) (hf : κ.1 11 = .int (nI 0)) (hC : CHR G R c t NM) (hR : RES σ) (hl : t 0 ≤ 7) (hn : ∀ k, k < t 0 → NMR (σ.2.2.2.2 9 (fr + k)) (NM k)) (k1 : ∀ i, i < t 0 → findW σ fr (t 0) = some i → (takesNameF σ fr (t 0)).1 = true → ∀ κ9, TPR ad κ9 (takesNameF σ fr (t 0)).2 → TBs κ κ9 → κ9.1 11 = .int (nI 0) → Q (some (.int (nI i))) (wTp G.2.2.1 a κ9 ++ R)) (k0 : (takesNameF σ fr (t 0)).1 = false → ∀ κ9, FRl κ9 (takesNameF σ fr (t 0)).2 → TBs κ κ9 → Q (some (.int (-1))) (wTp G.2.2.1 a κ9 ++ R)) : MT G MX8_takeLand (d + 2) 0 0 [.ref (a 13), .ref (c 13)] (wTp G.2.2.1 a κ ++ R) Q := by
  obtain ⟨kd, v, r, e8, e9, e10, hr, hkd, tc⟩ := h.view
  refine mt_start (L := [some (.ref (a 13)), some (.ref (c 13)), none]) rfl (Nat.le_of_ble_eq_true rfl) rfl ?_
  refine aw_aload_n (pc := 0) (i := 0) dX8_takeLand_0 rfl rfl ?_
  refine aw_aload_n (pc := 1) (i := 1) dX8_takeLand_1 rfl rfl ?_
  refine cVi (pc := 2) (As := [.ref (c 13)]) (rest := []) dX8_takeLand_2 rfl oc_X8_120 rfl rfl (Nat.le_of_ble_eq_true rfl) rfl rfl ovX8 (Nat.le_refl _) (Nat.le_refl _) (c8_landHere h hf hC hR hl hn ?_ ?_)
  · -- call
    intro i hi hw hs
    refine ⟨_, rfl, ?_⟩
    refine aw_istore_n (pc := 5) (i := 2) dX8_takeLand_5 rfl (Nat.le_of_ble_eq_true rfl) rfl ?_
    refine aw_iload_n (pc := 6) (i := 2) dX8_takeLand_6 rfl rfl ?_
    refine aw_iconst (pc := 7) dX8_takeLand_7 iconst_m1 ?_
    refine aw_icmp_eq (pc := 8) (tgt := 15) dX8_takeLand_8 rfl (fun h8 => ?_) (fun h8 => ?_)
    · -- 15
      exact absurd h8 (nI_m1 (by omega))
    · -- 11
      have hnm9 : isNameB σ = true := by unfold looksF at hs; split at hs; assumption; cases hs
      have e9 : (looksF σ fr (t 0)).2 = mI σ 18 (nI i) := by unfold looksF; rw [if_pos hnm9, if_pos (by rw [hw]; rfl), hw]; rfl
      have h18 : TPR ad κ (looksF σ fr (t 0)).2 := by rw [e9]; exact h.of rfl rfl rfl rfl rfl rfl rfl rfl
      have hp : (looksF σ fr (t 0)).2.1 11 = nI 1 ∨ (looksF σ fr (t 0)).2.1 11 = nI 2 ∨ (looksF σ fr (t 0)).2.1 11 = nI 3 := by rw [e9]; exact Or.inl (tc.nmr ((tc.name hR).mp hnm9).1).2
      refine aw_aload_n (pc := 11) (i := 0) dX8_takeLand_11 rfl rfl ?_
      refine cVv (pc := 12) (As := []) (rest := []) dX8_takeLand_12 rfl oc_X8_76 rfl rfl (Nat.le_of_ble_eq_true rfl) rfl rfl ovX8 (Nat.le_refl _) (Nat.le_refl _) (c8_stepR (σ := (looksF σ fr (t 0)).2) h18 hp ?_)
      intro κ9 g1 g2 g3
      refine ⟨rfl, ?_⟩
      refine aw_iload_n (pc := 15) (i := 2) dX8_takeLand_15 rfl rfl ?_
      exact aw_iret (pc := 16) dX8_takeLand_16 rfl (Nat.le_refl _) (Nat.le_refl _) (by have e : takesNameF σ fr (t 0) = (true, nx (looksF σ fr (t 0)).2) := (by unfold takesNameF; rw [if_pos hs]); exact k1 i hi hw (by rw [e]) κ9 (by rw [e]; exact g1) g2 (g3.trans hf))
  · -- call
    intro hs κ9 g1 g3
    refine ⟨_, rfl, ?_⟩
    refine aw_istore_n (pc := 5) (i := 2) dX8_takeLand_5 rfl (Nat.le_of_ble_eq_true rfl) rfl ?_
    refine aw_iload_n (pc := 6) (i := 2) dX8_takeLand_6 rfl rfl ?_
    refine aw_iconst (pc := 7) dX8_takeLand_7 iconst_m1 ?_
    refine aw_icmp_eq (pc := 8) (tgt := 15) dX8_takeLand_8 rfl (fun h8 => ?_) (fun h8 => ?_)
    · -- 15
      refine aw_iload_n (pc := 15) (i := 2) dX8_takeLand_15 rfl rfl ?_
      exact aw_iret (pc := 16) dX8_takeLand_16 rfl (Nat.le_refl _) (Nat.le_refl _) (by have e : takesNameF σ fr (t 0) = (false, (looksF σ fr (t 0)).2) := (by unfold takesNameF; rw [if_neg (by rw [hs]; decide)]); exact k0 (by rw [e]) κ9 (by rw [e]; exact g1) g3)
    · -- 11
      exact absurd rfl h8
