def NWv (σ : mS) (NW : Nat → Nat) : Prop := (∀ k, k < σ.2.1 6 0 → σ.2.2.2.2 9 k = lN (NW k) ∧ okW (NW k) ∧ NW k < 256 ^ 7) ∧ ∀ k, k < σ.2.1 6 2 → σ.2.2.2.2 9 (7 + k) = lN (NW (7 + k)) ∧ okW (NW (7 + k)) ∧ NW (7 + k) < 256 ^ 7
theorem er8_ok {l : List Nat} (h : okL l) : okW (er8 l) ∧ er8 l < 256 ^ 7 := by
  have h7 : er8 l < 256 ^ 7 := Nat.lt_of_lt_of_le (er8_lt l h.2) (Nat.pow_le_pow_right (by decide) h.1)
  refine ⟨⟨Nat.lt_of_lt_of_le h7 (by decide), fun n => ?_⟩, h7⟩
  rw [er8_div h n]
  cases e : l[n]? with
  | none => show 0 < 128; omega
  | some c => have := h.2 c (List.mem_of_getElem? e); show c < 128; omega
theorem nm_L {t0 t2 : Nat} {nm NM : Nat → Int64} (h0 : t0 ≤ 7) (a : ∀ k, k < t0 → NMR (nm k) (NM k)) (b : ∀ k, k < t2 → NMR (nm (7 + k)) (NM (7 + k))) : ∃ L : Nat → List Nat, (∀ k, k < t0 → okL (L k) ∧ nm k = lN (er8 (L k)) ∧ NM k = lN (er5 (L k))) ∧ ∀ k, k < t2 → okL (L (7 + k)) ∧ nm (7 + k) = lN (er8 (L (7 + k))) ∧ NM (7 + k) = lN (er5 (L (7 + k))) := by
  have h : ∀ j : Nat, ∃ l : List Nat, (j < t0 ∨ (7 ≤ j ∧ j - 7 < t2)) → okL l ∧ nm j = lN (er8 l) ∧ NM j = lN (er5 l) := fun j => by
    by_cases q : j < t0
    · obtain ⟨l, h1⟩ := a j q
      exact ⟨l, fun _ => h1⟩
    · by_cases q2 : 7 ≤ j ∧ j - 7 < t2
      · obtain ⟨l, h1⟩ := b (j - 7) q2.2
        rw [show 7 + (j - 7) = j by omega] at h1
        exact ⟨l, fun _ => h1⟩
      · exact ⟨[], fun q9 => absurd q9 (by omega)⟩
  obtain ⟨L, hL⟩ := Classical.axiomOfChoice h
  exact ⟨L, fun k hk => hL k (Or.inl hk), fun k hk => hL (7 + k) (Or.inr ⟨by omega, by omega⟩)⟩
theorem k_of (p : (Nat → Nat) × Nat) : layK (kNn.getD 0 []) p = layP (sayG 28518 p) 32 := rfl
theorem k_in (p : (Nat → Nat) × Nat) : layK (kNn.getD 1 []) p = layP (sayG 26990 p) 32 := rfl
theorem k_sp (p : (Nat → Nat) × Nat) : layK (kNn.getD 2 []) p = layP p 32 := rfl
theorem RTx_row {k : kS} {p : (Nat → Nat) × Nat} (h : RTx k p) (h40 : p.2 ≤ 40) : jRow k 40 (nI p.2) p.1 40 := by
  refine ⟨Or.inr ⟨p.2, h40, rfl⟩, _, h, by rw [List.length_map, List.length_range]; exact h40, fun x => ?_⟩
  have e : (List.range p.2).map (fun i => nI (p.1 i)) = ((List.range p.2).map p.1).map nI := by rw [List.map_map]; rfl
  rw [e]
  exact row_eq (by rw [List.length_map, List.length_range]) (by omega) (fun i hi => by simp [hi]) x
theorem dig_le (v : Nat) (p : (Nat → Nat) × Nat) : (digG v p).2 ≤ p.2 + 3 := by
  unfold digG
  repeat' split
  all_goals (simp only [layP]; omega)
set_option maxHeartbeats 1000000 in
set_option maxRecDepth 20000 in
theorem s_passW {G : xG} {d : Nat} {Q : xQ} {a : Nat → Nat} {σ : mS} {NW : Nat → Nat} {q : Int32} (hw : WT (σ.2.1 6)) (hN : NWv σ NW) (kk : Q (some (.int (passA NW (σ.2.1 6) q (σ.2.1 44)))) (mW G.2.2.1 a (passS σ NW q))) : MT G MX12_pass (d + 3) 0 0 [.ref (a 60), .int q] (mW G.2.2.1 a σ) Q := by
  obtain ⟨hb, h0, h1, h2, hR, hP, hD, hC, hT⟩ := id hw
  refine mt_start (L := [some (.ref (a 60)), some (.int q), none]) rfl (Nat.le_of_ble_eq_true rfl) rfl ?_
  refine aw_aload_n (pc := 0) (i := 0) dX12_pass_0 rfl rfl ?_
  refine aw_iconst (pc := 1) dX12_pass_1 iconst_0 ?_
  refine mp_thrown (pc := 2) dX12_pass_2 rfl ?_
  refine aw_aload_n (pc := 5) (i := 0) dX12_pass_5 rfl rfl ?_
  refine aw_iload_n (pc := 6) (i := 1) dX12_pass_6 rfl rfl ?_
  refine mc_I (pc := 7) (As := [.int q]) (rest := []) dX12_pass_7 rfl ok_X12_302 rfl rfl rfl (Nat.le_of_ble_eq_true rfl) (s_isPerson ⟨_, _, rfl, rfl, ?_⟩)
  refine aw_top (y := bI (inB (σ.2.1 6 2) q)) rfl ?_
  refine ab_if_ne (pc := 10) (tgt := 15) dX12_pass_10 rfl (fun h10 => ?_) (fun h10 => ?_)
  · -- 15
    obtain ⟨qn, b_qn, rfl⟩ := inB_t (by omega) h10
    have e_qn := nI_clamp (n := qn) (by omega)
    refine aw_aload_n (pc := 15) (i := 0) dX12_pass_15 rfl rfl ?_
    refine aw_iconst (pc := 16) dX12_pass_16 iconst_0 ?_
    refine mp_textMany (pc := 17) dX12_pass_17 rfl ?_
    have hq9 := hP qn b_qn
    have hhm : σ.2.1 6 (79 + qn) < σ.2.1 6 0 := hq9.1
    have hat : σ.2.1 6 (108 + qn) < σ.2.1 6 0 := hq9.2.1
    refine aw_ws (w9 := mW G.2.2.1 a (txS (mI σ 0 (nI 0)) (σ.2.1 44, 0))) rfl ?_
    refine aw_aload_n (pc := 20) (i := 0) dX12_pass_20 rfl rfl ?_
    refine aw_aload_n (pc := 21) (i := 0) dX12_pass_21 rfl rfl ?_
    refine mg_names (pc := 22) dX12_pass_22 rfl ?_
    refine aw_bipush (pc := 25) dX12_pass_25 bipush_7 ?_
    refine aw_iload_n (pc := 27) (i := 1) dX12_pass_27 rfl rfl ?_
    refine an_add (pc := 28) dX12_pass_28 ?_
    refine ml_names (pc := 29) dX12_pass_29 (by omega) ?_
    refine aw_topJ (y := σ.2.2.2.2 9 (7 + qn)) rfl ?_
    refine aw_topJ (y := lN (NW (7 + qn))) (hN.2 qn (by omega)).1 ?_
    refine mc_V (pc := 30) (As := [.long (lN (NW (7 + qn)))]) (rest := []) dX12_pass_30 rfl ok_X12_421 rfl rfl rfl (Nat.le_of_ble_eq_true rfl) (s_spells (W := NW (7 + qn)) (hN.2 qn (by omega)).2.1 (by show 0 + 8 ≤ 40; omega) ⟨_, rfl, rfl, ?_⟩)
    have b1 : (spellG (NW (7 + qn)) 8 (σ.2.1 44, 0)).2 ≤ 7 := Nat.le_trans (spellG_le (hN.2 qn (by omega)).2.2 8 _) (by simp)
    refine aw_aload_n (pc := 33) (i := 0) dX12_pass_33 rfl rfl ?_
    refine aw_ldc2 (pc := 34) dX12_pass_34 tw_1399 ?_
    refine mc_V (pc := 37) (As := [.long ((28518 : Int64))]) (rest := []) dX12_pass_37 rfl ok_X12_425 rfl rfl rfl (Nat.le_of_ble_eq_true rfl) (s_says (W := 28518) ok_of (by omega) ⟨_, rfl, rfl, ?_⟩)
    have b2 : (sayG 28518 (spellG (NW (7 + qn)) 8 (σ.2.1 44, 0))).2 ≤ 10 := by have := sayG_le (show 28518 < 256 ^ 2 by decide) (by decide) (spellG (NW (7 + qn)) 8 (σ.2.1 44, 0)); omega
    refine aw_aload_n (pc := 40) (i := 0) dX12_pass_40 rfl rfl ?_
    refine aw_aload_n (pc := 41) (i := 0) dX12_pass_41 rfl rfl ?_
    refine mg_names (pc := 42) dX12_pass_42 rfl ?_
    refine aw_aload_n (pc := 45) (i := 0) dX12_pass_45 rfl rfl ?_
    refine mg_s (pc := 46) dX12_pass_46 rfl ?_
    refine aw_bipush (pc := 49) dX12_pass_49 bipush_79 ?_
    refine aw_iload_n (pc := 51) (i := 1) dX12_pass_51 rfl rfl ?_
    refine an_add (pc := 52) dX12_pass_52 ?_
    refine ml_s (pc := 53) dX12_pass_53 (by omega) ?_
    refine aw_top (y := (nI (σ.2.1 6 (79 + qn)))) rfl ?_
    refine ml_names (pc := 54) dX12_pass_54 (by omega) ?_
    refine aw_topJ (y := σ.2.2.2.2 9 (σ.2.1 6 (79 + qn))) rfl ?_
    refine aw_topJ (y := lN (NW (σ.2.1 6 (79 + qn)))) (hN.1 _ hhm).1 ?_
    refine mc_V (pc := 55) (As := [.long (lN (NW (σ.2.1 6 (79 + qn))))]) (rest := []) dX12_pass_55 rfl ok_X12_425 rfl rfl rfl (Nat.le_of_ble_eq_true rfl) (s_says (W := (NW (σ.2.1 6 (79 + qn)))) (hN.1 _ hhm).2.1 (by omega) ⟨_, rfl, rfl, ?_⟩)
    have b3 : (sayG (NW (σ.2.1 6 (79 + qn))) (sayG 28518 (spellG (NW (7 + qn)) 8 (σ.2.1 44, 0)))).2 ≤ 18 := by have := sayG_le (hN.1 _ hhm).2.2 (by decide) (sayG 28518 (spellG (NW (7 + qn)) 8 (σ.2.1 44, 0))); omega
    refine aw_aload_n (pc := 58) (i := 0) dX12_pass_58 rfl rfl ?_
    refine aw_ldc2 (pc := 59) dX12_pass_59 tw_1398 ?_
    refine mc_V (pc := 62) (As := [.long ((26990 : Int64))]) (rest := []) dX12_pass_62 rfl ok_X12_425 rfl rfl rfl (Nat.le_of_ble_eq_true rfl) (s_says (W := 26990) ok_in (by omega) ⟨_, rfl, rfl, ?_⟩)
    have b4 : (sayG 26990 (sayG (NW (σ.2.1 6 (79 + qn))) (sayG 28518 (spellG (NW (7 + qn)) 8 (σ.2.1 44, 0))))).2 ≤ 21 := by have := sayG_le (show 26990 < 256 ^ 2 by decide) (by decide) (sayG (NW (σ.2.1 6 (79 + qn))) (sayG 28518 (spellG (NW (7 + qn)) 8 (σ.2.1 44, 0)))); omega
    refine aw_aload_n (pc := 65) (i := 0) dX12_pass_65 rfl rfl ?_
    refine aw_aload_n (pc := 66) (i := 0) dX12_pass_66 rfl rfl ?_
    refine mg_names (pc := 67) dX12_pass_67 rfl ?_
    refine aw_aload_n (pc := 70) (i := 0) dX12_pass_70 rfl rfl ?_
    refine mg_s (pc := 71) dX12_pass_71 rfl ?_
    refine aw_bipush (pc := 74) dX12_pass_74 bipush_108 ?_
    refine aw_iload_n (pc := 76) (i := 1) dX12_pass_76 rfl rfl ?_
    refine an_add (pc := 77) dX12_pass_77 ?_
    refine ml_s (pc := 78) dX12_pass_78 (by omega) ?_
    refine aw_top (y := (nI (σ.2.1 6 (108 + qn)))) rfl ?_
    refine ml_names (pc := 79) dX12_pass_79 (by omega) ?_
    refine aw_topJ (y := σ.2.2.2.2 9 (σ.2.1 6 (108 + qn))) rfl ?_
    refine aw_topJ (y := lN (NW (σ.2.1 6 (108 + qn)))) (hN.1 _ hat).1 ?_
    refine mc_V (pc := 80) (As := [.long (lN (NW (σ.2.1 6 (108 + qn))))]) (rest := []) dX12_pass_80 rfl ok_X12_425 rfl rfl rfl (Nat.le_of_ble_eq_true rfl) (s_says (W := (NW (σ.2.1 6 (108 + qn)))) (hN.1 _ hat).2.1 (by omega) ⟨_, rfl, rfl, ?_⟩)
    have b5 : (sayG (NW (σ.2.1 6 (108 + qn))) (sayG 26990 (sayG (NW (σ.2.1 6 (79 + qn))) (sayG 28518 (spellG (NW (7 + qn)) 8 (σ.2.1 44, 0)))))).2 ≤ 29 := by have := sayG_le (hN.1 _ hat).2.2 (by decide) (sayG 26990 (sayG (NW (σ.2.1 6 (79 + qn))) (sayG 28518 (spellG (NW (7 + qn)) 8 (σ.2.1 44, 0))))); omega
    refine aw_aload_n (pc := 83) (i := 0) dX12_pass_83 rfl rfl ?_
    refine aw_bipush (pc := 84) dX12_pass_84 bipush_32 ?_
    refine mc_V (pc := 86) (As := [.int (nI 32)]) (rest := []) dX12_pass_86 rfl ok_X12_418 rfl rfl rfl (Nat.le_of_ble_eq_true rfl) (s_lays (c := 32) (by first | omega | (simp only [layP]; omega)) (by decide) ⟨_, rfl, rfl, ?_⟩)
    refine aw_aload_n (pc := 89) (i := 0) dX12_pass_89 rfl rfl ?_
    refine mg_s (pc := 90) dX12_pass_90 rfl ?_
    refine aw_bipush (pc := 93) dX12_pass_93 bipush_114 ?_
    refine aw_iload_n (pc := 95) (i := 1) dX12_pass_95 rfl rfl ?_
    refine an_add (pc := 96) dX12_pass_96 ?_
    refine ml_s (pc := 97) dX12_pass_97 (by omega) ?_
    refine aw_top (y := (nI (σ.2.1 6 (114 + qn)))) rfl ?_
    refine aw_istore_n (pc := 98) (i := 2) dX12_pass_98 rfl (Nat.le_of_ble_eq_true rfl) rfl ?_
    refine aw_iload_n (pc := 99) (i := 2) dX12_pass_99 rfl rfl ?_
    refine aw_bipush (pc := 100) dX12_pass_100 bipush_99 ?_
    refine an_icmp_le (pc := 102) (tgt := 116) dX12_pass_102 rfl (Nat.lt_trans (hb _) (by decide)) (by decide) (fun h102 => ?_) (fun h102 => ?_)
    · -- 116
      refine aw_iload_n (pc := 116) (i := 2) dX12_pass_116 rfl rfl ?_
      refine aw_bipush (pc := 117) dX12_pass_117 bipush_9 ?_
      refine an_icmp_le (pc := 119) (tgt := 136) dX12_pass_119 rfl (Nat.lt_trans (hb _) (by decide)) (by decide) (fun h119 => ?_) (fun h119 => ?_)
      · -- 136
        refine aw_aload_n (pc := 136) (i := 0) dX12_pass_136 rfl rfl ?_
        refine aw_bipush (pc := 137) dX12_pass_137 bipush_48 ?_
        refine aw_iload_n (pc := 139) (i := 2) dX12_pass_139 rfl rfl ?_
        refine aw_bipush (pc := 140) dX12_pass_140 bipush_10 ?_
        refine an_rem (pc := 142) dX12_pass_142 (Nat.lt_trans (hb _) (by decide)) (by decide) (by decide) ?_
        refine an_add (pc := 143) dX12_pass_143 ?_
        refine mc_V (pc := 144) (As := [.int (nI (48 + ((σ.2.1 6 (114 + qn)) % 10)))]) (rest := []) dX12_pass_144 rfl ok_X12_418 rfl rfl rfl (Nat.le_of_ble_eq_true rfl) (s_lays (c := 48 + ((σ.2.1 6 (114 + qn)) % 10)) (by first | omega | (simp only [layP]; omega)) (by omega) ⟨_, rfl, rfl, ?_⟩)
        refine aw_aload_n (pc := 147) (i := 0) dX12_pass_147 rfl rfl ?_
        refine mg_textMany (pc := 148) dX12_pass_148 rfl ?_
        refine aw_top (y := (nI (layP (layP (sayG (NW (σ.2.1 6 (108 + qn))) (sayG 26990 (sayG (NW (σ.2.1 6 (79 + qn))) (sayG 28518 (spellG (NW (7 + qn)) 8 (σ.2.1 44, 0)))))) 32) (48 + ((σ.2.1 6 (114 + qn)) % 10))).2)) rfl ?_
        exact aw_iret (pc := 151) dX12_pass_151 rfl (Nat.le_refl _) (Nat.le_refl _) (by simp only [passA, passS, passG, digG, h10, e_qn, if_true, reduceIte, if_neg (Nat.not_lt.mpr h102), if_neg (Nat.not_lt.mpr h119)] at kk; exact kk)
      · -- 122
        refine aw_aload_n (pc := 122) (i := 0) dX12_pass_122 rfl rfl ?_
        refine aw_bipush (pc := 123) dX12_pass_123 bipush_48 ?_
        refine aw_iload_n (pc := 125) (i := 2) dX12_pass_125 rfl rfl ?_
        refine aw_bipush (pc := 126) dX12_pass_126 bipush_10 ?_
        refine an_div (pc := 128) dX12_pass_128 (Nat.lt_trans (hb _) (by decide)) (by decide) (by decide) ?_
        refine aw_bipush (pc := 129) dX12_pass_129 bipush_10 ?_
        refine an_rem (pc := 131) dX12_pass_131 (by omega) (by decide) (by decide) ?_
        refine an_add (pc := 132) dX12_pass_132 ?_
        refine mc_V (pc := 133) (As := [.int (nI (48 + (((σ.2.1 6 (114 + qn)) / 10) % 10)))]) (rest := []) dX12_pass_133 rfl ok_X12_418 rfl rfl rfl (Nat.le_of_ble_eq_true rfl) (s_lays (c := 48 + (((σ.2.1 6 (114 + qn)) / 10) % 10)) (by first | omega | (simp only [layP]; omega)) (by omega) ⟨_, rfl, rfl, ?_⟩)
        refine aw_aload_n (pc := 136) (i := 0) dX12_pass_136 rfl rfl ?_
        refine aw_bipush (pc := 137) dX12_pass_137 bipush_48 ?_
        refine aw_iload_n (pc := 139) (i := 2) dX12_pass_139 rfl rfl ?_
        refine aw_bipush (pc := 140) dX12_pass_140 bipush_10 ?_
        refine an_rem (pc := 142) dX12_pass_142 (Nat.lt_trans (hb _) (by decide)) (by decide) (by decide) ?_
        refine an_add (pc := 143) dX12_pass_143 ?_
        refine mc_V (pc := 144) (As := [.int (nI (48 + ((σ.2.1 6 (114 + qn)) % 10)))]) (rest := []) dX12_pass_144 rfl ok_X12_418 rfl rfl rfl (Nat.le_of_ble_eq_true rfl) (s_lays (c := 48 + ((σ.2.1 6 (114 + qn)) % 10)) (by first | omega | (simp only [layP]; omega)) (by omega) ⟨_, rfl, rfl, ?_⟩)
        refine aw_aload_n (pc := 147) (i := 0) dX12_pass_147 rfl rfl ?_
        refine mg_textMany (pc := 148) dX12_pass_148 rfl ?_
        refine aw_top (y := (nI (layP (layP (layP (sayG (NW (σ.2.1 6 (108 + qn))) (sayG 26990 (sayG (NW (σ.2.1 6 (79 + qn))) (sayG 28518 (spellG (NW (7 + qn)) 8 (σ.2.1 44, 0)))))) 32) (48 + (((σ.2.1 6 (114 + qn)) / 10) % 10))) (48 + ((σ.2.1 6 (114 + qn)) % 10))).2)) rfl ?_
        exact aw_iret (pc := 151) dX12_pass_151 rfl (Nat.le_refl _) (Nat.le_refl _) (by simp only [passA, passS, passG, digG, h10, e_qn, if_true, reduceIte, if_neg (Nat.not_lt.mpr h102), if_pos h119] at kk; exact kk)
    · -- 105
      refine aw_aload_n (pc := 105) (i := 0) dX12_pass_105 rfl rfl ?_
      refine aw_bipush (pc := 106) dX12_pass_106 bipush_48 ?_
      refine aw_iload_n (pc := 108) (i := 2) dX12_pass_108 rfl rfl ?_
      refine aw_bipush (pc := 109) dX12_pass_109 bipush_100 ?_
      refine an_div (pc := 111) dX12_pass_111 (Nat.lt_trans (hb _) (by decide)) (by decide) (by decide) ?_
      refine an_add (pc := 112) dX12_pass_112 ?_
      refine mc_V (pc := 113) (As := [.int (nI (48 + ((σ.2.1 6 (114 + qn)) / 100)))]) (rest := []) dX12_pass_113 rfl ok_X12_418 rfl rfl rfl (Nat.le_of_ble_eq_true rfl) (s_lays (c := 48 + ((σ.2.1 6 (114 + qn)) / 100)) (by first | omega | (simp only [layP]; omega)) (by omega) ⟨_, rfl, rfl, ?_⟩)
      refine aw_iload_n (pc := 116) (i := 2) dX12_pass_116 rfl rfl ?_
      refine aw_bipush (pc := 117) dX12_pass_117 bipush_9 ?_
      refine an_icmp_le (pc := 119) (tgt := 136) dX12_pass_119 rfl (Nat.lt_trans (hb _) (by decide)) (by decide) (fun h119 => ?_) (fun h119 => ?_)
      · -- 136
        refine aw_aload_n (pc := 136) (i := 0) dX12_pass_136 rfl rfl ?_
        refine aw_bipush (pc := 137) dX12_pass_137 bipush_48 ?_
        refine aw_iload_n (pc := 139) (i := 2) dX12_pass_139 rfl rfl ?_
        refine aw_bipush (pc := 140) dX12_pass_140 bipush_10 ?_
        refine an_rem (pc := 142) dX12_pass_142 (Nat.lt_trans (hb _) (by decide)) (by decide) (by decide) ?_
        refine an_add (pc := 143) dX12_pass_143 ?_
        refine mc_V (pc := 144) (As := [.int (nI (48 + ((σ.2.1 6 (114 + qn)) % 10)))]) (rest := []) dX12_pass_144 rfl ok_X12_418 rfl rfl rfl (Nat.le_of_ble_eq_true rfl) (s_lays (c := 48 + ((σ.2.1 6 (114 + qn)) % 10)) (by first | omega | (simp only [layP]; omega)) (by omega) ⟨_, rfl, rfl, ?_⟩)
        refine aw_aload_n (pc := 147) (i := 0) dX12_pass_147 rfl rfl ?_
        refine mg_textMany (pc := 148) dX12_pass_148 rfl ?_
        refine aw_top (y := (nI (layP (layP (layP (sayG (NW (σ.2.1 6 (108 + qn))) (sayG 26990 (sayG (NW (σ.2.1 6 (79 + qn))) (sayG 28518 (spellG (NW (7 + qn)) 8 (σ.2.1 44, 0)))))) 32) (48 + ((σ.2.1 6 (114 + qn)) / 100))) (48 + ((σ.2.1 6 (114 + qn)) % 10))).2)) rfl ?_
        exact aw_iret (pc := 151) dX12_pass_151 rfl (Nat.le_refl _) (Nat.le_refl _) (by simp only [passA, passS, passG, digG, h10, e_qn, if_true, reduceIte, if_pos h102, if_neg (Nat.not_lt.mpr h119)] at kk; exact kk)
      · -- 122
        refine aw_aload_n (pc := 122) (i := 0) dX12_pass_122 rfl rfl ?_
        refine aw_bipush (pc := 123) dX12_pass_123 bipush_48 ?_
        refine aw_iload_n (pc := 125) (i := 2) dX12_pass_125 rfl rfl ?_
        refine aw_bipush (pc := 126) dX12_pass_126 bipush_10 ?_
        refine an_div (pc := 128) dX12_pass_128 (Nat.lt_trans (hb _) (by decide)) (by decide) (by decide) ?_
        refine aw_bipush (pc := 129) dX12_pass_129 bipush_10 ?_
        refine an_rem (pc := 131) dX12_pass_131 (by omega) (by decide) (by decide) ?_
        refine an_add (pc := 132) dX12_pass_132 ?_
        refine mc_V (pc := 133) (As := [.int (nI (48 + (((σ.2.1 6 (114 + qn)) / 10) % 10)))]) (rest := []) dX12_pass_133 rfl ok_X12_418 rfl rfl rfl (Nat.le_of_ble_eq_true rfl) (s_lays (c := 48 + (((σ.2.1 6 (114 + qn)) / 10) % 10)) (by first | omega | (simp only [layP]; omega)) (by omega) ⟨_, rfl, rfl, ?_⟩)
        refine aw_aload_n (pc := 136) (i := 0) dX12_pass_136 rfl rfl ?_
        refine aw_bipush (pc := 137) dX12_pass_137 bipush_48 ?_
        refine aw_iload_n (pc := 139) (i := 2) dX12_pass_139 rfl rfl ?_
        refine aw_bipush (pc := 140) dX12_pass_140 bipush_10 ?_
        refine an_rem (pc := 142) dX12_pass_142 (Nat.lt_trans (hb _) (by decide)) (by decide) (by decide) ?_
        refine an_add (pc := 143) dX12_pass_143 ?_
        refine mc_V (pc := 144) (As := [.int (nI (48 + ((σ.2.1 6 (114 + qn)) % 10)))]) (rest := []) dX12_pass_144 rfl ok_X12_418 rfl rfl rfl (Nat.le_of_ble_eq_true rfl) (s_lays (c := 48 + ((σ.2.1 6 (114 + qn)) % 10)) (by first | omega | (simp only [layP]; omega)) (by omega) ⟨_, rfl, rfl, ?_⟩)
        refine aw_aload_n (pc := 147) (i := 0) dX12_pass_147 rfl rfl ?_
        refine mg_textMany (pc := 148) dX12_pass_148 rfl ?_
        refine aw_top (y := (nI (layP (layP (layP (layP (sayG (NW (σ.2.1 6 (108 + qn))) (sayG 26990 (sayG (NW (σ.2.1 6 (79 + qn))) (sayG 28518 (spellG (NW (7 + qn)) 8 (σ.2.1 44, 0)))))) 32) (48 + ((σ.2.1 6 (114 + qn)) / 100))) (48 + (((σ.2.1 6 (114 + qn)) / 10) % 10))) (48 + ((σ.2.1 6 (114 + qn)) % 10))).2)) rfl ?_
        exact aw_iret (pc := 151) dX12_pass_151 rfl (Nat.le_refl _) (Nat.le_refl _) (by simp only [passA, passS, passG, digG, h10, e_qn, if_true, reduceIte, if_pos h102, if_pos h119] at kk; exact kk)
  · -- 13
    refine aw_iconst (pc := 13) dX12_pass_13 iconst_m1 ?_
    exact aw_iret (pc := 14) dX12_pass_14 rfl (Nat.le_refl _) (Nat.le_refl _) (by simp only [passA, passS, h10, Bool.true_and, Bool.and_true, Bool.false_and, Bool.and_false, Bool.not_true, Bool.not_false, Bool.or_true, Bool.or_false, Bool.true_or, Bool.false_or, Bool.false_eq_true, Bool.true_eq_false, if_true, if_false, ite_true, ite_false, reduceIte, reduceCtorEq] at kk; exact kk)
set_option maxHeartbeats 1000000 in
set_option maxRecDepth 20000 in
theorem x_pass {G : xG} {d : Nat} {Q : xQ} {ae : Nat → Nat} {tw ts : Nat} {kd : Nat → Bool} {ad : Nat → Nat → Nat} {κ : Nat → kS} {n : Nat} {σ : mS} {B : Nat} {R : va_W} {x : Int32} {aK aV : Nat → Nat} {tf : Option Nat} (hE : EB ae tw ts G) (hNB : NB G) (hAO : AO G) (hJ : J ae kd ad κ n σ B) (hKB : KB aK aV tf G) (kk : ∀ NW κ9, NWv σ NW → J ae kd ad κ9 n (passS σ NW x) B → Q (some (.int (passA NW (σ.2.1 6) x (σ.2.1 44)))) (WX G.2.2.1 kd ad κ9 n [] ++ R)) : MT G MX11_pass (d + 5) 0 0 [.ref ((ad 0) 20), .int x] (WX G.2.2.1 kd ad κ n [] ++ R) Q := by
  obtain ⟨hn, hMain, hSub, hTape, hR10, hR11, hR12, hR13, hMisc, hRef, hB5, jc, NM, sn, sd, m, pn, im, hCht, hSR, hSnt, hTok, hPast, hPm, hSds, hImg⟩ := id hJ
  have hw : WT (σ.2.1 6) := hTok.1.1.1
  have hI := ov_0 (G := G) (kd := kd) (ad := ad) (κ := κ) (xs := []) (R := R) (by omega : 0 < n) (by simp)
  have hTp := ov_1 (G := G) (kd := kd) (ad := ad) (κ := κ) (xs := []) (R := R) (by omega : 1 < n) (by simp)
  have hS := st_2 (G := G) (kd := kd) (ad := ad) (n := n) (xs := []) (R := R) hSR hw (by omega) (by simp)
  have hC : CHR G (WX G.2.2.1 kd ad κ n [] ++ R) (ad jc) (σ.2.1 6) NM := (hCht.chr (ad := ad) hw (fun i hi => by simp at hi)).sub mem_R1
  obtain ⟨hb, h0, h1, h2, hRd, hP, hD, hCl, hT⟩ := id hw
  obtain ⟨sd9, hSo, hS2, hS3, hS6, hS7, hS8, hS9, hS10⟩ := id hS
  obtain ⟨n1, hTB, hlen, hflt⟩ := id hTape
  obtain ⟨Ln, hLa, hLb⟩ := nm_L h0 hCht.2.2.2.2.1 hCht.2.2.2.2.2
  obtain ⟨NW, hNW⟩ : ∃ NW : Nat → Nat, NW = fun k => er8 (Ln k) := ⟨_, rfl⟩
  have hN : NWv σ NW := by subst hNW; exact ⟨fun k hk => ⟨(hLa k hk).2.1, er8_ok (hLa k hk).1⟩, fun k hk => ⟨(hLb k hk).2.1, er8_ok (hLb k hk).1⟩⟩
  replace kk := kk NW
  refine mt_start (L := [some (.ref ((ad 0) 20)), some (.int x), none]) rfl (Nat.le_of_ble_eq_true rfl) rfl ?_
  refine aw_aload_n (pc := 0) (i := 0) dX11_pass_0 rfl rfl ?_
  refine aw_iload_n (pc := 1) (i := 1) dX11_pass_1 rfl rfl ?_
  refine cVi (pc := 2) (As := [.int x]) (rest := []) dX11_pass_2 rfl oc_X11_135 rfl rfl (Nat.le_of_ble_eq_true rfl) rfl rfl hI (Nat.le_refl _) (Nat.le_refl _) (c11_isPerson hI hMain.2.1 hS hC (by omega) ⟨_, rfl, ?_⟩)
  refine ab_if_ne (pc := 5) (tgt := 10) dX11_pass_5 rfl (fun h5 => ?_) (fun h5 => ?_)
  · -- 10
    obtain ⟨i, hi, rfl⟩ := inB_t (Nat.lt_of_le_of_lt h2 (by decide)) h5
    refine aw_aload_n (pc := 10) (i := 0) dX11_pass_10 rfl rfl ?_
    refine av_get (pc := 11) (x := .ref ((ad 2) 12)) dX11_pass_11 rfl og_X11_72 rfl hI hMain.2.1 ?_
    refine av_get (pc := 14) (x := .ref ((ad jc) 13)) dX11_pass_14 rfl og_X11_142 rfl hSo rfl ?_
    refine aw_astore_n (pc := 17) (i := 2) dX11_pass_17 rfl (Nat.le_of_ble_eq_true rfl) rfl ?_
    obtain ⟨hq1, hq2, hq3, hq4⟩ := hP i hi
    have hIx := ov_0 (G := G) (kd := kd) (ad := ad) (κ := κ) (xs := [13]) (R := R) (by omega : 0 < n) (by simp)
    have hSx := st_2 (G := G) (kd := kd) (ad := ad) (n := n) (xs := [13]) (R := R) hSR hw (by omega) (by simp)
    have hCx : CHR G (WX G.2.2.1 kd ad κ n [13] ++ R) (ad jc) (σ.2.1 6) NM := (hCht.chr (ad := ad) hw (fun i hi => by simp at hi; omega)).sub mem_R1
    clear hSo hS2 hS3 hS6 hS7 hS8 hS9 hS10
    obtain ⟨sd8, hSo, hS2, hS3, hS6, hS7, hS8, hS9, hS10⟩ := id hSx
    refine aw_pull1 (p1 := 13) (by omega)  ?_
    refine aw_ws (w9 := (wRw G.2.2.1 (ad 13) 40 (κ 13) ++ (WX G.2.2.1 kd ad κ n [13] ++ R))) rfl ?_
    refine aw_aload_n (pc := 18) (i := 0) dX11_pass_18 rfl rfl ?_
    refine av_get (pc := 19) (x := .ref ((ad 13) 2)) dX11_pass_19 rfl og_X11_54 rfl (hIx.sub mem_app) hMain.2.2.2.2.2.2.2.2.2.2.1 ?_
    refine aw_iconst (pc := 22) dX11_pass_22 iconst_0 ?_
    refine pp_X11_255 (pc := 23) dX11_pass_23 rfl ?_
    refine aw_aload_n (pc := 26) (i := 0) dX11_pass_26 rfl rfl ?_
    refine av_get (pc := 27) (x := .ref ((ad 13) 2)) dX11_pass_27 rfl og_X11_54 rfl (hIx.sub mem_app) hMain.2.2.2.2.2.2.2.2.2.2.1 ?_
    refine aw_aload_n (pc := 30) (i := 2) dX11_pass_30 rfl rfl ?_
    refine av_get (pc := 31) (x := .ref ((ad jc) 11)) dX11_pass_31 rfl og_X11_295 rfl (hCx.sub mem_app).ov rfl ?_
    refine aw_iload_n (pc := 34) (i := 1) dX11_pass_34 rfl rfl ?_
    refine av_lald (pc := 35) (x := NM (7 + i)) dX11_pass_35 (hCx.sub mem_app).personName (by omega) (by decide) rfl ?_
    refine aw_topJ (y := lN (er5 (Ln (7 + i)))) (hLb i hi).2.2 ?_
    refine cVv (pc := 36) (As := [.long (lN (er5 (Ln (7 + i))))]) (rest := []) dX11_pass_36 rfl oc_X11_299 rfl rfl (Nat.le_of_ble_eq_true rfl) rfl rfl ovX5 (Nat.le_refl _) (Nat.le_refl _) (c5_name0 (hLb i hi).1 (show RTx (kF (κ 13) 1 (.int (nI 0))) (σ.2.1 44, 0) from ⟨rfl, fun i hi => absurd hi (Nat.not_lt_zero _)⟩) (by first | omega | (show 0 + 7 ≤ 40; omega)) (by decide) ?_)
    intro k1 g1
    rw [show er8 (Ln (7 + i)) = NW (7 + i) by rw [hNW]] at g1
    obtain ⟨P1, hP1⟩ : ∃ P, P = spellG (NW (7 + i)) 8 (σ.2.1 44, 0) := ⟨_, rfl⟩
    rw [← hP1] at g1
    have bb1 : P1.2 ≤ 7 := by rw [hP1]; have := spellG_le (hN.2 i hi).2.2 8 (σ.2.1 44, 0); simp at this; omega
    refine ⟨rfl, ?_⟩
    refine aw_aload_n (pc := 39) (i := 0) dX11_pass_39 rfl rfl ?_
    refine av_get (pc := 40) (x := .ref ((ad 13) 2)) dX11_pass_40 rfl og_X11_54 rfl (hIx.sub mem_app) hMain.2.2.2.2.2.2.2.2.2.2.1 ?_
    refine aw_ldcT (own := "") (pc := 43) (i := 0) dX11_pass_43 rfl hKB (by decide) ?_
    refine cVv (pc := 46) (As := [.ref (aK 0)]) (rest := []) dX11_pass_46 rfl oc_X11_305 rfl rfl (Nat.le_of_ble_eq_true rfl) rfl rfl ovX5 (Nat.le_refl _) (Nat.le_refl _) (c5_text hKB (i := 0) (by decide) g1 (by omega) (by decide) ?_)
    intro k2 g2
    have bb2 : (layK (kNn.getD 0 []) P1).2 ≤ 11 := by rw [layK_2]; show P1.2 + 4 ≤ 11; omega
    rw [k_of] at g2 bb2
    obtain ⟨P2, hP2⟩ : ∃ P, P = layP (sayG 28518 P1) 32 := ⟨_, rfl⟩
    rw [← hP2] at g2 bb2
    refine ⟨rfl, ?_⟩
    refine aw_aload_n (pc := 49) (i := 0) dX11_pass_49 rfl rfl ?_
    refine av_get (pc := 50) (x := .ref ((ad 13) 2)) dX11_pass_50 rfl og_X11_54 rfl (hIx.sub mem_app) hMain.2.2.2.2.2.2.2.2.2.2.1 ?_
    refine aw_aload_n (pc := 53) (i := 2) dX11_pass_53 rfl rfl ?_
    refine av_get (pc := 54) (x := .ref ((ad jc) 3)) dX11_pass_54 rfl og_X11_309 rfl (hCx.sub mem_app).ov rfl ?_
    refine aw_aload_n (pc := 57) (i := 2) dX11_pass_57 rfl rfl ?_
    refine av_get (pc := 58) (x := .ref ((ad jc) 12)) dX11_pass_58 rfl og_X11_146 rfl (hCx.sub mem_app).ov rfl ?_
    refine aw_iload_n (pc := 61) (i := 1) dX11_pass_61 rfl rfl ?_
    refine av_iald (pc := 62) (x := (nI ((σ.2.1 6) (79 + i)))) dX11_pass_62 (hCx.sub mem_app).home (by omega) (by decide) rfl ?_
    refine av_lald (pc := 63) (x := NM ((σ.2.1 6) (79 + i))) dX11_pass_63 (hCx.sub mem_app).landName (by omega) (by decide) rfl ?_
    refine aw_topJ (y := lN (er5 (Ln (σ.2.1 6 (79 + i))))) (hLa _ hq1).2.2 ?_
    refine cVv (pc := 64) (As := [.long (lN (er5 (Ln (σ.2.1 6 (79 + i)))))]) (rest := []) dX11_pass_64 rfl oc_X11_299 rfl rfl (Nat.le_of_ble_eq_true rfl) rfl rfl ovX5 (Nat.le_refl _) (Nat.le_refl _) (c5_name0 (hLa _ hq1).1 g2 (by first | omega | (show 0 + 7 ≤ 40; omega)) (by decide) ?_)
    intro k3 g3
    rw [show er8 (Ln (σ.2.1 6 (79 + i))) = NW (σ.2.1 6 (79 + i)) by rw [hNW]] at g3
    obtain ⟨P3, hP3⟩ : ∃ P, P = spellG (NW (σ.2.1 6 (79 + i))) 8 P2 := ⟨_, rfl⟩
    rw [← hP3] at g3
    have bb3 : P3.2 ≤ 18 := by rw [hP3]; have := spellG_le (hN.1 _ hq1).2.2 8 P2; simp at this; omega
    refine ⟨rfl, ?_⟩
    refine aw_aload_n (pc := 67) (i := 0) dX11_pass_67 rfl rfl ?_
    refine av_get (pc := 68) (x := .ref ((ad 13) 2)) dX11_pass_68 rfl og_X11_54 rfl (hIx.sub mem_app) hMain.2.2.2.2.2.2.2.2.2.2.1 ?_
    refine aw_ldcT (own := "") (pc := 71) (i := 1) dX11_pass_71 rfl hKB (by decide) ?_
    refine cVv (pc := 74) (As := [.ref (aK 1)]) (rest := []) dX11_pass_74 rfl oc_X11_305 rfl rfl (Nat.le_of_ble_eq_true rfl) rfl rfl ovX5 (Nat.le_refl _) (Nat.le_refl _) (c5_text hKB (i := 1) (by decide) g3 (by omega) (by decide) ?_)
    intro k4 g4
    have bb4 : (layK (kNn.getD 1 []) P3).2 ≤ 22 := by rw [layK_2]; show P3.2 + 4 ≤ 22; omega
    rw [k_in] at g4 bb4
    obtain ⟨P4, hP4⟩ : ∃ P, P = layP (sayG 26990 P3) 32 := ⟨_, rfl⟩
    rw [← hP4] at g4 bb4
    refine ⟨rfl, ?_⟩
    refine aw_aload_n (pc := 77) (i := 0) dX11_pass_77 rfl rfl ?_
    refine av_get (pc := 78) (x := .ref ((ad 13) 2)) dX11_pass_78 rfl og_X11_54 rfl (hIx.sub mem_app) hMain.2.2.2.2.2.2.2.2.2.2.1 ?_
    refine aw_aload_n (pc := 81) (i := 2) dX11_pass_81 rfl rfl ?_
    refine av_get (pc := 82) (x := .ref ((ad jc) 3)) dX11_pass_82 rfl og_X11_309 rfl (hCx.sub mem_app).ov rfl ?_
    refine aw_aload_n (pc := 85) (i := 0) dX11_pass_85 rfl rfl ?_
    refine av_get (pc := 86) (x := .ref ((ad 2) 12)) dX11_pass_86 rfl og_X11_72 rfl (hIx.sub mem_app) hMain.2.1 ?_
    refine av_get (pc := 89) (x := .ref ((ad 2) 6)) dX11_pass_89 rfl og_X11_149 rfl (hSo.sub mem_app) rfl ?_
    refine aw_iload_n (pc := 92) (i := 1) dX11_pass_92 rfl rfl ?_
    refine av_iald (pc := 93) (x := (nI ((σ.2.1 6) (108 + i)))) dX11_pass_93 (hS6.sub mem_app) (by omega) (by decide) rfl ?_
    refine av_lald (pc := 94) (x := NM ((σ.2.1 6) (108 + i))) dX11_pass_94 (hCx.sub mem_app).landName (by omega) (by decide) rfl ?_
    refine aw_topJ (y := lN (er5 (Ln (σ.2.1 6 (108 + i))))) (hLa _ hq2).2.2 ?_
    refine cVv (pc := 95) (As := [.long (lN (er5 (Ln (σ.2.1 6 (108 + i)))))]) (rest := []) dX11_pass_95 rfl oc_X11_299 rfl rfl (Nat.le_of_ble_eq_true rfl) rfl rfl ovX5 (Nat.le_refl _) (Nat.le_refl _) (c5_name0 (hLa _ hq2).1 g4 (by first | omega | (show 0 + 7 ≤ 40; omega)) (by decide) ?_)
    intro k5 g5
    rw [show er8 (Ln (σ.2.1 6 (108 + i))) = NW (σ.2.1 6 (108 + i)) by rw [hNW]] at g5
    obtain ⟨P5, hP5⟩ : ∃ P, P = spellG (NW (σ.2.1 6 (108 + i))) 8 P4 := ⟨_, rfl⟩
    rw [← hP5] at g5
    have bb5 : P5.2 ≤ 29 := by rw [hP5]; have := spellG_le (hN.1 _ hq2).2.2 8 P4; simp at this; omega
    refine ⟨rfl, ?_⟩
    refine aw_aload_n (pc := 98) (i := 0) dX11_pass_98 rfl rfl ?_
    refine av_get (pc := 99) (x := .ref ((ad 13) 2)) dX11_pass_99 rfl og_X11_54 rfl (hIx.sub mem_app) hMain.2.2.2.2.2.2.2.2.2.2.1 ?_
    refine aw_ldcT (own := "") (pc := 102) (i := 2) dX11_pass_102 rfl hKB (by decide) ?_
    refine cVv (pc := 105) (As := [.ref (aK 2)]) (rest := []) dX11_pass_105 rfl oc_X11_305 rfl rfl (Nat.le_of_ble_eq_true rfl) rfl rfl ovX5 (Nat.le_refl _) (Nat.le_refl _) (c5_text hKB (i := 2) (by decide) g5 (by omega) (by decide) ?_)
    intro k6 g6
    have bb6 : (layK (kNn.getD 2 []) P5).2 ≤ 30 := by rw [layK_2]; show P5.2 + 1 ≤ 30; omega
    rw [k_sp] at g6 bb6
    obtain ⟨P6, hP6⟩ : ∃ P, P = layP P5 32 := ⟨_, rfl⟩
    rw [← hP6] at g6 bb6
    refine ⟨rfl, ?_⟩
    refine aw_aload_n (pc := 108) (i := 0) dX11_pass_108 rfl rfl ?_
    refine av_get (pc := 109) (x := .ref ((ad 13) 2)) dX11_pass_109 rfl og_X11_54 rfl (hIx.sub mem_app) hMain.2.2.2.2.2.2.2.2.2.2.1 ?_
    refine aw_aload_n (pc := 112) (i := 0) dX11_pass_112 rfl rfl ?_
    refine av_get (pc := 113) (x := .ref ((ad 2) 12)) dX11_pass_113 rfl og_X11_72 rfl (hIx.sub mem_app) hMain.2.1 ?_
    refine av_get (pc := 116) (x := .ref ((ad 2) 7)) dX11_pass_116 rfl og_X11_152 rfl (hSo.sub mem_app) rfl ?_
    refine aw_iload_n (pc := 119) (i := 1) dX11_pass_119 rfl rfl ?_
    refine av_iald (pc := 120) (x := (nI ((σ.2.1 6) (114 + i)))) dX11_pass_120 (hS7.sub mem_app) (by omega) (by decide) rfl ?_
    refine cVv (pc := 121) (As := [.int (nI ((σ.2.1 6) (114 + i)))]) (rest := []) dX11_pass_121 rfl oc_X11_316 rfl rfl (Nat.le_of_ble_eq_true rfl) rfl rfl ovX5 (Nat.le_refl _) (Nat.le_refl _) (c5_digits g6 (by omega) (by decide) (by omega) ?_)
    intro k7 g7
    have bb7 := dig_le (σ.2.1 6 (114 + i)) P6
    obtain ⟨P7, hP7⟩ : ∃ P, P = digG (σ.2.1 6 (114 + i)) P6 := ⟨_, rfl⟩
    rw [← hP7] at g7 bb7
    refine ⟨rfl, ?_⟩
    refine aw_aload_n (pc := 124) (i := 0) dX11_pass_124 rfl rfl ?_
    refine av_get (pc := 125) (x := .ref ((ad 13) 2)) dX11_pass_125 rfl og_X11_54 rfl (hIx.sub mem_app) hMain.2.2.2.2.2.2.2.2.2.2.1 ?_
    refine pg_X11_255 (pc := 128) (v := .int (nI P7.2)) dX11_pass_128 rfl (by have := g7.1; rw [List.length_map, List.length_range] at this; exact this) ?_
    refine aw_push1 (p1 := 13) (by omega)  ?_
    refine aw_iret (pc := 131) dX11_pass_131 rfl (Nat.le_refl _) (Nat.le_refl _) ?_
    have hPG : passG NW (σ.2.1 6) i (σ.2.1 44) = P7 := by unfold passG; rw [hP7, hP6, hP5, hP4, hP3, hP2, hP1]; rfl
    have := kk (upN κ 13 k7) hN (by rw [show passS σ NW (nI i) = txS (mI σ 0 (nI 0)) P7 by unfold passS; rw [if_pos h5, nI_clamp (by omega), hPG]]; exact ⟨hn, hMain, hSub, hTape, hR10, hR11, hR12, (RTx_row g7 (by omega)), hMisc, hRef, hB5, jc, NM, sn, sd, m, pn, im, (jSt.up (i := 13) (by omega) (by omega) (by omega) ⟨hCht, hSR, hSnt, hTok, hPast, hPm, hSds, hImg⟩)⟩)
    rw [show passA NW (σ.2.1 6) (nI i) (σ.2.1 44) = nI P7.2 by unfold passA; rw [if_pos h5, nI_clamp (by omega), hPG]] at this
    exact this
  · -- 8
    refine aw_iconst (pc := 8) dX11_pass_8 iconst_m1 ?_
    refine aw_iret (pc := 9) dX11_pass_9 rfl (Nat.le_refl _) (Nat.le_refl _) ?_
    have := kk κ hN (by rw [show passS σ NW x = mI σ 0 (nI 0) from if_neg (by rw [h5]; decide)]; exact hJ.th)
    rw [show passA NW (σ.2.1 6) x (σ.2.1 44) = -1 from if_neg (by rw [h5]; decide)] at this
    exact this
