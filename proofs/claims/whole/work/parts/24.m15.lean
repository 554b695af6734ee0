def sayG (W : Nat) (p : (Nat → Nat) × Nat) : (Nat → Nat) × Nat := spellG W 8 (layP p 32)
theorem byW_hi {W k n : Nat} (h : W < 256 ^ k) (hn : k ≤ n) : byW W n = 0 := by
  unfold byW
  rw [Nat.div_eq_of_lt (Nat.lt_of_lt_of_le h (Nat.pow_le_pow_right (by decide) hn))]
theorem spellG_le {W k : Nat} (h : W < 256 ^ k) : ∀ n p, (spellG W n p).2 ≤ p.2 + min n k := by
  intro n
  induction n with
  | zero => intro p; exact Nat.le_add_right _ _
  | succ n ih =>
    intro p
    unfold spellG
    split
    · have := ih p; omega
    · rename_i hz
      have hk : n < k := Nat.lt_of_not_le fun e => hz (byW_hi h e)
      have := ih (layP p (byW W n))
      simp only [layP] at *
      omega
theorem okW_of {W k : Nat} (h6 : W < 2 ^ 62) (h : W < 256 ^ k) (hb : ∀ n, n < k → byW W n < 128) : okW W := ⟨h6, fun n => by
  by_cases hn : n < k
  · exact hb n hn
  · rw [byW_hi h (by omega)]; decide⟩
theorem ok_of : okW 28518 := okW_of (k := 2) (by decide) (by decide) (by decide)
theorem ok_in : okW 26990 := okW_of (k := 2) (by decide) (by decide) (by decide)
def digG (v : Nat) (p : (Nat → Nat) × Nat) : (Nat → Nat) × Nat := layP (if 9 < v then layP (if 99 < v then layP p (48 + v / 100) else p) (48 + v / 10 % 10) else (if 99 < v then layP p (48 + v / 100) else p)) (48 + v % 10)
def passG (NW t : Nat → Nat) (q : Nat) (tx : Nat → Nat) : (Nat → Nat) × Nat := digG (t (114 + q)) (layP (sayG (NW (t (108 + q))) (sayG 26990 (sayG (NW (t (79 + q))) (sayG 28518 (spellG (NW (7 + q)) 8 (tx, 0)))))) 32)
def passA (NW t : Nat → Nat) (q : Int32) (tx : Nat → Nat) : Int32 := if inB (t 2) q = true then nI (passG NW t q.toNatClampNeg tx).2 else -1
def passS (σ : mS) (NW : Nat → Nat) (q : Int32) : mS := if inB (σ.2.1 6 2) q = true then txS (mI σ 0 (nI 0)) (passG NW (σ.2.1 6) q.toNatClampNeg (σ.2.1 44)) else mI σ 0 (nI 0)
theorem sayG_le {W k : Nat} (h : W < 256 ^ k) (hk : k ≤ 8) (p : (Nat → Nat) × Nat) : (sayG W p).2 ≤ p.2 + 1 + k := by
  unfold sayG
  have := spellG_le h 8 (layP p 32)
  simp only [layP] at *
  omega
/-- the names as words -/
def NWok (nm : Nat → Int64) (NW : Nat → Nat) : Prop := ∀ k, k < 13 → nm k = lN (NW k) ∧ okW (NW k) ∧ NW k < 256 ^ 7

set_option maxHeartbeats 1000000 in
set_option maxRecDepth 20000 in
theorem s_says {G : xG} {d : Nat} {Q : xQ} {a : Nat → Nat} {σ : mS} {p : (Nat → Nat) × Nat} {W : Nat} (hW : okW W) (hp : p.2 + 9 ≤ 40) (kk : Q none (mW G.2.2.1 a (txS σ (sayG W p)))) : MT G MX12_says (d + 2) 0 0 [.ref (a 60), .long (lN W)] (mW G.2.2.1 a (txS σ p)) Q := by
  refine mt_start (L := [some (.ref (a 60)), some (.long (lN W)), none]) rfl (Nat.le_of_ble_eq_true rfl) rfl ?_
  refine aw_aload_n (pc := 0) (i := 0) dX12_says_0 rfl rfl ?_
  refine aw_bipush (pc := 1) dX12_says_1 bipush_32 ?_
  refine mc_V (pc := 3) (As := [.int (nI 32)]) (rest := []) dX12_says_3 rfl ok_X12_418 rfl rfl rfl (Nat.le_of_ble_eq_true rfl) (s_lays (by omega) (by decide) ⟨_, rfl, rfl, ?_⟩)
  refine aw_aload_n (pc := 6) (i := 0) dX12_says_6 rfl rfl ?_
  refine aw_lload_n (pc := 7) (i := 1) dX12_says_7 rfl rfl ?_
  refine mc_V (pc := 8) (As := [.long (lN W)]) (rest := []) dX12_says_8 rfl ok_X12_421 rfl rfl rfl (Nat.le_of_ble_eq_true rfl) (s_spells hW (by simp only [layP]; omega) ⟨_, rfl, rfl, ?_⟩)
  exact aw_vret (pc := 11) dX12_says_11 rfl (Nat.le_refl _) (Nat.le_refl _) (kk)
set_option maxHeartbeats 1000000 in
set_option maxRecDepth 20000 in
theorem s_pass {G : xG} {d : Nat} {Q : xQ} {a : Nat → Nat} {σ : mS} {NW : Nat → Nat} {q : Int32} (hw : WT (σ.2.1 6)) (hN : NWok (σ.2.2.2.2 9) NW) (kk : Q (some (.int (passA NW (σ.2.1 6) q (σ.2.1 44)))) (mW G.2.2.1 a (passS σ NW q))) : MT G MX12_pass (d + 3) 0 0 [.ref (a 60), .int q] (mW G.2.2.1 a σ) Q := by
  obtain ⟨hb, h0, h1, h2, hR, hP, hD, hC, hT⟩ := id hw
  refine mt_start (L := [some (.ref (a 60)), some (.int q), none]) rfl (Nat.le_of_ble_eq_true rfl) rfl ?_
  refine aw_aload_n (pc := 0) (i := 0) dX12_pass_0 rfl rfl ?_
  refine aw_iconst (pc := 1) dX12_pass_1 iconst_0 ?_
  refine mp_thrown (pc := 2) dX12_pass_2 rfl ?_
  refine aw_aload_n (pc := 5) (i := 0) dX12_pass_5 rfl rfl ?_
  refine aw_iload_n (pc := 6) (i := 1) dX12_pass_6 rfl rfl ?_
  refine mc_I (pc := 7) (As := [.int q]) (rest := []) dX12_pass_7 rfl ok_X12_302 rfl rfl rfl (Nat.le_of_ble_eq_true rfl) (s_isPerson ⟨_, _, rfl, rfl, ?_⟩)
  refine aw_top (y := bI (inB (σ.2.1 6 2) q)) rfl ?_
  refine ab_if_ne (pc := 10) (tgt := 15) dX12_pass_10 rfl (fun h10 => ?_) (fun h10 => ?_)
  · -- 15
    obtain ⟨qn, b_qn, rfl⟩ := inB_t (by omega) h10
    have e_qn := nI_clamp (n := qn) (by omega)
    refine aw_aload_n (pc := 15) (i := 0) dX12_pass_15 rfl rfl ?_
    refine aw_iconst (pc := 16) dX12_pass_16 iconst_0 ?_
    refine mp_textMany (pc := 17) dX12_pass_17 rfl ?_
    have hq9 := hP qn b_qn
    have hhm : σ.2.1 6 (79 + qn) < 13 := by omega
    have hat : σ.2.1 6 (108 + qn) < 13 := by omega
    refine aw_ws (w9 := mW G.2.2.1 a (txS (mI σ 0 (nI 0)) (σ.2.1 44, 0))) rfl ?_
    refine aw_aload_n (pc := 20) (i := 0) dX12_pass_20 rfl rfl ?_
    refine aw_aload_n (pc := 21) (i := 0) dX12_pass_21 rfl rfl ?_
    refine mg_names (pc := 22) dX12_pass_22 rfl ?_
    refine aw_bipush (pc := 25) dX12_pass_25 bipush_7 ?_
    refine aw_iload_n (pc := 27) (i := 1) dX12_pass_27 rfl rfl ?_
    refine an_add (pc := 28) dX12_pass_28 ?_
    refine ml_names (pc := 29) dX12_pass_29 (by omega) ?_
    refine aw_topJ (y := σ.2.2.2.2 9 (7 + qn)) rfl ?_
    refine aw_topJ (y := lN (NW (7 + qn))) (hN (7 + qn) (by omega)).1 ?_
    refine mc_V (pc := 30) (As := [.long (lN (NW (7 + qn)))]) (rest := []) dX12_pass_30 rfl ok_X12_421 rfl rfl rfl (Nat.le_of_ble_eq_true rfl) (s_spells (W := NW (7 + qn)) (hN (7 + qn) (by omega)).2.1 (by show 0 + 8 ≤ 40; omega) ⟨_, rfl, rfl, ?_⟩)
    have b1 : (spellG (NW (7 + qn)) 8 (σ.2.1 44, 0)).2 ≤ 7 := Nat.le_trans (spellG_le (hN (7 + qn) (by omega)).2.2 8 _) (by simp)
    refine aw_aload_n (pc := 33) (i := 0) dX12_pass_33 rfl rfl ?_
    refine aw_ldc2 (pc := 34) dX12_pass_34 tw_1399 ?_
    refine mc_V (pc := 37) (As := [.long ((28518 : Int64))]) (rest := []) dX12_pass_37 rfl ok_X12_425 rfl rfl rfl (Nat.le_of_ble_eq_true rfl) (s_says (W := 28518) ok_of (by omega) ⟨_, rfl, rfl, ?_⟩)
    have b2 : (sayG 28518 (spellG (NW (7 + qn)) 8 (σ.2.1 44, 0))).2 ≤ 10 := by have := sayG_le (show 28518 < 256 ^ 2 by decide) (by decide) (spellG (NW (7 + qn)) 8 (σ.2.1 44, 0)); omega
    refine aw_aload_n (pc := 40) (i := 0) dX12_pass_40 rfl rfl ?_
    refine aw_aload_n (pc := 41) (i := 0) dX12_pass_41 rfl rfl ?_
    refine mg_names (pc := 42) dX12_pass_42 rfl ?_
    refine aw_aload_n (pc := 45) (i := 0) dX12_pass_45 rfl rfl ?_
    refine mg_s (pc := 46) dX12_pass_46 rfl ?_
    refine aw_bipush (pc := 49) dX12_pass_49 bipush_79 ?_
    refine aw_iload_n (pc := 51) (i := 1) dX12_pass_51 rfl rfl ?_
    refine an_add (pc := 52) dX12_pass_52 ?_
    refine ml_s (pc := 53) dX12_pass_53 (by omega) ?_
    refine aw_top (y := (nI (σ.2.1 6 (79 + qn)))) rfl ?_
    refine ml_names (pc := 54) dX12_pass_54 (Nat.lt_trans hhm (by decide)) ?_
    refine aw_topJ (y := σ.2.2.2.2 9 (σ.2.1 6 (79 + qn))) rfl ?_
    refine aw_topJ (y := lN (NW (σ.2.1 6 (79 + qn)))) (hN _ hhm).1 ?_
    refine mc_V (pc := 55) (As := [.long (lN (NW (σ.2.1 6 (79 + qn))))]) (rest := []) dX12_pass_55 rfl ok_X12_425 rfl rfl rfl (Nat.le_of_ble_eq_true rfl) (s_says (W := (NW (σ.2.1 6 (79 + qn)))) (hN _ hhm).2.1 (by omega) ⟨_, rfl, rfl, ?_⟩)
    have b3 : (sayG (NW (σ.2.1 6 (79 + qn))) (sayG 28518 (spellG (NW (7 + qn)) 8 (σ.2.1 44, 0)))).2 ≤ 18 := by have := sayG_le (hN _ hhm).2.2 (by decide) (sayG 28518 (spellG (NW (7 + qn)) 8 (σ.2.1 44, 0))); omega
    refine aw_aload_n (pc := 58) (i := 0) dX12_pass_58 rfl rfl ?_
    refine aw_ldc2 (pc := 59) dX12_pass_59 tw_1398 ?_
    refine mc_V (pc := 62) (As := [.long ((26990 : Int64))]) (rest := []) dX12_pass_62 rfl ok_X12_425 rfl rfl rfl (Nat.le_of_ble_eq_true rfl) (s_says (W := 26990) ok_in (by omega) ⟨_, rfl, rfl, ?_⟩)
    have b4 : (sayG 26990 (sayG (NW (σ.2.1 6 (79 + qn))) (sayG 28518 (spellG (NW (7 + qn)) 8 (σ.2.1 44, 0))))).2 ≤ 21 := by have := sayG_le (show 26990 < 256 ^ 2 by decide) (by decide) (sayG (NW (σ.2.1 6 (79 + qn))) (sayG 28518 (spellG (NW (7 + qn)) 8 (σ.2.1 44, 0)))); omega
    refine aw_aload_n (pc := 65) (i := 0) dX12_pass_65 rfl rfl ?_
    refine aw_aload_n (pc := 66) (i := 0) dX12_pass_66 rfl rfl ?_
    refine mg_names (pc := 67) dX12_pass_67 rfl ?_
    refine aw_aload_n (pc := 70) (i := 0) dX12_pass_70 rfl rfl ?_
    refine mg_s (pc := 71) dX12_pass_71 rfl ?_
    refine aw_bipush (pc := 74) dX12_pass_74 bipush_108 ?_
    refine aw_iload_n (pc := 76) (i := 1) dX12_pass_76 rfl rfl ?_
    refine an_add (pc := 77) dX12_pass_77 ?_
    refine ml_s (pc := 78) dX12_pass_78 (by omega) ?_
    refine aw_top (y := (nI (σ.2.1 6 (108 + qn)))) rfl ?_
    refine ml_names (pc := 79) dX12_pass_79 (Nat.lt_trans hat (by decide)) ?_
    refine aw_topJ (y := σ.2.2.2.2 9 (σ.2.1 6 (108 + qn))) rfl ?_
    refine aw_topJ (y := lN (NW (σ.2.1 6 (108 + qn)))) (hN _ hat).1 ?_
    refine mc_V (pc := 80) (As := [.long (lN (NW (σ.2.1 6 (108 + qn))))]) (rest := []) dX12_pass_80 rfl ok_X12_425 rfl rfl rfl (Nat.le_of_ble_eq_true rfl) (s_says (W := (NW (σ.2.1 6 (108 + qn)))) (hN _ hat).2.1 (by omega) ⟨_, rfl, rfl, ?_⟩)
    have b5 : (sayG (NW (σ.2.1 6 (108 + qn))) (sayG 26990 (sayG (NW (σ.2.1 6 (79 + qn))) (sayG 28518 (spellG (NW (7 + qn)) 8 (σ.2.1 44, 0)))))).2 ≤ 29 := by have := sayG_le (hN _ hat).2.2 (by decide) (sayG 26990 (sayG (NW (σ.2.1 6 (79 + qn))) (sayG 28518 (spellG (NW (7 + qn)) 8 (σ.2.1 44, 0))))); omega
    refine aw_aload_n (pc := 83) (i := 0) dX12_pass_83 rfl rfl ?_
    refine aw_bipush (pc := 84) dX12_pass_84 bipush_32 ?_
    refine mc_V (pc := 86) (As := [.int (nI 32)]) (rest := []) dX12_pass_86 rfl ok_X12_418 rfl rfl rfl (Nat.le_of_ble_eq_true rfl) (s_lays (c := 32) (by first | omega | (simp only [layP]; omega)) (by decide) ⟨_, rfl, rfl, ?_⟩)
    refine aw_aload_n (pc := 89) (i := 0) dX12_pass_89 rfl rfl ?_
    refine mg_s (pc := 90) dX12_pass_90 rfl ?_
    refine aw_bipush (pc := 93) dX12_pass_93 bipush_114 ?_
    refine aw_iload_n (pc := 95) (i := 1) dX12_pass_95 rfl rfl ?_
    refine an_add (pc := 96) dX12_pass_96 ?_
    refine ml_s (pc := 97) dX12_pass_97 (by omega) ?_
    refine aw_top (y := (nI (σ.2.1 6 (114 + qn)))) rfl ?_
    refine aw_istore_n (pc := 98) (i := 2) dX12_pass_98 rfl (Nat.le_of_ble_eq_true rfl) rfl ?_
    refine aw_iload_n (pc := 99) (i := 2) dX12_pass_99 rfl rfl ?_
    refine aw_bipush (pc := 100) dX12_pass_100 bipush_99 ?_
    refine an_icmp_le (pc := 102) (tgt := 116) dX12_pass_102 rfl (Nat.lt_trans (hb _) (by decide)) (by decide) (fun h102 => ?_) (fun h102 => ?_)
    · -- 116
      refine aw_iload_n (pc := 116) (i := 2) dX12_pass_116 rfl rfl ?_
      refine aw_bipush (pc := 117) dX12_pass_117 bipush_9 ?_
      refine an_icmp_le (pc := 119) (tgt := 136) dX12_pass_119 rfl (Nat.lt_trans (hb _) (by decide)) (by decide) (fun h119 => ?_) (fun h119 => ?_)
      · -- 136
        refine aw_aload_n (pc := 136) (i := 0) dX12_pass_136 rfl rfl ?_
        refine aw_bipush (pc := 137) dX12_pass_137 bipush_48 ?_
        refine aw_iload_n (pc := 139) (i := 2) dX12_pass_139 rfl rfl ?_
        refine aw_bipush (pc := 140) dX12_pass_140 bipush_10 ?_
        refine an_rem (pc := 142) dX12_pass_142 (Nat.lt_trans (hb _) (by decide)) (by decide) (by decide) ?_
        refine an_add (pc := 143) dX12_pass_143 ?_
        refine mc_V (pc := 144) (As := [.int (nI (48 + ((σ.2.1 6 (114 + qn)) % 10)))]) (rest := []) dX12_pass_144 rfl ok_X12_418 rfl rfl rfl (Nat.le_of_ble_eq_true rfl) (s_lays (c := 48 + ((σ.2.1 6 (114 + qn)) % 10)) (by first | omega | (simp only [layP]; omega)) (by omega) ⟨_, rfl, rfl, ?_⟩)
        refine aw_aload_n (pc := 147) (i := 0) dX12_pass_147 rfl rfl ?_
        refine mg_textMany (pc := 148) dX12_pass_148 rfl ?_
        refine aw_top (y := (nI (layP (layP (sayG (NW (σ.2.1 6 (108 + qn))) (sayG 26990 (sayG (NW (σ.2.1 6 (79 + qn))) (sayG 28518 (spellG (NW (7 + qn)) 8 (σ.2.1 44, 0)))))) 32) (48 + ((σ.2.1 6 (114 + qn)) % 10))).2)) rfl ?_
        exact aw_iret (pc := 151) dX12_pass_151 rfl (Nat.le_refl _) (Nat.le_refl _) (by simp only [passA, passS, passG, digG, h10, e_qn, if_true, reduceIte, if_neg (Nat.not_lt.mpr h102), if_neg (Nat.not_lt.mpr h119)] at kk; exact kk)
      · -- 122
        refine aw_aload_n (pc := 122) (i := 0) dX12_pass_122 rfl rfl ?_
        refine aw_bipush (pc := 123) dX12_pass_123 bipush_48 ?_
        refine aw_iload_n (pc := 125) (i := 2) dX12_pass_125 rfl rfl ?_
        refine aw_bipush (pc := 126) dX12_pass_126 bipush_10 ?_
        refine an_div (pc := 128) dX12_pass_128 (Nat.lt_trans (hb _) (by decide)) (by decide) (by decide) ?_
        refine aw_bipush (pc := 129) dX12_pass_129 bipush_10 ?_
        refine an_rem (pc := 131) dX12_pass_131 (by omega) (by decide) (by decide) ?_
        refine an_add (pc := 132) dX12_pass_132 ?_
        refine mc_V (pc := 133) (As := [.int (nI (48 + (((σ.2.1 6 (114 + qn)) / 10) % 10)))]) (rest := []) dX12_pass_133 rfl ok_X12_418 rfl rfl rfl (Nat.le_of_ble_eq_true rfl) (s_lays (c := 48 + (((σ.2.1 6 (114 + qn)) / 10) % 10)) (by first | omega | (simp only [layP]; omega)) (by omega) ⟨_, rfl, rfl, ?_⟩)
        refine aw_aload_n (pc := 136) (i := 0) dX12_pass_136 rfl rfl ?_
        refine aw_bipush (pc := 137) dX12_pass_137 bipush_48 ?_
        refine aw_iload_n (pc := 139) (i := 2) dX12_pass_139 rfl rfl ?_
        refine aw_bipush (pc := 140) dX12_pass_140 bipush_10 ?_
        refine an_rem (pc := 142) dX12_pass_142 (Nat.lt_trans (hb _) (by decide)) (by decide) (by decide) ?_
        refine an_add (pc := 143) dX12_pass_143 ?_
        refine mc_V (pc := 144) (As := [.int (nI (48 + ((σ.2.1 6 (114 + qn)) % 10)))]) (rest := []) dX12_pass_144 rfl ok_X12_418 rfl rfl rfl (Nat.le_of_ble_eq_true rfl) (s_lays (c := 48 + ((σ.2.1 6 (114 + qn)) % 10)) (by first | omega | (simp only [layP]; omega)) (by omega) ⟨_, rfl, rfl, ?_⟩)
        refine aw_aload_n (pc := 147) (i := 0) dX12_pass_147 rfl rfl ?_
        refine mg_textMany (pc := 148) dX12_pass_148 rfl ?_
        refine aw_top (y := (nI (layP (layP (layP (sayG (NW (σ.2.1 6 (108 + qn))) (sayG 26990 (sayG (NW (σ.2.1 6 (79 + qn))) (sayG 28518 (spellG (NW (7 + qn)) 8 (σ.2.1 44, 0)))))) 32) (48 + (((σ.2.1 6 (114 + qn)) / 10) % 10))) (48 + ((σ.2.1 6 (114 + qn)) % 10))).2)) rfl ?_
        exact aw_iret (pc := 151) dX12_pass_151 rfl (Nat.le_refl _) (Nat.le_refl _) (by simp only [passA, passS, passG, digG, h10, e_qn, if_true, reduceIte, if_neg (Nat.not_lt.mpr h102), if_pos h119] at kk; exact kk)
    · -- 105
      refine aw_aload_n (pc := 105) (i := 0) dX12_pass_105 rfl rfl ?_
      refine aw_bipush (pc := 106) dX12_pass_106 bipush_48 ?_
      refine aw_iload_n (pc := 108) (i := 2) dX12_pass_108 rfl rfl ?_
      refine aw_bipush (pc := 109) dX12_pass_109 bipush_100 ?_
      refine an_div (pc := 111) dX12_pass_111 (Nat.lt_trans (hb _) (by decide)) (by decide) (by decide) ?_
      refine an_add (pc := 112) dX12_pass_112 ?_
      refine mc_V (pc := 113) (As := [.int (nI (48 + ((σ.2.1 6 (114 + qn)) / 100)))]) (rest := []) dX12_pass_113 rfl ok_X12_418 rfl rfl rfl (Nat.le_of_ble_eq_true rfl) (s_lays (c := 48 + ((σ.2.1 6 (114 + qn)) / 100)) (by first | omega | (simp only [layP]; omega)) (by omega) ⟨_, rfl, rfl, ?_⟩)
      refine aw_iload_n (pc := 116) (i := 2) dX12_pass_116 rfl rfl ?_
      refine aw_bipush (pc := 117) dX12_pass_117 bipush_9 ?_
      refine an_icmp_le (pc := 119) (tgt := 136) dX12_pass_119 rfl (Nat.lt_trans (hb _) (by decide)) (by decide) (fun h119 => ?_) (fun h119 => ?_)
      · -- 136
        refine aw_aload_n (pc := 136) (i := 0) dX12_pass_136 rfl rfl ?_
        refine aw_bipush (pc := 137) dX12_pass_137 bipush_48 ?_
        refine aw_iload_n (pc := 139) (i := 2) dX12_pass_139 rfl rfl ?_
        refine aw_bipush (pc := 140) dX12_pass_140 bipush_10 ?_
        refine an_rem (pc := 142) dX12_pass_142 (Nat.lt_trans (hb _) (by decide)) (by decide) (by decide) ?_
        refine an_add (pc := 143) dX12_pass_143 ?_
        refine mc_V (pc := 144) (As := [.int (nI (48 + ((σ.2.1 6 (114 + qn)) % 10)))]) (rest := []) dX12_pass_144 rfl ok_X12_418 rfl rfl rfl (Nat.le_of_ble_eq_true rfl) (s_lays (c := 48 + ((σ.2.1 6 (114 + qn)) % 10)) (by first | omega | (simp only [layP]; omega)) (by omega) ⟨_, rfl, rfl, ?_⟩)
        refine aw_aload_n (pc := 147) (i := 0) dX12_pass_147 rfl rfl ?_
        refine mg_textMany (pc := 148) dX12_pass_148 rfl ?_
        refine aw_top (y := (nI (layP (layP (layP (sayG (NW (σ.2.1 6 (108 + qn))) (sayG 26990 (sayG (NW (σ.2.1 6 (79 + qn))) (sayG 28518 (spellG (NW (7 + qn)) 8 (σ.2.1 44, 0)))))) 32) (48 + ((σ.2.1 6 (114 + qn)) / 100))) (48 + ((σ.2.1 6 (114 + qn)) % 10))).2)) rfl ?_
        exact aw_iret (pc := 151) dX12_pass_151 rfl (Nat.le_refl _) (Nat.le_refl _) (by simp only [passA, passS, passG, digG, h10, e_qn, if_true, reduceIte, if_pos h102, if_neg (Nat.not_lt.mpr h119)] at kk; exact kk)
      · -- 122
        refine aw_aload_n (pc := 122) (i := 0) dX12_pass_122 rfl rfl ?_
        refine aw_bipush (pc := 123) dX12_pass_123 bipush_48 ?_
        refine aw_iload_n (pc := 125) (i := 2) dX12_pass_125 rfl rfl ?_
        refine aw_bipush (pc := 126) dX12_pass_126 bipush_10 ?_
        refine an_div (pc := 128) dX12_pass_128 (Nat.lt_trans (hb _) (by decide)) (by decide) (by decide) ?_
        refine aw_bipush (pc := 129) dX12_pass_129 bipush_10 ?_
        refine an_rem (pc := 131) dX12_pass_131 (by omega) (by decide) (by decide) ?_
        refine an_add (pc := 132) dX12_pass_132 ?_
        refine mc_V (pc := 133) (As := [.int (nI (48 + (((σ.2.1 6 (114 + qn)) / 10) % 10)))]) (rest := []) dX12_pass_133 rfl ok_X12_418 rfl rfl rfl (Nat.le_of_ble_eq_true rfl) (s_lays (c := 48 + (((σ.2.1 6 (114 + qn)) / 10) % 10)) (by first | omega | (simp only [layP]; omega)) (by omega) ⟨_, rfl, rfl, ?_⟩)
        refine aw_aload_n (pc := 136) (i := 0) dX12_pass_136 rfl rfl ?_
        refine aw_bipush (pc := 137) dX12_pass_137 bipush_48 ?_
        refine aw_iload_n (pc := 139) (i := 2) dX12_pass_139 rfl rfl ?_
        refine aw_bipush (pc := 140) dX12_pass_140 bipush_10 ?_
        refine an_rem (pc := 142) dX12_pass_142 (Nat.lt_trans (hb _) (by decide)) (by decide) (by decide) ?_
        refine an_add (pc := 143) dX12_pass_143 ?_
        refine mc_V (pc := 144) (As := [.int (nI (48 + ((σ.2.1 6 (114 + qn)) % 10)))]) (rest := []) dX12_pass_144 rfl ok_X12_418 rfl rfl rfl (Nat.le_of_ble_eq_true rfl) (s_lays (c := 48 + ((σ.2.1 6 (114 + qn)) % 10)) (by first | omega | (simp only [layP]; omega)) (by omega) ⟨_, rfl, rfl, ?_⟩)
        refine aw_aload_n (pc := 147) (i := 0) dX12_pass_147 rfl rfl ?_
        refine mg_textMany (pc := 148) dX12_pass_148 rfl ?_
        refine aw_top (y := (nI (layP (layP (layP (layP (sayG (NW (σ.2.1 6 (108 + qn))) (sayG 26990 (sayG (NW (σ.2.1 6 (79 + qn))) (sayG 28518 (spellG (NW (7 + qn)) 8 (σ.2.1 44, 0)))))) 32) (48 + ((σ.2.1 6 (114 + qn)) / 100))) (48 + (((σ.2.1 6 (114 + qn)) / 10) % 10))) (48 + ((σ.2.1 6 (114 + qn)) % 10))).2)) rfl ?_
        exact aw_iret (pc := 151) dX12_pass_151 rfl (Nat.le_refl _) (Nat.le_refl _) (by simp only [passA, passS, passG, digG, h10, e_qn, if_true, reduceIte, if_pos h102, if_pos h119] at kk; exact kk)
  · -- 13
    refine aw_iconst (pc := 13) dX12_pass_13 iconst_m1 ?_
    exact aw_iret (pc := 14) dX12_pass_14 rfl (Nat.le_refl _) (Nat.le_refl _) (by simp only [passA, passS, h10, Bool.true_and, Bool.and_true, Bool.false_and, Bool.and_false, Bool.not_true, Bool.not_false, Bool.or_true, Bool.or_false, Bool.true_or, Bool.false_or, Bool.false_eq_true, Bool.true_eq_false, if_true, if_false, ite_true, ite_false, reduceIte, reduceCtorEq] at kk; exact kk)
def imageA (x : Int32) : Bool := inC (nI 0) (nI 1) x
def imgS (σ : mS) (k : Nat) : mS := mN (sL (sN (mI σ 0 (nI 0)) 57 (cpF (σ.2.1 57) (σ.2.1 6) (319 * k) 0 319)) 58 (cpG (σ.2.2.2.2 58) (σ.2.2.2.2 9) (13 * k) 0 13)) 59 k 1
def imageS (σ : mS) (x : Int32) : mS := if inC (nI 0) (nI 1) x = true then imgS σ x.toNatClampNeg else mI σ 0 (nI 0)
def rstS (σ : mS) (k : Nat) : mS := mI (sL (sN (mI σ 0 (nI 0)) 6 (cpF (σ.2.1 6) (σ.2.1 57) 0 (319 * k) 319)) 9 (cpG (σ.2.2.2.2 9) (σ.2.2.2.2 58) 0 (13 * k) 13)) 23 (nI 0)
def restoreA (σ : mS) (x : Int32) : Bool := if inC (nI 0) (nI 1) x = true then decide (0 < σ.2.1 59 x.toNatClampNeg) else false
def restoreS (σ : mS) (x : Int32) : mS := if inC (nI 0) (nI 1) x = true then (if 0 < σ.2.1 59 x.toNatClampNeg then rstS σ x.toNatClampNeg else mI σ 0 (nI 0)) else mI σ 0 (nI 0)
set_option maxHeartbeats 1000000 in
set_option maxRecDepth 20000 in
theorem image_l2 {G : xG} {d : Nat} {Q : xQ} {a : Nat → Nat} {σ : mS} {k : Nat} (hk : k ≤ 1) (kk : Q (some (.int (bI true))) (mW G.2.2.1 a (mN (sL σ 58 (cpG (σ.2.2.2.2 58) (σ.2.2.2.2 9) (13 * k) 0 13)) 59 k 1))) : ∀ (n i : Nat), i + n = 13 → AW G MX12_image (d) 0 0 Q 51 [some (.ref (a 60)), some (.int (nI k)), some (.int (nI i))] [] (mW G.2.2.1 a (sL σ 58 (cpG (σ.2.2.2.2 58) (σ.2.2.2.2 9) (13 * k) 0 i))) 0 0 := by
  intro n
  induction n with
  | zero =>
    intro i hi
    refine aw_iload_n (pc := 51) (i := 2) dX12_image_51 rfl rfl ?_
    refine aw_bipush (pc := 52) dX12_image_52 bipush_13 ?_
    refine an_icmp_ge (pc := 54) (tgt := 80) dX12_image_54 rfl (by omega) (by decide) (fun h54 => ?_) (fun h54 => ?_)
    · -- 80
      refine aw_aload_n (pc := 80) (i := 0) dX12_image_80 rfl rfl ?_
      refine mg_areKept (pc := 81) dX12_image_81 rfl ?_
      refine aw_iload_n (pc := 84) (i := 1) dX12_image_84 rfl rfl ?_
      refine aw_iconst (pc := 85) dX12_image_85 iconst_1 ?_
      refine ms_areKept (pc := 86) dX12_image_86 (by omega) (by decide) ?_
      refine aw_iconst (pc := 87) dX12_image_87 iconst_1 ?_
      exact ab_ret1 (pc := 88) dX12_image_88 rfl (Nat.le_refl _) (Nat.le_refl _) (by have e : i = 13 := (by omega); subst e; exact kk)
    · -- 57
      exfalso; omega
  | succ n ih =>
    intro i hi
    refine aw_iload_n (pc := 51) (i := 2) dX12_image_51 rfl rfl ?_
    refine aw_bipush (pc := 52) dX12_image_52 bipush_13 ?_
    refine an_icmp_ge (pc := 54) (tgt := 80) dX12_image_54 rfl (by omega) (by decide) (fun h54 => ?_) (fun h54 => ?_)
    · -- 80
      exfalso; omega
    · -- 57
      refine aw_aload_n (pc := 57) (i := 0) dX12_image_57 rfl rfl ?_
      refine mg_namesKept (pc := 58) dX12_image_58 rfl ?_
      refine aw_bipush (pc := 61) dX12_image_61 bipush_13 ?_
      refine aw_iload_n (pc := 63) (i := 1) dX12_image_63 rfl rfl ?_
      refine an_mul (pc := 64) dX12_image_64 ?_
      refine aw_iload_n (pc := 65) (i := 2) dX12_image_65 rfl rfl ?_
      refine an_add (pc := 66) dX12_image_66 ?_
      refine aw_aload_n (pc := 67) (i := 0) dX12_image_67 rfl rfl ?_
      refine mg_names (pc := 68) dX12_image_68 rfl ?_
      refine aw_iload_n (pc := 71) (i := 2) dX12_image_71 rfl rfl ?_
      refine ml_names (pc := 72) dX12_image_72 (by omega) ?_
      refine aw_topJ (y := σ.2.2.2.2 9 i) rfl ?_
      refine ms_namesKept (pc := 73) dX12_image_73 (by omega) ?_
      refine an_inc (pc := 74) (z := 1) dX12_image_74 rfl (Nat.le_of_ble_eq_true rfl) rfl ?_
      refine aw_goto (pc := 77) (tgt := 51) dX12_image_77 rfl ?_
      refine aw_ws (w9 := mW G.2.2.1 a (sL σ 58 (cpG (σ.2.2.2.2 58) (σ.2.2.2.2 9) (13 * k) 0 (i + 1)))) (congrArg (fun z => mW G.2.2.1 a (sL σ 58 z)) (cpG_next (by omega) (congrArg (σ.2.2.2.2 9) (Nat.zero_add i).symm))) ?_
      exact ih (i + 1) (by omega)
set_option maxHeartbeats 1000000 in
set_option maxRecDepth 20000 in
theorem image_l1 {G : xG} {d : Nat} {Q : xQ} {a : Nat → Nat} {σ : mS} {k : Nat} (hk : k ≤ 1) (kk : Q (some (.int (bI true))) (mW G.2.2.1 a (mN (sL (sN σ 57 (cpF (σ.2.1 57) (σ.2.1 6) (319 * k) 0 319)) 58 (cpG (σ.2.2.2.2 58) (σ.2.2.2.2 9) (13 * k) 0 13)) 59 k 1))) : ∀ (n i : Nat), i + n = 319 → AW G MX12_image (d) 0 0 Q 18 [some (.ref (a 60)), some (.int (nI k)), some (.int (nI i))] [] (mW G.2.2.1 a (sN σ 57 (cpF (σ.2.1 57) (σ.2.1 6) (319 * k) 0 i))) 0 0 := by
  intro n
  induction n with
  | zero =>
    intro i hi
    refine aw_iload_n (pc := 18) (i := 2) dX12_image_18 rfl rfl ?_
    refine aw_sipush (pc := 19) dX12_image_19 sipush_319 ?_
    refine an_icmp_ge (pc := 22) (tgt := 49) dX12_image_22 rfl (by omega) (by decide) (fun h22 => ?_) (fun h22 => ?_)
    · -- 49
      refine aw_iconst (pc := 49) dX12_image_49 iconst_0 ?_
      refine aw_istore_n (pc := 50) (i := 2) dX12_image_50 rfl (Nat.le_of_ble_eq_true rfl) rfl ?_
      have e : i = 319 := by omega
      subst e
      refine aw_ws (w9 := mW G.2.2.1 a (sL (sN σ 57 (cpF (σ.2.1 57) (σ.2.1 6) (319 * k) 0 319)) 58 (cpG (σ.2.2.2.2 58) (σ.2.2.2.2 9) (13 * k) 0 0))) (by rw [cpG_0]; rfl) ?_
      exact image_l2 (σ := sN σ 57 (cpF (σ.2.1 57) (σ.2.1 6) (319 * k) 0 319)) hk kk 13 0 (by omega)
    · -- 25
      exfalso; omega
  | succ n ih =>
    intro i hi
    refine aw_iload_n (pc := 18) (i := 2) dX12_image_18 rfl rfl ?_
    refine aw_sipush (pc := 19) dX12_image_19 sipush_319 ?_
    refine an_icmp_ge (pc := 22) (tgt := 49) dX12_image_22 rfl (by omega) (by decide) (fun h22 => ?_) (fun h22 => ?_)
    · -- 49
      exfalso; omega
    · -- 25
      refine aw_aload_n (pc := 25) (i := 0) dX12_image_25 rfl rfl ?_
      refine mg_imaged (pc := 26) dX12_image_26 rfl ?_
      refine aw_sipush (pc := 29) dX12_image_29 sipush_319 ?_
      refine aw_iload_n (pc := 32) (i := 1) dX12_image_32 rfl rfl ?_
      refine an_mul (pc := 33) dX12_image_33 ?_
      refine aw_iload_n (pc := 34) (i := 2) dX12_image_34 rfl rfl ?_
      refine an_add (pc := 35) dX12_image_35 ?_
      refine aw_aload_n (pc := 36) (i := 0) dX12_image_36 rfl rfl ?_
      refine mg_s (pc := 37) dX12_image_37 rfl ?_
      refine aw_iload_n (pc := 40) (i := 2) dX12_image_40 rfl rfl ?_
      refine ml_s (pc := 41) dX12_image_41 (by omega) ?_
      refine aw_top (y := (nI (σ.2.1 6 i))) rfl ?_
      refine ms_imaged (pc := 42) dX12_image_42 (by omega) ?_
      refine an_inc (pc := 43) (z := 1) dX12_image_43 rfl (Nat.le_of_ble_eq_true rfl) rfl ?_
      refine aw_goto (pc := 46) (tgt := 18) dX12_image_46 rfl ?_
      refine aw_ws (w9 := mW G.2.2.1 a (sN σ 57 (cpF (σ.2.1 57) (σ.2.1 6) (319 * k) 0 (i + 1)))) (congrArg (fun z => mW G.2.2.1 a (sN σ 57 z)) (cpF_next (by omega) (congrArg (σ.2.1 6) (Nat.zero_add i).symm))) ?_
      exact ih (i + 1) (by omega)
set_option maxHeartbeats 1000000 in
set_option maxRecDepth 20000 in
theorem s_image {G : xG} {d : Nat} {Q : xQ} {a : Nat → Nat} {σ : mS} {x : Int32} (kk : Q (some (.int (bI (imageA x)))) (mW G.2.2.1 a (imageS σ x))) : MT G MX12_image (d + 1) 0 0 [.ref (a 60), .int x] (mW G.2.2.1 a σ) Q := by
  refine mt_start (L := [some (.ref (a 60)), some (.int x), none]) rfl (Nat.le_of_ble_eq_true rfl) rfl ?_
  refine aw_aload_n (pc := 0) (i := 0) dX12_image_0 rfl rfl ?_
  refine aw_iconst (pc := 1) dX12_image_1 iconst_0 ?_
  refine mp_thrown (pc := 2) dX12_image_2 rfl ?_
  refine aw_iload_n (pc := 5) (i := 1) dX12_image_5 rfl rfl ?_
  refine aw_iconst (pc := 6) dX12_image_6 iconst_0 ?_
  refine aw_iconst (pc := 7) dX12_image_7 iconst_1 ?_
  refine mt_I (pc := 8) (As := [.int x, .int (nI 0), .int (nI 1)]) (rest := []) dX12_image_8 rfl ok_X12_207 rfl rfl rfl (Nat.le_of_ble_eq_true rfl) (s_isIn ⟨_, _, rfl, rfl, ?_⟩)
  refine aw_top (y := bI (inC (nI 0) (nI 1) x)) rfl ?_
  refine ab_if_ne (pc := 11) (tgt := 16) dX12_image_11 rfl (fun h11 => ?_) (fun h11 => ?_)
  · -- 16
    obtain ⟨xn, b_xn, rfl⟩ := inC_t (by decide) (by decide) h11
    have e_xn := nI_clamp (n := xn) (by omega)
    refine aw_iconst (pc := 16) dX12_image_16 iconst_0 ?_
    refine aw_istore_n (pc := 17) (i := 2) dX12_image_17 rfl (Nat.le_of_ble_eq_true rfl) rfl ?_
    simp only [imageA, imageS, h11, e_xn, Bool.true_and, Bool.and_true, Bool.false_and, Bool.and_false, Bool.not_true, Bool.not_false, Bool.or_true, Bool.or_false, Bool.true_or, Bool.false_or, Bool.false_eq_true, Bool.true_eq_false, if_true, if_false, ite_true, ite_false, reduceIte, reduceCtorEq] at kk
    refine aw_ws (w9 := mW G.2.2.1 a (sN (mI σ 0 (nI 0)) 57 (cpF (σ.2.1 57) (σ.2.1 6) (319 * xn) 0 0))) (by rw [cpF_0]; rfl) ?_
    exact image_l1 (σ := mI σ 0 (nI 0)) (by omega) kk 319 0 (by omega)
  · -- 14
    refine aw_iconst (pc := 14) dX12_image_14 iconst_0 ?_
    exact ab_ret0 (pc := 15) dX12_image_15 rfl (Nat.le_refl _) (Nat.le_refl _) (by simp only [imageA, imageS, h11, Bool.true_and, Bool.and_true, Bool.false_and, Bool.and_false, Bool.not_true, Bool.not_false, Bool.or_true, Bool.or_false, Bool.true_or, Bool.false_or, Bool.false_eq_true, Bool.true_eq_false, if_true, if_false, ite_true, ite_false, reduceIte, reduceCtorEq] at kk; exact kk)
set_option maxHeartbeats 1000000 in
set_option maxRecDepth 20000 in
theorem restore_l2 {G : xG} {d : Nat} {Q : xQ} {a : Nat → Nat} {σ : mS} {k : Nat} (hk : k ≤ 1) (kk : Q (some (.int (bI true))) (mW G.2.2.1 a (mI (sL σ 9 (cpG (σ.2.2.2.2 9) (σ.2.2.2.2 58) 0 (13 * k) 13)) 23 (nI 0)))) : ∀ (n i : Nat), i + n = 13 → AW G MX12_restore (d) 0 0 Q 60 [some (.ref (a 60)), some (.int (nI k)), some (.int (nI i))] [] (mW G.2.2.1 a (sL σ 9 (cpG (σ.2.2.2.2 9) (σ.2.2.2.2 58) 0 (13 * k) i))) 0 0 := by
  intro n
  induction n with
  | zero =>
    intro i hi
    refine aw_iload_n (pc := 60) (i := 2) dX12_restore_60 rfl rfl ?_
    refine aw_bipush (pc := 61) dX12_restore_61 bipush_13 ?_
    refine an_icmp_ge (pc := 63) (tgt := 89) dX12_restore_63 rfl (by omega) (by decide) (fun h63 => ?_) (fun h63 => ?_)
    · -- 89
      refine aw_aload_n (pc := 89) (i := 0) dX12_restore_89 rfl rfl ?_
      refine aw_iconst (pc := 90) dX12_restore_90 iconst_0 ?_
      refine mp_undoMany (pc := 91) dX12_restore_91 rfl ?_
      refine aw_iconst (pc := 94) dX12_restore_94 iconst_1 ?_
      exact ab_ret1 (pc := 95) dX12_restore_95 rfl (Nat.le_refl _) (Nat.le_refl _) (by have e : i = 13 := (by omega); subst e; exact kk)
    · -- 66
      exfalso; omega
  | succ n ih =>
    intro i hi
    refine aw_iload_n (pc := 60) (i := 2) dX12_restore_60 rfl rfl ?_
    refine aw_bipush (pc := 61) dX12_restore_61 bipush_13 ?_
    refine an_icmp_ge (pc := 63) (tgt := 89) dX12_restore_63 rfl (by omega) (by decide) (fun h63 => ?_) (fun h63 => ?_)
    · -- 89
      exfalso; omega
    · -- 66
      refine aw_aload_n (pc := 66) (i := 0) dX12_restore_66 rfl rfl ?_
      refine mg_names (pc := 67) dX12_restore_67 rfl ?_
      refine aw_iload_n (pc := 70) (i := 2) dX12_restore_70 rfl rfl ?_
      refine aw_aload_n (pc := 71) (i := 0) dX12_restore_71 rfl rfl ?_
      refine mg_namesKept (pc := 72) dX12_restore_72 rfl ?_
      refine aw_bipush (pc := 75) dX12_restore_75 bipush_13 ?_
      refine aw_iload_n (pc := 77) (i := 1) dX12_restore_77 rfl rfl ?_
      refine an_mul (pc := 78) dX12_restore_78 ?_
      refine aw_iload_n (pc := 79) (i := 2) dX12_restore_79 rfl rfl ?_
      refine an_add (pc := 80) dX12_restore_80 ?_
      refine ml_namesKept (pc := 81) dX12_restore_81 (by omega) ?_
      refine aw_topJ (y := σ.2.2.2.2 58 ((13 * k) + i)) rfl ?_
      refine ms_names (pc := 82) dX12_restore_82 (by omega) ?_
      refine an_inc (pc := 83) (z := 1) dX12_restore_83 rfl (Nat.le_of_ble_eq_true rfl) rfl ?_
      refine aw_goto (pc := 86) (tgt := 60) dX12_restore_86 rfl ?_
      refine aw_ws (w9 := mW G.2.2.1 a (sL σ 9 (cpG (σ.2.2.2.2 9) (σ.2.2.2.2 58) 0 (13 * k) (i + 1)))) (congrArg (fun z => mW G.2.2.1 a (sL σ 9 z)) (cpG_next (by omega) (by first | rfl | (rw [Nat.zero_add]; rfl) | (congr 1; omega)))) ?_
      exact ih (i + 1) (by omega)
set_option maxHeartbeats 1000000 in
set_option maxRecDepth 20000 in
theorem restore_l1 {G : xG} {d : Nat} {Q : xQ} {a : Nat → Nat} {σ : mS} {k : Nat} (hk : k ≤ 1) (kk : Q (some (.int (bI true))) (mW G.2.2.1 a (mI (sL (sN σ 6 (cpF (σ.2.1 6) (σ.2.1 57) 0 (319 * k) 319)) 9 (cpG (σ.2.2.2.2 9) (σ.2.2.2.2 58) 0 (13 * k) 13)) 23 (nI 0)))) : ∀ (n i : Nat), i + n = 319 → AW G MX12_restore (d) 0 0 Q 27 [some (.ref (a 60)), some (.int (nI k)), some (.int (nI i))] [] (mW G.2.2.1 a (sN σ 6 (cpF (σ.2.1 6) (σ.2.1 57) 0 (319 * k) i))) 0 0 := by
  intro n
  induction n with
  | zero =>
    intro i hi
    refine aw_iload_n (pc := 27) (i := 2) dX12_restore_27 rfl rfl ?_
    refine aw_sipush (pc := 28) dX12_restore_28 sipush_319 ?_
    refine an_icmp_ge (pc := 31) (tgt := 58) dX12_restore_31 rfl (by omega) (by decide) (fun h31 => ?_) (fun h31 => ?_)
    · -- 58
      refine aw_iconst (pc := 58) dX12_restore_58 iconst_0 ?_
      refine aw_istore_n (pc := 59) (i := 2) dX12_restore_59 rfl (Nat.le_of_ble_eq_true rfl) rfl ?_
      have e : i = 319 := by omega
      subst e
      refine aw_ws (w9 := mW G.2.2.1 a (sL (sN σ 6 (cpF (σ.2.1 6) (σ.2.1 57) 0 (319 * k) 319)) 9 (cpG (σ.2.2.2.2 9) (σ.2.2.2.2 58) 0 (13 * k) 0))) (by rw [cpG_0]; rfl) ?_
      exact restore_l2 (σ := sN σ 6 (cpF (σ.2.1 6) (σ.2.1 57) 0 (319 * k) 319)) hk kk 13 0 (by omega)
    · -- 34
      exfalso; omega
  | succ n ih =>
    intro i hi
    refine aw_iload_n (pc := 27) (i := 2) dX12_restore_27 rfl rfl ?_
    refine aw_sipush (pc := 28) dX12_restore_28 sipush_319 ?_
    refine an_icmp_ge (pc := 31) (tgt := 58) dX12_restore_31 rfl (by omega) (by decide) (fun h31 => ?_) (fun h31 => ?_)
    · -- 58
      exfalso; omega
    · -- 34
      refine aw_aload_n (pc := 34) (i := 0) dX12_restore_34 rfl rfl ?_
      refine mg_s (pc := 35) dX12_restore_35 rfl ?_
      refine aw_iload_n (pc := 38) (i := 2) dX12_restore_38 rfl rfl ?_
      refine aw_aload_n (pc := 39) (i := 0) dX12_restore_39 rfl rfl ?_
      refine mg_imaged (pc := 40) dX12_restore_40 rfl ?_
      refine aw_sipush (pc := 43) dX12_restore_43 sipush_319 ?_
      refine aw_iload_n (pc := 46) (i := 1) dX12_restore_46 rfl rfl ?_
      refine an_mul (pc := 47) dX12_restore_47 ?_
      refine aw_iload_n (pc := 48) (i := 2) dX12_restore_48 rfl rfl ?_
      refine an_add (pc := 49) dX12_restore_49 ?_
      refine ml_imaged (pc := 50) dX12_restore_50 (by omega) ?_
      refine aw_top (y := (nI (σ.2.1 57 ((319 * k) + i)))) rfl ?_
      refine ms_s (pc := 51) dX12_restore_51 (by omega) ?_
      refine an_inc (pc := 52) (z := 1) dX12_restore_52 rfl (Nat.le_of_ble_eq_true rfl) rfl ?_
      refine aw_goto (pc := 55) (tgt := 27) dX12_restore_55 rfl ?_
      refine aw_ws (w9 := mW G.2.2.1 a (sN σ 6 (cpF (σ.2.1 6) (σ.2.1 57) 0 (319 * k) (i + 1)))) (congrArg (fun z => mW G.2.2.1 a (sN σ 6 z)) (cpF_next (by omega) (by first | rfl | (rw [Nat.zero_add]; rfl) | (congr 1; omega)))) ?_
      exact ih (i + 1) (by omega)
set_option maxHeartbeats 1000000 in
set_option maxRecDepth 20000 in
theorem s_restore {G : xG} {d : Nat} {Q : xQ} {a : Nat → Nat} {σ : mS} {x : Int32} (hb59 : ∀ j, σ.2.1 59 j < 2) (kk : Q (some (.int (bI (restoreA σ x)))) (mW G.2.2.1 a (restoreS σ x))) : MT G MX12_restore (d + 1) 0 0 [.ref (a 60), .int x] (mW G.2.2.1 a σ) Q := by
  refine mt_start (L := [some (.ref (a 60)), some (.int x), none]) rfl (Nat.le_of_ble_eq_true rfl) rfl ?_
  refine aw_aload_n (pc := 0) (i := 0) dX12_restore_0 rfl rfl ?_
  refine aw_iconst (pc := 1) dX12_restore_1 iconst_0 ?_
  refine mp_thrown (pc := 2) dX12_restore_2 rfl ?_
  refine aw_iload_n (pc := 5) (i := 1) dX12_restore_5 rfl rfl ?_
  refine aw_iconst (pc := 6) dX12_restore_6 iconst_0 ?_
  refine aw_iconst (pc := 7) dX12_restore_7 iconst_1 ?_
  refine mt_I (pc := 8) (As := [.int x, .int (nI 0), .int (nI 1)]) (rest := []) dX12_restore_8 rfl ok_X12_207 rfl rfl rfl (Nat.le_of_ble_eq_true rfl) (s_isIn ⟨_, _, rfl, rfl, ?_⟩)
  refine aw_top (y := bI (inC (nI 0) (nI 1) x)) rfl ?_
  refine ab_if_eq (pc := 11) (tgt := 23) dX12_restore_11 rfl (fun h11 => ?_) (fun h11 => ?_)
  · -- 23
    refine aw_iconst (pc := 23) dX12_restore_23 iconst_0 ?_
    exact ab_ret0 (pc := 24) dX12_restore_24 rfl (Nat.le_refl _) (Nat.le_refl _) (by simp only [restoreA, restoreS, h11, Nat.lt_irrefl, decide_false, decide_true, Bool.true_and, Bool.and_true, Bool.false_and, Bool.and_false, Bool.not_true, Bool.not_false, Bool.or_true, Bool.or_false, Bool.true_or, Bool.false_or, Bool.false_eq_true, Bool.true_eq_false, if_true, if_false, ite_true, ite_false, reduceIte, reduceCtorEq] at kk; exact kk)
  · -- 14
    obtain ⟨xn, b_xn, rfl⟩ := inC_t (by decide) (by decide) h11
    have e_xn := nI_clamp (n := xn) (by omega)
    refine aw_aload_n (pc := 14) (i := 0) dX12_restore_14 rfl rfl ?_
    refine mg_areKept (pc := 15) dX12_restore_15 rfl ?_
    refine aw_iload_n (pc := 18) (i := 1) dX12_restore_18 rfl rfl ?_
    refine ml_areKept (pc := 19) dX12_restore_19 (by omega) ?_
    refine aw_top (y := (nI (σ.2.1 59 xn))) rfl ?_
    refine an_if_ne (pc := 20) (tgt := 25) dX12_restore_20 rfl (Nat.lt_trans (hb59 _) (by decide)) (fun h20 => ?_) (fun h20 => ?_)
    · -- 25
      refine aw_iconst (pc := 25) dX12_restore_25 iconst_0 ?_
      refine aw_istore_n (pc := 26) (i := 2) dX12_restore_26 rfl (Nat.le_of_ble_eq_true rfl) rfl ?_
      simp only [restoreA, restoreS, h11, e_xn, h20, decide_true, Bool.true_and, Bool.and_true, Bool.false_and, Bool.and_false, Bool.not_true, Bool.not_false, Bool.or_true, Bool.or_false, Bool.true_or, Bool.false_or, Bool.false_eq_true, Bool.true_eq_false, if_true, if_false, ite_true, ite_false, reduceIte, reduceCtorEq] at kk
      refine aw_ws (w9 := mW G.2.2.1 a (sN (mI σ 0 (nI 0)) 6 (cpF (σ.2.1 6) (σ.2.1 57) 0 (319 * xn) 0))) (by rw [cpF_0]; rfl) ?_
      exact restore_l1 (σ := mI σ 0 (nI 0)) (by omega) kk 319 0 (by omega)
    · -- 23
      refine aw_iconst (pc := 23) dX12_restore_23 iconst_0 ?_
      exact ab_ret0 (pc := 24) dX12_restore_24 rfl (Nat.le_refl _) (Nat.le_refl _) (by simp only [restoreA, restoreS, h11, e_xn, h20, Nat.lt_irrefl, decide_false, decide_true, Bool.true_and, Bool.and_true, Bool.false_and, Bool.and_false, Bool.not_true, Bool.not_false, Bool.or_true, Bool.or_false, Bool.true_or, Bool.false_or, Bool.false_eq_true, Bool.true_eq_false, if_true, if_false, ite_true, ite_false, reduceIte, reduceCtorEq] at kk; exact kk)
