def partR (t : Nat → Nat) (cl set r : Nat) : Nat := if cl.testBit r = true then set else if set.testBit (t (24 + r)) = true then set ||| (2 ^ t (24 + r) ||| 2 ^ t (36 + r)) else if set.testBit (t (36 + r)) = true then set ||| (2 ^ t (24 + r) ||| 2 ^ t (36 + r)) else set
def partL (t : Nat → Nat) (cl set : Nat) : Nat → Nat
  | 0 => set
  | n + 1 => partR t cl (partL t cl set n) n
def partK (t : Nat → Nat) (cl set : Nat) : Nat → Nat
  | 0 => set
  | k + 1 => partL t cl (partK t cl set k) (t 1)
def partedF (t : Nat → Nat) (x y cl : Nat) : Bool := !(partK t cl (2 ^ x) (t 0)).testBit y
def WR (t : Nat → Nat) : Prop := (∀ j, t j < 2 ^ 30) ∧ t 0 ≤ 7 ∧ t 1 ≤ 12 ∧ ∀ r, r < t 1 → t (24 + r) < 7 ∧ t (36 + r) < 7
theorem WT_WR {t : Nat → Nat} (h : WT t) : WR t := by
  obtain ⟨hb, h0, h1, h2, hR, hP, hD, hC, hT⟩ := h
  exact ⟨hb, h0, h1, fun r hr => by have := hR r hr; omega⟩
theorem two7 {x : Nat} (h : x < 7) : 2 ^ x < 128 := Nat.pow_lt_pow_right (a := 2) (by decide) h
theorem partR_lt {t : Nat → Nat} {cl set r : Nat} (h : set < 128) (hr : t (24 + r) < 7 ∧ t (36 + r) < 7) : partR t cl set r < 128 := by
  have hx : set ||| (2 ^ t (24 + r) ||| 2 ^ t (36 + r)) < 128 := Nat.or_lt_two_pow (n := 7) h (Nat.or_lt_two_pow (n := 7) (two7 hr.1) (two7 hr.2))
  unfold partR
  split
  · exact h
  · split
    · exact hx
    · split
      · exact hx
      · exact h
theorem partL_lt {t : Nat → Nat} (H : WR t) {cl set : Nat} (h : set < 128) : ∀ n, n ≤ t 1 → partL t cl set n < 128 := by
  intro n
  induction n with
  | zero => intro _; exact h
  | succ n ih => intro hn; exact partR_lt (ih (by omega)) (H.2.2.2 n (by omega))
theorem partK_lt {t : Nat → Nat} (H : WR t) {cl set : Nat} (h : set < 128) : ∀ n, partK t cl set n < 128 := by
  intro n
  induction n with
  | zero => exact h
  | succ n ih => exact partL_lt H ih _ (Nat.le_refl _)

set_option maxHeartbeats 1000000 in
set_option maxRecDepth 20000 in
theorem parted_in {G : xG} {d : Nat} {Q : xQ} {a : Nat → Nat} {σ : mS} {x y cl rd set : Nat} (H : WR (σ.2.1 6)) (hx : x < 7) (hy : y < 7) (hcl : cl < 2 ^ 31) (hset : set < 128) (kk : AW G MX12_areParted (d + 1) 0 0 Q 117 [some (.ref (a 60)), some (.int (nI x)), some (.int (nI y)), some (.int (nI cl)), some (.int (nI (partL (σ.2.1 6) cl set (σ.2.1 6 1)))), some (.int (nI rd)), some (.int (nI (σ.2.1 6 1)))] [] (mW G.2.2.1 a σ) 0 0) : ∀ (n i : Nat), i + n = σ.2.1 6 1 → AW G MX12_areParted (d + 1) 0 0 Q 22 [some (.ref (a 60)), some (.int (nI x)), some (.int (nI y)), some (.int (nI cl)), some (.int (nI (partL (σ.2.1 6) cl set i))), some (.int (nI rd)), some (.int (nI i))] [] (mW G.2.2.1 a σ) 0 0 := by
  have h1 := H.2.2.1
  intro n
  induction n with
  | zero =>
    intro i hi
    refine aw_iload (pc := 22) dX12_areParted_22 rfl ?_
    refine aw_aload_n (pc := 24) (i := 0) dX12_areParted_24 rfl rfl ?_
    refine mg_s (pc := 25) dX12_areParted_25 rfl ?_
    refine aw_iconst (pc := 28) dX12_areParted_28 iconst_1 ?_
    refine ml_s (pc := 29) dX12_areParted_29 (by decide) ?_
    refine an_icmp_ge (pc := 30) (tgt := 117) dX12_areParted_30 rfl (by omega) (Nat.lt_trans (H.1 _) (by decide)) (fun h30 => ?_) (fun h30 => ?_)
    · -- 117
      have e : i = σ.2.1 6 1 := by omega
      subst e
      exact kk
    · -- 33
      exfalso; omega
  | succ n ih =>
    intro i hi
    have hr := H.2.2.2 i (by omega)
    have hu := partL_lt H (cl := cl) hset i (by omega)
    have ps : partL (σ.2.1 6) cl set (i + 1) = partR (σ.2.1 6) cl (partL (σ.2.1 6) cl set i) i := rfl
    have q1 := two7 hr.1
    have q2 := two7 hr.2
    generalize partL (σ.2.1 6) cl set i = u at *
    refine aw_iload (pc := 22) dX12_areParted_22 rfl ?_
    refine aw_aload_n (pc := 24) (i := 0) dX12_areParted_24 rfl rfl ?_
    refine mg_s (pc := 25) dX12_areParted_25 rfl ?_
    refine aw_iconst (pc := 28) dX12_areParted_28 iconst_1 ?_
    refine ml_s (pc := 29) dX12_areParted_29 (by decide) ?_
    refine an_icmp_ge (pc := 30) (tgt := 117) dX12_areParted_30 rfl (by omega) (Nat.lt_trans (H.1 _) (by decide)) (fun h30 => ?_) (fun h30 => ?_)
    · -- 117
      exfalso; omega
    · -- 33
      refine aw_iload_n (pc := 33) (i := 3) dX12_areParted_33 rfl rfl ?_
      refine aw_iload (pc := 34) dX12_areParted_34 rfl ?_
      refine mt_I (pc := 36) (As := [.int (nI cl), .int (nI i)]) (rest := []) dX12_areParted_36 rfl ok_X12_257 rfl rfl rfl (Nat.le_of_ble_eq_true rfl) (s_bitOf (by omega) (by omega) ⟨_, _, rfl, rfl, ?_⟩)
      refine ab_if_ne (pc := 39) (tgt := 111) dX12_areParted_39 rfl (fun h39 => ?_) (fun h39 => ?_)
      · -- 111
        refine an_inc (pc := 111) (z := 1) dX12_areParted_111 rfl (Nat.le_of_ble_eq_true rfl) rfl ?_
        refine aw_goto (pc := 114) (tgt := 22) dX12_areParted_114 rfl ?_
        have e : partL (σ.2.1 6) cl set (i + 1) = u := by rw [ps, partR, if_pos h39]
        refine aw_L (L9 := [some (.ref (a 60)), some (.int (nI x)), some (.int (nI y)), some (.int (nI cl)), some (.int (nI (partL (σ.2.1 6) cl set (i + 1)))), some (.int (nI rd)), some (.int (nI (i + 1)))]) (by rw [e]; rfl) ?_
        exact ih (i + 1) (by omega)
      · -- 42
        refine aw_iload (pc := 42) dX12_areParted_42 rfl ?_
        refine aw_aload_n (pc := 44) (i := 0) dX12_areParted_44 rfl rfl ?_
        refine mg_s (pc := 45) dX12_areParted_45 rfl ?_
        refine aw_bipush (pc := 48) dX12_areParted_48 bipush_24 ?_
        refine aw_iload (pc := 50) dX12_areParted_50 rfl ?_
        refine an_add (pc := 52) dX12_areParted_52 ?_
        refine ml_s (pc := 53) dX12_areParted_53 (by omega) ?_
        refine mt_I (pc := 54) (As := [.int (nI u), .int (nI (σ.2.1 6 (24 + i)))]) (rest := []) dX12_areParted_54 rfl ok_X12_257 rfl rfl rfl (Nat.le_of_ble_eq_true rfl) (s_bitOf (by omega) (by omega) ⟨_, _, rfl, rfl, ?_⟩)
        refine ab_if_ne (pc := 57) (tgt := 81) dX12_areParted_57 rfl (fun h57 => ?_) (fun h57 => ?_)
        · -- 81
          refine aw_iload (pc := 81) dX12_areParted_81 rfl ?_
          refine aw_iconst (pc := 83) dX12_areParted_83 iconst_1 ?_
          refine aw_aload_n (pc := 84) (i := 0) dX12_areParted_84 rfl rfl ?_
          refine mg_s (pc := 85) dX12_areParted_85 rfl ?_
          refine aw_bipush (pc := 88) dX12_areParted_88 bipush_24 ?_
          refine aw_iload (pc := 90) dX12_areParted_90 rfl ?_
          refine an_add (pc := 92) dX12_areParted_92 ?_
          refine ml_s (pc := 93) dX12_areParted_93 (by omega) ?_
          refine aw_ishl (pc := 94) dX12_areParted_94 ?_
          refine aw_top (y := (nI (2 ^ σ.2.1 6 (24 + i)))) (nI_1shl (by omega)) ?_
          refine aw_iconst (pc := 95) dX12_areParted_95 iconst_1 ?_
          refine aw_aload_n (pc := 96) (i := 0) dX12_areParted_96 rfl rfl ?_
          refine mg_s (pc := 97) dX12_areParted_97 rfl ?_
          refine aw_bipush (pc := 100) dX12_areParted_100 bipush_36 ?_
          refine aw_iload (pc := 102) dX12_areParted_102 rfl ?_
          refine an_add (pc := 104) dX12_areParted_104 ?_
          refine ml_s (pc := 105) dX12_areParted_105 (by omega) ?_
          refine aw_ishl (pc := 106) dX12_areParted_106 ?_
          refine aw_top (y := (nI (2 ^ σ.2.1 6 (36 + i)))) (nI_1shl (by omega)) ?_
          refine aw_ior (pc := 107) dX12_areParted_107 ?_
          refine aw_top (y := (nI (2 ^ σ.2.1 6 (24 + i) ||| 2 ^ σ.2.1 6 (36 + i)))) (nI_or _ _ (by omega) (by omega)) ?_
          refine aw_ior (pc := 108) dX12_areParted_108 ?_
          refine aw_top (y := (nI (u ||| (2 ^ σ.2.1 6 (24 + i) ||| 2 ^ σ.2.1 6 (36 + i))))) (nI_or _ _ (by omega) (Nat.lt_trans (Nat.or_lt_two_pow (n := 7) q1 q2) (by decide))) ?_
          refine aw_istore (pc := 109) (i := 4) dX12_areParted_109 (Nat.le_of_ble_eq_true rfl) rfl ?_
          refine an_inc (pc := 111) (z := 1) dX12_areParted_111 rfl (Nat.le_of_ble_eq_true rfl) rfl ?_
          refine aw_goto (pc := 114) (tgt := 22) dX12_areParted_114 rfl ?_
          have e : partL (σ.2.1 6) cl set (i + 1) = u ||| (2 ^ σ.2.1 6 (24 + i) ||| 2 ^ σ.2.1 6 (36 + i)) := by rw [ps, partR, if_neg (by rw [h39]; decide), if_pos h57]
          refine aw_L (L9 := [some (.ref (a 60)), some (.int (nI x)), some (.int (nI y)), some (.int (nI cl)), some (.int (nI (partL (σ.2.1 6) cl set (i + 1)))), some (.int (nI rd)), some (.int (nI (i + 1)))]) (by rw [e]; rfl) ?_
          exact ih (i + 1) (by omega)
        · -- 60
          refine aw_iload (pc := 60) dX12_areParted_60 rfl ?_
          refine aw_aload_n (pc := 62) (i := 0) dX12_areParted_62 rfl rfl ?_
          refine mg_s (pc := 63) dX12_areParted_63 rfl ?_
          refine aw_bipush (pc := 66) dX12_areParted_66 bipush_36 ?_
          refine aw_iload (pc := 68) dX12_areParted_68 rfl ?_
          refine an_add (pc := 70) dX12_areParted_70 ?_
          refine ml_s (pc := 71) dX12_areParted_71 (by omega) ?_
          refine mt_I (pc := 72) (As := [.int (nI u), .int (nI (σ.2.1 6 (36 + i)))]) (rest := []) dX12_areParted_72 rfl ok_X12_257 rfl rfl rfl (Nat.le_of_ble_eq_true rfl) (s_bitOf (by omega) (by omega) ⟨_, _, rfl, rfl, ?_⟩)
          refine ab_if_ne (pc := 75) (tgt := 81) dX12_areParted_75 rfl (fun h75 => ?_) (fun h75 => ?_)
          · -- 81
            refine aw_iload (pc := 81) dX12_areParted_81 rfl ?_
            refine aw_iconst (pc := 83) dX12_areParted_83 iconst_1 ?_
            refine aw_aload_n (pc := 84) (i := 0) dX12_areParted_84 rfl rfl ?_
            refine mg_s (pc := 85) dX12_areParted_85 rfl ?_
            refine aw_bipush (pc := 88) dX12_areParted_88 bipush_24 ?_
            refine aw_iload (pc := 90) dX12_areParted_90 rfl ?_
            refine an_add (pc := 92) dX12_areParted_92 ?_
            refine ml_s (pc := 93) dX12_areParted_93 (by omega) ?_
            refine aw_ishl (pc := 94) dX12_areParted_94 ?_
            refine aw_top (y := (nI (2 ^ σ.2.1 6 (24 + i)))) (nI_1shl (by omega)) ?_
            refine aw_iconst (pc := 95) dX12_areParted_95 iconst_1 ?_
            refine aw_aload_n (pc := 96) (i := 0) dX12_areParted_96 rfl rfl ?_
            refine mg_s (pc := 97) dX12_areParted_97 rfl ?_
            refine aw_bipush (pc := 100) dX12_areParted_100 bipush_36 ?_
            refine aw_iload (pc := 102) dX12_areParted_102 rfl ?_
            refine an_add (pc := 104) dX12_areParted_104 ?_
            refine ml_s (pc := 105) dX12_areParted_105 (by omega) ?_
            refine aw_ishl (pc := 106) dX12_areParted_106 ?_
            refine aw_top (y := (nI (2 ^ σ.2.1 6 (36 + i)))) (nI_1shl (by omega)) ?_
            refine aw_ior (pc := 107) dX12_areParted_107 ?_
            refine aw_top (y := (nI (2 ^ σ.2.1 6 (24 + i) ||| 2 ^ σ.2.1 6 (36 + i)))) (nI_or _ _ (by omega) (by omega)) ?_
            refine aw_ior (pc := 108) dX12_areParted_108 ?_
            refine aw_top (y := (nI (u ||| (2 ^ σ.2.1 6 (24 + i) ||| 2 ^ σ.2.1 6 (36 + i))))) (nI_or _ _ (by omega) (Nat.lt_trans (Nat.or_lt_two_pow (n := 7) q1 q2) (by decide))) ?_
            refine aw_istore (pc := 109) (i := 4) dX12_areParted_109 (Nat.le_of_ble_eq_true rfl) rfl ?_
            refine an_inc (pc := 111) (z := 1) dX12_areParted_111 rfl (Nat.le_of_ble_eq_true rfl) rfl ?_
            refine aw_goto (pc := 114) (tgt := 22) dX12_areParted_114 rfl ?_
            have e : partL (σ.2.1 6) cl set (i + 1) = u ||| (2 ^ σ.2.1 6 (24 + i) ||| 2 ^ σ.2.1 6 (36 + i)) := by rw [ps, partR, if_neg (by rw [h39]; decide), if_neg (by rw [h57]; decide), if_pos h75]
            refine aw_L (L9 := [some (.ref (a 60)), some (.int (nI x)), some (.int (nI y)), some (.int (nI cl)), some (.int (nI (partL (σ.2.1 6) cl set (i + 1)))), some (.int (nI rd)), some (.int (nI (i + 1)))]) (by rw [e]; rfl) ?_
            exact ih (i + 1) (by omega)
          · -- 78
            refine aw_goto (pc := 78) (tgt := 111) dX12_areParted_78 rfl ?_
            refine an_inc (pc := 111) (z := 1) dX12_areParted_111 rfl (Nat.le_of_ble_eq_true rfl) rfl ?_
            refine aw_goto (pc := 114) (tgt := 22) dX12_areParted_114 rfl ?_
            have e : partL (σ.2.1 6) cl set (i + 1) = u := by rw [ps, partR, if_neg (by rw [h39]; decide), if_neg (by rw [h57]; decide), if_neg (by rw [h75]; decide)]
            refine aw_L (L9 := [some (.ref (a 60)), some (.int (nI x)), some (.int (nI y)), some (.int (nI cl)), some (.int (nI (partL (σ.2.1 6) cl set (i + 1)))), some (.int (nI rd)), some (.int (nI (i + 1)))]) (by rw [e]; rfl) ?_
            exact ih (i + 1) (by omega)
set_option maxHeartbeats 1000000 in
set_option maxRecDepth 20000 in
theorem parted_out {G : xG} {d : Nat} {Q : xQ} {a : Nat → Nat} {σ : mS} {x y cl : Nat} (H : WR (σ.2.1 6)) (hx : x < 7) (hy : y < 7) (hcl : cl < 2 ^ 31) (kk : Q (some (.int (bI (partedF (σ.2.1 6) x y cl)))) (mW G.2.2.1 a σ)) : ∀ (n i : Nat) (v6 : Option Value), i + n = σ.2.1 6 0 → AW G MX12_areParted (d + 1) 0 0 Q 8 [some (.ref (a 60)), some (.int (nI x)), some (.int (nI y)), some (.int (nI cl)), some (.int (nI (partK (σ.2.1 6) cl (2 ^ x) i))), some (.int (nI i)), v6] [] (mW G.2.2.1 a σ) 0 0 := by
  have h0 := H.2.1
  intro n
  induction n with
  | zero =>
    intro i v6 hi
    have hu := partK_lt H (cl := cl) (two7 hx) i
    refine aw_iload (pc := 8) dX12_areParted_8 rfl ?_
    refine aw_aload_n (pc := 10) (i := 0) dX12_areParted_10 rfl rfl ?_
    refine mg_s (pc := 11) dX12_areParted_11 rfl ?_
    refine aw_iconst (pc := 14) dX12_areParted_14 iconst_0 ?_
    refine ml_s (pc := 15) dX12_areParted_15 (by decide) ?_
    refine an_icmp_ge (pc := 16) (tgt := 123) dX12_areParted_16 rfl (by omega) (Nat.lt_trans (H.1 _) (by decide)) (fun h16 => ?_) (fun h16 => ?_)
    · -- 123
      refine aw_iload (pc := 123) dX12_areParted_123 rfl ?_
      refine aw_iload_n (pc := 125) (i := 2) dX12_areParted_125 rfl rfl ?_
      refine mt_I (pc := 126) (As := [.int (nI (partK (σ.2.1 6) cl (2 ^ x) i)), .int (nI y)]) (rest := []) dX12_areParted_126 rfl ok_X12_257 rfl rfl rfl (Nat.le_of_ble_eq_true rfl) (s_bitOf (by omega) (by omega) ⟨_, _, rfl, rfl, ?_⟩)
      refine ab_if_ne (pc := 129) (tgt := 136) dX12_areParted_129 rfl (fun h129 => ?_) (fun h129 => ?_)
      · -- 136
        refine aw_iconst (pc := 136) dX12_areParted_136 iconst_0 ?_
        exact ab_ret0 (pc := 137) dX12_areParted_137 rfl (Nat.le_refl _) (Nat.le_refl _) (by have e : i = σ.2.1 6 0 := (by omega); subst e; rw [partedF, h129] at kk; exact kk)
      · -- 132
        refine aw_iconst (pc := 132) dX12_areParted_132 iconst_1 ?_
        refine aw_goto (pc := 133) (tgt := 137) dX12_areParted_133 rfl ?_
        exact ab_ret1 (pc := 137) dX12_areParted_137 rfl (Nat.le_refl _) (Nat.le_refl _) (by have e : i = σ.2.1 6 0 := (by omega); subst e; rw [partedF, h129] at kk; exact kk)
    · -- 19
      exfalso; omega
  | succ n ih =>
    intro i v6 hi
    have hu := partK_lt H (cl := cl) (two7 hx) i
    refine aw_iload (pc := 8) dX12_areParted_8 rfl ?_
    refine aw_aload_n (pc := 10) (i := 0) dX12_areParted_10 rfl rfl ?_
    refine mg_s (pc := 11) dX12_areParted_11 rfl ?_
    refine aw_iconst (pc := 14) dX12_areParted_14 iconst_0 ?_
    refine ml_s (pc := 15) dX12_areParted_15 (by decide) ?_
    refine an_icmp_ge (pc := 16) (tgt := 123) dX12_areParted_16 rfl (by omega) (Nat.lt_trans (H.1 _) (by decide)) (fun h16 => ?_) (fun h16 => ?_)
    · -- 123
      exfalso; omega
    · -- 19
      refine aw_iconst (pc := 19) dX12_areParted_19 iconst_0 ?_
      refine aw_istore (pc := 20) (i := 6) dX12_areParted_20 (Nat.le_of_ble_eq_true rfl) rfl ?_
      refine parted_in H hx hy hcl hu ?_ (σ.2.1 6 1) 0 (by omega)
      refine an_inc (pc := 117) (z := 1) dX12_areParted_117 rfl (Nat.le_of_ble_eq_true rfl) rfl ?_
      refine aw_goto (pc := 120) (tgt := 8) dX12_areParted_120 rfl ?_
      exact ih (i + 1) _ (by omega)
set_option maxHeartbeats 1000000 in
set_option maxRecDepth 20000 in
theorem s_areParted {G : xG} {d : Nat} {Q : xQ} {a : Nat → Nat} {σ : mS} {x y cl : Nat} (H : WR (σ.2.1 6)) (hx : x < 7) (hy : y < 7) (hcl : cl < 2 ^ 31) (kk : Q (some (.int (bI (partedF (σ.2.1 6) x y cl)))) (mW G.2.2.1 a σ)) : MT G MX12_areParted (d + 1) 0 0 [.ref (a 60), .int (nI x), .int (nI y), .int (nI cl)] (mW G.2.2.1 a σ) Q := by
  refine mt_start (L := [some (.ref (a 60)), some (.int (nI x)), some (.int (nI y)), some (.int (nI cl)), none, none, none]) rfl (Nat.le_of_ble_eq_true rfl) rfl ?_
  refine aw_iconst (pc := 0) dX12_areParted_0 iconst_1 ?_
  refine aw_iload_n (pc := 1) (i := 1) dX12_areParted_1 rfl rfl ?_
  refine aw_ishl (pc := 2) dX12_areParted_2 ?_
  refine aw_top (y := (nI (2 ^ x))) (nI_1shl (by omega)) ?_
  refine aw_istore (pc := 3) (i := 4) dX12_areParted_3 (Nat.le_of_ble_eq_true rfl) rfl ?_
  refine aw_iconst (pc := 5) dX12_areParted_5 iconst_0 ?_
  refine aw_istore (pc := 6) (i := 5) dX12_areParted_6 (Nat.le_of_ble_eq_true rfl) rfl ?_
  exact parted_out H hx hy hcl kk (σ.2.1 6 0) 0 _ (by omega)
def openSet (t : Nat → Nat) : Nat := (2 ^ t 1 - 1) ^^^ t 93
def partG (t : Nat → Nat) (x y : Nat) : Nat → Nat
  | 0 => openSet t
  | n + 1 => if n &&& t 93 = 0 then (if bitsN n < bitsN (partG t x y n) then (if partedF t x y (n ||| t 93) = true then n else partG t x y n) else partG t x y n) else partG t x y n
def partN (t : Nat → Nat) (x y : Nat) : Nat := partG t x y (2 ^ t 1)
def partOK (t : Nat → Nat) (x y : Int32) : Bool := inB (t 0) x && inB (t 0) y && decide (¬ x = y)
def partA (t : Nat → Nat) (x y : Int32) : Int32 := if inB (t 0) x = true then (if inB (t 0) y = true then (if x.toNatClampNeg = y.toNatClampNeg then -1 else nI (bitsN (partN t x.toNatClampNeg y.toNatClampNeg))) else -1) else -1
def partS (σ : mS) (x y : Int32) : mS := if inB (σ.2.1 6 0) x = true then (if inB (σ.2.1 6 0) y = true then (if x.toNatClampNeg = y.toNatClampNeg then mI σ 0 (nI 0) else mI (mI (mI σ 0 (nI 0)) 43 (nI 1)) 42 (nI (partN (σ.2.1 6) x.toNatClampNeg y.toNatClampNeg))) else mI σ 0 (nI 0)) else mI σ 0 (nI 0)
theorem nI_andnot {r c : Nat} (hr : r ≤ 12) (hc : c < 2 ^ r) : nI (2 ^ r - 1) &&& (nI c ^^^ (-1)) = nI ((2 ^ r - 1) ^^^ c) := by
  have h12 : 2 ^ r ≤ 4096 := Nat.pow_le_pow_right (n := 2) (by decide) hr
  apply Int32.toBitVec_inj.mp
  have e : ∀ z, (nI z).toBitVec = BitVec.ofNat 32 z := fun z => rfl
  rw [Int32.toBitVec_and, Int32.toBitVec_xor, e, e, e, show (-1 : Int32).toBitVec = BitVec.allOnes 32 from rfl]
  apply BitVec.eq_of_getLsbD_eq
  intro i hi
  simp only [BitVec.getLsbD_and, BitVec.getLsbD_xor, BitVec.getLsbD_ofNat, BitVec.getLsbD_allOnes, hi, decide_true, Bool.true_and, Nat.testBit_xor, Nat.testBit_two_pow_sub_one]
  by_cases hir : i < r
  · simp [hir]
  · have : c.testBit i = false := Nat.testBit_lt_two_pow (Nat.lt_of_lt_of_le hc (Nat.pow_le_pow_right (by decide) (by omega)))
    simp [hir, this]
theorem openSet_lt {t : Nat → Nat} (h1 : t 1 ≤ 12) (hc : t 93 < 2 ^ t 1) : openSet t < 4096 := by
  have h12 : 2 ^ t 1 ≤ 4096 := Nat.pow_le_pow_right (n := 2) (by decide) h1
  have : (2 ^ t 1 - 1) ^^^ t 93 < 2 ^ t 1 := Nat.xor_lt_two_pow (by omega) hc
  unfold openSet
  omega
theorem partG_lt {t : Nat → Nat} {x y : Nat} (h1 : t 1 ≤ 12) (hc : t 93 < 2 ^ t 1) : ∀ n, n ≤ 4096 → partG t x y n < 4096 := by
  intro n
  induction n with
  | zero => intro _; exact openSet_lt h1 hc
  | succ n ih =>
    intro hn
    have := ih (by omega)
    unfold partG
    repeat' split
    all_goals omega

set_option maxHeartbeats 1000000 in
set_option maxRecDepth 20000 in
theorem part_loop {G : xG} {d : Nat} {Q : xQ} {a : Nat → Nat} {σ : mS} {x y : Nat} (H : WR (σ.2.1 6)) (hc : σ.2.1 6 93 < 2 ^ σ.2.1 6 1) (hx : x < 7) (hy : y < 7) (kk : Q (some (.int (nI (bitsN (partN (σ.2.1 6) x y))))) (mW G.2.2.1 a (mI (mI σ 43 (nI 1)) 42 (nI (partN (σ.2.1 6) x y))))) : ∀ (n i : Nat), i + n = 2 ^ σ.2.1 6 1 → AW G MX12_part (d + 2) 0 0 Q 52 [some (.ref (a 60)), some (.int (nI x)), some (.int (nI y)), some (.int (nI (partG (σ.2.1 6) x y i))), some (.int (nI i))] [] (mW G.2.2.1 a σ) 0 0 := by
  have h1 := H.2.2.1
  have h12 : 2 ^ σ.2.1 6 1 ≤ 4096 := Nat.pow_le_pow_right (n := 2) (by decide) h1
  intro n
  induction n with
  | zero =>
    intro i hi
    have hg := partG_lt (x := x) (y := y) h1 hc i (by omega)
    refine aw_iload (pc := 52) dX12_part_52 rfl ?_
    refine aw_iconst (pc := 54) dX12_part_54 iconst_1 ?_
    refine aw_aload_n (pc := 55) (i := 0) dX12_part_55 rfl rfl ?_
    refine mg_s (pc := 56) dX12_part_56 rfl ?_
    refine aw_iconst (pc := 59) dX12_part_59 iconst_1 ?_
    refine ml_s (pc := 60) dX12_part_60 (by decide) ?_
    refine aw_ishl (pc := 61) dX12_part_61 ?_
    refine aw_top (y := (nI (2 ^ σ.2.1 6 1))) (nI_1shl (by omega)) ?_
    refine an_icmp_ge (pc := 62) (tgt := 118) dX12_part_62 rfl (by omega) (by omega) (fun h62 => ?_) (fun h62 => ?_)
    · -- 118
      refine aw_aload_n (pc := 118) (i := 0) dX12_part_118 rfl rfl ?_
      refine aw_iconst (pc := 119) dX12_part_119 iconst_1 ?_
      refine mp_hasPart (pc := 120) dX12_part_120 rfl (by decide) (by decide) ?_
      refine aw_aload_n (pc := 123) (i := 0) dX12_part_123 rfl rfl ?_
      refine aw_iload_n (pc := 124) (i := 3) dX12_part_124 rfl rfl ?_
      refine mp_partSet (pc := 125) dX12_part_125 rfl ?_
      refine aw_iload_n (pc := 128) (i := 3) dX12_part_128 rfl rfl ?_
      refine mt_I (pc := 129) (As := [.int (nI (partG (σ.2.1 6) x y i))]) (rest := []) dX12_part_129 rfl ok_X12_315 rfl rfl rfl (Nat.le_of_ble_eq_true rfl) (s_bits (by omega) ⟨_, _, rfl, rfl, ?_⟩)
      exact aw_iret (pc := 132) dX12_part_132 rfl (Nat.le_refl _) (Nat.le_refl _) (by have e : i = 2 ^ σ.2.1 6 1 := (by omega); subst e; exact kk)
    · -- 65
      exfalso; omega
  | succ n ih =>
    intro i hi
    have hg := partG_lt (x := x) (y := y) h1 hc i (by omega)
    have hand : i &&& σ.2.1 6 93 < 2 ^ 31 := Nat.lt_of_le_of_lt Nat.and_le_left (by omega)
    have hor : i ||| σ.2.1 6 93 < 2 ^ 31 := Nat.lt_trans (Nat.or_lt_two_pow (n := 12) (by omega) (by omega)) (by decide)
    have ps : partG (σ.2.1 6) x y (i + 1) = if i &&& σ.2.1 6 93 = 0 then (if bitsN i < bitsN (partG (σ.2.1 6) x y i) then (if partedF (σ.2.1 6) x y (i ||| σ.2.1 6 93) = true then i else partG (σ.2.1 6) x y i) else partG (σ.2.1 6) x y i) else partG (σ.2.1 6) x y i := rfl
    generalize partG (σ.2.1 6) x y i = u at *
    refine aw_iload (pc := 52) dX12_part_52 rfl ?_
    refine aw_iconst (pc := 54) dX12_part_54 iconst_1 ?_
    refine aw_aload_n (pc := 55) (i := 0) dX12_part_55 rfl rfl ?_
    refine mg_s (pc := 56) dX12_part_56 rfl ?_
    refine aw_iconst (pc := 59) dX12_part_59 iconst_1 ?_
    refine ml_s (pc := 60) dX12_part_60 (by decide) ?_
    refine aw_ishl (pc := 61) dX12_part_61 ?_
    refine aw_top (y := (nI (2 ^ σ.2.1 6 1))) (nI_1shl (by omega)) ?_
    refine an_icmp_ge (pc := 62) (tgt := 118) dX12_part_62 rfl (by omega) (by omega) (fun h62 => ?_) (fun h62 => ?_)
    · -- 118
      exfalso; omega
    · -- 65
      refine aw_iload (pc := 65) dX12_part_65 rfl ?_
      refine aw_aload_n (pc := 67) (i := 0) dX12_part_67 rfl rfl ?_
      refine mg_s (pc := 68) dX12_part_68 rfl ?_
      refine aw_bipush (pc := 71) dX12_part_71 bipush_93 ?_
      refine ml_s (pc := 73) dX12_part_73 (by decide) ?_
      refine aw_iand (pc := 74) dX12_part_74 ?_
      refine aw_top (y := (nI (i &&& σ.2.1 6 93))) (nI_and _ _ (by omega) (by omega)) ?_
      refine an_if_ne (pc := 75) (tgt := 112) dX12_part_75 rfl hand (fun h75 => ?_) (fun h75 => ?_)
      · -- 112
        refine an_inc (pc := 112) (z := 1) dX12_part_112 rfl (Nat.le_of_ble_eq_true rfl) rfl ?_
        refine aw_goto (pc := 115) (tgt := 52) dX12_part_115 rfl ?_
        refine aw_L (L9 := [some (.ref (a 60)), some (.int (nI x)), some (.int (nI y)), some (.int (nI (partG (σ.2.1 6) x y (i + 1)))), some (.int (nI (i + 1)))]) (by rw [ps, if_neg (Nat.ne_of_gt h75)]; rfl) ?_
        exact ih (i + 1) (by omega)
      · -- 78
        refine aw_iload (pc := 78) dX12_part_78 rfl ?_
        refine mt_I (pc := 80) (As := [.int (nI i)]) (rest := []) dX12_part_80 rfl ok_X12_315 rfl rfl rfl (Nat.le_of_ble_eq_true rfl) (s_bits (by omega) ⟨_, _, rfl, rfl, ?_⟩)
        refine aw_iload_n (pc := 83) (i := 3) dX12_part_83 rfl rfl ?_
        refine mt_I (pc := 84) (As := [.int (nI u)]) (rest := [.int (nI (bitsN i))]) dX12_part_84 rfl ok_X12_315 rfl rfl rfl (Nat.le_of_ble_eq_true rfl) (s_bits (by omega) ⟨_, _, rfl, rfl, ?_⟩)
        refine an_icmp_ge (pc := 87) (tgt := 112) dX12_part_87 rfl (Nat.lt_of_le_of_lt (bits_le _ (by omega)) (by decide)) (Nat.lt_of_le_of_lt (bits_le _ (by omega)) (by decide)) (fun h87 => ?_) (fun h87 => ?_)
        · -- 112
          refine an_inc (pc := 112) (z := 1) dX12_part_112 rfl (Nat.le_of_ble_eq_true rfl) rfl ?_
          refine aw_goto (pc := 115) (tgt := 52) dX12_part_115 rfl ?_
          refine aw_L (L9 := [some (.ref (a 60)), some (.int (nI x)), some (.int (nI y)), some (.int (nI (partG (σ.2.1 6) x y (i + 1)))), some (.int (nI (i + 1)))]) (by rw [ps, if_pos h75, if_neg (Nat.not_lt.mpr h87)]; rfl) ?_
          exact ih (i + 1) (by omega)
        · -- 90
          refine aw_aload_n (pc := 90) (i := 0) dX12_part_90 rfl rfl ?_
          refine aw_iload_n (pc := 91) (i := 1) dX12_part_91 rfl rfl ?_
          refine aw_iload_n (pc := 92) (i := 2) dX12_part_92 rfl rfl ?_
          refine aw_iload (pc := 93) dX12_part_93 rfl ?_
          refine aw_aload_n (pc := 95) (i := 0) dX12_part_95 rfl rfl ?_
          refine mg_s (pc := 96) dX12_part_96 rfl ?_
          refine aw_bipush (pc := 99) dX12_part_99 bipush_93 ?_
          refine ml_s (pc := 101) dX12_part_101 (by decide) ?_
          refine aw_ior (pc := 102) dX12_part_102 ?_
          refine aw_top (y := (nI (i ||| σ.2.1 6 93))) (nI_or _ _ (by omega) (by omega)) ?_
          refine mc_I (pc := 103) (As := [.int (nI x), .int (nI y), .int (nI (i ||| σ.2.1 6 93))]) (rest := []) dX12_part_103 rfl ok_X12_401 rfl rfl rfl (Nat.le_of_ble_eq_true rfl) (s_areParted H hx hy hor ⟨_, _, rfl, rfl, ?_⟩)
          refine ab_if_eq (pc := 106) (tgt := 112) dX12_part_106 rfl (fun h106 => ?_) (fun h106 => ?_)
          · -- 112
            refine an_inc (pc := 112) (z := 1) dX12_part_112 rfl (Nat.le_of_ble_eq_true rfl) rfl ?_
            refine aw_goto (pc := 115) (tgt := 52) dX12_part_115 rfl ?_
            refine aw_L (L9 := [some (.ref (a 60)), some (.int (nI x)), some (.int (nI y)), some (.int (nI (partG (σ.2.1 6) x y (i + 1)))), some (.int (nI (i + 1)))]) (by rw [ps, if_pos h75, if_pos h87, if_neg (by rw [h106]; decide)]; rfl) ?_
            exact ih (i + 1) (by omega)
          · -- 109
            refine aw_iload (pc := 109) dX12_part_109 rfl ?_
            refine aw_istore_n (pc := 111) (i := 3) dX12_part_111 rfl (Nat.le_of_ble_eq_true rfl) rfl ?_
            refine an_inc (pc := 112) (z := 1) dX12_part_112 rfl (Nat.le_of_ble_eq_true rfl) rfl ?_
            refine aw_goto (pc := 115) (tgt := 52) dX12_part_115 rfl ?_
            refine aw_L (L9 := [some (.ref (a 60)), some (.int (nI x)), some (.int (nI y)), some (.int (nI (partG (σ.2.1 6) x y (i + 1)))), some (.int (nI (i + 1)))]) (by rw [ps, if_pos h75, if_pos h87, if_pos h106]; rfl) ?_
            exact ih (i + 1) (by omega)
set_option maxHeartbeats 1000000 in
set_option maxRecDepth 20000 in
theorem s_part {G : xG} {d : Nat} {Q : xQ} {a : Nat → Nat} {σ : mS} {x y : Int32} (hw : WT (σ.2.1 6)) (kk : Q (some (.int (partA (σ.2.1 6) x y))) (mW G.2.2.1 a (partS σ x y))) : MT G MX12_part (d + 2) 0 0 [.ref (a 60), .int x, .int y] (mW G.2.2.1 a σ) Q := by
  obtain ⟨hb, h0, h1, h2, hR, hP, hD, hC, hT⟩ := id hw
  refine mt_start (L := [some (.ref (a 60)), some (.int x), some (.int y), none, none]) rfl (Nat.le_of_ble_eq_true rfl) rfl ?_
  refine aw_aload_n (pc := 0) (i := 0) dX12_part_0 rfl rfl ?_
  refine aw_iconst (pc := 1) dX12_part_1 iconst_0 ?_
  refine mp_thrown (pc := 2) dX12_part_2 rfl ?_
  refine aw_aload_n (pc := 5) (i := 0) dX12_part_5 rfl rfl ?_
  refine aw_iload_n (pc := 6) (i := 1) dX12_part_6 rfl rfl ?_
  refine mc_I (pc := 7) (As := [.int x]) (rest := []) dX12_part_7 rfl ok_X12_312 rfl rfl rfl (Nat.le_of_ble_eq_true rfl) (s_isLand ⟨_, _, rfl, rfl, ?_⟩)
  refine aw_top (y := bI (inB (σ.2.1 6 0) x)) rfl ?_
  refine ab_if_eq (pc := 10) (tgt := 26) dX12_part_10 rfl (fun h10 => ?_) (fun h10 => ?_)
  · -- 26
    refine aw_iconst (pc := 26) dX12_part_26 iconst_m1 ?_
    exact aw_iret (pc := 27) dX12_part_27 rfl (Nat.le_refl _) (Nat.le_refl _) (by simp only [partA, partS, h10, Bool.true_and, Bool.and_true, Bool.false_and, Bool.and_false, Bool.not_true, Bool.not_false, Bool.or_true, Bool.or_false, Bool.true_or, Bool.false_or, Bool.false_eq_true, Bool.true_eq_false, if_true, if_false, ite_true, ite_false, reduceIte, reduceCtorEq] at kk; exact kk)
  · -- 13
    obtain ⟨xn, b_xn, rfl⟩ := inB_t (by omega) h10
    have e_xn := nI_clamp (n := xn) (by omega)
    refine aw_aload_n (pc := 13) (i := 0) dX12_part_13 rfl rfl ?_
    refine aw_iload_n (pc := 14) (i := 2) dX12_part_14 rfl rfl ?_
    refine mc_I (pc := 15) (As := [.int y]) (rest := []) dX12_part_15 rfl ok_X12_312 rfl rfl rfl (Nat.le_of_ble_eq_true rfl) (s_isLand ⟨_, _, rfl, rfl, ?_⟩)
    refine aw_top (y := bI (inB (σ.2.1 6 0) y)) rfl ?_
    refine ab_if_eq (pc := 18) (tgt := 26) dX12_part_18 rfl (fun h18 => ?_) (fun h18 => ?_)
    · -- 26
      refine aw_iconst (pc := 26) dX12_part_26 iconst_m1 ?_
      exact aw_iret (pc := 27) dX12_part_27 rfl (Nat.le_refl _) (Nat.le_refl _) (by simp only [partA, partS, h10, e_xn, h18, Bool.true_and, Bool.and_true, Bool.false_and, Bool.and_false, Bool.not_true, Bool.not_false, Bool.or_true, Bool.or_false, Bool.true_or, Bool.false_or, Bool.false_eq_true, Bool.true_eq_false, if_true, if_false, ite_true, ite_false, reduceIte, reduceCtorEq] at kk; exact kk)
    · -- 21
      obtain ⟨yn, b_yn, rfl⟩ := inB_t (by omega) h18
      have e_yn := nI_clamp (n := yn) (by omega)
      refine aw_iload_n (pc := 21) (i := 1) dX12_part_21 rfl rfl ?_
      refine aw_iload_n (pc := 22) (i := 2) dX12_part_22 rfl rfl ?_
      refine an_icmp_ne (pc := 23) (tgt := 28) dX12_part_23 rfl (by omega) (by omega) (fun h23 => ?_) (fun h23 => ?_)
      · -- 28
        refine aw_iconst (pc := 28) dX12_part_28 iconst_1 ?_
        refine aw_aload_n (pc := 29) (i := 0) dX12_part_29 rfl rfl ?_
        refine mg_s (pc := 30) dX12_part_30 rfl ?_
        refine aw_iconst (pc := 33) dX12_part_33 iconst_1 ?_
        refine ml_s (pc := 34) dX12_part_34 (by decide) ?_
        refine aw_top (y := (nI (σ.2.1 6 1))) rfl ?_
        refine aw_ishl (pc := 35) dX12_part_35 ?_
        refine aw_top (y := (nI (2 ^ σ.2.1 6 1))) (nI_1shl (by omega)) ?_
        refine aw_iconst (pc := 36) dX12_part_36 iconst_1 ?_
        refine aw_isub (pc := 37) dX12_part_37 ?_
        refine aw_top (y := (nI (2 ^ σ.2.1 6 1 - 1))) (pk_sub (Nat.one_le_two_pow)) ?_
        refine aw_aload_n (pc := 38) (i := 0) dX12_part_38 rfl rfl ?_
        refine mg_s (pc := 39) dX12_part_39 rfl ?_
        refine aw_bipush (pc := 42) dX12_part_42 bipush_93 ?_
        refine ml_s (pc := 44) dX12_part_44 (by decide) ?_
        refine aw_top (y := (nI (σ.2.1 6 93))) rfl ?_
        refine aw_iconst (pc := 45) dX12_part_45 iconst_m1 ?_
        refine aw_ixor (pc := 46) dX12_part_46 ?_
        refine aw_iand (pc := 47) dX12_part_47 ?_
        refine aw_top (y := (nI (openSet (σ.2.1 6)))) (nI_andnot h1 hC) ?_
        refine aw_istore_n (pc := 48) (i := 3) dX12_part_48 rfl (Nat.le_of_ble_eq_true rfl) rfl ?_
        refine aw_iconst (pc := 49) dX12_part_49 iconst_0 ?_
        refine aw_istore (pc := 50) (i := 4) dX12_part_50 (Nat.le_of_ble_eq_true rfl) rfl ?_
        simp only [partA, partS, h10, e_xn, h18, e_yn, h23, Bool.true_and, Bool.and_true, Bool.false_and, Bool.and_false, Bool.not_true, Bool.not_false, Bool.or_true, Bool.or_false, Bool.true_or, Bool.false_or, Bool.false_eq_true, Bool.true_eq_false, if_true, if_false, ite_true, ite_false, reduceIte, reduceCtorEq] at kk
        exact part_loop (σ := mI σ 0 (nI 0)) (WT_WR hw) hC (by omega) (by omega) kk (2 ^ σ.2.1 6 1) 0 (by rw [Nat.zero_add]; rfl)
      · -- 26
        refine aw_iconst (pc := 26) dX12_part_26 iconst_m1 ?_
        exact aw_iret (pc := 27) dX12_part_27 rfl (Nat.le_refl _) (Nat.le_refl _) (by simp only [partA, partS, h10, e_xn, h18, e_yn, h23, Bool.true_and, Bool.and_true, Bool.false_and, Bool.and_false, Bool.not_true, Bool.not_false, Bool.or_true, Bool.or_false, Bool.true_or, Bool.false_or, Bool.false_eq_true, Bool.true_eq_false, if_true, if_false, ite_true, ite_false, reduceIte, reduceCtorEq] at kk; exact kk)
