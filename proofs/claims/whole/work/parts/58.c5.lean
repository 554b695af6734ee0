theorem nI_addsub {x y z : Nat} (h : z ≤ x + y) : nI x + (nI y - nI z) = nI (x + y - z) := by
  rw [← pk_sub h, ← nI_add, Int32.sub_eq_add_neg, Int32.sub_eq_add_neg, Int32.add_assoc]
theorem givenF_le (t : Nat → Nat) (l m st : Nat) : givenF t l m st ≤ st ∧ givenF t l m st ≤ 240 - m ∧ givenF t l m st ≤ t (10 + l) := by unfold givenF; omega
section CRS
variable {t : Nat → Nat} {q l : Nat}
theorem sp_bit (hne : ¬ l = t (79 + q)) : (sparedF t q).testBit l = (t (101 + t (79 + q))).testBit l := by
  unfold sparedF
  rw [tb_or]; simp [hne]
theorem crossF_94 (hq : q < 6) (hl : l < 7) {j : Nat} (hj : j < 7) : crossF t q l (94 + j) = if j = l then t (94 + l) + tollF t l (t (79 + q)) (t (101 + t (79 + q))) - giftF t l (t (79 + q)) (t (94 + l)) (t (114 + q)) else t (94 + j) := by
  have hg := givenF_le t l (t (114 + q)) (t (94 + l))
  unfold crossF crossG tollF giftF
  by_cases e : l = t (79 + q)
  · rw [if_pos e, if_pos e, if_pos e]
    simp only [upN]
    repeat' split
    all_goals (first | omega | (subst_vars; omega) | rfl)
  · rw [if_neg e, if_neg e, if_neg e, sp_bit e]
    by_cases e2 : (t (101 + t (79 + q))).testBit l = true
    · rw [if_pos e2, if_pos e2]
      simp only [upN]
      repeat' split
      all_goals (first | omega | (subst_vars; omega) | rfl)
    · rw [if_neg e2, if_neg e2]
      simp only [upN]
      repeat' split
      all_goals (first | omega | (subst_vars; omega) | rfl)
theorem crossF_114 (hq : q < 6) (hl : l < 7) {j : Nat} (hj : j < 6) : crossF t q l (114 + j) = if j = q then t (114 + q) + giftF t l (t (79 + q)) (t (94 + l)) (t (114 + q)) - tollF t l (t (79 + q)) (t (101 + t (79 + q))) else t (114 + j) := by
  unfold crossF crossG tollF giftF
  by_cases e : l = t (79 + q)
  · rw [if_pos e, if_pos e, if_pos e]
    simp only [upN]
    repeat' split
    all_goals (first | omega | (subst_vars; omega) | rfl)
  · rw [if_neg e, if_neg e, if_neg e, sp_bit e]
    by_cases e2 : (t (101 + t (79 + q))).testBit l = true
    · rw [if_pos e2, if_pos e2]
      simp only [upN]
      repeat' split
      all_goals (first | omega | (subst_vars; omega) | rfl)
    · rw [if_neg e2, if_neg e2]
      simp only [upN]
      repeat' split
      all_goals (first | omega | (subst_vars; omega) | rfl)
theorem crossF_120 (hq : q < 6) (hl : l < 7) {j : Nat} (hj : j < 6) : crossF t q l (120 + j) = if j = q then t (120 + q) + tollF t l (t (79 + q)) (t (101 + t (79 + q))) else t (120 + j) := by
  unfold crossF crossG tollF
  by_cases e : l = t (79 + q)
  · rw [if_pos e, if_pos e]
    simp only [upN]
    repeat' split
    all_goals (first | omega | (subst_vars; omega) | rfl)
  · rw [if_neg e, if_neg e, sp_bit e]
    by_cases e2 : (t (101 + t (79 + q))).testBit l = true
    · rw [if_pos e2, if_pos e2]
      simp only [upN]
      repeat' split
      all_goals (first | omega | (subst_vars; omega) | rfl)
    · rw [if_neg e2, if_neg e2]
      simp only [upN]
      repeat' split
      all_goals (first | omega | (subst_vars; omega) | rfl)
theorem crossF_126 (hq : q < 6) (hl : l < 7) {j : Nat} (hj : j < 6) : crossF t q l (126 + j) = if j = q then t (126 + q) + giftF t l (t (79 + q)) (t (94 + l)) (t (114 + q)) else t (126 + j) := by
  unfold crossF crossG giftF
  by_cases e : l = t (79 + q)
  · rw [if_pos e, if_pos e]
    simp only [upN]
    repeat' split
    all_goals (first | omega | (subst_vars; omega) | rfl)
  · rw [if_neg e, if_neg e, sp_bit e]
    by_cases e2 : (t (101 + t (79 + q))).testBit l = true
    · rw [if_pos e2]
      simp only [upN]
      repeat' split
      all_goals (first | omega | (subst_vars; omega) | rfl)
    · rw [if_neg e2]
      simp only [upN]
      repeat' split
      all_goals (first | omega | (subst_vars; omega) | rfl)
theorem crossF_132 (hq : q < 6) (hl : l < 7) {j : Nat} (hj : j < 6) : crossF t q l (132 + j) = if j = q then t (132 + q) + 1 else t (132 + j) := by
  unfold crossF crossG
  split
  · simp only [upN]
    repeat' split
    all_goals (first | omega | (subst_vars; omega) | rfl)
  · split
    · simp only [upN]
      repeat' split
      all_goals (first | omega | (subst_vars; omega) | rfl)
    · simp only [upN]
      repeat' split
      all_goals (first | omega | (subst_vars; omega) | rfl)
end CRS
theorem SRl.cross {c : Nat → Nat} {sn : Option Nat} {t : Nat → Nat} {sd : Int32} {κ : kS} {p l tl gf : Nat} (h : SRl c sn t sd κ) (h7 : t 0 ≤ 7) (h6 : t 2 ≤ 6) (hp : p < t 2) (hl : l < t 0) (htl : tollF t l (t (79 + p)) (t (101 + t (79 + p))) = tl) (hgf : giftF t l (t (79 + p)) (t (94 + l)) (t (114 + p)) = gf) :
    SRl c sn (crossF t p l) sd (kI (kI (kI (kI (kI (kI κ 2 l (nI (t (94 + l) + tl - gf))) 7 p (nI (t (114 + p) + gf - tl))) 8 p (nI (t (120 + p) + tl))) 9 p (nI (t (126 + p) + gf))) 10 p (nI (t (132 + p) + 1))) 6 p (nI l)) := by
  obtain ⟨e0, e1, e4, e5, e11, hL, hQ⟩ := h
  have k0 : crossF t p l 0 = t 0 := crossF_lo (by omega) (by omega) (by omega)
  have k2 : crossF t p l 2 = t 2 := crossF_lo (by omega) (by omega) (by omega)
  refine ⟨e0, e1, by rw [crossF_lo (by omega) (by omega) (by omega)]; exact e4, by rw [crossF_lo (by omega) (by omega) (by omega)]; exact e5, e11, fun j hj => ?_, fun j hj => ?_⟩
  · rw [k0] at hj
    rw [crossF_94 (by omega) (by omega) (by omega), crossF_lo (by omega) (by omega) (by omega), htl, hgf]
    refine ⟨?_, (hL j hj).2⟩
    show upN (κ.2.1 2) l _ j = _
    by_cases e : j = l
    · subst e; rw [upN_s, if_pos rfl]
    · rw [upN_n _ _ _ _ e, if_neg e]; exact (hL j hj).1
  · rw [k2] at hj
    rw [crossF_at (by omega) (by omega) (by omega), crossF_114 (by omega) (by omega) (by omega), crossF_120 (by omega) (by omega) (by omega), crossF_126 (by omega) (by omega) (by omega), crossF_132 (by omega) (by omega) (by omega), htl, hgf]
    show upN (κ.2.1 6) p _ j = _ ∧ upN (κ.2.1 7) p _ j = _ ∧ upN (κ.2.1 8) p _ j = _ ∧ upN (κ.2.1 9) p _ j = _ ∧ upN (κ.2.1 10) p _ j = _
    by_cases e : j = p
    · subst e
      rw [upN_s, upN_s, upN_s, upN_s, upN_s, if_pos rfl, if_pos rfl, if_pos rfl, if_pos rfl, if_pos rfl]
      exact ⟨rfl, rfl, rfl, rfl, rfl⟩
    · rw [upN_n _ _ _ _ e, upN_n _ _ _ _ e, upN_n _ _ _ _ e, upN_n _ _ _ _ e, upN_n _ _ _ _ e, if_neg e, if_neg e, if_neg e, if_neg e, if_neg e]
      exact hQ j hj
/-- what one who may go over pays is less than he is long -/
theorem toll_lt {t : Nat → Nat} {q l : Nat} (h1 : 1 ≤ t (114 + q)) (h : whyX t q l = 0) : tollF t l (t (79 + q)) (t (101 + t (79 + q))) < t (114 + q) := by
  rw [whyX, sparedF, whyBy_ch h1] at h
  unfold chWhy at h
  cases hr : roadF t (t (108 + q)) l with
  | none => rw [hr] at h; cases h
  | some r =>
    rw [hr] at h
    simp only [] at h
    repeat' split at h
    all_goals omega
set_option maxHeartbeats 1000000 in
set_option maxRecDepth 20000 in
theorem c7_goOver {G : xG} {d : Nat} {Q : xQ} {b c : Nat → Nat} {t : Nat → Nat} {NM : Nat → Int64} {sn : Option Nat} {sd : Int32} {κ : kS} {R : va_W} {p l : Nat} (hN : NB G) (h : SRl c sn t sd κ) (hC : CHR G R c t NM) (hw : WT t) (hp : p < t 2) (hl : l < t 0) (hy : whyX t p l = 0) (kk : ∀ κ9, SRl c sn (crossF t p l) sd κ9 → Q none (wSt G.2.2.1 b κ9 ++ R)) : MT G MX7_goOver (d + 2) 0 0 [.ref (b 12), .int (nI p), .int (nI l)] (wSt G.2.2.1 b κ ++ R) Q := by
  obtain ⟨hb, h0, h1, h2, hR, hP, hD, hCl, hT⟩ := id hw
  have hq := hP p hp
  have htl9 := toll_lt (by omega) hy
  have hA : giftF t l (t (79 + p)) (t (94 + l)) (t (114 + p)) ≤ t (94 + l) + tollF t l (t (79 + p)) (t (101 + t (79 + p))) := by
    have := givenF_le t l (t (114 + p)) (t (94 + l)); unfold giftF; split <;> omega
  refine mt_start (L := [some (.ref (b 12)), some (.int (nI p)), some (.int (nI l)), none, none, none]) rfl (Nat.le_of_ble_eq_true rfl) rfl ?_
  refine aw_aload_n (pc := 0) (i := 0) dX7_goOver_0 rfl rfl ?_
  refine pg_X7_47 (pc := 1) (v := .ref (c 13)) dX7_goOver_1 rfl h.1 ?_
  refine av_get (pc := 4) (x := .ref (c 12)) dX7_goOver_4 rfl og_X7_75 rfl (hC.sub mem_app).ov rfl ?_
  refine aw_iload_n (pc := 7) (i := 1) dX7_goOver_7 rfl rfl ?_
  refine av_iald (pc := 8) (x := (nI (t (79 + p)))) dX7_goOver_8 (hC.sub mem_app).home (by omega) (by decide) rfl ?_
  refine aw_istore_n (pc := 9) (i := 3) dX7_goOver_9 rfl (Nat.le_of_ble_eq_true rfl) rfl ?_
  refine aw_aload_n (pc := 10) (i := 0) dX7_goOver_10 rfl rfl ?_
  refine pg_X7_47 (pc := 11) (v := .ref (c 13)) dX7_goOver_11 rfl h.1 ?_
  refine aw_iload_n (pc := 14) (i := 2) dX7_goOver_14 rfl rfl ?_
  refine aw_iload_n (pc := 15) (i := 3) dX7_goOver_15 rfl rfl ?_
  refine aw_aload_n (pc := 16) (i := 0) dX7_goOver_16 rfl rfl ?_
  refine pg_X7_19 (pc := 17) dX7_goOver_17 rfl ?_
  refine aw_iload_n (pc := 20) (i := 3) dX7_goOver_20 rfl rfl ?_
  refine pl_X7_spares (pc := 21) (x := (nI (t (101 + (t (79 + p)))))) dX7_goOver_21 (by omega) (h.2.2.2.2.2.1 _ (by omega)).2 ?_
  refine cVi (pc := 22) (As := [.int (nI l), .int (nI (t (79 + p))), .int (nI (t (101 + (t (79 + p)))))]) (rest := []) dX7_goOver_22 rfl oc_X7_78 rfl rfl (Nat.le_of_ble_eq_true rfl) rfl rfl (hC.sub mem_app).ov (Nat.le_refl _) (Nat.le_refl _) (c3_toll hN (hC.sub mem_app) (by omega) h0 (by omega) (Nat.lt_trans (hb _) (by decide)) ⟨_, rfl, ?_⟩)
  generalize htl : tollF t l (t (79 + p)) (t (101 + t (79 + p))) = tl at *
  refine aw_istore (pc := 25) (i := 4) dX7_goOver_25 (Nat.le_of_ble_eq_true rfl) rfl ?_
  refine aw_aload_n (pc := 27) (i := 0) dX7_goOver_27 rfl rfl ?_
  refine pg_X7_47 (pc := 28) (v := .ref (c 13)) dX7_goOver_28 rfl h.1 ?_
  refine aw_iload_n (pc := 31) (i := 2) dX7_goOver_31 rfl rfl ?_
  refine aw_iload_n (pc := 32) (i := 3) dX7_goOver_32 rfl rfl ?_
  refine aw_aload_n (pc := 33) (i := 0) dX7_goOver_33 rfl rfl ?_
  refine pg_X7_15 (pc := 34) dX7_goOver_34 rfl ?_
  refine aw_iload_n (pc := 37) (i := 2) dX7_goOver_37 rfl rfl ?_
  refine pl_X7_store (pc := 38) (x := (nI (t (94 + l)))) dX7_goOver_38 (by omega) (h.2.2.2.2.2.1 _ (by omega)).1 ?_
  refine aw_aload_n (pc := 39) (i := 0) dX7_goOver_39 rfl rfl ?_
  refine pg_X7_32 (pc := 40) dX7_goOver_40 rfl ?_
  refine aw_iload_n (pc := 43) (i := 1) dX7_goOver_43 rfl rfl ?_
  refine pl_X7_length (pc := 44) (x := (nI (t (114 + p)))) dX7_goOver_44 (by omega) (h.2.2.2.2.2.2 _ (by omega)).2.1 ?_
  refine cVi (pc := 45) (As := [.int (nI l), .int (nI (t (79 + p))), .int (nI (t (94 + l))), .int (nI (t (114 + p)))]) (rest := []) dX7_goOver_45 rfl oc_X7_85 rfl rfl (Nat.le_of_ble_eq_true rfl) rfl rfl (hC.sub mem_app).ov (Nat.le_refl _) (Nat.le_refl _) (c3_gift (hC.sub mem_app) hb (by omega) h0 (by omega) (Nat.lt_trans (hb _) (by decide)) (by omega) ⟨_, rfl, ?_⟩)
  generalize hgf : giftF t l (t (79 + p)) (t (94 + l)) (t (114 + p)) = gf at *
  refine aw_istore (pc := 48) (i := 5) dX7_goOver_48 (Nat.le_of_ble_eq_true rfl) rfl ?_
  refine aw_aload_n (pc := 50) (i := 0) dX7_goOver_50 rfl rfl ?_
  refine pg_X7_15 (pc := 51) dX7_goOver_51 rfl ?_
  refine aw_iload_n (pc := 54) (i := 2) dX7_goOver_54 rfl rfl ?_
  refine aw_dup2 (pc := 55) dX7_goOver_55 rfl rfl ?_
  refine pl_X7_store (pc := 56) (x := (nI (t (94 + l)))) dX7_goOver_56 (by omega) (h.2.2.2.2.2.1 _ (by omega)).1 ?_
  refine aw_iload (pc := 57) dX7_goOver_57 rfl ?_
  refine aw_iload (pc := 59) dX7_goOver_59 rfl ?_
  refine aw_isub (pc := 61) dX7_goOver_61 ?_
  refine aw_iadd (pc := 62) dX7_goOver_62 ?_
  refine aw_top (y := (nI (t (94 + l) + tl - gf))) (nI_addsub hA) ?_
  refine ps_X7_store (pc := 63) dX7_goOver_63 (by omega) ?_
  refine aw_aload_n (pc := 64) (i := 0) dX7_goOver_64 rfl rfl ?_
  refine pg_X7_32 (pc := 65) dX7_goOver_65 rfl ?_
  refine aw_iload_n (pc := 68) (i := 1) dX7_goOver_68 rfl rfl ?_
  refine aw_dup2 (pc := 69) dX7_goOver_69 rfl rfl ?_
  refine pl_X7_length (pc := 70) (x := (nI (t (114 + p)))) dX7_goOver_70 (by omega) (h.2.2.2.2.2.2 _ (by omega)).2.1 ?_
  refine aw_iload (pc := 71) dX7_goOver_71 rfl ?_
  refine aw_iload (pc := 73) dX7_goOver_73 rfl ?_
  refine aw_isub (pc := 75) dX7_goOver_75 ?_
  refine aw_iadd (pc := 76) dX7_goOver_76 ?_
  refine aw_top (y := (nI (t (114 + p) + gf - tl))) (nI_addsub (by omega)) ?_
  refine ps_X7_length (pc := 77) dX7_goOver_77 (by omega) ?_
  refine aw_aload_n (pc := 78) (i := 0) dX7_goOver_78 rfl rfl ?_
  refine pg_X7_35 (pc := 79) dX7_goOver_79 rfl ?_
  refine aw_iload_n (pc := 82) (i := 1) dX7_goOver_82 rfl rfl ?_
  refine aw_dup2 (pc := 83) dX7_goOver_83 rfl rfl ?_
  refine pl_X7_taken (pc := 84) (x := (nI (t (120 + p)))) dX7_goOver_84 (by omega) (h.2.2.2.2.2.2 _ (by omega)).2.2.1 ?_
  refine aw_iload (pc := 85) dX7_goOver_85 rfl ?_
  refine an_add (pc := 87) dX7_goOver_87 ?_
  refine ps_X7_taken (pc := 88) dX7_goOver_88 (by omega) ?_
  refine aw_aload_n (pc := 89) (i := 0) dX7_goOver_89 rfl rfl ?_
  refine pg_X7_38 (pc := 90) dX7_goOver_90 rfl ?_
  refine aw_iload_n (pc := 93) (i := 1) dX7_goOver_93 rfl rfl ?_
  refine aw_dup2 (pc := 94) dX7_goOver_94 rfl rfl ?_
  refine pl_X7_given (pc := 95) (x := (nI (t (126 + p)))) dX7_goOver_95 (by omega) (h.2.2.2.2.2.2 _ (by omega)).2.2.2.1 ?_
  refine aw_iload (pc := 96) dX7_goOver_96 rfl ?_
  refine an_add (pc := 98) dX7_goOver_98 ?_
  refine ps_X7_given (pc := 99) dX7_goOver_99 (by omega) ?_
  refine aw_aload_n (pc := 100) (i := 0) dX7_goOver_100 rfl rfl ?_
  refine pg_X7_41 (pc := 101) dX7_goOver_101 rfl ?_
  refine aw_iload_n (pc := 104) (i := 1) dX7_goOver_104 rfl rfl ?_
  refine aw_dup2 (pc := 105) dX7_goOver_105 rfl rfl ?_
  refine pl_X7_crossed (pc := 106) (x := (nI (t (132 + p)))) dX7_goOver_106 (by omega) (h.2.2.2.2.2.2 _ (by omega)).2.2.2.2 ?_
  refine aw_iconst (pc := 107) dX7_goOver_107 iconst_1 ?_
  refine an_add (pc := 108) dX7_goOver_108 ?_
  refine ps_X7_crossed (pc := 109) dX7_goOver_109 (by omega) ?_
  refine aw_aload_n (pc := 110) (i := 0) dX7_goOver_110 rfl rfl ?_
  refine pg_X7_29 (pc := 111) dX7_goOver_111 rfl ?_
  refine aw_iload_n (pc := 114) (i := 1) dX7_goOver_114 rfl rfl ?_
  refine aw_iload_n (pc := 115) (i := 2) dX7_goOver_115 rfl rfl ?_
  refine ps_X7_at (pc := 116) dX7_goOver_116 (by omega) ?_
  exact aw_vret (pc := 117) dX7_goOver_117 rfl (Nat.le_refl _) (Nat.le_refl _) (kk _ (h.cross h0 h2 hp hl htl hgf))
theorem SRl.turn {c : Nat → Nat} {sn : Option Nat} {t : Nat → Nat} {sd : Int32} {κ : kS} {v : Nat} (h : SRl c sn t sd κ) (h7 : t 0 ≤ 7) (h6 : t 2 ≤ 6) : SRl c sn (upN t 93 v) sd (kF κ 4 (.int (nI v))) := by
  obtain ⟨e0, e1, e4, e5, e11, hL, hQ⟩ := h
  refine ⟨e0, e1, rfl, e5, e11, fun j hj => ?_, fun j hj => ?_⟩
  · have hj : j < t 0 := hj
    rw [upN_n _ _ _ _ (by omega), upN_n _ _ _ _ (by omega)]; exact hL j hj
  · have hj : j < t 2 := hj
    rw [upN_n _ _ _ _ (by omega), upN_n _ _ _ _ (by omega), upN_n _ _ _ _ (by omega), upN_n _ _ _ _ (by omega), upN_n _ _ _ _ (by omega)]; exact hQ j hj
set_option maxHeartbeats 1000000 in
set_option maxRecDepth 20000 in
theorem c7_turnRoad {G : xG} {d : Nat} {Q : xQ} {b c : Nat → Nat} {t : Nat → Nat} {sn : Option Nat} {sd : Int32} {κ : kS} {R : va_W} {r : Nat} (h : SRl c sn t sd κ) (h0 : t 0 ≤ 7) (h2 : t 2 ≤ 6) (h93 : t 93 < 2 ^ 30) (hr : r < 30) (kk : ∀ κ9, SRl c sn (upN t 93 (t 93 ^^^ 2 ^ r)) sd κ9 → Q none (wSt G.2.2.1 b κ9 ++ R)) : MT G MX7_turnRoad (d) 0 0 [.ref (b 12), .int (nI r)] (wSt G.2.2.1 b κ ++ R) Q := by
  refine mt_start (L := [some (.ref (b 12)), some (.int (nI r))]) rfl (Nat.le_of_ble_eq_true rfl) rfl ?_
  refine aw_aload_n (pc := 0) (i := 0) dX7_turnRoad_0 rfl rfl ?_
  refine aw_dup (pc := 1) dX7_turnRoad_1 rfl ?_
  refine pg_X7_22 (pc := 2) (v := .int (nI (t 93))) dX7_turnRoad_2 rfl h.2.2.1 ?_
  refine aw_iconst (pc := 5) dX7_turnRoad_5 iconst_1 ?_
  refine aw_iload_n (pc := 6) (i := 1) dX7_turnRoad_6 rfl rfl ?_
  refine aw_ishl (pc := 7) dX7_turnRoad_7 ?_
  refine aw_top (y := (nI (2 ^ r))) (nI_1shl (by omega)) ?_
  refine aw_ixor (pc := 8) dX7_turnRoad_8 ?_
  refine aw_top (y := (nI (t 93 ^^^ 2 ^ r))) (nI_xor _ _ (Nat.lt_trans h93 (by decide)) (Nat.lt_trans (Nat.pow_lt_pow_right (by decide) hr) (by decide : 2 ^ 30 < 2 ^ 32))) ?_
  refine pp_X7_22 (pc := 9) dX7_turnRoad_9 rfl ?_
  exact aw_vret (pc := 12) dX7_turnRoad_12 rfl (Nat.le_refl _) (Nat.le_refl _) (kk _ (h.turn h0 h2))
theorem dayG_2 {t : Nat → Nat} (hw : WT t) : ∀ n, n ≤ 6 → (∀ q, q < n → t (79 + q) < 7) → dayG t n 0 = t 0 ∧ dayG t n 2 = t 2 ∧ ∀ q, q < 6 → dayG t n (79 + q) = t (79 + q) := fun n hn h => ⟨dayG_keep n hn h 0 (by omega) (by omega), dayG_keep n hn h 2 (by omega) (by omega), fun q hq => dayG_keep n hn h _ (by omega) (by omega)⟩
theorem WT_dayG {t : Nat → Nat} (hw : WT t) : ∀ n, n ≤ t 2 → WT (dayG t n) := by
  obtain ⟨hb, h0, h1, h2, hR, hP, hD, hCl, hT⟩ := hw
  intro n hn
  have hk : ∀ j, ¬ (114 ≤ j ∧ j < 120) → ¬ (94 ≤ j ∧ j < 101) → dayG t n j = t j := dayG_keep n (by omega) (fun q hq => by have := hP q (by omega); omega)
  have hlo : ∀ m, m ≤ n → ∀ q, q < t 2 → t (114 + q) ≤ dayG t m (114 + q) ∧ dayG t m (114 + q) ≤ 240 := by
    intro m
    induction m with
    | zero => intro _ q hq; have := hP q hq; show _ ≤ t (114 + q) ∧ t (114 + q) ≤ 240; omega
    | succ m ih =>
      intro hm q hq
      have h9 := ih (by omega) q hq
      have hh : dayG t m (79 + m) < 7 := by rw [dayG_keep m (by omega) (fun q hq => by have := hP q (by omega); omega) _ (by omega) (by omega)]; have := hP m (by omega); omega
      rw [dayG, dayS]
      split
      · rename_i hg
        simp only [growsF, Bool.and_eq_true, decide_eq_true_eq] at hg
        rw [upN_n _ _ _ _ (by omega)]
        by_cases e : 114 + q = 114 + m
        · rw [e, upN_s]; rw [show q = m by omega] at h9; omega
        · rw [upN_n _ _ _ _ e]; exact h9
      · exact h9
  refine ⟨dayG_lt hb (by omega) n, by rw [hk 0 (by omega) (by omega)]; exact h0, by rw [hk 1 (by omega) (by omega)]; exact h1, by rw [hk 2 (by omega) (by omega)]; exact h2, fun r hr => ?_, fun q hq => ?_, by rw [hk 91 (by omega) (by omega)]; exact hD, by rw [hk 93 (by omega) (by omega), hk 1 (by omega) (by omega)]; exact hCl, fun l hl => by rw [hk _ (by omega) (by omega)]; exact hT l hl⟩
  · rw [hk 1 (by omega) (by omega)] at hr
    rw [hk (24 + r) (by omega) (by omega), hk (36 + r) (by omega) (by omega), hk 0 (by omega) (by omega)]; exact hR r hr
  · rw [hk 2 (by omega) (by omega)] at hq
    have := hlo n (Nat.le_refl _) q hq
    have h9 := hP q hq
    rw [hk (79 + q) (by omega) (by omega), hk (108 + q) (by omega) (by omega), hk 0 (by omega) (by omega)]
    omega
theorem SRl.grow {c : Nat → Nat} {sn : Option Nat} {t : Nat → Nat} {sd : Int32} {κ : kS} {p : Nat} (h : SRl c sn t sd κ) (h7 : t 0 ≤ 7) (h6 : t 2 ≤ 6) (hp : p < t 2) (hh : t (79 + p) < t 0) (hg : growsF t p = true) : SRl c sn (dayS t p) sd (kI (kI κ 2 (t (108 + p)) (nI (t (94 + t (108 + p)) - 1))) 7 p (nI (t (114 + p) + 1))) := by
  obtain ⟨e0, e1, e4, e5, e11, hL, hQ⟩ := h
  have hg2 := hg
  simp only [growsF, Bool.and_eq_true, decide_eq_true_eq] at hg2
  rw [hg2.1.1, dayS, if_pos hg]
  refine ⟨e0, e1, by rw [upN_n _ _ _ _ (by omega), upN_n _ _ _ _ (by omega)]; exact e4, by rw [upN_n _ _ _ _ (by omega), upN_n _ _ _ _ (by omega)]; exact e5, e11, fun j hj => ?_, fun j hj => ?_⟩
  · rw [upN_n _ _ _ _ (by omega), upN_n _ _ _ _ (by omega)] at hj
    rw [upN_n _ _ (101 + j) _ (by omega), upN_n _ _ (101 + j) _ (by omega)]
    refine ⟨?_, (hL j hj).2⟩
    show upN (κ.2.1 2) _ _ j = _
    by_cases e : j = t (79 + p)
    · subst e; rw [upN_s, upN_s]
    · rw [upN_n _ _ _ _ e, upN_n _ _ _ _ (by omega), upN_n _ _ _ _ (by omega)]; exact (hL j hj).1
  · rw [upN_n _ _ _ _ (by omega), upN_n _ _ _ _ (by omega)] at hj
    have h9 := hQ j hj
    rw [upN_n _ _ (108 + j) _ (by omega), upN_n _ _ (108 + j) _ (by omega), upN_n _ _ (114 + j) _ (by omega), upN_n _ _ (120 + j) _ (by omega), upN_n _ _ (120 + j) _ (by omega), upN_n _ _ (126 + j) _ (by omega), upN_n _ _ (126 + j) _ (by omega), upN_n _ _ (132 + j) _ (by omega), upN_n _ _ (132 + j) _ (by omega)]
    refine ⟨h9.1, ?_, h9.2.2⟩
    show upN (κ.2.1 7) p _ j = _
    by_cases e : j = p
    · subst e; rw [upN_s, upN_s]
    · rw [upN_n _ _ _ _ e, upN_n _ _ _ _ (by omega)]; exact h9.2.1
theorem SRl.day {c : Nat → Nat} {sn : Option Nat} {t : Nat → Nat} {sd : Int32} {κ : kS} {v : Nat} (h : SRl c sn t sd κ) (h7 : t 0 ≤ 7) (h6 : t 2 ≤ 6) : SRl c sn (upN t 91 v) sd (kF κ 5 (.int (nI v))) := by
  obtain ⟨e0, e1, e4, e5, e11, hL, hQ⟩ := h
  refine ⟨e0, e1, e4, rfl, e11, fun j hj => ?_, fun j hj => ?_⟩
  · have hj : j < t 0 := hj
    rw [upN_n _ _ _ _ (by omega), upN_n _ _ _ _ (by omega)]; exact hL j hj
  · have hj : j < t 2 := hj
    rw [upN_n _ _ _ _ (by omega), upN_n _ _ _ _ (by omega), upN_n _ _ _ _ (by omega), upN_n _ _ _ _ (by omega), upN_n _ _ _ _ (by omega)]; exact hQ j hj
/-- charts that tell the same -/
theorem CHR.to {G : xG} {ws : va_W} {c : Nat → Nat} {t u : Nat → Nat} {NM : Nat → Int64} (h : CHR G ws c t NM) (e : ∀ j, j < 91 → u j = t j) (h0 : t 0 ≤ 7) (h1 : t 1 ≤ 12) (h2 : t 2 ≤ 6) : CHR G ws c u NM := by
  have e0 := e 0 (by decide)
  have e1 := e 1 (by decide)
  have e2 := e 2 (by decide)
  have hrf : ∀ x y, roadF u x y = roadF t x y := by
    intro x y
    have key : ∀ n i, i + n ≤ 12 → findF (roadP u x y) n i = findF (roadP t x y) n i := by
      intro n
      induction n with
      | zero => intro i _; rfl
      | succ n ih => intro i hi; rw [findF, findF, ih (i + 1) (by omega)]; unfold roadP; rw [e (24 + i) (by omega), e (36 + i) (by omega)]
    unfold roadF
    rw [e1]; exact key _ _ (by omega)
  have hv : chV c u = chV c t := by
    funext k
    match k with
    | 0 => exact congrArg (fun z => Value.int (nI z)) e0
    | 1 => exact congrArg (fun z => Value.int (nI z)) e1
    | 2 => exact congrArg (fun z => Value.int (nI z)) e2
    | k + 3 => rfl
  refine ⟨by rw [hv]; exact h.ov, by rw [e0]; exact h.landName, ?_, ?_, ?_, ?_, ?_, ?_, ?_, by rw [e2]; exact h.personName, ?_⟩
  · rw [e0]; exact h.take.mono (Nat.le_refl _) (fun i hi => by rw [e _ (by omega)])
  · rw [e0]; exact h.give.mono (Nat.le_refl _) (fun i hi => by rw [e _ (by omega)])
  · rw [e1]; exact h.first.mono (Nat.le_refl _) (fun i hi => by rw [e _ (by omega)])
  · rw [e1]; exact h.second.mono (Nat.le_refl _) (fun i hi => by rw [e _ (by omega)])
  · rw [e1]; exact h.low.mono (Nat.le_refl _) (fun i hi => by rw [e _ (by omega)])
  · rw [e1]; exact h.high.mono (Nat.le_refl _) (fun i hi => by rw [e _ (by omega)])
  · exact h.between.mono (Nat.le_refl _) (fun i hi => by unfold betw; rw [hrf])
  · rw [e2]; exact h.home.mono (Nat.le_refl _) (fun i hi => by rw [e _ (by omega)])
set_option maxHeartbeats 1000000 in
set_option maxRecDepth 20000 in
theorem goDay_loop {G : xG} {d : Nat} {Q : xQ} {b c : Nat → Nat} {t : Nat → Nat} {NM : Nat → Int64} {sn : Option Nat} {sd : Int32} {R : va_W} (hC0 : CHR G R c t NM) (hw0 : WT t) (kk : ∀ κ9, SRl c sn (dayF t) sd κ9 → Q none (wSt G.2.2.1 b κ9 ++ R)) : ∀ (z i : Nat) (κ : kS), i + z = t 2 → SRl c sn (dayG t i) sd κ → AW G MX7_goDay (d + 2) 0 0 Q 2 [some (.ref (b 12)), some (.int (nI i))] [] (wSt G.2.2.1 b κ ++ R) 0 0 := by
  intro z
  have hP0 := hw0.2.2.2.2.2.1
  have h60 := hw0.2.2.2.1
  have hk : ∀ i, i ≤ t 2 → ∀ j, j < 91 → dayG t i j = t j := fun i hi j hj => dayG_keep i (by omega) (fun q hq => by have := hP0 q (by omega); have := hw0.2.1; omega) j (by omega) (by omega)
  induction z with
  | zero =>
    intro i κ hi h
    have hw := WT_dayG hw0 i (by omega)
    have hC := hC0.to (hk i (by omega)) hw0.2.1 hw0.2.2.1 h60
    have hu2 := hk i (by omega) 2 (by omega)
    have hdef : dayF t = upN (dayG t i) 91 (dayG t i 91 + 1) := by rw [show i = t 2 by omega]; rfl
    generalize dayG t i = u at *
    obtain ⟨hb, h0, h1, h2, hR, hP, hD, hCl, hT⟩ := id hw
    refine aw_iload_n (pc := 2) (i := 1) dX7_goDay_2 rfl rfl ?_
    refine aw_aload_n (pc := 3) (i := 0) dX7_goDay_3 rfl rfl ?_
    refine pg_X7_47 (pc := 4) (v := .ref (c 13)) dX7_goDay_4 rfl h.1 ?_
    refine av_get (pc := 7) (x := .int (nI (u 2))) dX7_goDay_7 rfl og_X7_96 rfl (hC.sub mem_app).ov rfl ?_
    refine an_icmp_ge (pc := 10) (tgt := 52) dX7_goDay_10 rfl (by omega) (Nat.lt_trans (hb _) (by decide)) (fun h10 => ?_) (fun h10 => ?_)
    · -- 52
      refine aw_aload_n (pc := 52) (i := 0) dX7_goDay_52 rfl rfl ?_
      refine aw_dup (pc := 53) dX7_goDay_53 rfl ?_
      refine pg_X7_26 (pc := 54) (v := .int (nI (u 91))) dX7_goDay_54 rfl h.2.2.2.1 ?_
      refine aw_iconst (pc := 57) dX7_goDay_57 iconst_1 ?_
      refine an_add (pc := 58) dX7_goDay_58 ?_
      refine pp_X7_26 (pc := 59) dX7_goDay_59 rfl ?_
      exact aw_vret (pc := 62) dX7_goDay_62 rfl (Nat.le_refl _) (Nat.le_refl _) (kk _ (by rw [hdef]; exact h.day h0 h2))
    · -- 13
      exfalso; omega
  | succ z ih =>
    intro i κ hi h
    have hw := WT_dayG hw0 i (by omega)
    have hC := hC0.to (hk i (by omega)) hw0.2.1 hw0.2.2.1 h60
    have hu2 := hk i (by omega) 2 (by omega)
    have hdef : dayG t (i + 1) = dayS (dayG t i) i := rfl
    generalize dayG t i = u at *
    obtain ⟨hb, h0, h1, h2, hR, hP, hD, hCl, hT⟩ := id hw
    have hq := hP i (by omega)
    refine aw_iload_n (pc := 2) (i := 1) dX7_goDay_2 rfl rfl ?_
    refine aw_aload_n (pc := 3) (i := 0) dX7_goDay_3 rfl rfl ?_
    refine pg_X7_47 (pc := 4) (v := .ref (c 13)) dX7_goDay_4 rfl h.1 ?_
    refine av_get (pc := 7) (x := .int (nI (u 2))) dX7_goDay_7 rfl og_X7_96 rfl (hC.sub mem_app).ov rfl ?_
    refine an_icmp_ge (pc := 10) (tgt := 52) dX7_goDay_10 rfl (by omega) (Nat.lt_trans (hb _) (by decide)) (fun h10 => ?_) (fun h10 => ?_)
    · -- 52
      exfalso; omega
    · -- 13
      refine aw_aload_n (pc := 13) (i := 0) dX7_goDay_13 rfl rfl ?_
      refine aw_iload_n (pc := 14) (i := 1) dX7_goDay_14 rfl rfl ?_
      refine cVi (pc := 15) (As := [.int (nI i)]) (rest := []) dX7_goDay_15 rfl oc_X7_99 rfl rfl (Nat.le_of_ble_eq_true rfl) rfl rfl ovX7 (Nat.le_refl _) (Nat.le_refl _) (c7_grows (h.str h0 h2) (hC.sub mem_app) hw (by omega) ⟨_, rfl, ?_⟩)
      refine ab_if_eq (pc := 18) (tgt := 46) dX7_goDay_18 rfl (fun h18 => ?_) (fun h18 => ?_)
      · -- 46
        refine an_inc (pc := 46) (z := 1) dX7_goDay_46 rfl (Nat.le_of_ble_eq_true rfl) rfl ?_
        refine aw_goto (pc := 49) (tgt := 2) dX7_goDay_49 rfl ?_
        exact ih (i + 1) κ (by omega) (by rw [hdef, dayS, if_neg (by rw [h18]; decide)]; exact h)
      · -- 21
        refine aw_aload_n (pc := 21) (i := 0) dX7_goDay_21 rfl rfl ?_
        refine pg_X7_15 (pc := 22) dX7_goDay_22 rfl ?_
        refine aw_aload_n (pc := 25) (i := 0) dX7_goDay_25 rfl rfl ?_
        refine pg_X7_29 (pc := 26) dX7_goDay_26 rfl ?_
        refine aw_iload_n (pc := 29) (i := 1) dX7_goDay_29 rfl rfl ?_
        refine pl_X7_at (pc := 30) (x := (nI (u (108 + i)))) dX7_goDay_30 (by omega) (h.2.2.2.2.2.2 _ (by omega)).1 ?_
        refine aw_dup2 (pc := 31) dX7_goDay_31 rfl rfl ?_
        refine pl_X7_store (pc := 32) (x := (nI (u (94 + (u (108 + i)))))) dX7_goDay_32 (by omega) (h.2.2.2.2.2.1 _ (by omega)).1 ?_
        refine aw_iconst (pc := 33) dX7_goDay_33 iconst_1 ?_
        refine an_sub (pc := 34) dX7_goDay_34 (by simp only [growsF, Bool.and_eq_true, decide_eq_true_eq] at h18; rw [h18.1.1]; omega) ?_
        refine ps_X7_store (pc := 35) dX7_goDay_35 (by omega) ?_
        refine aw_aload_n (pc := 36) (i := 0) dX7_goDay_36 rfl rfl ?_
        refine pg_X7_32 (pc := 37) dX7_goDay_37 rfl ?_
        refine aw_iload_n (pc := 40) (i := 1) dX7_goDay_40 rfl rfl ?_
        refine aw_dup2 (pc := 41) dX7_goDay_41 rfl rfl ?_
        refine pl_X7_length (pc := 42) (x := (nI (u (114 + i)))) dX7_goDay_42 (by omega) (h.2.2.2.2.2.2 _ (by omega)).2.1 ?_
        refine aw_iconst (pc := 43) dX7_goDay_43 iconst_1 ?_
        refine an_add (pc := 44) dX7_goDay_44 ?_
        refine ps_X7_length (pc := 45) dX7_goDay_45 (by omega) ?_
        refine an_inc (pc := 46) (z := 1) dX7_goDay_46 rfl (Nat.le_of_ble_eq_true rfl) rfl ?_
        refine aw_goto (pc := 49) (tgt := 2) dX7_goDay_49 rfl ?_
        exact ih (i + 1) _ (by omega) (by rw [hdef]; exact h.grow h0 h2 (by omega) (by omega) h18)
set_option maxHeartbeats 1000000 in
set_option maxRecDepth 20000 in
theorem c7_goDay {G : xG} {d : Nat} {Q : xQ} {b c : Nat → Nat} {t : Nat → Nat} {NM : Nat → Int64} {sn : Option Nat} {sd : Int32} {κ : kS} {R : va_W} (h : SRl c sn t sd κ) (hC : CHR G R c t NM) (hw : WT t) (kk : ∀ κ9, SRl c sn (dayF t) sd κ9 → Q none (wSt G.2.2.1 b κ9 ++ R)) : MT G MX7_goDay (d + 2) 0 0 [.ref (b 12)] (wSt G.2.2.1 b κ ++ R) Q := by
  refine mt_start (L := [some (.ref (b 12)), none]) rfl (Nat.le_of_ble_eq_true rfl) rfl ?_
  refine aw_iconst (pc := 0) dX7_goDay_0 iconst_0 ?_
  refine aw_istore_n (pc := 1) (i := 1) dX7_goDay_1 rfl (Nat.le_of_ble_eq_true rfl) rfl ?_
  exact goDay_loop hC hw kk (t 2) 0 κ (by omega) h
