/-- a state that is as t tells; sd: its seed -/
def SRl (c : Nat → Nat) (sn : Option Nat) (t : Nat → Nat) (sd : Int32) (κ : kS) : Prop := κ.1 0 = .ref (c 13) ∧ κ.1 1 = va_rf sn ∧ κ.1 4 = .int (nI (t 93)) ∧ κ.1 5 = .int (nI (t 91)) ∧ κ.1 11 = .int sd ∧ (∀ l, l < t 0 → κ.2.1 2 l = nI (t (94 + l)) ∧ κ.2.1 3 l = nI (t (101 + l))) ∧ ∀ q, q < t 2 → κ.2.1 6 q = nI (t (108 + q)) ∧ κ.2.1 7 q = nI (t (114 + q)) ∧ κ.2.1 8 q = nI (t (120 + q)) ∧ κ.2.1 9 q = nI (t (126 + q)) ∧ κ.2.1 10 q = nI (t (132 + q))
theorem SRl.str {G : xG} {R : va_W} {b c : Nat → Nat} {sn : Option Nat} {t : Nat → Nat} {sd : Int32} {κ : kS} (h : SRl c sn t sd κ) (h0 : t 0 ≤ 7) (h2 : t 2 ≤ 6) : STR G (wSt G.2.2.1 b κ ++ R) b c sn t := by
  obtain ⟨e0, e1, e4, e5, e11, hl, hq⟩ := h
  refine ⟨sd, OV.of 0 rfl (fun r hr k hk => ?_), ivX7_store h0 (fun i hi => (hl i hi).1), ivX7_spares h0 (fun i hi => (hl i hi).2), ivX7_at h2 (fun i hi => (hq i hi).1), ivX7_length h2 (fun i hi => (hq i hi).2.1), ivX7_taken h2 (fun i hi => (hq i hi).2.2.1), ivX7_given h2 (fun i hi => (hq i hi).2.2.2.1), ivX7_crossed h2 (fun i hi => (hq i hi).2.2.2.2)⟩
  cases hr
  have hk : k < 12 := hk
  rcases (show k = 0 ∨ k = 1 ∨ k = 2 ∨ k = 3 ∨ k = 4 ∨ k = 5 ∨ k = 6 ∨ k = 7 ∨ k = 8 ∨ k = 9 ∨ k = 10 ∨ k = 11 by omega) with rfl | rfl | rfl | rfl | rfl | rfl | rfl | rfl | rfl | rfl | rfl | rfl
  · exact congrArg some e0
  · exact congrArg some e1
  · rfl
  · rfl
  · exact congrArg some e4
  · exact congrArg some e5
  · rfl
  · rfl
  · rfl
  · rfl
  · rfl
  · exact congrArg some e11
/-- a state's cells that may be read, as they are -/
def SKV (G : xG) (ws : va_W) (b : Nat → Nat) (κ : kS) : Prop := OV G ws 6 (b 12) (fvX7 b κ) ∧ IV G ws 1 (b 2) 7 7 (κ.2.1 2) ∧ IV G ws 1 (b 3) 7 7 (κ.2.1 3) ∧ IV G ws 1 (b 6) 6 6 (κ.2.1 6) ∧ IV G ws 1 (b 7) 6 6 (κ.2.1 7) ∧ IV G ws 1 (b 8) 6 6 (κ.2.1 8) ∧ IV G ws 1 (b 9) 6 6 (κ.2.1 9) ∧ IV G ws 1 (b 10) 6 6 (κ.2.1 10)
theorem SKV.of {G : xG} {R : va_W} {b : Nat → Nat} {κ : kS} : SKV G (wSt G.2.2.1 b κ ++ R) b κ := ⟨ovX7, ivX7_store (Nat.le_refl _) (fun _ _ => rfl), ivX7_spares (Nat.le_refl _) (fun _ _ => rfl), ivX7_at (Nat.le_refl _) (fun _ _ => rfl), ivX7_length (Nat.le_refl _) (fun _ _ => rfl), ivX7_taken (Nat.le_refl _) (fun _ _ => rfl), ivX7_given (Nat.le_refl _) (fun _ _ => rfl), ivX7_crossed (Nat.le_refl _) (fun _ _ => rfl)⟩
theorem SKV.sub {G : xG} {R R' : va_W} {b : Nat → Nat} {κ : kS} (hs : ∀ x ∈ R, x ∈ R') (h : SKV G R b κ) : SKV G R' b κ := ⟨h.1.sub hs, h.2.1.sub hs, h.2.2.1.sub hs, h.2.2.2.1.sub hs, h.2.2.2.2.1.sub hs, h.2.2.2.2.2.1.sub hs, h.2.2.2.2.2.2.1.sub hs, h.2.2.2.2.2.2.2.sub hs⟩
/-- what copy has done so far -/
def CPI (c : Nat → Nat) (sn : Option Nat) (t : Nat → Nat) (κ2 κ : kS) (i j : Nat) : Prop := κ.1 0 = .ref (c 13) ∧ κ.1 1 = va_rf sn ∧ κ.1 4 = .int (nI (t 93)) ∧ κ.1 5 = .int (nI (t 91)) ∧ (∃ sd, κ.1 11 = .int sd) ∧ (∀ l, l < i → κ.2.1 2 l = κ2.2.1 2 l ∧ κ.2.1 3 l = κ2.2.1 3 l) ∧ ∀ q, q < j → κ.2.1 6 q = κ2.2.1 6 q ∧ κ.2.1 7 q = κ2.2.1 7 q ∧ κ.2.1 8 q = κ2.2.1 8 q ∧ κ.2.1 9 q = κ2.2.1 9 q ∧ κ.2.1 10 q = κ2.2.1 10 q
theorem CPI.l {c : Nat → Nat} {sn : Option Nat} {t : Nat → Nat} {κ2 κ : kS} {i : Nat} (h : CPI c sn t κ2 κ i 0) : CPI c sn t κ2 (kI (kI κ 2 i (κ2.2.1 2 i)) 3 i (κ2.2.1 3 i)) (i + 1) 0 := by
  obtain ⟨e0, e1, e4, e5, e11, hl, hq⟩ := h
  refine ⟨e0, e1, e4, e5, e11, fun l hl9 => ?_, fun q hq9 => absurd hq9 (Nat.not_lt_zero _)⟩
  show upN (κ.2.1 2) i _ l = _ ∧ upN (κ.2.1 3) i _ l = _
  by_cases e : l = i
  · subst e; exact ⟨upN_s _ _ _, upN_s _ _ _⟩
  · rw [upN_n _ _ _ _ e, upN_n _ _ _ _ e]; exact hl l (by omega)
theorem CPI.q {c : Nat → Nat} {sn : Option Nat} {t : Nat → Nat} {κ2 κ : kS} {i : Nat} (h : CPI c sn t κ2 κ 7 i) : CPI c sn t κ2 (kI (kI (kI (kI (kI κ 6 i (κ2.2.1 6 i)) 7 i (κ2.2.1 7 i)) 8 i (κ2.2.1 8 i)) 9 i (κ2.2.1 9 i)) 10 i (κ2.2.1 10 i)) 7 (i + 1) := by
  obtain ⟨e0, e1, e4, e5, e11, hl, hq⟩ := h
  refine ⟨e0, e1, e4, e5, e11, hl, fun l hl9 => ?_⟩
  show upN (κ.2.1 6) i _ l = _ ∧ upN (κ.2.1 7) i _ l = _ ∧ upN (κ.2.1 8) i _ l = _ ∧ upN (κ.2.1 9) i _ l = _ ∧ upN (κ.2.1 10) i _ l = _
  by_cases e : l = i
  · subst e; exact ⟨upN_s _ _ _, upN_s _ _ _, upN_s _ _ _, upN_s _ _ _, upN_s _ _ _⟩
  · rw [upN_n _ _ _ _ e, upN_n _ _ _ _ e, upN_n _ _ _ _ e, upN_n _ _ _ _ e, upN_n _ _ _ _ e]; exact hq l (by omega)
theorem CPI.done {c : Nat → Nat} {sn : Option Nat} {t : Nat → Nat} {sd2 : Int32} {κ2 κ : kS} (h : CPI c sn t κ2 κ 7 6) (h2 : SRl c sn t sd2 κ2) (h7 : t 0 ≤ 7) (h6 : t 2 ≤ 6) : ∃ sd, SRl c sn t sd κ := by
  obtain ⟨e0, e1, e4, e5, ⟨sd, e11⟩, hl, hq⟩ := h
  obtain ⟨-, -, -, -, -, gl, gq⟩ := h2
  refine ⟨sd, e0, e1, e4, e5, e11, fun l hl9 => ?_, fun q hq9 => ?_⟩
  · have := hl l (by omega); have := gl l hl9; grind
  · have := hq q (by omega); have := gq q hq9; grind
set_option maxHeartbeats 1000000 in
set_option maxRecDepth 20000 in
theorem copy_q {G : xG} {d : Nat} {Q : xQ} {b b2 c : Nat → Nat} {t : Nat → Nat} {sn : Option Nat} {sd2 : Int32} {κ2 : kS} {R : va_W} (hV : SKV G R b2 κ2) (h2 : SRl c sn t sd2 κ2) (h7 : t 0 ≤ 7) (h6 : t 2 ≤ 6) (kk : ∀ κ9 sd9, SRl c sn t sd9 κ9 → Q none (wSt G.2.2.1 b κ9 ++ R)) : ∀ (z i : Nat) (κ : kS), i + z = 6 → CPI c sn t κ2 κ 7 i → AW G MX7_copy d 0 0 Q 72 [some (.ref (b 12)), some (.ref (b2 12)), some (.int (nI i))] [] (wSt G.2.2.1 b κ ++ R) 0 0 := by
  intro z
  induction z with
  | zero =>
    intro i κ hi h
    refine aw_iload_n (pc := 72) (i := 2) dX7_copy_72 rfl rfl ?_
    refine aw_bipush (pc := 73) dX7_copy_73 bipush_6 ?_
    refine an_icmp_ge (pc := 75) (tgt := 144) dX7_copy_75 rfl (by omega) (by decide) (fun h75 => ?_) (fun h75 => ?_)
    · -- 144
      exact aw_vret (pc := 144) dX7_copy_144 rfl (Nat.le_refl _) (Nat.le_refl _) (by rw [show i = 6 by omega] at h; obtain ⟨sd9, h9⟩ := h.done h2 h7 h6; exact kk _ _ h9)
    · -- 78
      exfalso; omega
  | succ z ih =>
    intro i κ hi h
    refine aw_iload_n (pc := 72) (i := 2) dX7_copy_72 rfl rfl ?_
    refine aw_bipush (pc := 73) dX7_copy_73 bipush_6 ?_
    refine an_icmp_ge (pc := 75) (tgt := 144) dX7_copy_75 rfl (by omega) (by decide) (fun h75 => ?_) (fun h75 => ?_)
    · -- 144
      exfalso; omega
    · -- 78
      refine aw_aload_n (pc := 78) (i := 0) dX7_copy_78 rfl rfl ?_
      refine pg_X7_29 (pc := 79) dX7_copy_79 rfl ?_
      refine aw_iload_n (pc := 82) (i := 2) dX7_copy_82 rfl rfl ?_
      refine aw_aload_n (pc := 83) (i := 1) dX7_copy_83 rfl rfl ?_
      refine av_get (pc := 84) (x := .ref (b2 6)) dX7_copy_84 rfl og_X7_29 rfl (hV.sub mem_app).1 rfl ?_
      refine aw_iload_n (pc := 87) (i := 2) dX7_copy_87 rfl rfl ?_
      refine av_iald (pc := 88) (x := (κ2.2.1 6 i)) dX7_copy_88 (hV.sub mem_app).2.2.2.1 (by omega) (by decide) rfl ?_
      refine ps_X7_at (pc := 89) dX7_copy_89 (by omega) ?_
      refine aw_aload_n (pc := 90) (i := 0) dX7_copy_90 rfl rfl ?_
      refine pg_X7_32 (pc := 91) dX7_copy_91 rfl ?_
      refine aw_iload_n (pc := 94) (i := 2) dX7_copy_94 rfl rfl ?_
      refine aw_aload_n (pc := 95) (i := 1) dX7_copy_95 rfl rfl ?_
      refine av_get (pc := 96) (x := .ref (b2 7)) dX7_copy_96 rfl og_X7_32 rfl (hV.sub mem_app).1 rfl ?_
      refine aw_iload_n (pc := 99) (i := 2) dX7_copy_99 rfl rfl ?_
      refine av_iald (pc := 100) (x := (κ2.2.1 7 i)) dX7_copy_100 (hV.sub mem_app).2.2.2.2.1 (by omega) (by decide) rfl ?_
      refine ps_X7_length (pc := 101) dX7_copy_101 (by omega) ?_
      refine aw_aload_n (pc := 102) (i := 0) dX7_copy_102 rfl rfl ?_
      refine pg_X7_35 (pc := 103) dX7_copy_103 rfl ?_
      refine aw_iload_n (pc := 106) (i := 2) dX7_copy_106 rfl rfl ?_
      refine aw_aload_n (pc := 107) (i := 1) dX7_copy_107 rfl rfl ?_
      refine av_get (pc := 108) (x := .ref (b2 8)) dX7_copy_108 rfl og_X7_35 rfl (hV.sub mem_app).1 rfl ?_
      refine aw_iload_n (pc := 111) (i := 2) dX7_copy_111 rfl rfl ?_
      refine av_iald (pc := 112) (x := (κ2.2.1 8 i)) dX7_copy_112 (hV.sub mem_app).2.2.2.2.2.1 (by omega) (by decide) rfl ?_
      refine ps_X7_taken (pc := 113) dX7_copy_113 (by omega) ?_
      refine aw_aload_n (pc := 114) (i := 0) dX7_copy_114 rfl rfl ?_
      refine pg_X7_38 (pc := 115) dX7_copy_115 rfl ?_
      refine aw_iload_n (pc := 118) (i := 2) dX7_copy_118 rfl rfl ?_
      refine aw_aload_n (pc := 119) (i := 1) dX7_copy_119 rfl rfl ?_
      refine av_get (pc := 120) (x := .ref (b2 9)) dX7_copy_120 rfl og_X7_38 rfl (hV.sub mem_app).1 rfl ?_
      refine aw_iload_n (pc := 123) (i := 2) dX7_copy_123 rfl rfl ?_
      refine av_iald (pc := 124) (x := (κ2.2.1 9 i)) dX7_copy_124 (hV.sub mem_app).2.2.2.2.2.2.1 (by omega) (by decide) rfl ?_
      refine ps_X7_given (pc := 125) dX7_copy_125 (by omega) ?_
      refine aw_aload_n (pc := 126) (i := 0) dX7_copy_126 rfl rfl ?_
      refine pg_X7_41 (pc := 127) dX7_copy_127 rfl ?_
      refine aw_iload_n (pc := 130) (i := 2) dX7_copy_130 rfl rfl ?_
      refine aw_aload_n (pc := 131) (i := 1) dX7_copy_131 rfl rfl ?_
      refine av_get (pc := 132) (x := .ref (b2 10)) dX7_copy_132 rfl og_X7_41 rfl (hV.sub mem_app).1 rfl ?_
      refine aw_iload_n (pc := 135) (i := 2) dX7_copy_135 rfl rfl ?_
      refine av_iald (pc := 136) (x := (κ2.2.1 10 i)) dX7_copy_136 (hV.sub mem_app).2.2.2.2.2.2.2 (by omega) (by decide) rfl ?_
      refine ps_X7_crossed (pc := 137) dX7_copy_137 (by omega) ?_
      refine an_inc (pc := 138) (z := 1) dX7_copy_138 rfl (Nat.le_of_ble_eq_true rfl) rfl ?_
      refine aw_goto (pc := 141) (tgt := 72) dX7_copy_141 rfl ?_
      exact ih (i + 1) _ (by omega) h.q
set_option maxHeartbeats 1000000 in
set_option maxRecDepth 20000 in
theorem copy_l {G : xG} {d : Nat} {Q : xQ} {b b2 c : Nat → Nat} {t : Nat → Nat} {sn : Option Nat} {sd2 : Int32} {κ2 : kS} {R : va_W} (hV : SKV G R b2 κ2) (h2 : SRl c sn t sd2 κ2) (h7 : t 0 ≤ 7) (h6 : t 2 ≤ 6) (kk : ∀ κ9 sd9, SRl c sn t sd9 κ9 → Q none (wSt G.2.2.1 b κ9 ++ R)) : ∀ (z i : Nat) (κ : kS), i + z = 7 → CPI c sn t κ2 κ i 0 → AW G MX7_copy d 0 0 Q 34 [some (.ref (b 12)), some (.ref (b2 12)), some (.int (nI i))] [] (wSt G.2.2.1 b κ ++ R) 0 0 := by
  intro z
  induction z with
  | zero =>
    intro i κ hi h
    refine aw_iload_n (pc := 34) (i := 2) dX7_copy_34 rfl rfl ?_
    refine aw_bipush (pc := 35) dX7_copy_35 bipush_7 ?_
    refine an_icmp_ge (pc := 37) (tgt := 70) dX7_copy_37 rfl (by omega) (by decide) (fun h37 => ?_) (fun h37 => ?_)
    · -- 70
      refine aw_iconst (pc := 70) dX7_copy_70 iconst_0 ?_
      refine aw_istore_n (pc := 71) (i := 2) dX7_copy_71 rfl (Nat.le_of_ble_eq_true rfl) rfl ?_
      rw [show i = 7 by omega] at h
      exact copy_q hV h2 h7 h6 kk 6 0 _ (by omega) h
    · -- 40
      exfalso; omega
  | succ z ih =>
    intro i κ hi h
    refine aw_iload_n (pc := 34) (i := 2) dX7_copy_34 rfl rfl ?_
    refine aw_bipush (pc := 35) dX7_copy_35 bipush_7 ?_
    refine an_icmp_ge (pc := 37) (tgt := 70) dX7_copy_37 rfl (by omega) (by decide) (fun h37 => ?_) (fun h37 => ?_)
    · -- 70
      exfalso; omega
    · -- 40
      refine aw_aload_n (pc := 40) (i := 0) dX7_copy_40 rfl rfl ?_
      refine pg_X7_15 (pc := 41) dX7_copy_41 rfl ?_
      refine aw_iload_n (pc := 44) (i := 2) dX7_copy_44 rfl rfl ?_
      refine aw_aload_n (pc := 45) (i := 1) dX7_copy_45 rfl rfl ?_
      refine av_get (pc := 46) (x := .ref (b2 2)) dX7_copy_46 rfl og_X7_15 rfl (hV.sub mem_app).1 rfl ?_
      refine aw_iload_n (pc := 49) (i := 2) dX7_copy_49 rfl rfl ?_
      refine av_iald (pc := 50) (x := (κ2.2.1 2 i)) dX7_copy_50 (hV.sub mem_app).2.1 (by omega) (by decide) rfl ?_
      refine ps_X7_store (pc := 51) dX7_copy_51 (by omega) ?_
      refine aw_aload_n (pc := 52) (i := 0) dX7_copy_52 rfl rfl ?_
      refine pg_X7_19 (pc := 53) dX7_copy_53 rfl ?_
      refine aw_iload_n (pc := 56) (i := 2) dX7_copy_56 rfl rfl ?_
      refine aw_aload_n (pc := 57) (i := 1) dX7_copy_57 rfl rfl ?_
      refine av_get (pc := 58) (x := .ref (b2 3)) dX7_copy_58 rfl og_X7_19 rfl (hV.sub mem_app).1 rfl ?_
      refine aw_iload_n (pc := 61) (i := 2) dX7_copy_61 rfl rfl ?_
      refine av_iald (pc := 62) (x := (κ2.2.1 3 i)) dX7_copy_62 (hV.sub mem_app).2.2.1 (by omega) (by decide) rfl ?_
      refine ps_X7_spares (pc := 63) dX7_copy_63 (by omega) ?_
      refine an_inc (pc := 64) (z := 1) dX7_copy_64 rfl (Nat.le_of_ble_eq_true rfl) rfl ?_
      refine aw_goto (pc := 67) (tgt := 34) dX7_copy_67 rfl ?_
      exact ih (i + 1) _ (by omega) h.l
set_option maxHeartbeats 1000000 in
set_option maxRecDepth 20000 in
theorem c7_copy {G : xG} {d : Nat} {Q : xQ} {b b2 c : Nat → Nat} {t : Nat → Nat} {sn : Option Nat} {sd2 : Int32} {κ2 : kS} {R : va_W} {κ : kS} {sd : Int32} (h11 : κ.1 11 = .int sd) (hV : SKV G R b2 κ2) (h2 : SRl c sn t sd2 κ2) (h7 : t 0 ≤ 7) (h6 : t 2 ≤ 6) (kk : ∀ κ9 sd9, SRl c sn t sd9 κ9 → Q none (wSt G.2.2.1 b κ9 ++ R)) : MT G MX7_copy (d) 0 0 [.ref (b 12), .ref (b2 12)] (wSt G.2.2.1 b κ ++ R) Q := by
  refine mt_start (L := [some (.ref (b 12)), some (.ref (b2 12)), none]) rfl (Nat.le_of_ble_eq_true rfl) rfl ?_
  refine aw_aload_n (pc := 0) (i := 0) dX7_copy_0 rfl rfl ?_
  refine aw_aload_n (pc := 1) (i := 1) dX7_copy_1 rfl rfl ?_
  refine av_get (pc := 2) (x := .ref (c 13)) dX7_copy_2 rfl og_X7_47 rfl (hV.sub mem_app).1 h2.1 ?_
  refine aw_topV (y := va_rf (some (c 13))) rfl ?_
  refine pp_X7_47 (pc := 5) dX7_copy_5 rfl ?_
  refine aw_aload_n (pc := 8) (i := 0) dX7_copy_8 rfl rfl ?_
  refine aw_aload_n (pc := 9) (i := 1) dX7_copy_9 rfl rfl ?_
  refine av_get (pc := 10) (x := va_rf sn) dX7_copy_10 rfl og_X7_9 rfl (hV.sub mem_app).1 h2.2.1 ?_
  refine pp_X7_9 (pc := 13) dX7_copy_13 rfl ?_
  refine aw_aload_n (pc := 16) (i := 0) dX7_copy_16 rfl rfl ?_
  refine aw_aload_n (pc := 17) (i := 1) dX7_copy_17 rfl rfl ?_
  refine av_get (pc := 18) (x := .int (nI (t 93))) dX7_copy_18 rfl og_X7_22 rfl (hV.sub mem_app).1 h2.2.2.1 ?_
  refine pp_X7_22 (pc := 21) dX7_copy_21 rfl ?_
  refine aw_aload_n (pc := 24) (i := 0) dX7_copy_24 rfl rfl ?_
  refine aw_aload_n (pc := 25) (i := 1) dX7_copy_25 rfl rfl ?_
  refine av_get (pc := 26) (x := .int (nI (t 91))) dX7_copy_26 rfl og_X7_26 rfl (hV.sub mem_app).1 h2.2.2.2.1 ?_
  refine pp_X7_26 (pc := 29) dX7_copy_29 rfl ?_
  refine aw_iconst (pc := 32) dX7_copy_32 iconst_0 ?_
  refine aw_istore_n (pc := 33) (i := 2) dX7_copy_33 rfl (Nat.le_of_ble_eq_true rfl) rfl ?_
  exact copy_l hV h2 h7 h6 kk 7 0 _ (by omega) ⟨rfl, rfl, rfl, rfl, ⟨sd, h11⟩, fun l hl => absurd hl (Nat.not_lt_zero _), fun l hl => absurd hl (Nat.not_lt_zero _)⟩
/-- a state with nothing in it -/
def ZR (c : Nat → Nat) (κ : kS) (i j : Nat) : Prop := κ.1 0 = .ref (c 13) ∧ κ.1 1 = va_rf none ∧ κ.1 4 = .int (nI 0) ∧ κ.1 5 = .int (nI 0) ∧ (∃ sd, κ.1 11 = .int sd) ∧ (∀ l, l < i → κ.2.1 2 l = nI 0 ∧ κ.2.1 3 l = nI 0) ∧ ∀ q, q < j → κ.2.1 6 q = nI 0 ∧ κ.2.1 7 q = nI 0 ∧ κ.2.1 8 q = nI 0 ∧ κ.2.1 9 q = nI 0 ∧ κ.2.1 10 q = nI 0
theorem ZR.l {c : Nat → Nat} {κ : kS} {i : Nat} (h : ZR c κ i 0) : ZR c (kI (kI κ 2 i (nI 0)) 3 i (nI 0)) (i + 1) 0 := by
  obtain ⟨e0, e1, e4, e5, e11, hl, hq⟩ := h
  refine ⟨e0, e1, e4, e5, e11, fun l hl9 => ?_, fun q hq9 => absurd hq9 (Nat.not_lt_zero _)⟩
  show upN (κ.2.1 2) i _ l = _ ∧ upN (κ.2.1 3) i _ l = _
  by_cases e : l = i
  · subst e; exact ⟨upN_s _ _ _, upN_s _ _ _⟩
  · rw [upN_n _ _ _ _ e, upN_n _ _ _ _ e]; exact hl l (by omega)
theorem ZR.q {c : Nat → Nat} {κ : kS} {i : Nat} (h : ZR c κ 7 i) : ZR c (kI (kI (kI (kI (kI κ 6 i (nI 0)) 7 i (nI 0)) 8 i (nI 0)) 9 i (nI 0)) 10 i (nI 0)) 7 (i + 1) := by
  obtain ⟨e0, e1, e4, e5, e11, hl, hq⟩ := h
  refine ⟨e0, e1, e4, e5, e11, hl, fun l hl9 => ?_⟩
  show upN (κ.2.1 6) i _ l = _ ∧ upN (κ.2.1 7) i _ l = _ ∧ upN (κ.2.1 8) i _ l = _ ∧ upN (κ.2.1 9) i _ l = _ ∧ upN (κ.2.1 10) i _ l = _
  by_cases e : l = i
  · subst e; exact ⟨upN_s _ _ _, upN_s _ _ _, upN_s _ _ _, upN_s _ _ _, upN_s _ _ _⟩
  · rw [upN_n _ _ _ _ e, upN_n _ _ _ _ e, upN_n _ _ _ _ e, upN_n _ _ _ _ e, upN_n _ _ _ _ e]; exact hq l (by omega)
set_option maxHeartbeats 1000000 in
set_option maxRecDepth 20000 in
theorem clear_q {G : xG} {d : Nat} {Q : xQ} {b c : Nat → Nat} {R : va_W} (kk : ∀ κ9, ZR c κ9 7 6 → Q none (wSt G.2.2.1 b κ9 ++ R)) : ∀ (z i : Nat) (κ : kS), i + z = 6 → ZR c κ 7 i → AW G MX7_clear d 0 0 Q 50 [some (.ref (b 12)), some (.ref (c 13)), some (.int (nI i))] [] (wSt G.2.2.1 b κ ++ R) 0 0 := by
  intro z
  induction z with
  | zero =>
    intro i κ hi h
    refine aw_iload_n (pc := 50) (i := 2) dX7_clear_50 rfl rfl ?_
    refine aw_bipush (pc := 51) dX7_clear_51 bipush_6 ?_
    refine an_icmp_ge (pc := 53) (tgt := 97) dX7_clear_53 rfl (by omega) (by decide) (fun h53 => ?_) (fun h53 => ?_)
    · -- 97
      exact aw_vret (pc := 97) dX7_clear_97 rfl (Nat.le_refl _) (Nat.le_refl _) (by rw [show i = 6 by omega] at h; exact kk _ h)
    · -- 56
      exfalso; omega
  | succ z ih =>
    intro i κ hi h
    refine aw_iload_n (pc := 50) (i := 2) dX7_clear_50 rfl rfl ?_
    refine aw_bipush (pc := 51) dX7_clear_51 bipush_6 ?_
    refine an_icmp_ge (pc := 53) (tgt := 97) dX7_clear_53 rfl (by omega) (by decide) (fun h53 => ?_) (fun h53 => ?_)
    · -- 97
      exfalso; omega
    · -- 56
      refine aw_aload_n (pc := 56) (i := 0) dX7_clear_56 rfl rfl ?_
      refine pg_X7_29 (pc := 57) dX7_clear_57 rfl ?_
      refine aw_iload_n (pc := 60) (i := 2) dX7_clear_60 rfl rfl ?_
      refine aw_iconst (pc := 61) dX7_clear_61 iconst_0 ?_
      refine ps_X7_at (pc := 62) dX7_clear_62 (by omega) ?_
      refine aw_aload_n (pc := 63) (i := 0) dX7_clear_63 rfl rfl ?_
      refine pg_X7_32 (pc := 64) dX7_clear_64 rfl ?_
      refine aw_iload_n (pc := 67) (i := 2) dX7_clear_67 rfl rfl ?_
      refine aw_iconst (pc := 68) dX7_clear_68 iconst_0 ?_
      refine ps_X7_length (pc := 69) dX7_clear_69 (by omega) ?_
      refine aw_aload_n (pc := 70) (i := 0) dX7_clear_70 rfl rfl ?_
      refine pg_X7_35 (pc := 71) dX7_clear_71 rfl ?_
      refine aw_iload_n (pc := 74) (i := 2) dX7_clear_74 rfl rfl ?_
      refine aw_iconst (pc := 75) dX7_clear_75 iconst_0 ?_
      refine ps_X7_taken (pc := 76) dX7_clear_76 (by omega) ?_
      refine aw_aload_n (pc := 77) (i := 0) dX7_clear_77 rfl rfl ?_
      refine pg_X7_38 (pc := 78) dX7_clear_78 rfl ?_
      refine aw_iload_n (pc := 81) (i := 2) dX7_clear_81 rfl rfl ?_
      refine aw_iconst (pc := 82) dX7_clear_82 iconst_0 ?_
      refine ps_X7_given (pc := 83) dX7_clear_83 (by omega) ?_
      refine aw_aload_n (pc := 84) (i := 0) dX7_clear_84 rfl rfl ?_
      refine pg_X7_41 (pc := 85) dX7_clear_85 rfl ?_
      refine aw_iload_n (pc := 88) (i := 2) dX7_clear_88 rfl rfl ?_
      refine aw_iconst (pc := 89) dX7_clear_89 iconst_0 ?_
      refine ps_X7_crossed (pc := 90) dX7_clear_90 (by omega) ?_
      refine an_inc (pc := 91) (z := 1) dX7_clear_91 rfl (Nat.le_of_ble_eq_true rfl) rfl ?_
      refine aw_goto (pc := 94) (tgt := 50) dX7_clear_94 rfl ?_
      exact ih (i + 1) _ (by omega) h.q
set_option maxHeartbeats 1000000 in
set_option maxRecDepth 20000 in
theorem clear_l {G : xG} {d : Nat} {Q : xQ} {b c : Nat → Nat} {R : va_W} (kk : ∀ κ9, ZR c κ9 7 6 → Q none (wSt G.2.2.1 b κ9 ++ R)) : ∀ (z i : Nat) (κ : kS), i + z = 7 → ZR c κ i 0 → AW G MX7_clear d 0 0 Q 22 [some (.ref (b 12)), some (.ref (c 13)), some (.int (nI i))] [] (wSt G.2.2.1 b κ ++ R) 0 0 := by
  intro z
  induction z with
  | zero =>
    intro i κ hi h
    refine aw_iload_n (pc := 22) (i := 2) dX7_clear_22 rfl rfl ?_
    refine aw_bipush (pc := 23) dX7_clear_23 bipush_7 ?_
    refine an_icmp_ge (pc := 25) (tgt := 48) dX7_clear_25 rfl (by omega) (by decide) (fun h25 => ?_) (fun h25 => ?_)
    · -- 48
      refine aw_iconst (pc := 48) dX7_clear_48 iconst_0 ?_
      refine aw_istore_n (pc := 49) (i := 2) dX7_clear_49 rfl (Nat.le_of_ble_eq_true rfl) rfl ?_
      rw [show i = 7 by omega] at h
      exact clear_q kk 6 0 _ (by omega) h
    · -- 28
      exfalso; omega
  | succ z ih =>
    intro i κ hi h
    refine aw_iload_n (pc := 22) (i := 2) dX7_clear_22 rfl rfl ?_
    refine aw_bipush (pc := 23) dX7_clear_23 bipush_7 ?_
    refine an_icmp_ge (pc := 25) (tgt := 48) dX7_clear_25 rfl (by omega) (by decide) (fun h25 => ?_) (fun h25 => ?_)
    · -- 48
      exfalso; omega
    · -- 28
      refine aw_aload_n (pc := 28) (i := 0) dX7_clear_28 rfl rfl ?_
      refine pg_X7_15 (pc := 29) dX7_clear_29 rfl ?_
      refine aw_iload_n (pc := 32) (i := 2) dX7_clear_32 rfl rfl ?_
      refine aw_iconst (pc := 33) dX7_clear_33 iconst_0 ?_
      refine ps_X7_store (pc := 34) dX7_clear_34 (by omega) ?_
      refine aw_aload_n (pc := 35) (i := 0) dX7_clear_35 rfl rfl ?_
      refine pg_X7_19 (pc := 36) dX7_clear_36 rfl ?_
      refine aw_iload_n (pc := 39) (i := 2) dX7_clear_39 rfl rfl ?_
      refine aw_iconst (pc := 40) dX7_clear_40 iconst_0 ?_
      refine ps_X7_spares (pc := 41) dX7_clear_41 (by omega) ?_
      refine an_inc (pc := 42) (z := 1) dX7_clear_42 rfl (Nat.le_of_ble_eq_true rfl) rfl ?_
      refine aw_goto (pc := 45) (tgt := 22) dX7_clear_45 rfl ?_
      exact ih (i + 1) _ (by omega) h.l
set_option maxHeartbeats 1000000 in
set_option maxRecDepth 20000 in
theorem c7_clear {G : xG} {d : Nat} {Q : xQ} {b c : Nat → Nat} {R : va_W} {κ : kS} {sd : Int32} (h11 : κ.1 11 = .int sd) (kk : ∀ κ9, ZR c κ9 7 6 → Q none (wSt G.2.2.1 b κ9 ++ R)) : MT G MX7_clear (d) 0 0 [.ref (b 12), .ref (c 13)] (wSt G.2.2.1 b κ ++ R) Q := by
  refine mt_start (L := [some (.ref (b 12)), some (.ref (c 13)), none]) rfl (Nat.le_of_ble_eq_true rfl) rfl ?_
  refine aw_aload_n (pc := 0) (i := 0) dX7_clear_0 rfl rfl ?_
  refine aw_aload_n (pc := 1) (i := 1) dX7_clear_1 rfl rfl ?_
  refine aw_topV (y := va_rf (some (c 13))) rfl ?_
  refine pp_X7_47 (pc := 2) dX7_clear_2 rfl ?_
  refine aw_aload_n (pc := 5) (i := 0) dX7_clear_5 rfl rfl ?_
  refine aw_null (pc := 6) dX7_clear_6 ?_
  refine aw_topV (y := va_rf none) rfl ?_
  refine pp_X7_9 (pc := 7) dX7_clear_7 rfl ?_
  refine aw_aload_n (pc := 10) (i := 0) dX7_clear_10 rfl rfl ?_
  refine aw_iconst (pc := 11) dX7_clear_11 iconst_0 ?_
  refine pp_X7_22 (pc := 12) dX7_clear_12 rfl ?_
  refine aw_aload_n (pc := 15) (i := 0) dX7_clear_15 rfl rfl ?_
  refine aw_iconst (pc := 16) dX7_clear_16 iconst_0 ?_
  refine pp_X7_26 (pc := 17) dX7_clear_17 rfl ?_
  refine aw_iconst (pc := 20) dX7_clear_20 iconst_0 ?_
  refine aw_istore_n (pc := 21) (i := 2) dX7_clear_21 rfl (Nat.le_of_ble_eq_true rfl) rfl ?_
  exact clear_l kk 7 0 _ (by omega) ⟨rfl, rfl, rfl, rfl, ⟨sd, h11⟩, fun l hl => absurd hl (Nat.not_lt_zero _), fun l hl => absurd hl (Nat.not_lt_zero _)⟩
