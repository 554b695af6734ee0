def chV (c : Nat → Nat) (t : Nat → Nat) : Nat → Value := fun k => match k with
  | 0 => .int (nI (t 0))
  | 1 => .int (nI (t 1))
  | 2 => .int (nI (t 2))
  | k => .ref (c k)
/-- the road between two lands, and 1 -/
def betw (t : Nat → Nat) (j : Nat) : Nat := match roadF t (j / 7) (j % 7) with
  | none => 0
  | some r => r + 1
/-- a chart that may be read, and tells what t tells; NM: its names -/
def CHR (G : xG) (ws : va_W) (c : Nat → Nat) (t : Nat → Nat) (NM : Nat → Int64) : Prop :=
  OV G ws 2 (c 13) (chV c t) ∧ JV G ws (c 3) 7 (t 0) NM ∧ IV G ws 1 (c 4) 7 (t 0) (fun j => nI (t (3 + j))) ∧ IV G ws 1 (c 5) 7 (t 0) (fun j => nI (t (10 + j))) ∧ IV G ws 1 (c 6) 12 (t 1) (fun j => nI (t (24 + j))) ∧ IV G ws 1 (c 7) 12 (t 1) (fun j => nI (t (36 + j))) ∧ IV G ws 1 (c 8) 12 (t 1) (fun j => nI (t (48 + j))) ∧ IV G ws 1 (c 9) 12 (t 1) (fun j => nI (t (60 + j))) ∧ IV G ws 1 (c 10) 49 49 (fun j => nI (betw t j)) ∧ JV G ws (c 11) 6 (t 2) (fun j => NM (7 + j)) ∧ IV G ws 1 (c 12) 6 (t 2) (fun j => nI (t (79 + j)))
def stV (b c : Nat → Nat) (sn : Option Nat) (t : Nat → Nat) (sd : Int32) : Nat → Value := fun k => match k with
  | 0 => .ref (c 13)
  | 1 => va_rf sn
  | 4 => .int (nI (t 93))
  | 5 => .int (nI (t 91))
  | 11 => .int sd
  | k => .ref (b k)
/-- a state that may be read, and is as t tells -/
def STR (G : xG) (ws : va_W) (b c : Nat → Nat) (sn : Option Nat) (t : Nat → Nat) : Prop := ∃ sd : Int32,
  OV G ws 6 (b 12) (stV b c sn t sd) ∧ IV G ws 1 (b 2) 7 (t 0) (fun j => nI (t (94 + j))) ∧ IV G ws 1 (b 3) 7 (t 0) (fun j => nI (t (101 + j))) ∧ IV G ws 1 (b 6) 6 (t 2) (fun j => nI (t (108 + j))) ∧ IV G ws 1 (b 7) 6 (t 2) (fun j => nI (t (114 + j))) ∧ IV G ws 1 (b 8) 6 (t 2) (fun j => nI (t (120 + j))) ∧ IV G ws 1 (b 9) 6 (t 2) (fun j => nI (t (126 + j))) ∧ IV G ws 1 (b 10) 6 (t 2) (fun j => nI (t (132 + j)))
section CHS
variable {G : xG} {ws R R' : va_W} {c b : Nat → Nat} {t : Nat → Nat} {NM : Nat → Int64} {sn : Option Nat}
theorem CHR.ov (h : CHR G ws c t NM) : OV G ws 2 (c 13) (chV c t) := h.1
theorem CHR.landName (h : CHR G ws c t NM) : JV G ws (c 3) 7 (t 0) NM := h.2.1
theorem CHR.take (h : CHR G ws c t NM) : IV G ws 1 (c 4) 7 (t 0) (fun j => nI (t (3 + j))) := h.2.2.1
theorem CHR.give (h : CHR G ws c t NM) : IV G ws 1 (c 5) 7 (t 0) (fun j => nI (t (10 + j))) := h.2.2.2.1
theorem CHR.first (h : CHR G ws c t NM) : IV G ws 1 (c 6) 12 (t 1) (fun j => nI (t (24 + j))) := h.2.2.2.2.1
theorem CHR.second (h : CHR G ws c t NM) : IV G ws 1 (c 7) 12 (t 1) (fun j => nI (t (36 + j))) := h.2.2.2.2.2.1
theorem CHR.low (h : CHR G ws c t NM) : IV G ws 1 (c 8) 12 (t 1) (fun j => nI (t (48 + j))) := h.2.2.2.2.2.2.1
theorem CHR.high (h : CHR G ws c t NM) : IV G ws 1 (c 9) 12 (t 1) (fun j => nI (t (60 + j))) := h.2.2.2.2.2.2.2.1
theorem CHR.between (h : CHR G ws c t NM) : IV G ws 1 (c 10) 49 49 (fun j => nI (betw t j)) := h.2.2.2.2.2.2.2.2.1
theorem CHR.personName (h : CHR G ws c t NM) : JV G ws (c 11) 6 (t 2) (fun j => NM (7 + j)) := h.2.2.2.2.2.2.2.2.2.1
theorem CHR.home (h : CHR G ws c t NM) : IV G ws 1 (c 12) 6 (t 2) (fun j => nI (t (79 + j))) := h.2.2.2.2.2.2.2.2.2.2
theorem CHR.sub (hs : ∀ x ∈ R, x ∈ R') (h : CHR G R c t NM) : CHR G R' c t NM := ⟨h.ov.sub hs, h.landName.sub hs, h.take.sub hs, h.give.sub hs, h.first.sub hs, h.second.sub hs, h.low.sub hs, h.high.sub hs, h.between.sub hs, h.personName.sub hs, h.home.sub hs⟩
theorem STR.sub (hs : ∀ x ∈ R, x ∈ R') (h : STR G R b c sn t) : STR G R' b c sn t := by
  obtain ⟨sd, h0, h1, h2, h3, h4, h5, h6, h7⟩ := h
  exact ⟨sd, h0.sub hs, h1.sub hs, h2.sub hs, h3.sub hs, h4.sub hs, h5.sub hs, h6.sub hs, h7.sub hs⟩
theorem mem_app {X R : va_W} : ∀ x ∈ R, x ∈ X ++ R := fun _ h => List.mem_append_right _ h
end CHS
theorem betw_at {t : Nat → Nat} {x y : Nat} (hy : y < 7) : betw t (x * 7 + y) = match roadF t x y with
  | none => 0
  | some r => r + 1 := by
  unfold betw
  rw [show (x * 7 + y) / 7 = x by omega, show (x * 7 + y) % 7 = y by omega]
def chWhy (t : Nat → Nat) (x y m tl cl : Nat) : Nat := match roadF t x y with
  | none => 1
  | some r => if cl.testBit r = true then 2 else if m < t (48 + r) then 3 else if t (60 + r) < m then 4 else if m ≤ tl then 5 else 0
def tollF (t : Nat → Nat) (l hm sp : Nat) : Nat := if l = hm then 0 else if sp.testBit l = true then 0 else t (3 + l)
def giftF (t : Nat → Nat) (l hm st m : Nat) : Nat := if l = hm then givenF t l m st else 0
theorem chWhy_le (t : Nat → Nat) (x y m tl cl : Nat) : chWhy t x y m tl cl ≤ 5 := by
  unfold chWhy
  cases roadF t x y with
  | none => show 1 ≤ 5; decide
  | some r =>
    show (if _ then _ else _) ≤ 5
    repeat' split
    all_goals omega
theorem tb_or (sp hm l : Nat) : (sp ||| 2 ^ hm).testBit l = (sp.testBit l || decide (l = hm)) := by
  rw [Nat.testBit_or, Nat.testBit_two_pow]
  by_cases h : hm = l
  · simp [h]
  · simp [h]; intro e; exact absurd e.symm h
theorem whyBy_ch {t : Nat → Nat} {x y m sp hm : Nat} (h1 : 1 ≤ m) : whyBy t x y m (sp ||| 2 ^ hm) = chWhy t x y m (tollF t y hm sp) (t 93) := by
  unfold whyBy chWhy tollF
  cases roadF t x y with
  | none => rfl
  | some r =>
    show (if _ then _ else _) = (if _ then _ else _)
    rw [tb_or]
    by_cases e1 : (t 93).testBit r = true
    · simp [e1]
    · rw [if_neg e1, if_neg e1]
      by_cases e2 : m < t (48 + r)
      · simp [e2]
      · rw [if_neg e2, if_neg e2]
        by_cases e3 : t (60 + r) < m
        · simp [e3]
        · rw [if_neg e3, if_neg e3]
          by_cases e4 : y = hm
          · simp [e4]; omega
          · by_cases e5 : sp.testBit y = true
            · simp [e4, e5]; omega
            · simp [e4, e5]
set_option maxHeartbeats 1000000 in
set_option maxRecDepth 20000 in
theorem landNamed_loop {G : xG} {d : Nat} {Q : xQ} {ws : va_W} {c : Nat → Nat} {t : Nat → Nat} {NM : Nat → Int64} {v : Int64} (hC : CHR G ws c t NM) (hl : t 0 ≤ 7) (k0 : findF (fun k => decide (NM k = v)) (t 0) 0 = none → Q (some (.int (-1))) ws) (k1 : ∀ r, findF (fun k => decide (NM k = v)) (t 0) 0 = some r → r < t 0 → Q (some (.int (nI r))) ws) : ∀ (z i : Nat), i + z = t 0 → findF (fun k => decide (NM k = v)) (t 0) 0 = findF (fun k => decide (NM k = v)) z i → AW G MX3_landNamed d 0 0 Q 2 [some (.ref (c 13)), some (.long v), none, some (.int (nI i))] [] ws 0 0 := by
  intro z
  induction z with
  | zero =>
    intro i hi hf
    refine aw_iload_n (pc := 2) (i := 3) dX3_landNamed_2 rfl rfl ?_
    refine aw_aload_n (pc := 3) (i := 0) dX3_landNamed_3 rfl rfl ?_
    refine av_get (pc := 4) (x := .int (nI (t 0))) dX3_landNamed_4 rfl og_X3_9 rfl hC.ov rfl ?_
    refine an_icmp_ge (pc := 7) (tgt := 29) dX3_landNamed_7 rfl (by omega) (by omega) (fun h7 => ?_) (fun h7 => ?_)
    · -- 29
      refine aw_iconst (pc := 29) dX3_landNamed_29 iconst_m1 ?_
      exact aw_iret (pc := 30) dX3_landNamed_30 rfl (Nat.le_refl _) (Nat.le_refl _) (k0 hf)
    · -- 10
      exfalso; omega
  | succ z ih =>
    intro i hi hf
    rw [findF] at hf
    refine aw_iload_n (pc := 2) (i := 3) dX3_landNamed_2 rfl rfl ?_
    refine aw_aload_n (pc := 3) (i := 0) dX3_landNamed_3 rfl rfl ?_
    refine av_get (pc := 4) (x := .int (nI (t 0))) dX3_landNamed_4 rfl og_X3_9 rfl hC.ov rfl ?_
    refine an_icmp_ge (pc := 7) (tgt := 29) dX3_landNamed_7 rfl (by omega) (by omega) (fun h7 => ?_) (fun h7 => ?_)
    · -- 29
      exfalso; omega
    · -- 10
      refine aw_aload_n (pc := 10) (i := 0) dX3_landNamed_10 rfl rfl ?_
      refine av_get (pc := 11) (x := .ref (c 3)) dX3_landNamed_11 rfl og_X3_21 rfl hC.ov rfl ?_
      refine aw_iload_n (pc := 14) (i := 3) dX3_landNamed_14 rfl rfl ?_
      refine av_lald (pc := 15) (x := NM i) dX3_landNamed_15 hC.landName (by omega) (by decide) rfl ?_
      refine aw_lload_n (pc := 16) (i := 1) dX3_landNamed_16 rfl rfl ?_
      refine aw_lcmp (pc := 17) dX3_landNamed_17 ?_
      refine aj_if_ne (pc := 18) (tgt := 23) dX3_landNamed_18 rfl (fun h18 => ?_) (fun h18 => ?_)
      · -- 23
        refine an_inc (pc := 23) (z := 1) dX3_landNamed_23 rfl (Nat.le_of_ble_eq_true rfl) trivial ?_
        refine aw_goto (pc := 26) (tgt := 2) dX3_landNamed_26 rfl ?_
        exact ih (i + 1) (by omega) (by rw [hf, if_neg (by simpa using h18)])
      · -- 21
        refine aw_iload_n (pc := 21) (i := 3) dX3_landNamed_21 rfl rfl ?_
        exact aw_iret (pc := 22) dX3_landNamed_22 rfl (Nat.le_refl _) (Nat.le_refl _) (k1 i (by rw [hf, if_pos (by simpa using h18)]) (by omega))
set_option maxHeartbeats 1000000 in
set_option maxRecDepth 20000 in
theorem c3_landNamed {G : xG} {d : Nat} {Q : xQ} {ws : va_W} {c : Nat → Nat} {t : Nat → Nat} {NM : Nat → Int64} {v : Int64} (hC : CHR G ws c t NM) (hl : t 0 ≤ 7) (k0 : findF (fun k => decide (NM k = v)) (t 0) 0 = none → Q (some (.int (-1))) ws) (k1 : ∀ r, findF (fun k => decide (NM k = v)) (t 0) 0 = some r → r < t 0 → Q (some (.int (nI r))) ws) : MT G MX3_landNamed (d) 0 0 [.ref (c 13), .long v] ws Q := by
  refine mt_start (L := [some (.ref (c 13)), some (.long v), none, none]) rfl (Nat.le_of_ble_eq_true rfl) rfl ?_
  refine aw_iconst (pc := 0) dX3_landNamed_0 iconst_0 ?_
  refine aw_istore_n (pc := 1) (i := 3) dX3_landNamed_1 rfl (Nat.le_of_ble_eq_true rfl) trivial ?_
  exact landNamed_loop hC hl k0 k1 (t 0) 0 (by omega) rfl
set_option maxHeartbeats 1000000 in
set_option maxRecDepth 20000 in
theorem personNamed_loop {G : xG} {d : Nat} {Q : xQ} {ws : va_W} {c : Nat → Nat} {t : Nat → Nat} {NM : Nat → Int64} {v : Int64} (hC : CHR G ws c t NM) (hl : t 2 ≤ 6) (k0 : findF (fun k => decide (NM (7 + k) = v)) (t 2) 0 = none → Q (some (.int (-1))) ws) (k1 : ∀ r, findF (fun k => decide (NM (7 + k) = v)) (t 2) 0 = some r → r < t 2 → Q (some (.int (nI r))) ws) : ∀ (z i : Nat), i + z = t 2 → findF (fun k => decide (NM (7 + k) = v)) (t 2) 0 = findF (fun k => decide (NM (7 + k) = v)) z i → AW G MX3_personNamed d 0 0 Q 2 [some (.ref (c 13)), some (.long v), none, some (.int (nI i))] [] ws 0 0 := by
  intro z
  induction z with
  | zero =>
    intro i hi hf
    refine aw_iload_n (pc := 2) (i := 3) dX3_personNamed_2 rfl rfl ?_
    refine aw_aload_n (pc := 3) (i := 0) dX3_personNamed_3 rfl rfl ?_
    refine av_get (pc := 4) (x := .int (nI (t 2))) dX3_personNamed_4 rfl og_X3_18 rfl hC.ov rfl ?_
    refine an_icmp_ge (pc := 7) (tgt := 29) dX3_personNamed_7 rfl (by omega) (by omega) (fun h7 => ?_) (fun h7 => ?_)
    · -- 29
      refine aw_iconst (pc := 29) dX3_personNamed_29 iconst_m1 ?_
      exact aw_iret (pc := 30) dX3_personNamed_30 rfl (Nat.le_refl _) (Nat.le_refl _) (k0 hf)
    · -- 10
      exfalso; omega
  | succ z ih =>
    intro i hi hf
    rw [findF] at hf
    refine aw_iload_n (pc := 2) (i := 3) dX3_personNamed_2 rfl rfl ?_
    refine aw_aload_n (pc := 3) (i := 0) dX3_personNamed_3 rfl rfl ?_
    refine av_get (pc := 4) (x := .int (nI (t 2))) dX3_personNamed_4 rfl og_X3_18 rfl hC.ov rfl ?_
    refine an_icmp_ge (pc := 7) (tgt := 29) dX3_personNamed_7 rfl (by omega) (by omega) (fun h7 => ?_) (fun h7 => ?_)
    · -- 29
      exfalso; omega
    · -- 10
      refine aw_aload_n (pc := 10) (i := 0) dX3_personNamed_10 rfl rfl ?_
      refine av_get (pc := 11) (x := .ref (c 11)) dX3_personNamed_11 rfl og_X3_47 rfl hC.ov rfl ?_
      refine aw_iload_n (pc := 14) (i := 3) dX3_personNamed_14 rfl rfl ?_
      refine av_lald (pc := 15) (x := NM (7 + i)) dX3_personNamed_15 hC.personName (by omega) (by decide) rfl ?_
      refine aw_lload_n (pc := 16) (i := 1) dX3_personNamed_16 rfl rfl ?_
      refine aw_lcmp (pc := 17) dX3_personNamed_17 ?_
      refine aj_if_ne (pc := 18) (tgt := 23) dX3_personNamed_18 rfl (fun h18 => ?_) (fun h18 => ?_)
      · -- 23
        refine an_inc (pc := 23) (z := 1) dX3_personNamed_23 rfl (Nat.le_of_ble_eq_true rfl) trivial ?_
        refine aw_goto (pc := 26) (tgt := 2) dX3_personNamed_26 rfl ?_
        exact ih (i + 1) (by omega) (by rw [hf, if_neg (by simpa using h18)])
      · -- 21
        refine aw_iload_n (pc := 21) (i := 3) dX3_personNamed_21 rfl rfl ?_
        exact aw_iret (pc := 22) dX3_personNamed_22 rfl (Nat.le_refl _) (Nat.le_refl _) (k1 i (by rw [hf, if_pos (by simpa using h18)]) (by omega))
set_option maxHeartbeats 1000000 in
set_option maxRecDepth 20000 in
theorem c3_personNamed {G : xG} {d : Nat} {Q : xQ} {ws : va_W} {c : Nat → Nat} {t : Nat → Nat} {NM : Nat → Int64} {v : Int64} (hC : CHR G ws c t NM) (hl : t 2 ≤ 6) (k0 : findF (fun k => decide (NM (7 + k) = v)) (t 2) 0 = none → Q (some (.int (-1))) ws) (k1 : ∀ r, findF (fun k => decide (NM (7 + k) = v)) (t 2) 0 = some r → r < t 2 → Q (some (.int (nI r))) ws) : MT G MX3_personNamed (d) 0 0 [.ref (c 13), .long v] ws Q := by
  refine mt_start (L := [some (.ref (c 13)), some (.long v), none, none]) rfl (Nat.le_of_ble_eq_true rfl) rfl ?_
  refine aw_iconst (pc := 0) dX3_personNamed_0 iconst_0 ?_
  refine aw_istore_n (pc := 1) (i := 3) dX3_personNamed_1 rfl (Nat.le_of_ble_eq_true rfl) trivial ?_
  exact personNamed_loop hC hl k0 k1 (t 2) 0 (by omega) rfl
set_option maxHeartbeats 1000000 in
set_option maxRecDepth 20000 in
theorem c3_roadBetween {G : xG} {d : Nat} {Q : xQ} {ws : va_W} {c : Nat → Nat} {t : Nat → Nat} {NM : Nat → Int64} {x y : Nat} (hC : CHR G ws c t NM) (hx : x < 7) (hy : y < 7) (k0 : roadF t x y = none → Q (some (.int (-1))) ws) (k1 : ∀ r, roadF t x y = some r → r < t 1 → Q (some (.int (nI r))) ws) : MT G MX3_roadBetween (d) 0 0 [.ref (c 13), .int (nI x), .int (nI y)] ws Q := by
  refine mt_start (L := [some (.ref (c 13)), some (.int (nI x)), some (.int (nI y))]) rfl (Nat.le_of_ble_eq_true rfl) rfl ?_
  refine aw_aload_n (pc := 0) (i := 0) dX3_roadBetween_0 rfl rfl ?_
  refine av_get (pc := 1) (x := .ref (c 10)) dX3_roadBetween_1 rfl og_X3_44 rfl hC.ov rfl ?_
  refine aw_iload_n (pc := 4) (i := 1) dX3_roadBetween_4 rfl rfl ?_
  refine aw_bipush (pc := 5) dX3_roadBetween_5 bipush_7 ?_
  refine an_mul (pc := 7) dX3_roadBetween_7 ?_
  refine aw_iload_n (pc := 8) (i := 2) dX3_roadBetween_8 rfl rfl ?_
  refine an_add (pc := 9) dX3_roadBetween_9 ?_
  refine av_iald (pc := 10) (x := (nI (betw t ((x * 7) + y)))) dX3_roadBetween_10 hC.between (by omega) (by decide) rfl ?_
  refine aw_iconst (pc := 11) dX3_roadBetween_11 iconst_1 ?_
  refine aw_isub (pc := 12) dX3_roadBetween_12 ?_
  refine aw_iret (pc := 13) dX3_roadBetween_13 rfl (Nat.le_refl _) (Nat.le_refl _) ?_
  cases hr : roadF t x y with
  | none =>
    have e : nI (betw t (x * 7 + y)) - nI 1 = -1 := by rw [betw_at hy, hr]; decide
    rw [e]; exact k0 hr
  | some r =>
    have e : nI (betw t (x * 7 + y)) - nI 1 = nI r := by rw [betw_at hy, hr]; exact pk_sub (Nat.le_add_left 1 r)
    have hl := (findF_lt _ _ _ hr).2.1
    rw [e]; exact k1 r hr (by omega)
-- toll, gift
set_option maxHeartbeats 1000000 in
set_option maxRecDepth 20000 in
theorem c3_toll {G : xG} {d : Nat} {Q : xQ} {ws : va_W} {c : Nat → Nat} {t : Nat → Nat} {NM : Nat → Int64} {l hm sp : Nat} (hN : NB G) (hC : CHR G ws c t NM) (hl : l < t 0) (h0 : t 0 ≤ 7) (hh : hm < 7) (hs : sp < 2 ^ 31) (kk : Q (some (.int (nI (tollF t l hm sp)))) ws) : MT G MX3_toll (d + 1) 0 0 [.ref (c 13), .int (nI l), .int (nI hm), .int (nI sp)] ws Q := by
  refine mt_start (L := [some (.ref (c 13)), some (.int (nI l)), some (.int (nI hm)), some (.int (nI sp))]) rfl (Nat.le_of_ble_eq_true rfl) rfl ?_
  refine aw_iload_n (pc := 0) (i := 1) dX3_toll_0 rfl rfl ?_
  refine aw_iload_n (pc := 1) (i := 2) dX3_toll_1 rfl rfl ?_
  refine an_icmp_eq (pc := 2) (tgt := 13) dX3_toll_2 rfl (by omega) (by omega) (fun h2 => ?_) (fun h2 => ?_)
  · -- 13
    refine aw_iconst (pc := 13) dX3_toll_13 iconst_0 ?_
    refine aw_goto (pc := 14) (tgt := 23) dX3_toll_14 rfl ?_
    exact aw_iret (pc := 23) dX3_toll_23 rfl (Nat.le_refl _) (Nat.le_refl _) (by unfold tollF at kk; rw [if_pos h2] at kk; exact kk)
  · -- 5
    refine aw_iload_n (pc := 5) (i := 3) dX3_toll_5 rfl rfl ?_
    refine aw_iload_n (pc := 6) (i := 1) dX3_toll_6 rfl rfl ?_
    refine cNi (pc := 7) (As := [.int (nI sp), .int (nI l)]) (rest := []) dX3_toll_7 rfl oc_X3_53 (hN.x3) rfl rfl (Nat.le_of_ble_eq_true rfl) (Nat.le_refl _) (Nat.le_refl _) (c_hasBit hs (by omega) ⟨_, rfl, ?_⟩)
    refine ab_if_eq (pc := 10) (tgt := 17) dX3_toll_10 rfl (fun h10 => ?_) (fun h10 => ?_)
    · -- 17
      refine aw_aload_n (pc := 17) (i := 0) dX3_toll_17 rfl rfl ?_
      refine av_get (pc := 18) (x := .ref (c 4)) dX3_toll_18 rfl og_X3_25 rfl hC.ov rfl ?_
      refine aw_iload_n (pc := 21) (i := 1) dX3_toll_21 rfl rfl ?_
      refine av_iald (pc := 22) (x := (nI (t (3 + l)))) dX3_toll_22 hC.take (by omega) (by decide) rfl ?_
      exact aw_iret (pc := 23) dX3_toll_23 rfl (Nat.le_refl _) (Nat.le_refl _) (by unfold tollF at kk; rw [if_neg h2, if_neg (by rw [h10]; decide)] at kk; exact kk)
    · -- 13
      refine aw_iconst (pc := 13) dX3_toll_13 iconst_0 ?_
      refine aw_goto (pc := 14) (tgt := 23) dX3_toll_14 rfl ?_
      exact aw_iret (pc := 23) dX3_toll_23 rfl (Nat.le_refl _) (Nat.le_refl _) (by unfold tollF at kk; rw [if_neg h2, if_pos h10] at kk; exact kk)
set_option maxHeartbeats 1000000 in
set_option maxRecDepth 20000 in
theorem c3_gift {G : xG} {d : Nat} {Q : xQ} {ws : va_W} {c : Nat → Nat} {t : Nat → Nat} {NM : Nat → Int64} {l hm st m : Nat} (hC : CHR G ws c t NM) (hb : ∀ j, t j < 2 ^ 30) (hl : l < t 0) (h0 : t 0 ≤ 7) (hh : hm < 7) (hs : st < 2 ^ 31) (hm2 : m ≤ 240) (kk : Q (some (.int (nI (giftF t l hm st m)))) ws) : MT G MX3_gift (d + 1) 0 0 [.ref (c 13), .int (nI l), .int (nI hm), .int (nI st), .int (nI m)] ws Q := by
  refine mt_start (L := [some (.ref (c 13)), some (.int (nI l)), some (.int (nI hm)), some (.int (nI st)), some (.int (nI m))]) rfl (Nat.le_of_ble_eq_true rfl) rfl ?_
  refine aw_iload_n (pc := 0) (i := 1) dX3_gift_0 rfl rfl ?_
  refine aw_iload_n (pc := 1) (i := 2) dX3_gift_1 rfl rfl ?_
  refine an_icmp_ne (pc := 2) (tgt := 27) dX3_gift_2 rfl (by omega) (by omega) (fun h2 => ?_) (fun h2 => ?_)
  · -- 27
    refine aw_iconst (pc := 27) dX3_gift_27 iconst_0 ?_
    exact aw_iret (pc := 28) dX3_gift_28 rfl (Nat.le_refl _) (Nat.le_refl _) (by unfold giftF at kk; rw [if_neg h2] at kk; exact kk)
  · -- 5
    refine aw_aload_n (pc := 5) (i := 0) dX3_gift_5 rfl rfl ?_
    refine av_get (pc := 6) (x := .ref (c 5)) dX3_gift_6 rfl og_X3_29 rfl hC.ov rfl ?_
    refine aw_iload_n (pc := 9) (i := 1) dX3_gift_9 rfl rfl ?_
    refine av_iald (pc := 10) (x := (nI (t (10 + l)))) dX3_gift_10 hC.give (by omega) (by decide) rfl ?_
    refine aw_iload_n (pc := 11) (i := 3) dX3_gift_11 rfl rfl ?_
    refine aw_min (pc := 12) dX3_gift_12 rfl mk_X3_57 (Nat.le_of_ble_eq_true rfl) (Nat.le_refl _) (Nat.le_refl _) ?_
    refine aw_top (y := nI (min (t (10 + l)) st)) (min_nI (Nat.lt_trans (hb _) (by decide)) (by omega)) ?_
    refine aw_sipush (pc := 15) dX3_gift_15 sipush_240 ?_
    refine aw_iload (pc := 18) dX3_gift_18 rfl ?_
    refine an_sub (pc := 20) dX3_gift_20 hm2 ?_
    refine aw_min (pc := 21) dX3_gift_21 rfl mk_X3_57 (Nat.le_of_ble_eq_true rfl) (Nat.le_refl _) (Nat.le_refl _) ?_
    refine aw_top (y := nI (min (min (t (10 + l)) st) (240 - m))) (min_nI (by have := hb (10 + l); omega) (by omega)) ?_
    refine aw_goto (pc := 24) (tgt := 28) dX3_gift_24 rfl ?_
    exact aw_iret (pc := 28) dX3_gift_28 rfl (Nat.le_refl _) (Nat.le_refl _) (by unfold giftF at kk; rw [if_pos h2, givenF, ← Nat.min_assoc] at kk; exact kk)
set_option maxHeartbeats 1000000 in
set_option maxRecDepth 20000 in
theorem c3_whyNotOver {G : xG} {d : Nat} {Q : xQ} {ws : va_W} {c : Nat → Nat} {t : Nat → Nat} {NM : Nat → Int64} {x y m tl cl : Nat} (hN : NB G) (hC : CHR G ws c t NM) (hb : ∀ j, t j < 2 ^ 30) (h1 : t 1 ≤ 12) (hx : x < 7) (hy : y < 7) (hm : m < 2 ^ 31) (htl : tl < 2 ^ 31) (hcl : cl < 2 ^ 31) (kk : Q (some (.int (nI (chWhy t x y m tl cl)))) ws) : MT G MX3_whyNotOver (d + 1) 0 0 [.ref (c 13), .int (nI x), .int (nI y), .int (nI m), .int (nI tl), .int (nI cl)] ws Q := by
  refine mt_start (L := [some (.ref (c 13)), some (.int (nI x)), some (.int (nI y)), some (.int (nI m)), some (.int (nI tl)), some (.int (nI cl)), none]) rfl (Nat.le_of_ble_eq_true rfl) rfl ?_
  refine aw_aload_n (pc := 0) (i := 0) dX3_whyNotOver_0 rfl rfl ?_
  refine aw_iload_n (pc := 1) (i := 1) dX3_whyNotOver_1 rfl rfl ?_
  refine aw_iload_n (pc := 2) (i := 2) dX3_whyNotOver_2 rfl rfl ?_
  refine cVi (pc := 3) (As := [.int (nI x), .int (nI y)]) (rest := []) dX3_whyNotOver_3 rfl oc_X3_63 rfl rfl (Nat.le_of_ble_eq_true rfl) rfl rfl hC.ov (Nat.le_refl _) (Nat.le_refl _) (c3_roadBetween hC hx hy ?_ ?_)
  · -- call
    intro hr
    refine ⟨_, rfl, ?_⟩
    refine aw_istore (pc := 6) (i := 6) dX3_whyNotOver_6 (Nat.le_of_ble_eq_true rfl) rfl ?_
    refine aw_iload (pc := 8) dX3_whyNotOver_8 rfl ?_
    refine an_ifm_ge (pc := 10) (tgt := 15) dX3_whyNotOver_10 rfl ?_
    refine aw_iconst (pc := 13) dX3_whyNotOver_13 iconst_1 ?_
    exact aw_iret (pc := 14) dX3_whyNotOver_14 rfl (Nat.le_refl _) (Nat.le_refl _) (by rw [chWhy, hr] at kk; exact kk)
  · -- call
    intro r hr hr1
    refine ⟨_, rfl, ?_⟩
    refine aw_istore (pc := 6) (i := 6) dX3_whyNotOver_6 (Nat.le_of_ble_eq_true rfl) rfl ?_
    refine aw_iload (pc := 8) dX3_whyNotOver_8 rfl ?_
    refine an_if_ge (pc := 10) (tgt := 15) dX3_whyNotOver_10 rfl (by omega) ?_
    refine aw_iload (pc := 15) dX3_whyNotOver_15 rfl ?_
    refine aw_iload (pc := 17) dX3_whyNotOver_17 rfl ?_
    refine cNi (pc := 19) (As := [.int (nI cl), .int (nI r)]) (rest := []) dX3_whyNotOver_19 rfl oc_X3_53 (hN.x3) rfl rfl (Nat.le_of_ble_eq_true rfl) (Nat.le_refl _) (Nat.le_refl _) (c_hasBit hcl (by omega) ⟨_, rfl, ?_⟩)
    refine ab_if_eq (pc := 22) (tgt := 27) dX3_whyNotOver_22 rfl (fun h22 => ?_) (fun h22 => ?_)
    · -- 27
      refine aw_iload_n (pc := 27) (i := 3) dX3_whyNotOver_27 rfl rfl ?_
      refine aw_aload_n (pc := 28) (i := 0) dX3_whyNotOver_28 rfl rfl ?_
      refine av_get (pc := 29) (x := .ref (c 8)) dX3_whyNotOver_29 rfl og_X3_38 rfl hC.ov rfl ?_
      refine aw_iload (pc := 32) dX3_whyNotOver_32 rfl ?_
      refine av_iald (pc := 34) (x := (nI (t (48 + r)))) dX3_whyNotOver_34 hC.low (by omega) (by decide) rfl ?_
      refine an_icmp_ge (pc := 35) (tgt := 40) dX3_whyNotOver_35 rfl (by omega) (Nat.lt_trans (hb _) (by decide)) (fun h35 => ?_) (fun h35 => ?_)
      · -- 40
        refine aw_iload_n (pc := 40) (i := 3) dX3_whyNotOver_40 rfl rfl ?_
        refine aw_aload_n (pc := 41) (i := 0) dX3_whyNotOver_41 rfl rfl ?_
        refine av_get (pc := 42) (x := .ref (c 9)) dX3_whyNotOver_42 rfl og_X3_41 rfl hC.ov rfl ?_
        refine aw_iload (pc := 45) dX3_whyNotOver_45 rfl ?_
        refine av_iald (pc := 47) (x := (nI (t (60 + r)))) dX3_whyNotOver_47 hC.high (by omega) (by decide) rfl ?_
        refine an_icmp_le (pc := 48) (tgt := 53) dX3_whyNotOver_48 rfl (by omega) (Nat.lt_trans (hb _) (by decide)) (fun h48 => ?_) (fun h48 => ?_)
        · -- 53
          refine aw_iload (pc := 53) dX3_whyNotOver_53 rfl ?_
          refine aw_iload_n (pc := 55) (i := 3) dX3_whyNotOver_55 rfl rfl ?_
          refine an_icmp_lt (pc := 56) (tgt := 63) dX3_whyNotOver_56 rfl (by omega) (by omega) (fun h56 => ?_) (fun h56 => ?_)
          · -- 63
            refine aw_iconst (pc := 63) dX3_whyNotOver_63 iconst_0 ?_
            exact aw_iret (pc := 64) dX3_whyNotOver_64 rfl (Nat.le_refl _) (Nat.le_refl _) (by rw [chWhy, hr] at kk; simp only [] at kk; rw [if_neg (by rw [h22]; decide), if_neg (Nat.not_lt.mpr h35), if_neg (Nat.not_lt.mpr h48), if_neg (Nat.not_le.mpr h56)] at kk; exact kk)
          · -- 59
            refine aw_iconst (pc := 59) dX3_whyNotOver_59 iconst_5 ?_
            refine aw_goto (pc := 60) (tgt := 64) dX3_whyNotOver_60 rfl ?_
            exact aw_iret (pc := 64) dX3_whyNotOver_64 rfl (Nat.le_refl _) (Nat.le_refl _) (by rw [chWhy, hr] at kk; simp only [] at kk; rw [if_neg (by rw [h22]; decide), if_neg (Nat.not_lt.mpr h35), if_neg (Nat.not_lt.mpr h48), if_pos h56] at kk; exact kk)
        · -- 51
          refine aw_iconst (pc := 51) dX3_whyNotOver_51 iconst_4 ?_
          exact aw_iret (pc := 52) dX3_whyNotOver_52 rfl (Nat.le_refl _) (Nat.le_refl _) (by rw [chWhy, hr] at kk; simp only [] at kk; rw [if_neg (by rw [h22]; decide), if_neg (Nat.not_lt.mpr h35), if_pos h48] at kk; exact kk)
      · -- 38
        refine aw_iconst (pc := 38) dX3_whyNotOver_38 iconst_3 ?_
        exact aw_iret (pc := 39) dX3_whyNotOver_39 rfl (Nat.le_refl _) (Nat.le_refl _) (by rw [chWhy, hr] at kk; simp only [] at kk; rw [if_neg (by rw [h22]; decide), if_pos h35] at kk; exact kk)
    · -- 25
      refine aw_iconst (pc := 25) dX3_whyNotOver_25 iconst_2 ?_
      exact aw_iret (pc := 26) dX3_whyNotOver_26 rfl (Nat.le_refl _) (Nat.le_refl _) (by rw [chWhy, hr] at kk; simp only [] at kk; rw [if_pos h22] at kk; exact kk)
