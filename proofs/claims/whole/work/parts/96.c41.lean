/-- what a walk goes by -/
def WKc (c e : Nat → Nat) (t : Nat → Nat) (hm sp g tg nd : Nat) (κ : kS) : Prop := κ.1 0 = .ref (c 13) ∧ κ.1 1 = .int (nI hm) ∧ κ.1 2 = .int (nI sp) ∧ κ.1 3 = .int (nI (t 93)) ∧ κ.1 4 = .int (nI g) ∧ κ.1 5 = .int (nI tg) ∧ κ.1 6 = .int (nI nd) ∧ κ.1 12 = .ref (e 2)
/-- what a walk has found -/
def WKa (A : wA) (κ κr : kS) : Prop := κ.1 7 = .int (dpI A.1) ∧ κ.1 10 = .int (nI A.2.2.1) ∧ κ.1 11 = .int (dpI A.2.2.2.2) ∧ (∀ l, l < 7 → κ.2.1 9 l = nI (A.2.2.2.1 l)) ∧ RwR κr (A.2.1.map nI)
/-- the row that it is on -/
def WKp (pa : List Nat) (κ : kS) : Prop := ∀ i, i < pa.length → κ.2.1 8 i = nI (pa.getD i 0)
def WKb (K : Nat) (A : wA) : Prop := A.1 ≤ K ∧ A.2.1.length ≤ 5 ∧ A.2.2.2.2 ≤ 241
theorem range_pa (pa : List Nat) : (List.range pa.length).map (fun i => nI (pa.getD i 0)) = pa.map nI := by
  apply List.ext_getElem
  · simp
  · intro i h1 h2
    simp at h1
    simp [h1]
theorem WKa.q1 {A : wA} {κ κr : kS} (h : WKa A κ κr) : κr.1 1 = .int (nI A.2.1.length) := by have := h.2.2.2.2.1; rwa [List.length_map] at this
theorem dpI_ge {m v : Nat} (hm : m < 2 ^ 30) (hv : v < 2 ^ 30) : dpI m ≤ nI v ↔ m ≤ v + 1 := by
  cases m with
  | zero =>
    rw [show dpI 0 = -1 by decide]
    refine ⟨fun _ => Nat.zero_le _, fun _ => ?_⟩
    have := nI_pos (n := v) (by omega)
    exact Int32.le_of_lt (Int32.lt_of_lt_of_le (b := 0) (by decide) (Int32.not_lt.mp this))
  | succ m => rw [dpI_s, nI_leI (by omega) (by omega)]; omega
theorem dpI_eq {m v : Nat} (hm : m < 2 ^ 30) (hv : v < 2 ^ 30) : nI v = dpI m ↔ v + 1 = m := by
  constructor
  · intro h
    have a := (dpI_lt hm hv).mp (by rw [h]; exact Int32.le_refl _)
    have b := (dpI_ge hm hv).mp (by rw [h]; exact Int32.le_refl _)
    omega
  · intro h; subst h; rw [dpI_s]
theorem dpI_max2 {m v : Nat} (hm : m < 2 ^ 30) (hv : v < 2 ^ 30) : (if dpI m < nI v then nI v else dpI m) = dpI (max m (v + 1)) := by
  by_cases h : nI v ≤ dpI m
  · rw [if_neg (Int32.not_lt.mpr h), Nat.max_eq_left ((dpI_lt hm hv).mp h)]
  · rw [if_pos (Int32.not_le.mp h), Nat.max_eq_right (by have : ¬ v + 1 ≤ m := fun q => h ((dpI_lt hm hv).mpr q); omega), dpI_s]
theorem note_a {A : wA} {κ κr κr9 : kS} {v : nD} {pa : List Nat} (h : WKa A κ κr) (hr : RwR κr9 ((noteF v pa A).2.1.map nI)) : WKa (noteF v pa A) (kI (kF κ 10 (.int (nI (A.2.2.1 + 1)))) 9 v.1 (nI (A.2.2.2.1 v.1 + 1))) κr9 := by
  refine ⟨h.1, rfl, h.2.2.1, fun l hl => ?_, hr⟩
  show upN κ.2.1 9 (upN (κ.2.1 9) v.1 (nI (A.2.2.2.1 v.1 + 1))) 9 l = nI (upN A.2.2.2.1 v.1 (A.2.2.2.1 v.1 + 1) l)
  rw [upN_s]
  by_cases e : l = v.1
  · subst e; rw [upN_s, upN_s]
  · rw [upN_n _ _ _ _ e, upN_n _ _ _ _ e]; exact h.2.2.2.1 l hl
theorem noteF_b {K : Nat} {A : wA} {v : nD} {pa : List Nat} (h : WKb K A) (hp : pa.length ≤ 5) : WKb K (noteF v pa A) := by
  refine ⟨h.1, ?_, h.2.2⟩
  show (if _ then pa else A.2.1).length ≤ 5
  split
  · exact hp
  · exact h.2.1
theorem lookA_b {K g tg nd : Nat} {A : wA} {v : nD} {pa : List Nat} (h : WKb K A) (hp : pa.length ≤ 5) (hK : pa.length ≤ K) (hv : v.2.1 ≤ 240) : WKb K (lookA g tg nd v pa A) := by
  unfold lookA
  split
  · split
    · exact ⟨hK, (noteF_b (v := v) h hp).2⟩
    · exact h
  · split
    · split
      · exact ⟨h.1, h.2.1, by show max _ _ ≤ 241; have := h.2.2; omega⟩
      · exact h
    · split
      · exact noteF_b h hp
      · exact h
theorem lookA_n {g tg nd : Nat} {A : wA} {v : nD} {pa : List Nat} : (lookA g tg nd v pa A).2.2.1 ≤ A.2.2.1 + 1 := by
  unfold lookA
  split
  · split
    · exact Nat.le_refl _
    · exact Nat.le_succ _
  · split
    · split
      · exact Nat.le_succ _
      · exact Nat.le_succ _
    · split
      · exact Nat.le_refl _
      · exact Nat.le_succ _
set_option maxHeartbeats 1000000 in
set_option maxRecDepth 20000 in
theorem c9_note {G : xG} {d : Nat} {Q : xQ} {a c e : Nat → Nat} {κ κr : kS} {R : va_W} {t : Nat → Nat} {hm sp g tg nd : Nat} {A : wA} {v : nD} {pa : List Nat} (hWc : WKc c e t hm sp g tg nd κ) (hWa : WKa A κ κr) (hWp : WKp pa κ) (hb5 : A.2.1.length ≤ 5) (hp5 : pa.length ≤ 5) (hn : A.2.2.1 < 2 ^ 30) (hv7 : v.1 < 7) (kk : ∀ κ9 κr9, WKc c e t hm sp g tg nd κ9 → WKa (noteF v pa A) κ9 κr9 → WKp pa κ9 → Q none (wWk G.2.2.1 a κ9 ++ (wRw G.2.2.1 e 5 κr9 ++ R))) : MT G MX9_note (d + 2) 0 0 [.ref (a 13), .int (nI v.1), .int (nI pa.length)] (wWk G.2.2.1 a κ ++ (wRw G.2.2.1 e 5 κr ++ R)) Q := by
  refine mt_start (L := [some (.ref (a 13)), some (.int (nI v.1)), some (.int (nI pa.length))]) rfl (Nat.le_of_ble_eq_true rfl) rfl ?_
  refine aw_aload_n (pc := 0) (i := 0) dX9_note_0 rfl rfl ?_
  refine pg_X9_40 (pc := 1) (v := .int (nI A.2.2.1)) dX9_note_1 rfl hWa.2.1 ?_
  refine an_if_eq (pc := 4) (tgt := 18) dX9_note_4 rfl (by omega) (fun h4 => ?_) (fun h4 => ?_)
  · -- 18
    refine aw_aload_n (pc := 18) (i := 0) dX9_note_18 rfl rfl ?_
    refine pg_X9_51 (pc := 19) (v := .ref (e 2)) dX9_note_19 rfl hWc.2.2.2.2.2.2.2 ?_
    refine aw_aload_n (pc := 22) (i := 0) dX9_note_22 rfl rfl ?_
    refine pg_X9_33 (pc := 23) dX9_note_23 rfl ?_
    refine aw_iload_n (pc := 26) (i := 2) dX9_note_26 rfl rfl ?_
    refine aw_swap ?_
    refine cVv (pc := 27) (As := [.ref (a 8), .int (nI pa.length)]) (rest := []) dX9_note_27 rfl oc_X9_118 rfl rfl (Nat.le_of_ble_eq_true rfl) rfl rfl ovX5 (Nat.le_refl _) (Nat.le_refl _) (c5_take (by decide) (by decide) (ivX9_row hp5 hWp) (Nat.le_refl _) hp5 ?_)
    intro κ1 hκ1
    rw [range_pa] at hκ1
    refine ⟨rfl, ?_⟩
    refine aw_aload_n (pc := 30) (i := 0) dX9_note_30 rfl rfl ?_
    refine aw_dup (pc := 31) dX9_note_31 rfl ?_
    refine aw_swap ?_
    refine pg_X9_40 (pc := 32) (v := .int (nI A.2.2.1)) dX9_note_32 rfl hWa.2.1 ?_
    refine aw_iconst (pc := 35) dX9_note_35 iconst_1 ?_
    refine an_add (pc := 36) dX9_note_36 ?_
    refine pp_X9_40 (pc := 37) dX9_note_37 rfl ?_
    refine aw_aload_n (pc := 40) (i := 0) dX9_note_40 rfl rfl ?_
    refine pg_X9_37 (pc := 41) dX9_note_41 rfl ?_
    refine aw_iload_n (pc := 44) (i := 1) dX9_note_44 rfl rfl ?_
    refine aw_dup2 (pc := 45) dX9_note_45 rfl rfl ?_
    refine pl_X9_ends (pc := 46) (x := (nI (A.2.2.2.1 v.1))) dX9_note_46 (by omega) (hWa.2.2.2.1 _ hv7) ?_
    refine aw_iconst (pc := 47) dX9_note_47 iconst_1 ?_
    refine an_add (pc := 48) dX9_note_48 ?_
    refine ps_X9_ends (pc := 49) dX9_note_49 (by omega) ?_
    refine aw_vret (pc := 50) dX9_note_50 rfl (Nat.le_refl _) (Nat.le_refl _) ?_
    refine kk _ _ hWc (note_a hWa ?_) hWp
    rw [show (noteF v pa A).2.1 = pa from if_pos (by omega)]
    exact hκ1
  · -- 7
    refine aw_iload_n (pc := 7) (i := 2) dX9_note_7 rfl rfl ?_
    refine aw_aload_n (pc := 8) (i := 0) dX9_note_8 rfl rfl ?_
    refine pg_X9_51 (pc := 9) (v := .ref (e 2)) dX9_note_9 rfl hWc.2.2.2.2.2.2.2 ?_
    refine aw_swap ?_
    refine pg_X9_116 (pc := 12) (v := .int (nI A.2.1.length)) dX9_note_12 rfl hWa.q1 ?_
    refine an_icmp_ge (pc := 15) (tgt := 30) dX9_note_15 rfl (by omega) (by omega) (fun h15 => ?_) (fun h15 => ?_)
    · -- 30
      refine aw_aload_n (pc := 30) (i := 0) dX9_note_30 rfl rfl ?_
      refine aw_dup (pc := 31) dX9_note_31 rfl ?_
      refine aw_swap ?_
      refine pg_X9_40 (pc := 32) (v := .int (nI A.2.2.1)) dX9_note_32 rfl hWa.2.1 ?_
      refine aw_iconst (pc := 35) dX9_note_35 iconst_1 ?_
      refine an_add (pc := 36) dX9_note_36 ?_
      refine pp_X9_40 (pc := 37) dX9_note_37 rfl ?_
      refine aw_aload_n (pc := 40) (i := 0) dX9_note_40 rfl rfl ?_
      refine pg_X9_37 (pc := 41) dX9_note_41 rfl ?_
      refine aw_iload_n (pc := 44) (i := 1) dX9_note_44 rfl rfl ?_
      refine aw_dup2 (pc := 45) dX9_note_45 rfl rfl ?_
      refine pl_X9_ends (pc := 46) (x := (nI (A.2.2.2.1 v.1))) dX9_note_46 (by omega) (hWa.2.2.2.1 _ hv7) ?_
      refine aw_iconst (pc := 47) dX9_note_47 iconst_1 ?_
      refine an_add (pc := 48) dX9_note_48 ?_
      refine ps_X9_ends (pc := 49) dX9_note_49 (by omega) ?_
      refine aw_vret (pc := 50) dX9_note_50 rfl (Nat.le_refl _) (Nat.le_refl _) ?_
      refine kk _ _ hWc (note_a hWa ?_) hWp
      rw [show (noteF v pa A).2.1 = A.2.1 from if_neg (by omega)]
      exact hWa.2.2.2.2
    · -- 18
      refine aw_aload_n (pc := 18) (i := 0) dX9_note_18 rfl rfl ?_
      refine aw_swap ?_
      refine pg_X9_51 (pc := 19) (v := .ref (e 2)) dX9_note_19 rfl hWc.2.2.2.2.2.2.2 ?_
      refine aw_aload_n (pc := 22) (i := 0) dX9_note_22 rfl rfl ?_
      refine pg_X9_33 (pc := 23) dX9_note_23 rfl ?_
      refine aw_iload_n (pc := 26) (i := 2) dX9_note_26 rfl rfl ?_
      refine aw_swap ?_
      refine cVv (pc := 27) (As := [.ref (a 8), .int (nI pa.length)]) (rest := []) dX9_note_27 rfl oc_X9_118 rfl rfl (Nat.le_of_ble_eq_true rfl) rfl rfl ovX5 (Nat.le_refl _) (Nat.le_refl _) (c5_take (by decide) (by decide) (ivX9_row hp5 hWp) (Nat.le_refl _) hp5 ?_)
      intro κ1 hκ1
      rw [range_pa] at hκ1
      refine ⟨rfl, ?_⟩
      refine aw_aload_n (pc := 30) (i := 0) dX9_note_30 rfl rfl ?_
      refine aw_dup (pc := 31) dX9_note_31 rfl ?_
      refine aw_swap ?_
      refine pg_X9_40 (pc := 32) (v := .int (nI A.2.2.1)) dX9_note_32 rfl hWa.2.1 ?_
      refine aw_iconst (pc := 35) dX9_note_35 iconst_1 ?_
      refine an_add (pc := 36) dX9_note_36 ?_
      refine pp_X9_40 (pc := 37) dX9_note_37 rfl ?_
      refine aw_aload_n (pc := 40) (i := 0) dX9_note_40 rfl rfl ?_
      refine pg_X9_37 (pc := 41) dX9_note_41 rfl ?_
      refine aw_iload_n (pc := 44) (i := 1) dX9_note_44 rfl rfl ?_
      refine aw_dup2 (pc := 45) dX9_note_45 rfl rfl ?_
      refine pl_X9_ends (pc := 46) (x := (nI (A.2.2.2.1 v.1))) dX9_note_46 (by omega) (hWa.2.2.2.1 _ hv7) ?_
      refine aw_iconst (pc := 47) dX9_note_47 iconst_1 ?_
      refine an_add (pc := 48) dX9_note_48 ?_
      refine ps_X9_ends (pc := 49) dX9_note_49 (by omega) ?_
      refine aw_vret (pc := 50) dX9_note_50 rfl (Nat.le_refl _) (Nat.le_refl _) ?_
      refine kk _ _ hWc (note_a hWa ?_) hWp
      rw [show (noteF v pa A).2.1 = pa from if_pos (by omega)]
      exact hκ1
set_option maxHeartbeats 1000000 in
set_option maxRecDepth 20000 in
theorem c9_look {G : xG} {d : Nat} {Q : xQ} {a c e : Nat → Nat} {κ κr : kS} {R : va_W} {t : Nat → Nat} {hm sp g tg nd : Nat} {A : wA} {v : nD} {pa : List Nat} (hWc : WKc c e t hm sp g tg nd κ) (hWa : WKa A κ κr) (hWp : WKp pa κ) (hb5 : A.2.1.length ≤ 5) (hp5 : pa.length ≤ 5) (hn : A.2.2.1 < 2 ^ 30) (hv7 : v.1 < 7) (hg : g ≤ 2) (htg : tg < 2 ^ 31) (hnd : nd < 2 ^ 31) (hv2 : v.2.1 ≤ 240) (hlo : A.2.2.2.2 ≤ 241) (kk : ∀ κ9 κr9, WKc c e t hm sp g tg nd κ9 → WKa (lookA g tg nd v pa A) κ9 κr9 → WKp pa κ9 → Q none (wWk G.2.2.1 a κ9 ++ (wRw G.2.2.1 e 5 κr9 ++ R))) : MT G MX9_look (d + 3) 0 0 [.ref (a 13), .int (nI v.1), .int (nI v.2.1), .int (nI pa.length)] (wWk G.2.2.1 a κ ++ (wRw G.2.2.1 e 5 κr ++ R)) Q := by
  refine mt_start (L := [some (.ref (a 13)), some (.int (nI v.1)), some (.int (nI v.2.1)), some (.int (nI pa.length))]) rfl (Nat.le_of_ble_eq_true rfl) rfl ?_
  refine aw_aload_n (pc := 0) (i := 0) dX9_look_0 rfl rfl ?_
  refine pg_X9_21 (pc := 1) (v := .int (nI g)) dX9_look_1 rfl hWc.2.2.2.2.1 ?_
  refine an_if_ne (pc := 4) (tgt := 39) dX9_look_4 rfl (by omega) (fun h4 => ?_) (fun h4 => ?_)
  · -- 39
    refine aw_aload_n (pc := 39) (i := 0) dX9_look_39 rfl rfl ?_
    refine pg_X9_21 (pc := 40) (v := .int (nI g)) dX9_look_40 rfl hWc.2.2.2.2.1 ?_
    refine aw_iconst (pc := 43) dX9_look_43 iconst_1 ?_
    refine an_icmp_ne (pc := 44) (tgt := 74) dX9_look_44 rfl (by omega) (by decide) (fun h44 => ?_) (fun h44 => ?_)
    · -- 74
      refine aw_aload_n (pc := 74) (i := 0) dX9_look_74 rfl rfl ?_
      refine pg_X9_21 (pc := 75) (v := .int (nI g)) dX9_look_75 rfl hWc.2.2.2.2.1 ?_
      refine aw_iconst (pc := 78) dX9_look_78 iconst_2 ?_
      refine an_icmp_ne (pc := 79) (tgt := 100) dX9_look_79 rfl (by omega) (by decide) (fun h79 => ?_) (fun h79 => ?_)
      · -- 100
        exfalso; omega
      · -- 82
        refine aw_iload_n (pc := 82) (i := 3) dX9_look_82 rfl rfl ?_
        refine an_if_le (pc := 83) (tgt := 100) dX9_look_83 rfl (by omega) (fun h83 => ?_) (fun h83 => ?_)
        · -- 100
          refine aw_vret (pc := 100) dX9_look_100 rfl (Nat.le_refl _) (Nat.le_refl _) ?_
          have eL : lookA g tg nd v pa A = A := by unfold lookA; rw [if_neg (by omega), if_neg (by omega), if_neg (by omega)]
          rw [eL] at kk
          exact kk _ _ hWc hWa hWp
        · -- 86
          refine aw_iload_n (pc := 86) (i := 2) dX9_look_86 rfl rfl ?_
          refine aw_aload_n (pc := 87) (i := 0) dX9_look_87 rfl rfl ?_
          refine pg_X9_27 (pc := 88) (v := .int (nI nd)) dX9_look_88 rfl hWc.2.2.2.2.2.2.1 ?_
          refine an_icmp_ne (pc := 91) (tgt := 100) dX9_look_91 rfl (by omega) (by omega) (fun h91 => ?_) (fun h91 => ?_)
          · -- 100
            refine aw_vret (pc := 100) dX9_look_100 rfl (Nat.le_refl _) (Nat.le_refl _) ?_
            have eL : lookA g tg nd v pa A = A := by unfold lookA; rw [if_neg (by omega), if_neg (by omega), if_neg (by omega)]
            rw [eL] at kk
            exact kk _ _ hWc hWa hWp
          · -- 94
            refine aw_aload_n (pc := 94) (i := 0) dX9_look_94 rfl rfl ?_
            refine aw_iload_n (pc := 95) (i := 1) dX9_look_95 rfl rfl ?_
            refine aw_iload_n (pc := 96) (i := 3) dX9_look_96 rfl rfl ?_
            refine cVv (pc := 97) (As := [.int (nI v.1), .int (nI pa.length)]) (rest := []) dX9_look_97 rfl oc_X9_106 rfl rfl (Nat.le_of_ble_eq_true rfl) rfl rfl ovX9 (Nat.le_refl _) (Nat.le_refl _) (c9_note hWc hWa hWp hb5 hp5 hn hv7 ?_)
            intro κ1 κr1 g1 g2 g3
            refine ⟨rfl, ?_⟩
            refine aw_vret (pc := 100) dX9_look_100 rfl (Nat.le_refl _) (Nat.le_refl _) ?_
            have eL : lookA g tg nd v pa A = noteF v pa A := by unfold lookA; rw [if_neg (by omega), if_neg (by omega), if_pos (by omega)]
            rw [eL] at kk
            exact kk _ _ g1 g2 g3
    · -- 47
      refine aw_iload_n (pc := 47) (i := 3) dX9_look_47 rfl rfl ?_
      refine an_if_le (pc := 48) (tgt := 74) dX9_look_48 rfl (by omega) (fun h48 => ?_) (fun h48 => ?_)
      · -- 74
        refine aw_aload_n (pc := 74) (i := 0) dX9_look_74 rfl rfl ?_
        refine pg_X9_21 (pc := 75) (v := .int (nI g)) dX9_look_75 rfl hWc.2.2.2.2.1 ?_
        refine aw_iconst (pc := 78) dX9_look_78 iconst_2 ?_
        refine an_icmp_ne (pc := 79) (tgt := 100) dX9_look_79 rfl (by omega) (by decide) (fun h79 => ?_) (fun h79 => ?_)
        · -- 100
          refine aw_vret (pc := 100) dX9_look_100 rfl (Nat.le_refl _) (Nat.le_refl _) ?_
          have eL : lookA g tg nd v pa A = A := by unfold lookA; rw [if_neg (by omega), if_pos (by omega), if_neg (by omega)]
          rw [eL] at kk
          exact kk _ _ hWc hWa hWp
        · -- 82
          exfalso; omega
      · -- 51
        refine aw_iload_n (pc := 51) (i := 1) dX9_look_51 rfl rfl ?_
        refine aw_aload_n (pc := 52) (i := 0) dX9_look_52 rfl rfl ?_
        refine pg_X9_24 (pc := 53) (v := .int (nI tg)) dX9_look_53 rfl hWc.2.2.2.2.2.1 ?_
        refine an_icmp_ne (pc := 56) (tgt := 74) dX9_look_56 rfl (by omega) (by omega) (fun h56 => ?_) (fun h56 => ?_)
        · -- 74
          refine aw_aload_n (pc := 74) (i := 0) dX9_look_74 rfl rfl ?_
          refine pg_X9_21 (pc := 75) (v := .int (nI g)) dX9_look_75 rfl hWc.2.2.2.2.1 ?_
          refine aw_iconst (pc := 78) dX9_look_78 iconst_2 ?_
          refine an_icmp_ne (pc := 79) (tgt := 100) dX9_look_79 rfl (by omega) (by decide) (fun h79 => ?_) (fun h79 => ?_)
          · -- 100
            refine aw_vret (pc := 100) dX9_look_100 rfl (Nat.le_refl _) (Nat.le_refl _) ?_
            have eL : lookA g tg nd v pa A = A := by unfold lookA; rw [if_neg (by omega), if_pos (by omega), if_neg (by omega)]
            rw [eL] at kk
            exact kk _ _ hWc hWa hWp
          · -- 82
            exfalso; omega
        · -- 59
          refine aw_aload_n (pc := 59) (i := 0) dX9_look_59 rfl rfl ?_
          refine aw_aload_n (pc := 60) (i := 0) dX9_look_60 rfl rfl ?_
          refine pg_X9_43 (pc := 61) (v := .int (dpI A.2.2.2.2)) dX9_look_61 rfl hWa.2.2.1 ?_
          refine aw_iload_n (pc := 64) (i := 2) dX9_look_64 rfl rfl ?_
          refine aw_max (pc := 65) dX9_look_65 rfl mk_X9_110 (Nat.le_of_ble_eq_true rfl) (Nat.le_refl _) (Nat.le_refl _) ?_
          refine aw_top (y := dpI (max A.2.2.2.2 (v.2.1 + 1))) (dpI_max2 (by omega) (by omega)) ?_
          refine pp_X9_43 (pc := 68) dX9_look_68 rfl ?_
          refine aw_goto (pc := 71) (tgt := 100) dX9_look_71 rfl ?_
          refine aw_vret (pc := 100) dX9_look_100 rfl (Nat.le_refl _) (Nat.le_refl _) ?_
          have eL : lookA g tg nd v pa A = (A.1, A.2.1, A.2.2.1, A.2.2.2.1, max A.2.2.2.2 (v.2.1 + 1)) := by unfold lookA; rw [if_neg (by omega), if_pos (by omega), if_pos (by omega)]
          rw [eL] at kk
          exact kk _ _ hWc ⟨hWa.1, hWa.2.1, rfl, hWa.2.2.2⟩ hWp
  · -- 7
    refine aw_iload_n (pc := 7) (i := 1) dX9_look_7 rfl rfl ?_
    refine aw_aload_n (pc := 8) (i := 0) dX9_look_8 rfl rfl ?_
    refine pg_X9_24 (pc := 9) (v := .int (nI tg)) dX9_look_9 rfl hWc.2.2.2.2.2.1 ?_
    refine an_icmp_ne (pc := 12) (tgt := 39) dX9_look_12 rfl (by omega) (by omega) (fun h12 => ?_) (fun h12 => ?_)
    · -- 39
      refine aw_aload_n (pc := 39) (i := 0) dX9_look_39 rfl rfl ?_
      refine pg_X9_21 (pc := 40) (v := .int (nI g)) dX9_look_40 rfl hWc.2.2.2.2.1 ?_
      refine aw_iconst (pc := 43) dX9_look_43 iconst_1 ?_
      refine an_icmp_ne (pc := 44) (tgt := 74) dX9_look_44 rfl (by omega) (by decide) (fun h44 => ?_) (fun h44 => ?_)
      · -- 74
        refine aw_aload_n (pc := 74) (i := 0) dX9_look_74 rfl rfl ?_
        refine pg_X9_21 (pc := 75) (v := .int (nI g)) dX9_look_75 rfl hWc.2.2.2.2.1 ?_
        refine aw_iconst (pc := 78) dX9_look_78 iconst_2 ?_
        refine an_icmp_ne (pc := 79) (tgt := 100) dX9_look_79 rfl (by omega) (by decide) (fun h79 => ?_) (fun h79 => ?_)
        · -- 100
          refine aw_vret (pc := 100) dX9_look_100 rfl (Nat.le_refl _) (Nat.le_refl _) ?_
          have eL : lookA g tg nd v pa A = A := by unfold lookA; rw [if_pos h4, if_neg (by omega)]
          rw [eL] at kk
          exact kk _ _ hWc hWa hWp
        · -- 82
          exfalso; omega
      · -- 47
        exfalso; omega
    · -- 15
      refine aw_iload_n (pc := 15) (i := 2) dX9_look_15 rfl rfl ?_
      refine aw_aload_n (pc := 16) (i := 0) dX9_look_16 rfl rfl ?_
      refine pg_X9_27 (pc := 17) (v := .int (nI nd)) dX9_look_17 rfl hWc.2.2.2.2.2.2.1 ?_
      refine an_icmp_lt (pc := 20) (tgt := 39) dX9_look_20 rfl (by omega) (by omega) (fun h20 => ?_) (fun h20 => ?_)
      · -- 39
        refine aw_aload_n (pc := 39) (i := 0) dX9_look_39 rfl rfl ?_
        refine pg_X9_21 (pc := 40) (v := .int (nI g)) dX9_look_40 rfl hWc.2.2.2.2.1 ?_
        refine aw_iconst (pc := 43) dX9_look_43 iconst_1 ?_
        refine an_icmp_ne (pc := 44) (tgt := 74) dX9_look_44 rfl (by omega) (by decide) (fun h44 => ?_) (fun h44 => ?_)
        · -- 74
          refine aw_aload_n (pc := 74) (i := 0) dX9_look_74 rfl rfl ?_
          refine pg_X9_21 (pc := 75) (v := .int (nI g)) dX9_look_75 rfl hWc.2.2.2.2.1 ?_
          refine aw_iconst (pc := 78) dX9_look_78 iconst_2 ?_
          refine an_icmp_ne (pc := 79) (tgt := 100) dX9_look_79 rfl (by omega) (by decide) (fun h79 => ?_) (fun h79 => ?_)
          · -- 100
            refine aw_vret (pc := 100) dX9_look_100 rfl (Nat.le_refl _) (Nat.le_refl _) ?_
            have eL : lookA g tg nd v pa A = A := by unfold lookA; rw [if_pos h4, if_neg (by omega)]
            rw [eL] at kk
            exact kk _ _ hWc hWa hWp
          · -- 82
            exfalso; omega
        · -- 47
          exfalso; omega
      · -- 23
        refine aw_aload_n (pc := 23) (i := 0) dX9_look_23 rfl rfl ?_
        refine aw_iload_n (pc := 24) (i := 1) dX9_look_24 rfl rfl ?_
        refine aw_iload_n (pc := 25) (i := 3) dX9_look_25 rfl rfl ?_
        refine cVv (pc := 26) (As := [.int (nI v.1), .int (nI pa.length)]) (rest := []) dX9_look_26 rfl oc_X9_106 rfl rfl (Nat.le_of_ble_eq_true rfl) rfl rfl ovX9 (Nat.le_refl _) (Nat.le_refl _) (c9_note hWc hWa hWp hb5 hp5 hn hv7 ?_)
        intro κ1 κr1 g1 g2 g3
        refine ⟨rfl, ?_⟩
        refine aw_aload_n (pc := 29) (i := 0) dX9_look_29 rfl rfl ?_
        refine aw_iload_n (pc := 30) (i := 3) dX9_look_30 rfl rfl ?_
        refine aw_iconst (pc := 31) dX9_look_31 iconst_1 ?_
        refine aw_isub (pc := 32) dX9_look_32 ?_
        refine aw_top (y := (dpI pa.length)) (dpI_sub _) ?_
        refine pp_X9_30 (pc := 33) dX9_look_33 rfl ?_
        refine aw_goto (pc := 36) (tgt := 100) dX9_look_36 rfl ?_
        refine aw_vret (pc := 100) dX9_look_100 rfl (Nat.le_refl _) (Nat.le_refl _) ?_
        have eL : lookA g tg nd v pa A = (pa.length, (noteF v pa A).2) := by unfold lookA; rw [if_pos h4, if_pos (by omega)]
        rw [eL] at kk
        exact kk _ _ g1 ⟨rfl, g2.2⟩ g3
