def kNn : List (List Nat) := [[32, 111, 102, 32], [32, 105, 110, 32], [32]]
theorem kBy_n {i j : Nat} (hi : i < 3) (hj : j < kLn.getD i 0) : (kBy.getD i []).getD j 0 = nI ((kNn.getD i []).getD j 0) ∧ ((((kBy.getD i []).getD j 0) &&& nI 255).toUInt32 % 65536).toInt32 = nI ((kNn.getD i []).getD j 0) ∧ narrow .char (.int (nI ((kNn.getD i []).getD j 0))) = .int (nI ((kNn.getD i []).getD j 0)) := by
  rcases (show i = 0 ∨ i = 1 ∨ i = 2 by omega) with rfl | rfl | rfl
  · have hj : j < 4 := hj
    rcases (show j = 0 ∨ j = 1 ∨ j = 2 ∨ j = 3 by omega) with rfl | rfl | rfl | rfl <;> decide
  · have hj : j < 4 := hj
    rcases (show j = 0 ∨ j = 1 ∨ j = 2 ∨ j = 3 by omega) with rfl | rfl | rfl | rfl <;> decide
  · have hj : j < 1 := hj
    rcases (show j = 0 by omega) with rfl
    decide
set_option maxHeartbeats 1000000 in
set_option maxRecDepth 20000 in
theorem k_coder {G : xG} {d : Nat} {Q : xQ} {ws : va_W} {aK aV : Nat → Nat} {tf : Option Nat} {i : Nat} (hK : KB aK aV tf G) (hi : i < 3) (kk : Q (some (.int 0)) ws) : MT G MJ0_coder_7d493 d 0 0 [.ref (aK i)] ws Q := by
  refine mt_start (L := [some (.ref (aK i))]) rfl (Nat.le_of_ble_eq_true rfl) rfl ?_
  refine aw_kcmp (pc := 0) dJ0_coder_7d493_0 rfl hK ?_
  refine aw_if_eq (pc := 3) (tgt := 13) dJ0_coder_7d493_3 rfl (fun h => absurd h (by decide)) (fun h => ?_)
  refine aw_aload_n (pc := 6) (i := 0) dJ0_coder_7d493_6 rfl rfl ?_
  refine aw_kcod (pc := 7) dJ0_coder_7d493_7 rfl hK hi ?_
  refine aw_goto (pc := 10) (tgt := 14) dJ0_coder_7d493_10 rfl ?_
  exact aw_zret (pc := 14) dJ0_coder_7d493_14 rfl rfl (Nat.le_refl _) (Nat.le_refl _) kk
set_option maxHeartbeats 1000000 in
set_option maxRecDepth 20000 in
theorem k_len {G : xG} {d : Nat} {Q : xQ} {ws : va_W} {aK aV : Nat → Nat} {tf : Option Nat} {i : Nat} (hK : KB aK aV tf G) (hi : i < 3) (kk : Q (some (.int (nI (kLn.getD i 0)))) ws) : MT G MJ0_length_8abf5 (d + 1) 0 0 [.ref (aK i)] ws Q := by
  refine mt_start (L := [some (.ref (aK i))]) rfl (Nat.le_of_ble_eq_true rfl) rfl ?_
  refine aw_aload_n (pc := 0) (i := 0) dJ0_length_8abf5_0 rfl rfl ?_
  refine aw_kval (pc := 1) dJ0_length_8abf5_1 rfl hK hi ?_
  refine aw_klen (pc := 4) dJ0_length_8abf5_4 hK hi ?_
  refine aw_aload_n (pc := 5) (i := 0) dJ0_length_8abf5_5 rfl rfl ?_
  refine cKi (pc := 6) (As := []) (rest := [.int (nI (kLn.getD i 0))]) dJ0_length_8abf5_6 rfl oc_J0_335 rfl rfl (Nat.le_of_ble_eq_true rfl) rfl hK hi (Nat.le_refl _) (Nat.le_refl _) (k_coder hK hi ⟨_, rfl, ?_⟩)
  refine aw_ishr (pc := 9) dJ0_length_8abf5_9 ?_
  refine aw_top (y := nI (kLn.getD i 0)) (by rcases (show i = 0 ∨ i = 1 ∨ i = 2 by omega) with rfl | rfl | rfl <;> decide) ?_
  exact aw_iret (pc := 10) dJ0_length_8abf5_10 rfl (Nat.le_refl _) (Nat.le_refl _) kk
set_option maxHeartbeats 1000000 in
set_option maxRecDepth 20000 in
theorem k_isL {G : xG} {d : Nat} {Q : xQ} {ws : va_W} {aK aV : Nat → Nat} {tf : Option Nat} {i : Nat} (hK : KB aK aV tf G) (hi : i < 3) (kk : Q (some (.int (nI 1))) ws) : MT G MJ0_isLatin1_aae02 d 0 0 [.ref (aK i)] ws Q := by
  refine mt_start (L := [some (.ref (aK i))]) rfl (Nat.le_of_ble_eq_true rfl) rfl ?_
  refine aw_kcmp (pc := 0) dJ0_isLatin1_aae02_0 rfl hK ?_
  refine aw_if_eq (pc := 3) (tgt := 17) dJ0_isLatin1_aae02_3 rfl (fun h => absurd h (by decide)) (fun h => ?_)
  refine aw_aload_n (pc := 6) (i := 0) dJ0_isLatin1_aae02_6 rfl rfl ?_
  refine aw_kcod (pc := 7) dJ0_isLatin1_aae02_7 rfl hK hi ?_
  refine aw_if_ne (pc := 10) (tgt := 17) dJ0_isLatin1_aae02_10 rfl (fun h => absurd rfl h) (fun h => ?_)
  refine aw_iconst (pc := 13) dJ0_isLatin1_aae02_13 iconst_1 ?_
  refine aw_goto (pc := 14) (tgt := 18) dJ0_isLatin1_aae02_14 rfl ?_
  exact aw_zret (pc := 18) dJ0_isLatin1_aae02_18 rfl (by decide) (Nat.le_refl _) (Nat.le_refl _) kk
set_option maxHeartbeats 1000000 in
set_option maxRecDepth 20000 in
theorem k_pre {G : xG} {d : Nat} {Q : xQ} {ws : va_W} {tf : Option Nat} {j m : Nat} (hj : j < m) (hm : m < 2 ^ 31) (kk : Q (some (.int (nI j))) ws) : MT G MJ3_checkIndex_8e157 d 0 0 [.int (nI j), .int (nI m), va_rf tf] ws Q := by
  refine mt_start (L := [some (.int (nI j)), some (.int (nI m)), some (va_rf tf)]) rfl (by cases tf <;> exact Nat.le_of_ble_eq_true rfl) (by cases tf <;> rfl) ?_
  refine aw_iload_n (pc := 0) (i := 0) dJ3_checkIndex_8e157_0 rfl rfl ?_
  refine an_if_lt (pc := 1) (tgt := 9) dJ3_checkIndex_8e157_1 rfl (by omega) ?_
  refine aw_iload_n (pc := 4) (i := 0) dJ3_checkIndex_8e157_4 rfl rfl ?_
  refine aw_iload_n (pc := 5) (i := 1) dJ3_checkIndex_8e157_5 rfl rfl ?_
  refine an_icmp_lt (pc := 6) (tgt := 16) dJ3_checkIndex_8e157_6 rfl (by omega) (by omega) (fun h => ?_) (fun h => absurd hj (Nat.not_lt.mpr h))
  refine aw_iload_n (pc := 16) (i := 0) dJ3_checkIndex_8e157_16 rfl rfl ?_
  exact aw_iret (pc := 17) dJ3_checkIndex_8e157_17 rfl (Nat.le_refl _) (Nat.le_refl _) kk
set_option maxHeartbeats 1000000 in
set_option maxRecDepth 20000 in
theorem k_chk {G : xG} {d : Nat} {Q : xQ} {ws : va_W} {aK aV : Nat → Nat} {tf : Option Nat} {j m : Nat} (hK : KB aK aV tf G) (hj : j < m) (hm : m < 2 ^ 31) (kk : Q none ws) : MT G MJ0_checkIndex_df160 (d + 1) 0 0 [.int (nI j), .int (nI m)] ws Q := by
  refine mt_start (L := [some (.int (nI j)), some (.int (nI m))]) rfl (Nat.le_of_ble_eq_true rfl) rfl ?_
  refine aw_iload_n (pc := 0) (i := 0) dJ0_checkIndex_df160_0 rfl rfl ?_
  refine aw_iload_n (pc := 1) (i := 1) dJ0_checkIndex_df160_1 rfl rfl ?_
  refine aw_kfmt (pc := 2) dJ0_checkIndex_df160_2 rfl hK ?_
  refine cSi (pc := 5) (As := [.int (nI j), .int (nI m), va_rf tf]) (rest := []) dJ0_checkIndex_df160_5 rfl oc_J0_1059 rfl rfl (Nat.le_of_ble_eq_true rfl) (Nat.le_refl _) (Nat.le_refl _) (k_pre hj hm ⟨_, rfl, ?_⟩)
  refine aw_pop (pc := 8) dJ0_checkIndex_df160_8 rfl ?_
  exact aw_vret (pc := 9) dJ0_checkIndex_df160_9 rfl (Nat.le_refl _) (Nat.le_refl _) kk
set_option maxHeartbeats 1000000 in
set_option maxRecDepth 20000 in
theorem k_lat {G : xG} {d : Nat} {Q : xQ} {ws : va_W} {aK aV : Nat → Nat} {tf : Option Nat} {i : Nat} (hK : KB aK aV tf G) (hi : i < 3) {j : Nat} (hj : j < kLn.getD i 0) (kk : Q (some (.int (nI ((kNn.getD i []).getD j 0)))) ws) : MT G MJ1_charAt_3b067 (d + 2) 0 0 [.ref (aV i), .int (nI j)] ws Q := by
  refine mt_start (L := [some (.ref (aV i)), some (.int (nI j))]) rfl (Nat.le_of_ble_eq_true rfl) rfl ?_
  have h4 := kLn_le hi
  obtain ⟨b1, b2, b3⟩ := kBy_n hi hj
  refine aw_iload_n (pc := 0) (i := 1) dJ1_charAt_3b067_0 rfl rfl ?_
  refine aw_aload_n (pc := 1) (i := 0) dJ1_charAt_3b067_1 rfl rfl ?_
  refine aw_klen (pc := 2) dJ1_charAt_3b067_2 hK hi ?_
  refine aw_callS (As := [.int (nI j), .int (nI (kLn.getD i 0))]) (rest := []) _ (pc := 3) dJ1_charAt_3b067_3 rfl oc_J1_9 rfl rfl (Nat.le_of_ble_eq_true rfl) (k_chk (Q := fun v w => v = none ∧ w = ws) hK hj (by omega) ⟨rfl, rfl⟩) (fun v w h => ?_) (Nat.le_refl _) (Nat.le_refl _)
  obtain ⟨rfl, rfl⟩ := h
  refine aw_ws (w9 := w) rfl ?_
  refine aw_aload_n (pc := 6) (i := 0) dJ1_charAt_3b067_6 rfl rfl ?_
  refine aw_iload_n (pc := 7) (i := 1) dJ1_charAt_3b067_7 rfl rfl ?_
  refine aw_kb (pc := 8) dJ1_charAt_3b067_8 hK hi hj ?_
  refine aw_sipush (pc := 9) (v := nI 255) dJ1_charAt_3b067_9 (by decide) ?_
  refine aw_iand (pc := 12) dJ1_charAt_3b067_12 ?_
  refine aw_i2c (pc := 13) dJ1_charAt_3b067_13 ?_
  refine aw_top (y := nI ((kNn.getD i []).getD j 0)) b2 ?_
  exact aw_zret (pc := 14) dJ1_charAt_3b067_14 rfl b3 (Nat.le_refl _) (Nat.le_refl _) kk
set_option maxHeartbeats 1000000 in
set_option maxRecDepth 20000 in
theorem k_char {G : xG} {d : Nat} {Q : xQ} {ws : va_W} {aK aV : Nat → Nat} {tf : Option Nat} {i : Nat} (hK : KB aK aV tf G) (hi : i < 3) {j : Nat} (hj : j < kLn.getD i 0) (kk : Q (some (.int (nI ((kNn.getD i []).getD j 0)))) ws) : MT G MJ0_charAt_5068e (d + 3) 0 0 [.ref (aK i), .int (nI j)] ws Q := by
  refine mt_start (L := [some (.ref (aK i)), some (.int (nI j))]) rfl (Nat.le_of_ble_eq_true rfl) rfl ?_
  refine aw_aload_n (pc := 0) (i := 0) dJ0_charAt_5068e_0 rfl rfl ?_
  refine cKi (pc := 1) (As := []) (rest := []) dJ0_charAt_5068e_1 rfl oc_J0_492 rfl rfl (Nat.le_of_ble_eq_true rfl) rfl hK hi (Nat.le_refl _) (Nat.le_refl _) (k_isL hK hi ⟨_, rfl, ?_⟩)
  refine aw_if_eq (pc := 4) (tgt := 16) dJ0_charAt_5068e_4 rfl (fun h => absurd h (by decide)) (fun h => ?_)
  refine aw_aload_n (pc := 7) (i := 0) dJ0_charAt_5068e_7 rfl rfl ?_
  refine aw_kval (pc := 8) dJ0_charAt_5068e_8 rfl hK hi ?_
  refine aw_iload_n (pc := 11) (i := 1) dJ0_charAt_5068e_11 rfl rfl ?_
  refine cSi (pc := 12) (As := [.ref (aV i), .int (nI j)]) (rest := []) dJ0_charAt_5068e_12 rfl oc_J0_495 rfl rfl (Nat.le_of_ble_eq_true rfl) (Nat.le_refl _) (Nat.le_refl _) (k_lat hK hi hj ⟨_, rfl, ?_⟩)
  exact aw_zret (pc := 15) dJ0_charAt_5068e_15 rfl (kBy_n hi hj).2.2 (Nat.le_refl _) (Nat.le_refl _) kk
theorem take_n (l : List Nat) (j : Nat) (hj : j < l.length) : l.take (j + 1) = l.take j ++ [l.getD j 0] := by
  rw [List.take_succ, List.getElem?_eq_getElem hj, Option.toList_some]
  congr 2
  simp [hj]
def layK (l : List Nat) (p : (Nat → Nat) × Nat) : (Nat → Nat) × Nat := l.foldl layP p
theorem layK_2 (l : List Nat) (p : (Nat → Nat) × Nat) : (layK l p).2 = p.2 + l.length := by
  unfold layK
  induction l generalizing p with
  | nil => rfl
  | cons a l ih => rw [List.foldl_cons, ih]; show p.2 + 1 + l.length = p.2 + (l.length + 1); omega
theorem layK_1 (l : List Nat) (a : Nat) (p : (Nat → Nat) × Nat) : layP (layK l p) a = layK (l ++ [a]) p := by
  unfold layK; rw [List.foldl_append]; rfl
theorem kNn_l {i : Nat} (hi : i < 3) : (kNn.getD i []).length = kLn.getD i 0 := by rcases (show i = 0 ∨ i = 1 ∨ i = 2 by omega) with rfl | rfl | rfl <;> rfl
set_option maxHeartbeats 1000000 in
set_option maxRecDepth 20000 in
theorem text_lp {G : xG} {d : Nat} {Q : xQ} {a : Nat → Nat} {N : Nat} {R : va_W} {p : (Nat → Nat) × Nat} {aK aV : Nat → Nat} {tf : Option Nat} {i : Nat} (hK : KB aK aV tf G) (hi : i < 3) (hl : p.2 + 4 ≤ N) (hN : N < 2 ^ 31) (kk : ∀ κ9, RTx κ9 (layK (kNn.getD i []) p) → Q none (wRw G.2.2.1 a N κ9 ++ R)) : ∀ (z j : Nat) (κ : kS), j + z = kLn.getD i 0 → RTx κ (layK ((kNn.getD i []).take j) p) → AW G MX5_addText (d + 4) 0 0 Q 2 [some (.ref (a 2)), some (.ref (aK i)), some (.int (nI j))] [] (wRw G.2.2.1 a N κ ++ R) 0 0 := by
  have h4 := kLn_le hi
  have hL := kNn_l hi
  intro z
  induction z with
  | zero =>
    intro j κ hj hr
    refine aw_iload_n (pc := 2) (i := 2) dX5_addText_2 rfl rfl ?_
    refine aw_aload_n (pc := 3) (i := 1) dX5_addText_3 rfl rfl ?_
    refine cKi (pc := 4) (As := []) (rest := [.int (nI j)]) dX5_addText_4 rfl oc_X5_33 rfl rfl (Nat.le_of_ble_eq_true rfl) rfl hK hi (Nat.le_refl _) (Nat.le_refl _) (k_len hK hi ⟨_, rfl, ?_⟩)
    refine an_icmp_ge (pc := 7) (tgt := 25) dX5_addText_7 rfl (by omega) (by omega) (fun h => ?_) (fun h => absurd h (by omega))
    refine aw_vret (pc := 25) dX5_addText_25 rfl (Nat.le_refl _) (Nat.le_refl _) (kk κ ?_)
    rw [List.take_of_length_le (by omega)] at hr
    exact hr
  | succ z ih =>
    intro j κ hj hr
    refine aw_iload_n (pc := 2) (i := 2) dX5_addText_2 rfl rfl ?_
    refine aw_aload_n (pc := 3) (i := 1) dX5_addText_3 rfl rfl ?_
    refine cKi (pc := 4) (As := []) (rest := [.int (nI j)]) dX5_addText_4 rfl oc_X5_33 rfl rfl (Nat.le_of_ble_eq_true rfl) rfl hK hi (Nat.le_refl _) (Nat.le_refl _) (k_len hK hi ⟨_, rfl, ?_⟩)
    refine an_icmp_ge (pc := 7) (tgt := 25) dX5_addText_7 rfl (by omega) (by omega) (fun h => absurd h (by omega)) (fun h => ?_)
    refine aw_aload_n (pc := 10) (i := 0) dX5_addText_10 rfl rfl ?_
    refine aw_aload_n (pc := 11) (i := 1) dX5_addText_11 rfl rfl ?_
    refine aw_iload_n (pc := 12) (i := 2) dX5_addText_12 rfl rfl ?_
    refine cKi (pc := 13) (As := [.int (nI j)]) (rest := [.ref (a 2)]) dX5_addText_13 rfl oc_X5_38 rfl rfl (Nat.le_of_ble_eq_true rfl) rfl hK hi (Nat.le_refl _) (Nat.le_refl _) (k_char hK hi (by omega) ⟨_, rfl, ?_⟩)
    refine cVv (pc := 16) (As := [.int (nI ((kNn.getD i []).getD j 0))]) (rest := []) dX5_addText_16 rfl oc_X5_25 rfl rfl (Nat.le_of_ble_eq_true rfl) rfl rfl ovX5 (Nat.le_refl _) (Nat.le_refl _) (c5_lay hr (by rw [layK_2, List.length_take]; omega) hN (fun κ9 hr9 => ⟨rfl, ?_⟩))
    refine an_inc (pc := 19) (z := 1) dX5_addText_19 rfl (Nat.le_of_ble_eq_true rfl) rfl ?_
    refine aw_goto (pc := 22) (tgt := 2) dX5_addText_22 rfl ?_
    refine ih (j + 1) κ9 (by omega) ?_
    rw [layK_1] at hr9
    have e : (kNn.getD i []).take (j + 1) = (kNn.getD i []).take j ++ [(kNn.getD i []).getD j 0] := by
      have hjl : j < (kNn.getD i []).length := by omega
      exact take_n _ j hjl
    rw [e]; exact hr9
set_option maxHeartbeats 1000000 in
set_option maxRecDepth 20000 in
theorem c5_text {G : xG} {d : Nat} {Q : xQ} {a : Nat → Nat} {N : Nat} {κ : kS} {R : va_W} {p : (Nat → Nat) × Nat} {aK aV : Nat → Nat} {tf : Option Nat} {i : Nat} (hK : KB aK aV tf G) (hi : i < 3) (h : RTx κ p) (hl : p.2 + 4 ≤ N) (hN : N < 2 ^ 31) (kk : ∀ κ9, RTx κ9 (layK (kNn.getD i []) p) → Q none (wRw G.2.2.1 a N κ9 ++ R)) : MT G MX5_addText (d + 4) 0 0 [.ref (a 2), .ref (aK i)] (wRw G.2.2.1 a N κ ++ R) Q := by
  refine mt_start (L := [some (.ref (a 2)), some (.ref (aK i)), none]) rfl (Nat.le_of_ble_eq_true rfl) rfl ?_
  refine aw_iconst (pc := 0) dX5_addText_0 iconst_0 ?_
  refine aw_istore_n (pc := 1) (i := 2) dX5_addText_1 rfl (Nat.le_of_ble_eq_true rfl) rfl ?_
  exact text_lp hK hi hl hN kk (kLn.getD i 0) 0 κ (Nat.zero_add _) h
