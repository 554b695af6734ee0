theorem jv3 {G : xG} {R : va_W} {a : Nat → Nat} {κ : kS} {M : Nat} {f : Nat → Int64} (hM : M ≤ 7) (hf : ∀ i, i < M → κ.2.2.1 3 i = f i) : JV G (wCh G.2.2.1 a κ ++ R) (a 3) 7 M f := ivX3_landName hM hf
theorem jv11 {G : xG} {R : va_W} {a : Nat → Nat} {κ : kS} {M : Nat} {f : Nat → Int64} (hM : M ≤ 6) (hf : ∀ i, i < M → κ.2.2.1 11 i = f i) : JV G (wCh G.2.2.1 a κ ++ R) (a 11) 6 M f := ivX3_personName hM hf
/-- a chart that tells what h tells -/
def CRl (h : Nat → Nat) (NM : Nat → Int64) (κ : kS) : Prop := κ.1 0 = .int (nI (h 0)) ∧ κ.1 1 = .int (nI (h 1)) ∧ κ.1 2 = .int (nI (h 2)) ∧ (∀ k, k < h 0 → κ.2.2.1 3 k = NM k ∧ κ.2.1 4 k = nI (h (3 + k)) ∧ κ.2.1 5 k = nI (h (10 + k))) ∧ (∀ r, r < h 1 → κ.2.1 6 r = nI (h (24 + r)) ∧ κ.2.1 7 r = nI (h (36 + r)) ∧ κ.2.1 8 r = nI (h (48 + r)) ∧ κ.2.1 9 r = nI (h (60 + r))) ∧ (∀ j, j < 49 → κ.2.1 10 j = nI (betw h j)) ∧ ∀ k, k < h 2 → κ.2.2.1 11 k = NM (7 + k) ∧ κ.2.1 12 k = nI (h (79 + k))
theorem CRl.chr {G : xG} {W : va_W} {c : Nat → Nat} {h : Nat → Nat} {NM : Nat → Int64} {κ : kS} (H : CRl h NM κ) (h0 : h 0 ≤ 7) (h1 : h 1 ≤ 12) (h2 : h 2 ≤ 6) (hs : ∀ x ∈ wCh G.2.2.1 c κ, x ∈ W) : CHR G W c h NM := by
  obtain ⟨e0, e1, e2, hl, hr, hb, hp⟩ := H
  have hs2 : ∀ x ∈ wCh G.2.2.1 c κ ++ [], x ∈ W := fun x hx => hs x (by rw [List.append_nil] at hx; exact hx)
  refine ⟨OV.sub hs2 (OV.of 0 rfl (fun r9 hr9 k hk => ?_)), (jv3 h0 (fun i hi => (hl i hi).1)).sub hs2, (ivX3_take h0 (fun i hi => (hl i hi).2.1)).sub hs2, (ivX3_give h0 (fun i hi => (hl i hi).2.2)).sub hs2, (ivX3_first h1 (fun i hi => (hr i hi).1)).sub hs2, (ivX3_second h1 (fun i hi => (hr i hi).2.1)).sub hs2, (ivX3_low h1 (fun i hi => (hr i hi).2.2.1)).sub hs2, (ivX3_high h1 (fun i hi => (hr i hi).2.2.2)).sub hs2, (ivX3_between (Nat.le_refl _) hb).sub hs2, (jv11 h2 (fun i hi => (hp i hi).1)).sub hs2, (ivX3_home h2 (fun i hi => (hp i hi).2)).sub hs2⟩
  cases hr9
  have hk : k < 13 := hk
  rcases (show k = 0 ∨ k = 1 ∨ k = 2 ∨ k = 3 ∨ k = 4 ∨ k = 5 ∨ k = 6 ∨ k = 7 ∨ k = 8 ∨ k = 9 ∨ k = 10 ∨ k = 11 ∨ k = 12 by omega) with rfl | rfl | rfl | rfl | rfl | rfl | rfl | rfl | rfl | rfl | rfl | rfl | rfl
  · exact congrArg some e0
  · exact congrArg some e1
  · exact congrArg some e2
  all_goals rfl
theorem roadF_of {h u : Nat → Nat} (h1 : u 1 = h 1) (hh : h 1 ≤ 12) (e : ∀ r, r < h 1 → u (24 + r) = h (24 + r) ∧ u (36 + r) = h (36 + r)) (x y : Nat) : roadF u x y = roadF h x y := by
  unfold roadF
  rw [h1]
  refine findF_congr _ _ (fun k _ hk => ?_)
  unfold roadP
  rw [(e k (by omega)).1, (e k (by omega)).2]
theorem betw_of {h u : Nat → Nat} (h1 : u 1 = h 1) (hh : h 1 ≤ 12) (e : ∀ r, r < h 1 → u (24 + r) = h (24 + r) ∧ u (36 + r) = h (36 + r)) (j : Nat) : betw u j = betw h j := by
  unfold betw
  rw [roadF_of h1 hh e]
theorem CRl.land {h : Nat → Nat} {NM : Nat → Int64} {κ : kS} {x y : Nat} {v : Int64} (H : CRl h NM κ) (h0 : h 0 < 7) (h1 : h 1 ≤ 12) (h2 : h 2 ≤ 6) : CRl (upN (upN (upN h (3 + h 0) x) (10 + h 0) y) 0 (h 0 + 1)) (upN NM (h 0) v) (kF (kI (kI (kJ κ 3 (h 0) v) 4 (h 0) (nI x)) 5 (h 0) (nI y)) 0 (.int (nI (h 0 + 1)))) := by
  obtain ⟨e0, e1, e2, hl, hr, hb, hp⟩ := H
  have u1 : ∀ j, ¬ j = 0 → ¬ j = 3 + h 0 → ¬ j = 10 + h 0 → upN (upN (upN h (3 + h 0) x) (10 + h 0) y) 0 (h 0 + 1) j = h j := fun j a b c => by rw [upN_n _ _ _ _ a, upN_n _ _ _ _ c, upN_n _ _ _ _ b]
  refine ⟨rfl, by rw [u1 1 (by omega) (by omega) (by omega)]; exact e1, by rw [u1 2 (by omega) (by omega) (by omega)]; exact e2, fun k hk => ?_, fun r hr9 => ?_, fun j hj => ?_, fun k hk => ?_⟩
  · have hk : k < h 0 + 1 := hk
    show upN (κ.2.2.1 3) (h 0) v k = upN NM (h 0) v k ∧ upN (κ.2.1 4) (h 0) _ k = _ ∧ upN (κ.2.1 5) (h 0) _ k = _
    by_cases e : k = h 0
    · subst e
      rw [upN_s, upN_s, upN_s, upN_s]
      refine ⟨rfl, ?_, ?_⟩
      · rw [upN_n _ _ (3 + h 0) _ (by omega), upN_n _ _ (3 + h 0) _ (by omega), upN_s]
      · rw [upN_n _ _ (10 + h 0) _ (by omega), upN_s]
    · rw [upN_n _ _ _ _ e, upN_n _ _ _ _ e, upN_n _ _ _ _ e, upN_n _ _ _ _ e, u1 (3 + k) (by omega) (by omega) (by omega), u1 (10 + k) (by omega) (by omega) (by omega)]
      exact hl k (by omega)
  · rw [u1 1 (by omega) (by omega) (by omega)] at hr9
    rw [u1 (24 + r) (by omega) (by omega) (by omega), u1 (36 + r) (by omega) (by omega) (by omega), u1 (48 + r) (by omega) (by omega) (by omega), u1 (60 + r) (by omega) (by omega) (by omega)]
    exact hr r hr9
  · rw [betw_of (u1 1 (by omega) (by omega) (by omega)) h1 (fun r hr9 => ⟨u1 _ (by omega) (by omega) (by omega), u1 _ (by omega) (by omega) (by omega)⟩)]
    exact hb j hj
  · rw [u1 2 (by omega) (by omega) (by omega)] at hk
    rw [u1 (79 + k) (by omega) (by omega) (by omega), upN_n _ _ _ _ (by omega)]
    exact hp k hk
theorem CRl.person {h : Nat → Nat} {NM : Nat → Int64} {κ : kS} {x y : Nat} {v : Int64} (H : CRl h NM κ) (h0 : h 0 ≤ 7) (h1 : h 1 ≤ 12) (h2 : h 2 < 6) : CRl (upN (upN (upN h (79 + h 2) x) (85 + h 2) y) 2 (h 2 + 1)) (upN NM (7 + h 2) v) (kF (kI (kJ κ 11 (h 2) v) 12 (h 2) (nI x)) 2 (.int (nI (h 2 + 1)))) := by
  obtain ⟨e0, e1, e2, hl, hr, hb, hp⟩ := H
  have u1 : ∀ j, ¬ j = 2 → ¬ j = 79 + h 2 → ¬ j = 85 + h 2 → upN (upN (upN h (79 + h 2) x) (85 + h 2) y) 2 (h 2 + 1) j = h j := fun j a b c => by rw [upN_n _ _ _ _ a, upN_n _ _ _ _ c, upN_n _ _ _ _ b]
  refine ⟨by rw [u1 0 (by omega) (by omega) (by omega)]; exact e0, by rw [u1 1 (by omega) (by omega) (by omega)]; exact e1, rfl, fun k hk => ?_, fun r hr9 => ?_, fun j hj => ?_, fun k hk => ?_⟩
  · rw [u1 0 (by omega) (by omega) (by omega)] at hk
    rw [u1 (3 + k) (by omega) (by omega) (by omega), u1 (10 + k) (by omega) (by omega) (by omega), upN_n _ _ _ _ (by omega)]
    exact hl k hk
  · rw [u1 1 (by omega) (by omega) (by omega)] at hr9
    rw [u1 (24 + r) (by omega) (by omega) (by omega), u1 (36 + r) (by omega) (by omega) (by omega), u1 (48 + r) (by omega) (by omega) (by omega), u1 (60 + r) (by omega) (by omega) (by omega)]
    exact hr r hr9
  · rw [betw_of (u1 1 (by omega) (by omega) (by omega)) h1 (fun r hr9 => ⟨u1 _ (by omega) (by omega) (by omega), u1 _ (by omega) (by omega) (by omega)⟩)]
    exact hb j hj
  · have hk : k < h 2 + 1 := hk
    show upN (κ.2.2.1 11) (h 2) v k = upN NM (7 + h 2) v (7 + k) ∧ upN (κ.2.1 12) (h 2) _ k = _
    by_cases e : k = h 2
    · subst e
      rw [upN_s, upN_s, upN_s]
      refine ⟨rfl, ?_⟩
      rw [upN_n _ _ (79 + h 2) _ (by omega), upN_n _ _ (79 + h 2) _ (by omega), upN_s]
    · rw [upN_n _ _ _ _ e, upN_n _ _ _ _ e, upN_n _ _ _ _ (by omega), u1 (79 + k) (by omega) (by omega) (by omega)]
      exact hp k (by omega)
theorem findF_snoc {p : Nat → Bool} : ∀ (n i : Nat), findF p (n + 1) i = match findF p n i with
    | some r => some r
    | none => if p (i + n) = true then some (i + n) else none := by
  intro n
  induction n with
  | zero => intro i; rw [findF, findF, findF]; rfl
  | succ n ih =>
    intro i
    rw [findF, ih (i + 1), findF]
    by_cases h : p i = true
    · rw [if_pos h, if_pos h]
    · rw [if_neg h, if_neg h, show i + 1 + n = i + (n + 1) by omega]
theorem roadP_sym (t : Nat → Nat) (x y r : Nat) : roadP t x y r = roadP t y x r := by
  unfold roadP; exact Bool.or_comm _ _
theorem roadF_sym (t : Nat → Nat) (x y : Nat) : roadF t x y = roadF t y x := by
  unfold roadF; exact findF_congr _ _ (fun k _ _ => roadP_sym t x y k)
theorem CRl.road {h : Nat → Nat} {NM : Nat → Int64} {κ : kS} {x y u v : Nat} (H : CRl h NM κ) (h0 : h 0 ≤ 7) (h1 : h 1 < 12) (h2 : h 2 ≤ 6) (hx : x < 7) (hy : y < 7) (hxy : ¬ x = y) (hn : roadF h x y = none) : CRl (upN (upN (upN (upN (upN h (24 + h 1) x) (36 + h 1) y) (48 + h 1) u) (60 + h 1) v) 1 (h 1 + 1)) NM (kI (kI (kF (kI (kI (kI (kI κ 6 (h 1) (nI x)) 7 (h 1) (nI y)) 8 (h 1) (nI u)) 9 (h 1) (nI v)) 1 (.int (nI (h 1 + 1)))) 10 (x * 7 + y) (nI (h 1 + 1))) 10 (y * 7 + x) (nI (h 1 + 1))) := by
  obtain ⟨e0, e1, e2, hl, hr, hb, hp⟩ := H
  have u1 : ∀ j, ¬ j = 1 → ¬ j = 24 + h 1 → ¬ j = 36 + h 1 → ¬ j = 48 + h 1 → ¬ j = 60 + h 1 → upN (upN (upN (upN (upN h (24 + h 1) x) (36 + h 1) y) (48 + h 1) u) (60 + h 1) v) 1 (h 1 + 1) j = h j := fun j a b c d e => by rw [upN_n _ _ _ _ a, upN_n _ _ _ _ e, upN_n _ _ _ _ d, upN_n _ _ _ _ c, upN_n _ _ _ _ b]
  have g24 : upN (upN (upN (upN (upN h (24 + h 1) x) (36 + h 1) y) (48 + h 1) u) (60 + h 1) v) 1 (h 1 + 1) (24 + h 1) = x := by rw [upN_n _ _ _ _ (by omega), upN_n _ _ _ _ (by omega), upN_n _ _ _ _ (by omega), upN_n _ _ _ _ (by omega), upN_s]
  have g36 : upN (upN (upN (upN (upN h (24 + h 1) x) (36 + h 1) y) (48 + h 1) u) (60 + h 1) v) 1 (h 1 + 1) (36 + h 1) = y := by rw [upN_n _ _ _ _ (by omega), upN_n _ _ _ _ (by omega), upN_n _ _ _ _ (by omega), upN_s]
  have g48 : upN (upN (upN (upN (upN h (24 + h 1) x) (36 + h 1) y) (48 + h 1) u) (60 + h 1) v) 1 (h 1 + 1) (48 + h 1) = u := by rw [upN_n _ _ _ _ (by omega), upN_n _ _ _ _ (by omega), upN_s]
  have g60 : upN (upN (upN (upN (upN h (24 + h 1) x) (36 + h 1) y) (48 + h 1) u) (60 + h 1) v) 1 (h 1 + 1) (60 + h 1) = v := by rw [upN_n _ _ _ _ (by omega), upN_s]
  have g1 : upN (upN (upN (upN (upN h (24 + h 1) x) (36 + h 1) y) (48 + h 1) u) (60 + h 1) v) 1 (h 1 + 1) 1 = h 1 + 1 := upN_s _ _ _
  generalize upN (upN (upN (upN (upN h (24 + h 1) x) (36 + h 1) y) (48 + h 1) u) (60 + h 1) v) 1 (h 1 + 1) = w at *
  have hrf : ∀ p q, roadF w p q = match roadF h p q with
      | some r => some r
      | none => if (p = x ∧ q = y) ∨ (p = y ∧ q = x) then some (h 1) else none := by
    intro p q
    unfold roadF
    rw [g1, findF_snoc]
    have e : findF (roadP w p q) (h 1) 0 = findF (roadP h p q) (h 1) 0 := findF_congr _ _ (fun k _ hk => by unfold roadP; rw [u1 (24 + k) (by omega) (by omega) (by omega) (by omega) (by omega), u1 (36 + k) (by omega) (by omega) (by omega) (by omega) (by omega)])
    rw [e]
    cases findF (roadP h p q) (h 1) 0 with
    | some r => rfl
    | none =>
      simp only [Nat.zero_add]
      unfold roadP
      rw [g24, g36]
      by_cases c1 : (p = x ∧ q = y) ∨ (p = y ∧ q = x)
      · rw [if_pos c1, if_pos]
        simp only [Bool.or_eq_true, Bool.and_eq_true, decide_eq_true_eq]
        omega
      · rw [if_neg c1, if_neg]
        simp only [Bool.or_eq_true, Bool.and_eq_true, decide_eq_true_eq]
        omega
  refine ⟨by rw [u1 0 (by omega) (by omega) (by omega) (by omega) (by omega)]; exact e0, by rw [g1]; rfl, by rw [u1 2 (by omega) (by omega) (by omega) (by omega) (by omega)]; exact e2, fun k hk => ?_, fun r hr9 => ?_, fun j hj => ?_, fun k hk => ?_⟩
  · rw [u1 0 (by omega) (by omega) (by omega) (by omega) (by omega)] at hk
    rw [u1 (3 + k) (by omega) (by omega) (by omega) (by omega) (by omega), u1 (10 + k) (by omega) (by omega) (by omega) (by omega) (by omega)]
    exact hl k hk
  · rw [g1] at hr9
    show upN (κ.2.1 6) (h 1) _ r = _ ∧ upN (κ.2.1 7) (h 1) _ r = _ ∧ upN (κ.2.1 8) (h 1) _ r = _ ∧ upN (κ.2.1 9) (h 1) _ r = _
    by_cases e : r = h 1
    · subst e
      rw [upN_s, upN_s, upN_s, upN_s, g24, g36, g48, g60]
      exact ⟨rfl, rfl, rfl, rfl⟩
    · rw [upN_n _ _ _ _ e, upN_n _ _ _ _ e, upN_n _ _ _ _ e, upN_n _ _ _ _ e, u1 (24 + r) (by omega) (by omega) (by omega) (by omega) (by omega), u1 (36 + r) (by omega) (by omega) (by omega) (by omega) (by omega), u1 (48 + r) (by omega) (by omega) (by omega) (by omega) (by omega), u1 (60 + r) (by omega) (by omega) (by omega) (by omega) (by omega)]
      exact hr r (by omega)
  · show upN (upN (κ.2.1 10) (x * 7 + y) _) (y * 7 + x) _ j = _
    have hb9 := hb j hj
    have hj2 : j = j / 7 * 7 + j % 7 := by omega
    unfold betw
    rw [hrf]
    by_cases c1 : j = y * 7 + x
    · have q1 : j / 7 = y := by omega
      have q2 : j % 7 = x := by omega
      rw [c1, upN_s, ← c1, q1, q2, roadF_sym h y x, hn, if_pos (Or.inr ⟨rfl, rfl⟩)]
    · rw [upN_n _ _ _ _ c1]
      by_cases c2 : j = x * 7 + y
      · have q1 : j / 7 = x := by omega
        have q2 : j % 7 = y := by omega
        rw [c2, upN_s, ← c2, q1, q2, hn, if_pos (Or.inl ⟨rfl, rfl⟩)]
      · rw [upN_n _ _ _ _ c2, hb9]
        unfold betw
        cases hq : roadF h (j / 7) (j % 7) with
        | some r => rfl
        | none =>
          rw [if_neg]
          rintro (⟨z1, z2⟩ | ⟨z1, z2⟩)
          · rw [z1, z2] at hj2; exact c2 hj2
          · rw [z1, z2] at hj2; exact c1 hj2
  · rw [u1 2 (by omega) (by omega) (by omega) (by omega) (by omega)] at hk
    rw [u1 (79 + k) (by omega) (by omega) (by omega) (by omega) (by omega)]
    exact hp k hk
set_option maxHeartbeats 1000000 in
set_option maxRecDepth 20000 in
theorem c3_addLand {G : xG} {d : Nat} {Q : xQ} {c : Nat → Nat} {h : Nat → Nat} {NM : Nat → Int64} {κ : kS} {R : va_W} {v : Int64} {x y : Nat} (H : CRl h NM κ) (h0 : h 0 < 7) (h1 : h 1 ≤ 12) (h2 : h 2 ≤ 6) (kk : ∀ κ9, CRl (upN (upN (upN h (3 + h 0) x) (10 + h 0) y) 0 (h 0 + 1)) (upN NM (h 0) v) κ9 → Q none (wCh G.2.2.1 c κ9 ++ R)) : MT G MX3_addLand (d) 0 0 [.ref (c 13), .long v, .int (nI x), .int (nI y)] (wCh G.2.2.1 c κ ++ R) Q := by
  refine mt_start (L := [some (.ref (c 13)), some (.long v), none, some (.int (nI x)), some (.int (nI y))]) rfl (Nat.le_of_ble_eq_true rfl) rfl ?_
  refine aw_aload_n (pc := 0) (i := 0) dX3_addLand_0 rfl rfl ?_
  refine pg_X3_9 (pc := 1) (v := .int (nI (h 0))) dX3_addLand_1 rfl H.1 ?_
  refine aw_bipush (pc := 4) dX3_addLand_4 bipush_7 ?_
  refine an_icmp_ge (pc := 6) (tgt := 50) dX3_addLand_6 rfl (by omega) (by decide) (fun h6 => ?_) (fun h6 => ?_)
  · -- 50
    exfalso; omega
  · -- 9
    refine aw_aload_n (pc := 9) (i := 0) dX3_addLand_9 rfl rfl ?_
    refine pg_X3_21 (pc := 10) dX3_addLand_10 rfl ?_
    refine aw_aload_n (pc := 13) (i := 0) dX3_addLand_13 rfl rfl ?_
    refine pg_X3_9 (pc := 14) (v := .int (nI (h 0))) dX3_addLand_14 rfl H.1 ?_
    refine aw_lload_n (pc := 17) (i := 1) dX3_addLand_17 rfl rfl ?_
    refine ps_X3_landName (pc := 18) dX3_addLand_18 (by omega) ?_
    refine aw_aload_n (pc := 19) (i := 0) dX3_addLand_19 rfl rfl ?_
    refine pg_X3_25 (pc := 20) dX3_addLand_20 rfl ?_
    refine aw_aload_n (pc := 23) (i := 0) dX3_addLand_23 rfl rfl ?_
    refine pg_X3_9 (pc := 24) (v := .int (nI (h 0))) dX3_addLand_24 rfl H.1 ?_
    refine aw_iload_n (pc := 27) (i := 3) dX3_addLand_27 rfl rfl ?_
    refine ps_X3_take (pc := 28) dX3_addLand_28 (by omega) ?_
    refine aw_aload_n (pc := 29) (i := 0) dX3_addLand_29 rfl rfl ?_
    refine pg_X3_29 (pc := 30) dX3_addLand_30 rfl ?_
    refine aw_aload_n (pc := 33) (i := 0) dX3_addLand_33 rfl rfl ?_
    refine pg_X3_9 (pc := 34) (v := .int (nI (h 0))) dX3_addLand_34 rfl H.1 ?_
    refine aw_iload (pc := 37) dX3_addLand_37 rfl ?_
    refine ps_X3_give (pc := 39) dX3_addLand_39 (by omega) ?_
    refine aw_aload_n (pc := 40) (i := 0) dX3_addLand_40 rfl rfl ?_
    refine aw_dup (pc := 41) dX3_addLand_41 rfl ?_
    refine pg_X3_9 (pc := 42) (v := .int (nI (h 0))) dX3_addLand_42 rfl H.1 ?_
    refine aw_iconst (pc := 45) dX3_addLand_45 iconst_1 ?_
    refine an_add (pc := 46) dX3_addLand_46 ?_
    refine pp_X3_9 (pc := 47) dX3_addLand_47 rfl ?_
    exact aw_vret (pc := 50) dX3_addLand_50 rfl (Nat.le_refl _) (Nat.le_refl _) (kk _ (H.land h0 h1 h2))
set_option maxHeartbeats 1000000 in
set_option maxRecDepth 20000 in
theorem c3_addRoad {G : xG} {d : Nat} {Q : xQ} {c : Nat → Nat} {h : Nat → Nat} {NM : Nat → Int64} {κ : kS} {R : va_W} {x y u v : Nat} (H : CRl h NM κ) (h0 : h 0 ≤ 7) (h1 : h 1 < 12) (h2 : h 2 ≤ 6) (hx : x < 7) (hy : y < 7) (hxy : ¬ x = y) (hn : roadF h x y = none) (kk : ∀ κ9, CRl (upN (upN (upN (upN (upN h (24 + h 1) x) (36 + h 1) y) (48 + h 1) u) (60 + h 1) v) 1 (h 1 + 1)) NM κ9 → Q none (wCh G.2.2.1 c κ9 ++ R)) : MT G MX3_addRoad (d) 0 0 [.ref (c 13), .int (nI x), .int (nI y), .int (nI u), .int (nI v)] (wCh G.2.2.1 c κ ++ R) Q := by
  refine mt_start (L := [some (.ref (c 13)), some (.int (nI x)), some (.int (nI y)), some (.int (nI u)), some (.int (nI v))]) rfl (Nat.le_of_ble_eq_true rfl) rfl ?_
  refine aw_aload_n (pc := 0) (i := 0) dX3_addRoad_0 rfl rfl ?_
  refine pg_X3_15 (pc := 1) (v := .int (nI (h 1))) dX3_addRoad_1 rfl H.2.1 ?_
  refine aw_bipush (pc := 4) dX3_addRoad_4 bipush_12 ?_
  refine an_icmp_ge (pc := 6) (tgt := 90) dX3_addRoad_6 rfl (by omega) (by decide) (fun h6 => ?_) (fun h6 => ?_)
  · -- 90
    exfalso; omega
  · -- 9
    refine aw_aload_n (pc := 9) (i := 0) dX3_addRoad_9 rfl rfl ?_
    refine pg_X3_32 (pc := 10) dX3_addRoad_10 rfl ?_
    refine aw_aload_n (pc := 13) (i := 0) dX3_addRoad_13 rfl rfl ?_
    refine pg_X3_15 (pc := 14) (v := .int (nI (h 1))) dX3_addRoad_14 rfl H.2.1 ?_
    refine aw_iload_n (pc := 17) (i := 1) dX3_addRoad_17 rfl rfl ?_
    refine ps_X3_first (pc := 18) dX3_addRoad_18 (by omega) ?_
    refine aw_aload_n (pc := 19) (i := 0) dX3_addRoad_19 rfl rfl ?_
    refine pg_X3_35 (pc := 20) dX3_addRoad_20 rfl ?_
    refine aw_aload_n (pc := 23) (i := 0) dX3_addRoad_23 rfl rfl ?_
    refine pg_X3_15 (pc := 24) (v := .int (nI (h 1))) dX3_addRoad_24 rfl H.2.1 ?_
    refine aw_iload_n (pc := 27) (i := 2) dX3_addRoad_27 rfl rfl ?_
    refine ps_X3_second (pc := 28) dX3_addRoad_28 (by omega) ?_
    refine aw_aload_n (pc := 29) (i := 0) dX3_addRoad_29 rfl rfl ?_
    refine pg_X3_38 (pc := 30) dX3_addRoad_30 rfl ?_
    refine aw_aload_n (pc := 33) (i := 0) dX3_addRoad_33 rfl rfl ?_
    refine pg_X3_15 (pc := 34) (v := .int (nI (h 1))) dX3_addRoad_34 rfl H.2.1 ?_
    refine aw_iload_n (pc := 37) (i := 3) dX3_addRoad_37 rfl rfl ?_
    refine ps_X3_low (pc := 38) dX3_addRoad_38 (by omega) ?_
    refine aw_aload_n (pc := 39) (i := 0) dX3_addRoad_39 rfl rfl ?_
    refine pg_X3_41 (pc := 40) dX3_addRoad_40 rfl ?_
    refine aw_aload_n (pc := 43) (i := 0) dX3_addRoad_43 rfl rfl ?_
    refine pg_X3_15 (pc := 44) (v := .int (nI (h 1))) dX3_addRoad_44 rfl H.2.1 ?_
    refine aw_iload (pc := 47) dX3_addRoad_47 rfl ?_
    refine ps_X3_high (pc := 49) dX3_addRoad_49 (by omega) ?_
    refine aw_aload_n (pc := 50) (i := 0) dX3_addRoad_50 rfl rfl ?_
    refine aw_dup (pc := 51) dX3_addRoad_51 rfl ?_
    refine pg_X3_15 (pc := 52) (v := .int (nI (h 1))) dX3_addRoad_52 rfl H.2.1 ?_
    refine aw_iconst (pc := 55) dX3_addRoad_55 iconst_1 ?_
    refine an_add (pc := 56) dX3_addRoad_56 ?_
    refine pp_X3_15 (pc := 57) dX3_addRoad_57 rfl ?_
    refine aw_aload_n (pc := 60) (i := 0) dX3_addRoad_60 rfl rfl ?_
    refine pg_X3_44 (pc := 61) dX3_addRoad_61 rfl ?_
    refine aw_iload_n (pc := 64) (i := 1) dX3_addRoad_64 rfl rfl ?_
    refine aw_bipush (pc := 65) dX3_addRoad_65 bipush_7 ?_
    refine an_mul (pc := 67) dX3_addRoad_67 ?_
    refine aw_iload_n (pc := 68) (i := 2) dX3_addRoad_68 rfl rfl ?_
    refine an_add (pc := 69) dX3_addRoad_69 ?_
    refine aw_aload_n (pc := 70) (i := 0) dX3_addRoad_70 rfl rfl ?_
    refine pg_X3_15 (pc := 71) (v := .int (nI ((h 1) + 1))) dX3_addRoad_71 rfl rfl ?_
    refine ps_X3_between (pc := 74) dX3_addRoad_74 (by omega) ?_
    refine aw_aload_n (pc := 75) (i := 0) dX3_addRoad_75 rfl rfl ?_
    refine pg_X3_44 (pc := 76) dX3_addRoad_76 rfl ?_
    refine aw_iload_n (pc := 79) (i := 2) dX3_addRoad_79 rfl rfl ?_
    refine aw_bipush (pc := 80) dX3_addRoad_80 bipush_7 ?_
    refine an_mul (pc := 82) dX3_addRoad_82 ?_
    refine aw_iload_n (pc := 83) (i := 1) dX3_addRoad_83 rfl rfl ?_
    refine an_add (pc := 84) dX3_addRoad_84 ?_
    refine aw_aload_n (pc := 85) (i := 0) dX3_addRoad_85 rfl rfl ?_
    refine pg_X3_15 (pc := 86) (v := .int (nI ((h 1) + 1))) dX3_addRoad_86 rfl rfl ?_
    refine ps_X3_between (pc := 89) dX3_addRoad_89 (by omega) ?_
    exact aw_vret (pc := 90) dX3_addRoad_90 rfl (Nat.le_refl _) (Nat.le_refl _) (kk _ (H.road h0 h1 h2 hx hy hxy hn))
set_option maxHeartbeats 1000000 in
set_option maxRecDepth 20000 in
theorem c3_addPerson {G : xG} {d : Nat} {Q : xQ} {c : Nat → Nat} {h : Nat → Nat} {NM : Nat → Int64} {κ : kS} {R : va_W} {v : Int64} {x : Nat} (H : CRl h NM κ) (h0 : h 0 ≤ 7) (h1 : h 1 ≤ 12) (h2 : h 2 < 6) (kk : ∀ κ9, (∀ y, CRl (upN (upN (upN h (79 + h 2) x) (85 + h 2) y) 2 (h 2 + 1)) (upN NM (7 + h 2) v) κ9) → Q none (wCh G.2.2.1 c κ9 ++ R)) : MT G MX3_addPerson (d) 0 0 [.ref (c 13), .long v, .int (nI x)] (wCh G.2.2.1 c κ ++ R) Q := by
  refine mt_start (L := [some (.ref (c 13)), some (.long v), none, some (.int (nI x))]) rfl (Nat.le_of_ble_eq_true rfl) rfl ?_
  refine aw_aload_n (pc := 0) (i := 0) dX3_addPerson_0 rfl rfl ?_
  refine pg_X3_18 (pc := 1) (v := .int (nI (h 2))) dX3_addPerson_1 rfl H.2.2.1 ?_
  refine aw_bipush (pc := 4) dX3_addPerson_4 bipush_6 ?_
  refine an_icmp_ge (pc := 6) (tgt := 39) dX3_addPerson_6 rfl (by omega) (by decide) (fun h6 => ?_) (fun h6 => ?_)
  · -- 39
    exfalso; omega
  · -- 9
    refine aw_aload_n (pc := 9) (i := 0) dX3_addPerson_9 rfl rfl ?_
    refine pg_X3_47 (pc := 10) dX3_addPerson_10 rfl ?_
    refine aw_aload_n (pc := 13) (i := 0) dX3_addPerson_13 rfl rfl ?_
    refine pg_X3_18 (pc := 14) (v := .int (nI (h 2))) dX3_addPerson_14 rfl H.2.2.1 ?_
    refine aw_lload_n (pc := 17) (i := 1) dX3_addPerson_17 rfl rfl ?_
    refine ps_X3_personName (pc := 18) dX3_addPerson_18 (by omega) ?_
    refine aw_aload_n (pc := 19) (i := 0) dX3_addPerson_19 rfl rfl ?_
    refine pg_X3_50 (pc := 20) dX3_addPerson_20 rfl ?_
    refine aw_aload_n (pc := 23) (i := 0) dX3_addPerson_23 rfl rfl ?_
    refine pg_X3_18 (pc := 24) (v := .int (nI (h 2))) dX3_addPerson_24 rfl H.2.2.1 ?_
    refine aw_iload_n (pc := 27) (i := 3) dX3_addPerson_27 rfl rfl ?_
    refine ps_X3_home (pc := 28) dX3_addPerson_28 (by omega) ?_
    refine aw_aload_n (pc := 29) (i := 0) dX3_addPerson_29 rfl rfl ?_
    refine aw_dup (pc := 30) dX3_addPerson_30 rfl ?_
    refine pg_X3_18 (pc := 31) (v := .int (nI (h 2))) dX3_addPerson_31 rfl H.2.2.1 ?_
    refine aw_iconst (pc := 34) dX3_addPerson_34 iconst_1 ?_
    refine an_add (pc := 35) dX3_addPerson_35 ?_
    refine pp_X3_18 (pc := 36) dX3_addPerson_36 rfl ?_
    exact aw_vret (pc := 39) dX3_addPerson_39 rfl (Nat.le_refl _) (Nat.le_refl _) (kk _ (fun y => H.person h0 h1 h2))
