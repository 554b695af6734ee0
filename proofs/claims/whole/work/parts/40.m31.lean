theorem go_w0 {t : Nat → Nat} {hm sp k : Nat} : ∀ (n e : Nat) (p : pS) (r : Bool × Nat × pS), goF t hm sp k n e p = some r → r.2.2.1 0 = p.1 0 := by
  intro n
  induction n with
  | zero => intro e p r h; cases h
  | succ n ih =>
    intro e p r h
    cases e with
    | zero => rw [goF] at h; cases h; rfl
    | succ d =>
      rw [goF] at h
      split at h
      · exact (ih _ _ _ h).trans rfl
      · split at h
        · split at h
          · cases h; exact upN_n p.1 (d + 1) 0 (xN p.2.2.2 d) (Nat.succ_ne_zero d).symm
          · exact (ih _ _ _ h).trans (upN_n p.1 (d + 1) 0 (xN p.2.2.2 d) (Nat.succ_ne_zero d).symm)
        · exact (ih _ _ _ h).trans rfl
def stA (k e : Nat) (x : Int32) : Prop := (e = 1 ∧ x = nI 0) ∨ (e = k ∧ x = nI k)
theorem s_goesU {G : xG} {d : Nat} {Q : xQ} {a : Nat → Nat} {σ : mS} {p : pS} {sp hm k e : Nat} {x : Int32} (hb : ∀ j, σ.2.1 6 j < 2 ^ 30) (h0 : σ.2.1 6 0 ≤ 7) (h1 : σ.2.1 6 1 ≤ 12) (hsp : sp < 2 ^ 31) (hhm : hm < 2 ^ 31) (hk5 : k ≤ 5) (hk1 : 1 ≤ k) (he : stA k e x) (hp : PO e p)
    (kF : RB (σ.2.1 6) hm sp k e p = [] → ∀ (p9 : pS) (dd9 : Int32), Q (some (.int (bI false))) (mW G.2.2.1 a (scr σ p9 dd9 sp hm)))
    (kT : ∀ u : pS, RB (σ.2.1 6) hm sp k e p = (ptF u.2.2.2 k, ndP u k) :: RB (σ.2.1 6) hm sp k k u → PO (k + 1) u → u.1 0 = p.1 0 → Q (some (.int (bI true))) (mW G.2.2.1 a (scr σ u (nI k) sp hm))) : MT G MX12_goesTo (d + 4) 0 0 [.ref (a 60), .int (nI k)] (mW G.2.2.1 a (scr σ p x sp hm)) Q := by
  have hek : e ≤ k := by rcases he with h | h <;> omega
  obtain ⟨m, r, hr⟩ := go_ex (hm := hm) (sp := sp) h0 hp hek
  have hg := go_ok h0 _ _ _ r hr hp hek
  have hw := go_w0 _ _ _ _ hr
  have kk : Q (some (.int (bI r.1))) (mW G.2.2.1 a (scr σ r.2.2 (dpI r.2.1) sp hm)) := by
    cases hb1 : r.1 with
    | false => exact kF (hg.1 hb1).1 _ _
    | true =>
      obtain ⟨g1, g2, g3⟩ := hg.2 hb1
      have := kT r.2.2 g1 g3 hw
      rw [g2, dpI_s]; exact this
  rcases he with ⟨rfl, rfl⟩ | ⟨rfl, rfl⟩
  · exact s_goes0 hb h0 h1 hsp hhm hk5 hk1 hr hp kk
  · exact s_goesK hb h0 h1 hsp hhm hk5 hr hp kk
def rdS (w0 : Nat) (m : Nat) (r : List Nat × nD) : Nat := if r.2.1 = w0 then max m (r.2.2.1 + 1) else m
def rdK (t : Nat → Nat) (q : Nat) : Nat → Nat → Nat → Nat
  | 0, _, m => m
  | n + 1, k, m => rdK t q n (k + 1) ((rwF t (t (79 + q)) (sparedF t q) k (nd0 t q)).foldl (rdS (t (108 + q))) m)
def roundA (t : Nat → Nat) (x : Int32) : Int32 := if inB (t 2) x = true then dpI (rdK t x.toNatClampNeg 5 1 0) else -1
theorem dpI_max {m v : Nat} (hm : m < 2 ^ 30) (hv : v < 2 ^ 30) : (if nI v < dpI m then dpI m else nI v) = dpI (max m (v + 1)) := by
  cases m with
  | zero =>
    rw [show dpI 0 = -1 by decide, Nat.max_eq_right (Nat.zero_le _), dpI_s, if_neg]
    intro h
    have := nI_pos (n := v) (by omega)
    exact this (Int32.lt_trans h (by decide))
  | succ m =>
    rw [dpI_s]
    by_cases h : v < m
    · rw [if_pos ((nI_ltI (by omega) (by omega)).mpr h), Nat.max_eq_left (by omega), dpI_s]
    · rw [if_neg (fun e => h ((nI_ltI (by omega) (by omega)).mp e)), show max (m + 1) (v + 1) = v + 1 by omega, dpI_s]
theorem rdF_lt {w0 : Nat} : ∀ (R : List (List Nat × nD)) (m : Nat), m ≤ 241 → (∀ r ∈ R, r.2.2.1 ≤ 240) → R.foldl (rdS w0) m ≤ 241 := by
  intro R
  induction R with
  | nil => intro m h _; exact h
  | cons r R ih =>
    intro m h hR
    rw [List.foldl_cons]
    refine ih _ ?_ (fun r9 h9 => hR r9 (List.mem_cons_of_mem _ h9))
    have := hR r List.mem_cons_self
    unfold rdS
    split <;> omega

set_option maxHeartbeats 1000000 in
set_option maxRecDepth 20000 in
theorem rd_in {G : xG} {d : Nat} {Q : xQ} {a : Nat → Nat} {σ : mS} {sp hm k q w0 : Nat} (hb : ∀ j, σ.2.1 6 j < 2 ^ 30) (h0 : σ.2.1 6 0 ≤ 7) (h1 : σ.2.1 6 1 ≤ 12) (hsp : sp < 2 ^ 31) (hhm : hm < 2 ^ 31) (hk5 : k ≤ 5) (hk1 : 1 ≤ k) (hw0 : w0 < 7) : ∀ (R : List (List Nat × nD)) (e : Nat) (x : Int32) (p : pS) (m : Nat), stA k e x → PO e p → p.1 0 = w0 → m ≤ 241 → RB (σ.2.1 6) hm sp k e p = R → ((∀ r ∈ R, r.2.2.1 ≤ 240) → ∀ (p9 : pS) (dd9 : Int32), AW G MX12_round (d + 5) 0 0 Q 66 [some (.ref (a 60)), some (.int (nI q)), some (.int (dpI (R.foldl (rdS w0) m))), some (.int (nI k))] [] (mW G.2.2.1 a (scr σ p9 dd9 sp hm)) 0 0) → AW G MX12_round (d + 5) 0 0 Q 29 [some (.ref (a 60)), some (.int (nI q)), some (.int (dpI m)), some (.int (nI k))] [] (mW G.2.2.1 a (scr σ p x sp hm)) 0 0 := by
  intro R
  induction R with
  | nil =>
    intro e x p m he hp hw hm241 hR kk
    refine aw_aload_n (pc := 29) (i := 0) dX12_round_29 rfl rfl ?_
    refine aw_iload_n (pc := 30) (i := 3) dX12_round_30 rfl rfl ?_
    refine mc_I (pc := 31) (As := [.int (nI k)]) (rest := []) dX12_round_31 rfl ok_X12_369 rfl rfl rfl (Nat.le_of_ble_eq_true rfl) (s_goesU hb h0 h1 hsp hhm hk5 hk1 he hp ?_ (fun u hu => by rw [hR] at hu; cases hu))
    · -- call
      intro _ p9 dd9
      refine ⟨_, _, rfl, rfl, ?_⟩
      refine ab_if_eq (pc := 34) (tgt := 66) dX12_round_34 rfl (fun h34 => ?_) (fun h34 => absurd h34 (by decide))
      exact kk (fun r h => absurd h List.not_mem_nil) p9 dd9
  | cons row R ih =>
    intro e x p m he hp hw hm241 hR kk
    refine aw_aload_n (pc := 29) (i := 0) dX12_round_29 rfl rfl ?_
    refine aw_iload_n (pc := 30) (i := 3) dX12_round_30 rfl rfl ?_
    refine mc_I (pc := 31) (As := [.int (nI k)]) (rest := []) dX12_round_31 rfl ok_X12_369 rfl rfl rfl (Nat.le_of_ble_eq_true rfl) (s_goesU hb h0 h1 hsp hhm hk5 hk1 he hp (fun h => by rw [hR] at h; cases h) ?_)
    · -- call
      intro u hu hpu hu0
      refine ⟨_, _, rfl, rfl, ?_⟩
      rw [hu] at hR
      injection hR with hR1 hR2
      subst hR1
      have g4 := hpu.1 k (by omega)
      rw [hw] at hu0
      refine ab_if_eq (pc := 34) (tgt := 66) dX12_round_34 rfl (fun h34 => absurd h34 (by decide)) (fun h34 => ?_)
      refine aw_aload_n (pc := 37) (i := 0) dX12_round_37 rfl rfl ?_
      refine mg_where (pc := 38) dX12_round_38 rfl ?_
      refine aw_iload_n (pc := 41) (i := 3) dX12_round_41 rfl rfl ?_
      refine ml_where (pc := 42) dX12_round_42 (by omega) ?_
      refine aw_top (y := (nI (u.1 k))) rfl ?_
      refine aw_aload_n (pc := 43) (i := 0) dX12_round_43 rfl rfl ?_
      refine mg_where (pc := 44) dX12_round_44 rfl ?_
      refine aw_iconst (pc := 47) dX12_round_47 iconst_0 ?_
      refine ml_where (pc := 48) dX12_round_48 (by decide) ?_
      refine aw_top (y := (nI (u.1 0))) rfl ?_
      refine aw_top (y := (nI w0)) (congrArg nI hu0) ?_
      refine an_icmp_ne (pc := 49) (tgt := 29) dX12_round_49 rfl (by omega) (by omega) (fun h49 => ?_) (fun h49 => ?_)
      · -- 29
        have hst : rdS w0 m (ptF u.2.2.2 k, ndP u k) = m := if_neg h49
        refine ih k (nI k) u (m) (Or.inr ⟨rfl, rfl⟩) (PO_le hpu (by omega)) hu0 (by omega) hR2 (fun hall p9 dd9 => ?_)
        have := kk (fun r hr => by rcases List.mem_cons.mp hr with h | h; (rw [h]; exact g4.2.1); exact hall r h) p9 dd9
        rw [List.foldl_cons, hst] at this
        exact this
      · -- 52
        refine aw_iload_n (pc := 52) (i := 2) dX12_round_52 rfl rfl ?_
        refine aw_aload_n (pc := 53) (i := 0) dX12_round_53 rfl rfl ?_
        refine mg_much (pc := 54) dX12_round_54 rfl ?_
        refine aw_iload_n (pc := 57) (i := 3) dX12_round_57 rfl rfl ?_
        refine ml_much (pc := 58) dX12_round_58 (by omega) ?_
        refine aw_top (y := (nI (u.2.1 k))) rfl ?_
        refine mt_I (pc := 59) (As := [.int (dpI m), .int (nI (u.2.1 k))]) (rest := []) dX12_round_59 rfl ok_X12_376 rfl rfl rfl (Nat.le_of_ble_eq_true rfl) (s_greater ⟨_, _, rfl, rfl, ?_⟩)
        refine aw_top (y := dpI (max m (u.2.1 k + 1))) (dpI_max (by omega) (by omega)) ?_
        refine aw_istore_n (pc := 62) (i := 2) dX12_round_62 rfl (Nat.le_of_ble_eq_true rfl) rfl ?_
        refine aw_goto (pc := 63) (tgt := 29) dX12_round_63 rfl ?_
        have hst : rdS w0 m (ptF u.2.2.2 k, ndP u k) = max m (u.2.1 k + 1) := if_pos h49
        refine ih k (nI k) u (max m (u.2.1 k + 1)) (Or.inr ⟨rfl, rfl⟩) (PO_le hpu (by omega)) hu0 (by omega) hR2 (fun hall p9 dd9 => ?_)
        have := kk (fun r hr => by rcases List.mem_cons.mp hr with h | h; (rw [h]; exact g4.2.1); exact hall r h) p9 dd9
        rw [List.foldl_cons, hst] at this
        exact this
set_option maxHeartbeats 1000000 in
set_option maxRecDepth 20000 in
theorem rd_out {G : xG} {d : Nat} {Q : xQ} {a : Nat → Nat} {σ : mS} {q : Nat} (hw : WT (σ.2.1 6)) (hq : q < σ.2.1 6 2) : ∀ (n k : Nat), k + n = 6 → 1 ≤ k → ∀ (p : pS) (dd : Int32) (sp hm m : Nat), m ≤ 241 → (∀ (p9 : pS) (dd9 : Int32) (sp9 hm9 : Nat), Q (some (.int (dpI (rdK (σ.2.1 6) q n k m)))) (mW G.2.2.1 a (scr σ p9 dd9 sp9 hm9))) → AW G MX12_round (d + 5) 0 0 Q 19 [some (.ref (a 60)), some (.int (nI q)), some (.int (dpI m)), some (.int (nI k))] [] (mW G.2.2.1 a (scr σ p dd sp hm)) 0 0 := by
  obtain ⟨hb, h0, h1, h2, hR, hP, hD, hC, hT⟩ := id hw
  have hh := hP q hq
  have hsp : sparedF (σ.2.1 6) q < 2 ^ 31 := sparedF_lt hb (by omega)
  intro n
  induction n with
  | zero =>
    intro k hk hk1 p dd sp hm m hm9 kk
    refine aw_iload_n (pc := 19) (i := 3) dX12_round_19 rfl rfl ?_
    refine aw_iconst (pc := 20) dX12_round_20 iconst_5 ?_
    refine an_icmp_gt (pc := 21) (tgt := 72) dX12_round_21 rfl (by omega) (by decide) (fun h21 => ?_) (fun h21 => ?_)
    · -- 72
      refine aw_iload_n (pc := 72) (i := 2) dX12_round_72 rfl rfl ?_
      exact aw_iret (pc := 73) dX12_round_73 rfl (Nat.le_refl _) (Nat.le_refl _) (kk _ _ _ _)
    · -- 24
      exfalso; omega
  | succ n ih =>
    intro k hk hk1 p dd sp hm m hm9 kk
    refine aw_iload_n (pc := 19) (i := 3) dX12_round_19 rfl rfl ?_
    refine aw_iconst (pc := 20) dX12_round_20 iconst_5 ?_
    refine an_icmp_gt (pc := 21) (tgt := 72) dX12_round_21 rfl (by omega) (by decide) (fun h21 => ?_) (fun h21 => ?_)
    · -- 72
      exfalso; omega
    · -- 24
      refine aw_aload_n (pc := 24) (i := 0) dX12_round_24 rfl rfl ?_
      refine aw_iload_n (pc := 25) (i := 1) dX12_round_25 rfl rfl ?_
      refine mc_V (pc := 26) (As := [.int (nI q)]) (rest := []) dX12_round_26 rfl ok_X12_366 rfl rfl rfl (Nat.le_of_ble_eq_true rfl) (s_starts hb (by omega) (by omega) ⟨_, rfl, rfl, ?_⟩)
      refine rd_in (w0 := σ.2.1 6 (108 + q)) hb h0 h1 hsp (by omega) (by omega) hk1 (by omega) _ 1 (nI 0) _ m (Or.inl ⟨rfl, rfl⟩) (PO_start hw hq p) rfl hm9 (RB_start p hk1) (fun hall p9 dd9 => ?_)
      refine an_inc (pc := 66) (z := 1) dX12_round_66 rfl (Nat.le_of_ble_eq_true rfl) rfl ?_
      refine aw_goto (pc := 69) (tgt := 19) dX12_round_69 rfl ?_
      exact ih (k + 1) (by omega) (by omega) p9 dd9 _ _ _ (rdF_lt _ _ hm9 hall) kk
set_option maxHeartbeats 1000000 in
set_option maxRecDepth 20000 in
theorem s_round {G : xG} {d : Nat} {Q : xQ} {a : Nat → Nat} {σ : mS} {x : Int32} (hw : WT (σ.2.1 6)) (kk : ∀ (p9 : pS) (dd9 : Int32) (sp9 hm9 : Nat), Q (some (.int (roundA (σ.2.1 6) x))) (mW G.2.2.1 a (scr (mI σ 0 (nI 0)) p9 dd9 sp9 hm9))) : MT G MX12_round (d + 6) 0 0 [.ref (a 60), .int x] (mW G.2.2.1 a σ) Q := by
  obtain ⟨hb, h0, h1, h2, hR, hP, hD, hC, hT⟩ := id hw
  refine mt_start (L := [some (.ref (a 60)), some (.int x), none, none]) rfl (Nat.le_of_ble_eq_true rfl) rfl ?_
  refine aw_aload_n (pc := 0) (i := 0) dX12_round_0 rfl rfl ?_
  refine aw_iconst (pc := 1) dX12_round_1 iconst_0 ?_
  refine mp_thrown (pc := 2) dX12_round_2 rfl ?_
  refine aw_aload_n (pc := 5) (i := 0) dX12_round_5 rfl rfl ?_
  refine aw_iload_n (pc := 6) (i := 1) dX12_round_6 rfl rfl ?_
  refine mc_I (pc := 7) (As := [.int x]) (rest := []) dX12_round_7 rfl ok_X12_302 rfl rfl rfl (Nat.le_of_ble_eq_true rfl) (s_isPerson ⟨_, _, rfl, rfl, ?_⟩)
  refine aw_top (y := bI (inB (σ.2.1 6 2) x)) rfl ?_
  refine ab_if_ne (pc := 10) (tgt := 15) dX12_round_10 rfl (fun h10 => ?_) (fun h10 => ?_)
  · -- 15
    obtain ⟨q, b_q, rfl⟩ := inB_t (by omega) h10
    have e_q := nI_clamp (n := q) (by omega)
    obtain ⟨p0, dd0, sp0, hm0, hsc⟩ := scr_at (mI σ 0 (nI 0))
    refine aw_ws (w9 := mW G.2.2.1 a (scr (mI σ 0 (nI 0)) p0 dd0 sp0 hm0)) (congrArg (mW G.2.2.1 a) hsc) ?_
    simp only [roundA, h10, e_q, Bool.true_and, Bool.and_true, Bool.false_and, Bool.and_false, Bool.not_true, Bool.not_false, Bool.or_true, Bool.or_false, Bool.true_or, Bool.false_or, Bool.false_eq_true, Bool.true_eq_false, if_true, if_false, ite_true, ite_false, reduceIte, reduceCtorEq] at kk
    refine aw_iconst (pc := 15) dX12_round_15 iconst_m1 ?_
    refine aw_istore_n (pc := 16) (i := 2) dX12_round_16 rfl (Nat.le_of_ble_eq_true rfl) rfl ?_
    refine aw_iconst (pc := 17) dX12_round_17 iconst_1 ?_
    refine aw_istore_n (pc := 18) (i := 3) dX12_round_18 rfl (Nat.le_of_ble_eq_true rfl) rfl ?_
    exact rd_out (σ := mI σ 0 (nI 0)) hw (by assumption) 5 1 rfl (by decide) p0 dd0 sp0 hm0 0 (by decide) kk
  · -- 13
    refine aw_iconst (pc := 13) dX12_round_13 iconst_m1 ?_
    refine aw_iret (pc := 14) dX12_round_14 rfl (Nat.le_refl _) (Nat.le_refl _) ?_
    obtain ⟨p0, dd0, sp0, hm0, hsc⟩ := scr_at (mI σ 0 (nI 0))
    simp only [roundA, h10, Bool.true_and, Bool.and_true, Bool.false_and, Bool.and_false, Bool.not_true, Bool.not_false, Bool.or_true, Bool.or_false, Bool.true_or, Bool.false_or, Bool.false_eq_true, Bool.true_eq_false, if_true, if_false, ite_true, ite_false, reduceIte, reduceCtorEq] at kk
    have := kk p0 dd0 sp0 hm0
    rw [← hsc] at this
    exact this
