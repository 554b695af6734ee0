set_option maxHeartbeats 1000000 in
set_option maxRecDepth 20000 in
theorem goes_step {G : xG} {d : Nat} {Q : xQ} {a : Nat → Nat} {σ : mS} {sp hm k f x : Nat} {p : pS} (hb : ∀ j, σ.2.1 6 j < 2 ^ 30) (h0 : σ.2.1 6 0 ≤ 7) (h1 : σ.2.1 6 1 ≤ 12) (hsp : sp < 2 ^ 31) (hhm : hm < 2 ^ 31) (hk5 : k ≤ 5) (hf : f + 1 ≤ k) (q1 : p.1 f < 7) (q2 : p.2.1 f ≤ 240) (q3 : p.2.2.1 f < 2 ^ 30) (q4 : p.2.2.2 f + nI 1 = nI x) (q5 : x ≤ 7) (kp : σ.2.1 6 0 ≤ x → AW G MX12_goesTo (d + 4) 0 0 Q 18 [some (.ref (a 60)), some (.int (nI k))] [] (mW G.2.2.1 a (scr σ (setX p f (nI x)) (dpI f) sp hm)) 0 0) (ks : x < σ.2.1 6 0 → ¬ whyBy (σ.2.1 6) (p.1 f) x (p.2.1 f) sp = 0 → AW G MX12_goesTo (d + 4) 0 0 Q 18 [some (.ref (a 60)), some (.int (nI k))] [] (mW G.2.2.1 a (scr σ (setX p f (nI x)) (nI f) sp hm)) 0 0) (ku : x < σ.2.1 6 0 → whyBy (σ.2.1 6) (p.1 f) x (p.2.1 f) sp = 0 → ¬ f + 1 = k → AW G MX12_goesTo (d + 4) 0 0 Q 18 [some (.ref (a 60)), some (.int (nI k))] [] (mW G.2.2.1 a (scr σ (pushP (σ.2.1 6) hm sp f x (setX p f (nI x))) (nI (f + 1)) sp hm)) 0 0) (kf : x < σ.2.1 6 0 → whyBy (σ.2.1 6) (p.1 f) x (p.2.1 f) sp = 0 → f + 1 = k → Q (some (.int (bI true))) (mW G.2.2.1 a (scr σ (pushP (σ.2.1 6) hm sp f x (setX p f (nI x))) (nI (f + 1)) sp hm))) : AW G MX12_goesTo (d + 4) 0 0 Q 18 [some (.ref (a 60)), some (.int (nI k))] [] (mW G.2.2.1 a (scr σ p (nI f) sp hm)) 0 0 := by
  refine aw_aload_n (pc := 18) (i := 0) dX12_goesTo_18 rfl rfl ?_
  refine mg_depth (pc := 19) dX12_goesTo_19 rfl ?_
  refine aw_top (y := (nI f)) rfl ?_
  refine an_if_lt (pc := 22) (tgt := 103) dX12_goesTo_22 rfl (by omega) ?_
  refine aw_aload_n (pc := 25) (i := 0) dX12_goesTo_25 rfl rfl ?_
  refine mg_step (pc := 26) dX12_goesTo_26 rfl ?_
  refine aw_aload_n (pc := 29) (i := 0) dX12_goesTo_29 rfl rfl ?_
  refine mg_depth (pc := 30) dX12_goesTo_30 rfl ?_
  refine aw_top (y := (nI f)) rfl ?_
  refine aw_dup2 (pc := 33) dX12_goesTo_33 rfl rfl ?_
  refine ml_step (pc := 34) dX12_goesTo_34 (by omega) ?_
  refine aw_top (y := (p.2.2.2 f)) rfl ?_
  refine aw_iconst (pc := 35) dX12_goesTo_35 iconst_1 ?_
  refine aw_iadd (pc := 36) dX12_goesTo_36 ?_
  refine aw_top (y := (nI x)) q4 ?_
  refine ms_step (pc := 37) dX12_goesTo_37 (by omega) ?_
  refine aw_aload_n (pc := 38) (i := 0) dX12_goesTo_38 rfl rfl ?_
  refine mg_step (pc := 39) dX12_goesTo_39 rfl ?_
  refine aw_aload_n (pc := 42) (i := 0) dX12_goesTo_42 rfl rfl ?_
  refine mg_depth (pc := 43) dX12_goesTo_43 rfl ?_
  refine aw_top (y := (nI f)) rfl ?_
  refine ml_step (pc := 46) dX12_goesTo_46 (by omega) ?_
  refine aw_top (y := (nI x)) (upN_s _ _ _) ?_
  refine aw_top (y := (nI x)) rfl ?_
  refine aw_aload_n (pc := 47) (i := 0) dX12_goesTo_47 rfl rfl ?_
  refine mg_s (pc := 48) dX12_goesTo_48 rfl ?_
  refine aw_iconst (pc := 51) dX12_goesTo_51 iconst_0 ?_
  refine ml_s (pc := 52) dX12_goesTo_52 (by decide) ?_
  refine aw_top (y := (nI (σ.2.1 6 0))) rfl ?_
  refine an_icmp_lt (pc := 53) (tgt := 69) dX12_goesTo_53 rfl (by omega) (Nat.lt_trans (hb _) (by decide)) (fun h53 => ?_) (fun h53 => ?_)
  · -- 69
    refine aw_aload_n (pc := 69) (i := 0) dX12_goesTo_69 rfl rfl ?_
    refine aw_aload_n (pc := 70) (i := 0) dX12_goesTo_70 rfl rfl ?_
    refine mg_depth (pc := 71) dX12_goesTo_71 rfl ?_
    refine aw_top (y := (nI f)) rfl ?_
    refine mc_I (pc := 74) (As := [.int (nI f)]) (rest := []) dX12_goesTo_74 rfl ok_X12_363 rfl rfl rfl (Nat.le_of_ble_eq_true rfl) (s_steps (p := (setX p f (nI x))) (x := x) hb h1 hsp (by omega) (by omega) q1 q2 q3 hhm (upN_s _ _ _) (fun hwb => ⟨_, _, rfl, rfl, ?_⟩) (fun hwb => ⟨_, _, rfl, rfl, ?_⟩))
    · -- call
      refine ab_if_ne (pc := 77) (tgt := 83) dX12_goesTo_77 rfl (fun h77 => ?_) (fun h77 => absurd h77 (by decide))
      refine aw_aload_n (pc := 83) (i := 0) dX12_goesTo_83 rfl rfl ?_
      refine aw_dup (pc := 84) dX12_goesTo_84 rfl ?_
      refine mg_depth (pc := 85) dX12_goesTo_85 rfl ?_
      refine aw_top (y := (nI f)) rfl ?_
      refine aw_iconst (pc := 88) dX12_goesTo_88 iconst_1 ?_
      refine an_add (pc := 89) dX12_goesTo_89 ?_
      refine mp_depth (pc := 90) dX12_goesTo_90 rfl ?_
      refine aw_aload_n (pc := 93) (i := 0) dX12_goesTo_93 rfl rfl ?_
      refine mg_depth (pc := 94) dX12_goesTo_94 rfl ?_
      refine aw_top (y := nI (f + 1)) rfl ?_
      refine aw_iload_n (pc := 97) (i := 1) dX12_goesTo_97 rfl rfl ?_
      refine an_icmp_ne (pc := 98) (tgt := 18) dX12_goesTo_98 rfl (by omega) (by omega) (fun h98 => ?_) (fun h98 => ?_)
      · -- 18
        exact ku h53 hwb h98
      · -- 101
        refine aw_iconst (pc := 101) dX12_goesTo_101 iconst_1 ?_
        exact ab_ret1 (pc := 102) dX12_goesTo_102 rfl (Nat.le_refl _) (Nat.le_refl _) (kf h53 hwb h98)
    · -- call
      refine ab_if_ne (pc := 77) (tgt := 83) dX12_goesTo_77 rfl (fun h77 => absurd h77 (by decide)) (fun h77 => ?_)
      refine aw_goto (pc := 80) (tgt := 18) dX12_goesTo_80 rfl ?_
      exact ks h53 (Nat.ne_of_gt hwb)
  · -- 56
    refine aw_aload_n (pc := 56) (i := 0) dX12_goesTo_56 rfl rfl ?_
    refine aw_dup (pc := 57) dX12_goesTo_57 rfl ?_
    refine mg_depth (pc := 58) dX12_goesTo_58 rfl ?_
    refine aw_top (y := (nI f)) rfl ?_
    refine aw_iconst (pc := 61) dX12_goesTo_61 iconst_1 ?_
    refine aw_isub (pc := 62) dX12_goesTo_62 ?_
    refine aw_top (y := (dpI f)) (dpI_sub f) ?_
    refine mp_depth (pc := 63) dX12_goesTo_63 rfl ?_
    refine aw_goto (pc := 66) (tgt := 18) dX12_goesTo_66 rfl ?_
    exact kp h53
theorem dpI_0 : dpI 0 = -1 := by decide
set_option maxHeartbeats 1000000 in
set_option maxRecDepth 20000 in
theorem goes_none {G : xG} {d : Nat} {Q : xQ} {a : Nat → Nat} {σ : mS} {sp hm k : Nat} {p : pS} (kk : Q (some (.int (bI false))) (mW G.2.2.1 a (scr σ p (-1) sp hm))) : AW G MX12_goesTo (d + 4) 0 0 Q 18 [some (.ref (a 60)), some (.int (nI k))] [] (mW G.2.2.1 a (scr σ p (-1) sp hm)) 0 0 := by
  refine aw_aload_n (pc := 18) (i := 0) dX12_goesTo_18 rfl rfl ?_
  refine mg_depth (pc := 19) dX12_goesTo_19 rfl ?_
  refine aw_top (y := (-1)) rfl ?_
  refine an_ifm_lt (pc := 22) (tgt := 103) dX12_goesTo_22 rfl ?_
  refine aw_iconst (pc := 103) dX12_goesTo_103 iconst_0 ?_
  exact ab_ret0 (pc := 104) dX12_goesTo_104 rfl (Nat.le_refl _) (Nat.le_refl _) (kk)
set_option maxHeartbeats 1000000 in
set_option maxRecDepth 20000 in
theorem goes_loop {G : xG} {d : Nat} {Q : xQ} {a : Nat → Nat} {σ : mS} {sp hm k : Nat} {r : Bool × Nat × pS} (hb : ∀ j, σ.2.1 6 j < 2 ^ 30) (h0 : σ.2.1 6 0 ≤ 7) (h1 : σ.2.1 6 1 ≤ 12) (hsp : sp < 2 ^ 31) (hhm : hm < 2 ^ 31) (hk5 : k ≤ 5) (kk : Q (some (.int (bI r.1))) (mW G.2.2.1 a (scr σ r.2.2 (dpI r.2.1) sp hm))) : ∀ (n e : Nat) (p : pS), goF (σ.2.1 6) hm sp k n e p = some r → PO e p → e ≤ k → AW G MX12_goesTo (d + 4) 0 0 Q 18 [some (.ref (a 60)), some (.int (nI k))] [] (mW G.2.2.1 a (scr σ p (dpI e) sp hm)) 0 0 := by
  intro n
  induction n with
  | zero => intro e p h; exact absurd h (by simp [goF])
  | succ n ih =>
    intro e p hr hp he
    cases e with
    | zero =>
      rw [dpI_0]
      rw [goF] at hr
      injection hr with hr
      subst hr
      exact goes_none (by rw [← dpI_0]; exact kk)
    | succ f =>
      rw [dpI_s]
      obtain ⟨q1, q2, q3, q4, q5⟩ := hp.1 f (by omega)
      rw [goF] at hr
      have hS := fun h6 : xN p.2.2.2 f ≤ 6 => PO_set (e := 0) hp h6
      have hO : PO f (setX p f (nI (xN p.2.2.2 f))) := PO_pop hp
      have hX : xN p.2.2.2 f ≤ 6 → 1 ≤ xN (setX p f (nI (xN p.2.2.2 f))).2.2.2 f := fun h6 => by show 1 ≤ xN (upN p.2.2.2 f _) f; rw [xN_v (by omega)]; omega
      generalize xN p.2.2.2 f = x at *
      refine goes_step hb h0 h1 hsp hhm hk5 he q1 q2 q3 q4 q5 (fun c1 => ?_) (fun c1 c2 => ?_) (fun c1 c2 c3 => ?_) (fun c1 c2 c3 => ?_)
      · rw [if_pos c1] at hr
        exact ih _ _ hr hO (by omega)
      · rw [if_neg (Nat.not_le.mpr c1), if_neg c2] at hr
        rw [← dpI_s f]
        exact ih _ _ hr (hS (by omega)) he
      · rw [if_neg (Nat.not_le.mpr c1), if_pos c2, if_neg c3] at hr
        rw [← dpI_s (f + 1)]
        exact ih _ _ hr (PO_push (hS (by omega)) (by omega) (hX (by omega))) (by omega)
      · rw [if_neg (Nat.not_le.mpr c1), if_pos c2, if_pos c3] at hr
        injection hr with hr
        subst hr
        rw [← dpI_s (f + 1)]
        exact kk
set_option maxHeartbeats 1000000 in
set_option maxRecDepth 20000 in
theorem s_goes0 {G : xG} {d : Nat} {Q : xQ} {a : Nat → Nat} {σ : mS} {p : pS} {sp hm k n : Nat} {r : Bool × Nat × pS} (hb : ∀ j, σ.2.1 6 j < 2 ^ 30) (h0 : σ.2.1 6 0 ≤ 7) (h1 : σ.2.1 6 1 ≤ 12) (hsp : sp < 2 ^ 31) (hhm : hm < 2 ^ 31) (hk5 : k ≤ 5) (hk1 : 1 ≤ k) (hr : goF (σ.2.1 6) hm sp k n 1 p = some r) (hp : PO 1 p) (kk : Q (some (.int (bI r.1))) (mW G.2.2.1 a (scr σ r.2.2 (dpI r.2.1) sp hm))) : MT G MX12_goesTo (d + 4) 0 0 [.ref (a 60), .int (nI k)] (mW G.2.2.1 a (scr σ p (nI 0) sp hm)) Q := by
  refine mt_start (L := [some (.ref (a 60)), some (.int (nI k))]) rfl (Nat.le_of_ble_eq_true rfl) rfl ?_
  refine aw_aload_n (pc := 0) (i := 0) dX12_goesTo_0 rfl rfl ?_
  refine mg_depth (pc := 1) dX12_goesTo_1 rfl ?_
  refine aw_top (y := (nI 0)) rfl ?_
  refine aw_iload_n (pc := 4) (i := 1) dX12_goesTo_4 rfl rfl ?_
  refine an_icmp_ne (pc := 5) (tgt := 18) dX12_goesTo_5 rfl (by decide) (by omega) (fun h5 => ?_) (fun h5 => ?_)
  · -- 18
    refine aw_ws (w9 := mW G.2.2.1 a (scr σ p (dpI 1) sp hm)) (congrArg (fun z => mW G.2.2.1 a (scr σ p z sp hm)) (dpI_s 0).symm) ?_
    exact goes_loop hb h0 h1 hsp hhm hk5 kk n 1 p hr hp hk1
  · -- 8
    exfalso; omega
set_option maxHeartbeats 1000000 in
set_option maxRecDepth 20000 in
theorem s_goesK {G : xG} {d : Nat} {Q : xQ} {a : Nat → Nat} {σ : mS} {p : pS} {sp hm k n : Nat} {r : Bool × Nat × pS} (hb : ∀ j, σ.2.1 6 j < 2 ^ 30) (h0 : σ.2.1 6 0 ≤ 7) (h1 : σ.2.1 6 1 ≤ 12) (hsp : sp < 2 ^ 31) (hhm : hm < 2 ^ 31) (hk5 : k ≤ 5) (hr : goF (σ.2.1 6) hm sp k n k p = some r) (hp : PO k p) (kk : Q (some (.int (bI r.1))) (mW G.2.2.1 a (scr σ r.2.2 (dpI r.2.1) sp hm))) : MT G MX12_goesTo (d + 4) 0 0 [.ref (a 60), .int (nI k)] (mW G.2.2.1 a (scr σ p (nI k) sp hm)) Q := by
  refine mt_start (L := [some (.ref (a 60)), some (.int (nI k))]) rfl (Nat.le_of_ble_eq_true rfl) rfl ?_
  refine aw_aload_n (pc := 0) (i := 0) dX12_goesTo_0 rfl rfl ?_
  refine mg_depth (pc := 1) dX12_goesTo_1 rfl ?_
  refine aw_top (y := (nI k)) rfl ?_
  refine aw_iload_n (pc := 4) (i := 1) dX12_goesTo_4 rfl rfl ?_
  refine an_icmp_ne (pc := 5) (tgt := 18) dX12_goesTo_5 rfl (by omega) (by omega) (fun h5 => ?_) (fun h5 => ?_)
  · -- 18
    exact absurd rfl h5
  · -- 8
    refine aw_aload_n (pc := 8) (i := 0) dX12_goesTo_8 rfl rfl ?_
    refine aw_dup (pc := 9) dX12_goesTo_9 rfl ?_
    refine mg_depth (pc := 10) dX12_goesTo_10 rfl ?_
    refine aw_top (y := (nI k)) rfl ?_
    refine aw_iconst (pc := 13) dX12_goesTo_13 iconst_1 ?_
    refine aw_isub (pc := 14) dX12_goesTo_14 ?_
    refine aw_top (y := (dpI k)) (dpI_sub k) ?_
    refine mp_depth (pc := 15) dX12_goesTo_15 rfl ?_
    refine aw_ws (w9 := mW G.2.2.1 a (scr σ p (dpI k) sp hm)) rfl ?_
    exact goes_loop hb h0 h1 hsp hhm hk5 kk n k p hr hp (Nat.le_refl _)
/-- rows of crossings, land by land: the lands, and where, how long, the store behind -/
abbrev nD : Type := Nat × Nat × Nat
def stN (t : Nat → Nat) (hm sp : Nat) (v : nD) (x : Nat) : Option nD := if whyBy t v.1 x v.2.1 sp = 0 then some (x, v.2.1 + nGv t hm x v.2.1 v.2.2 - nTl t sp x, v.2.2 - nGv t hm x v.2.1 v.2.2) else none
def brF (f : nD → List (List Nat × nD)) (t : Nat → Nat) (hm sp : Nat) (v : nD) (x : Nat) : List (List Nat × nD) := match stN t hm sp v x with
  | none => []
  | some u => (f u).map (fun r => (x :: r.1, r.2))
def rwG (f : nD → List (List Nat × nD)) (t : Nat → Nat) (hm sp : Nat) (v : nD) : Nat → Nat → List (List Nat × nD)
  | 0, _ => []
  | n + 1, x => brF f t hm sp v x ++ rwG f t hm sp v n (x + 1)
def rwF (t : Nat → Nat) (hm sp : Nat) : Nat → nD → List (List Nat × nD)
  | 0, v => [([], v)]
  | j + 1, v => rwG (rwF t hm sp j) t hm sp v (t 0) 0
def ndP (p : pS) (i : Nat) : nD := (p.1 i, p.2.1 i, p.2.2.1 i)
def ptF (τ : Nat → Int32) : Nat → List Nat
  | 0 => []
  | d + 1 => ptF τ d ++ [xN τ d - 1]
def RB (t : Nat → Nat) (hm sp k : Nat) : Nat → pS → List (List Nat × nD)
  | 0, _ => []
  | d + 1, p => (rwG (rwF t hm sp (k - d - 1)) t hm sp (ndP p d) (t 0 - xN p.2.2.2 d) (xN p.2.2.2 d)).map (fun r => (ptF p.2.2.2 d ++ r.1, r.2)) ++ RB t hm sp k d p
def AG (e : Nat) (p p' : pS) : Prop := ∀ i, i < e → p.1 i = p'.1 i ∧ p.2.1 i = p'.2.1 i ∧ p.2.2.1 i = p'.2.2.1 i ∧ xN p.2.2.2 i = xN p'.2.2.2 i
theorem ptF_cong {τ τ' : Nat → Int32} : ∀ d, (∀ i, i < d → xN τ i = xN τ' i) → ptF τ d = ptF τ' d := by
  intro d
  induction d with
  | zero => intro _; rfl
  | succ d ih => intro h; unfold ptF; rw [ih (fun i hi => h i (by omega)), h d (by omega)]
theorem RB_cong {t : Nat → Nat} {hm sp k : Nat} {p p' : pS} : ∀ e, AG e p p' → RB t hm sp k e p = RB t hm sp k e p' := by
  intro e
  induction e with
  | zero => intro _; rfl
  | succ d ih =>
    intro h
    obtain ⟨h1, h2, h3, h4⟩ := h d (by omega)
    unfold RB
    rw [ih (fun i hi => h i (by omega)), ptF_cong d (fun i hi => (h i (by omega)).2.2.2)]
    unfold ndP
    rw [h1, h2, h3, h4]
theorem AG_set {p : pS} {d : Nat} {v : Int32} : AG d p (setX p d v) := fun i hi => ⟨rfl, rfl, rfl, (xN_o (by omega)).symm⟩
theorem AG_push {t : Nat → Nat} {hm sp d x : Nat} {p : pS} : AG (d + 1) p (pushP t hm sp d x p) := fun i hi => ⟨(upN_n _ _ _ _ (by omega)).symm, (upN_n _ _ _ _ (by omega)).symm, (upN_n _ _ _ _ (by omega)).symm, (xN_o (by omega)).symm⟩
theorem ndP_push {t : Nat → Nat} {hm sp d x : Nat} {p : pS} (h : whyBy t (p.1 d) x (p.2.1 d) sp = 0) : stN t hm sp (ndP p d) x = some (ndP (pushP t hm sp d x p) (d + 1)) := by
  unfold stN
  rw [if_pos (show whyBy t (ndP p d).1 x (ndP p d).2.1 sp = 0 from h)]
  unfold ndP pushP
  simp only [upN_s]
theorem brF_some {f : nD → List (List Nat × nD)} {t : Nat → Nat} {hm sp : Nat} {v u : nD} {x : Nat} (h : stN t hm sp v x = some u) : brF f t hm sp v x = (f u).map (fun r => (x :: r.1, r.2)) := by unfold brF; rw [h]
theorem brF_none {f : nD → List (List Nat × nD)} {t : Nat → Nat} {hm sp : Nat} {v : nD} {x : Nat} (h : ¬ whyBy t v.1 x v.2.1 sp = 0) : brF f t hm sp v x = [] := by unfold brF stN; rw [if_neg h]
theorem rwG_cut (f : nD → List (List Nat × nD)) (t : Nat → Nat) (hm sp : Nat) (v : nD) {x : Nat} (h : x < t 0) : rwG f t hm sp v (t 0 - x) x = brF f t hm sp v x ++ rwG f t hm sp v (t 0 - (x + 1)) (x + 1) := by
  rw [show t 0 - x = (t 0 - (x + 1)) + 1 by omega, rwG]
theorem go_ok {t : Nat → Nat} {hm sp k : Nat} (h0 : t 0 ≤ 7) : ∀ (n e : Nat) (p : pS) (r : Bool × Nat × pS), goF t hm sp k n e p = some r → PO e p → e ≤ k → (r.1 = false → RB t hm sp k e p = [] ∧ r.2.1 = 0) ∧ (r.1 = true → RB t hm sp k e p = (ptF r.2.2.2.2.2 k, ndP r.2.2 k) :: RB t hm sp k k r.2.2 ∧ r.2.1 = k + 1 ∧ PO (k + 1) r.2.2) := by
  intro n
  induction n with
  | zero => intro e p r h; exact absurd h (by simp [goF])
  | succ n ih =>
    intro e p r hr hp he
    cases e with
    | zero =>
      rw [goF] at hr
      injection hr with hr
      subst hr
      exact ⟨fun _ => ⟨rfl, rfl⟩, fun h => absurd h (by simp)⟩
    | succ d =>
      obtain ⟨q1, q2, q3, q4, q5⟩ := hp.1 d (by omega)
      rw [goF] at hr
      have ex : ∀ v : Int32, RB t hm sp k d (setX p d v) = RB t hm sp k d p := fun v => (RB_cong d AG_set).symm
      split at hr
      · rename_i h1
        have e1 : RB t hm sp k (d + 1) p = RB t hm sp k d (setX p d (nI (xN p.2.2.2 d))) := by
          rw [ex, RB, show t 0 - xN p.2.2.2 d = 0 by omega, rwG]
          rfl
        rw [e1]
        exact ih d _ r hr (PO_pop hp) (by omega)
      · rename_i h1
        have hx1 : xN (setX p d (nI (xN p.2.2.2 d))).2.2.2 d = xN p.2.2.2 d + 1 := xN_v (by omega)
        have hpt : ptF (setX p d (nI (xN p.2.2.2 d))).2.2.2 d = ptF p.2.2.2 d := ptF_cong d (fun i hi => xN_o (by omega))
        have hP1 := PO_set (e := 0) hp (by omega)
        have hRB : RB t hm sp k (d + 1) p = (brF (rwF t hm sp (k - d - 1)) t hm sp (ndP p d) (xN p.2.2.2 d)).map (fun r => (ptF p.2.2.2 d ++ r.1, r.2)) ++ RB t hm sp k (d + 1) (setX p d (nI (xN p.2.2.2 d))) := by
          rw [RB, rwG_cut _ _ _ _ _ (by omega), List.map_append, List.append_assoc, RB, hx1, hpt, ex]
          rfl
        split at hr
        · rename_i h2
          have hst := ndP_push (t := t) (hm := hm) (sp := sp) (d := d) (x := xN p.2.2.2 d) (p := setX p d (nI (xN p.2.2.2 d))) h2
          have hst' : stN t hm sp (ndP p d) (xN p.2.2.2 d) = some (ndP (pushP t hm sp d (xN p.2.2.2 d) (setX p d (nI (xN p.2.2.2 d)))) (d + 1)) := hst
          have hP2 := PO_push (t := t) (hm := hm) (sp := sp) (x := xN p.2.2.2 d) hP1 (by omega) (by rw [hx1]; omega)
          have hA := AG_push (t := t) (hm := hm) (sp := sp) (d := d) (x := xN p.2.2.2 d) (p := setX p d (nI (xN p.2.2.2 d)))
          have hx2 : xN (pushP t hm sp d (xN p.2.2.2 d) (setX p d (nI (xN p.2.2.2 d)))).2.2.2 d = xN p.2.2.2 d + 1 := (hA d (by omega)).2.2.2.symm.trans hx1
          have hx3 : xN (pushP t hm sp d (xN p.2.2.2 d) (setX p d (nI (xN p.2.2.2 d)))).2.2.2 (d + 1) = 0 := xN_m _ _
          have hpt2 : ptF (pushP t hm sp d (xN p.2.2.2 d) (setX p d (nI (xN p.2.2.2 d)))).2.2.2 d = ptF p.2.2.2 d := (ptF_cong d (fun i hi => (hA i (by omega)).2.2.2)).symm.trans hpt
          rw [RB_cong _ hA] at hRB
          generalize pushP t hm sp d (xN p.2.2.2 d) (setX p d (nI (xN p.2.2.2 d))) = u at *
          split at hr
          · rename_i h3
            injection hr with hr
            subst hr
            refine ⟨fun h => absurd h (by simp), fun _ => ?_⟩
            subst h3
            refine ⟨?_, rfl, hP2⟩
            rw [hRB]
            rw [brF_some hst', show d + 1 - d - 1 = 0 by omega]
            show (ptF p.2.2.2 d ++ [xN p.2.2.2 d], ndP u (d + 1)) :: RB t hm sp (d + 1) (d + 1) u = _
            rw [ptF, hpt2, hx2, Nat.add_sub_cancel]
          · rename_i h3
            have := ih (d + 2) u r hr hP2 (by omega)
            have e2 : RB t hm sp k (d + 1) p = RB t hm sp k (d + 2) u := by
              rw [hRB, RB]
              congr 1
              rw [brF_some hst', hx3, show k - d - 1 = (k - (d + 1) - 1) + 1 by omega, rwF, Nat.sub_zero, ptF, hpt2, hx2, Nat.add_sub_cancel]
              simp [List.map_map, Function.comp_def]
            rw [e2]
            exact this
        · rename_i h2
          have e2 : RB t hm sp k (d + 1) p = RB t hm sp k (d + 1) (setX p d (nI (xN p.2.2.2 d))) := by
            rw [hRB, brF_none (show ¬ whyBy t (ndP p d).1 (xN p.2.2.2 d) (ndP p d).2.1 sp = 0 from h2)]
            rfl
          rw [e2]
          exact ih (d + 1) _ r hr hP1 he
def muF (k : Nat) : Nat → pS → Nat
  | 0, _ => 0
  | d + 1, p => (9 - xN p.2.2.2 d) * 10 ^ (k - d) + muF k d p
theorem muF_cong {k : Nat} {p p' : pS} : ∀ e, (∀ i, i < e → xN p.2.2.2 i = xN p'.2.2.2 i) → muF k e p = muF k e p' := by
  intro e
  induction e with
  | zero => intro _; rfl
  | succ d ih => intro h; unfold muF; rw [ih (fun i hi => h i (by omega)), h d (by omega)]
theorem go_end {t : Nat → Nat} {hm sp k : Nat} (h0 : t 0 ≤ 7) : ∀ (m e : Nat) (p : pS), muF k e p < m → PO e p → e ≤ k → ∃ n r, goF t hm sp k n e p = some r := by
  intro m
  induction m with
  | zero => intro e p h; exact absurd h (Nat.not_lt_zero _)
  | succ m ih =>
    intro e p hm9 hp he
    cases e with
    | zero => exact ⟨1, _, rfl⟩
    | succ d =>
      obtain ⟨q1, q2, q3, q4, q5⟩ := hp.1 d (by omega)
      have hpw : 1 ≤ 10 ^ (k - d) := Nat.one_le_pow _ _ (by decide)
      have hx1 : xN (setX p d (nI (xN p.2.2.2 d))).2.2.2 d = xN p.2.2.2 d + 1 := xN_v (by omega)
      have ed : ∀ v : Int32, muF k d (setX p d v) = muF k d p := fun v => muF_cong d (fun i hi => xN_o (by omega))
      have e1 : muF k (d + 1) p = (9 - xN p.2.2.2 d) * 10 ^ (k - d) + muF k d p := rfl
      have e2 : (9 - xN p.2.2.2 d) * 10 ^ (k - d) = (9 - (xN p.2.2.2 d + 1)) * 10 ^ (k - d) + 10 ^ (k - d) := by
        rw [show 9 - xN p.2.2.2 d = (9 - (xN p.2.2.2 d + 1)) + 1 by omega, Nat.add_mul, Nat.one_mul]
      by_cases h1 : t 0 ≤ xN p.2.2.2 d
      · obtain ⟨n, r, hr⟩ := ih d (setX p d (nI (xN p.2.2.2 d))) (by rw [ed]; omega) (PO_pop hp) (by omega)
        exact ⟨n + 1, r, by rw [goF, if_pos h1]; exact hr⟩
      · have hP1 := PO_set (e := 0) hp (by omega)
        have e3 : muF k (d + 1) (setX p d (nI (xN p.2.2.2 d))) = (9 - (xN p.2.2.2 d + 1)) * 10 ^ (k - d) + muF k d p := by rw [muF, hx1, ed]
        by_cases h2 : whyBy t (p.1 d) (xN p.2.2.2 d) (p.2.1 d) sp = 0
        · by_cases h3 : d + 1 = k
          · exact ⟨1, _, by rw [goF, if_neg h1, if_pos h2, if_pos h3]⟩
          · have hP2 := PO_push (t := t) (hm := hm) (sp := sp) (x := xN p.2.2.2 d) hP1 (by omega) (by rw [hx1]; omega)
            have e4 : muF k (d + 2) (pushP t hm sp d (xN p.2.2.2 d) (setX p d (nI (xN p.2.2.2 d)))) = 9 * 10 ^ (k - (d + 1)) + muF k (d + 1) (setX p d (nI (xN p.2.2.2 d))) := by
              rw [muF, show xN (pushP t hm sp d (xN p.2.2.2 d) (setX p d (nI (xN p.2.2.2 d)))).2.2.2 (d + 1) = 0 from xN_m _ _]
              congr 1
              exact muF_cong (d + 1) (fun i hi => xN_o (by omega))
            have e5 : 10 ^ (k - d) = 10 * 10 ^ (k - (d + 1)) := by rw [show k - d = (k - (d + 1)) + 1 by omega, Nat.pow_succ, Nat.mul_comm]
            have e6 : 1 ≤ 10 ^ (k - (d + 1)) := Nat.one_le_pow _ _ (by decide)
            obtain ⟨n, r, hr⟩ := ih (d + 2) (pushP t hm sp d (xN p.2.2.2 d) (setX p d (nI (xN p.2.2.2 d)))) (by rw [e4, e3]; omega) hP2 (by omega)
            exact ⟨n + 1, r, by rw [goF, if_neg h1, if_pos h2, if_neg h3]; exact hr⟩
        · obtain ⟨n, r, hr⟩ := ih (d + 1) (setX p d (nI (xN p.2.2.2 d))) (by rw [e3]; omega) hP1 he
          exact ⟨n + 1, r, by rw [goF, if_neg h1, if_neg h2]; exact hr⟩

