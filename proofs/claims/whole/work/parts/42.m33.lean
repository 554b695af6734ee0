def cntE (M : List (List Nat × nD)) (l : Nat) : Nat := (M.filter (fun r => decide (r.2.1 = l))).length
def mdB (v : Nat) (r : List Nat × nD) : Bool := decide (r.2.2.1 = v)
def mdK (t : Nat → Nat) (q v : Nat) : Nat → Nat → List (List Nat × nD)
  | 0, _ => []
  | n + 1, k => (rwF t (t (79 + q)) (sparedF t q) k (nd0 t q)).filter (mdB v) ++ mdK t q v n (k + 1)
def mdM (t : Nat → Nat) (q v : Nat) : List (List Nat × nD) := mdK t q v 4 1
def lkG (e : Nat → Nat) : Nat → Nat → Nat → Nat
  | 0, _, b => b
  | m + 1, l, b => lkG e m (l + 1) (if e b < e l then l else b)
def mdS (σ : mS) (en mr : Nat → Nat) (mm : Int32) : mS := mI (sN (sN σ 33 en) 32 mr) 35 mm
theorem mS_eq {x y : mS} (h1 : ∀ k, x.1 k = y.1 k) (h2 : ∀ k, x.2.1 k = y.2.1 k) (h3 : x.2.2 = y.2.2) : x = y := by
  obtain ⟨x1, x2, x3⟩ := x
  obtain ⟨y1, y2, y3⟩ := y
  have e1 : x1 = y1 := funext h1
  have e2 : x2 = y2 := funext h2
  have e3 : x3 = y3 := h3
  rw [e1, e2, e3]
theorem scr_md_e (σ : mS) (en mr : Nat → Nat) (mm : Int32) (u : pS) (dd : Int32) (sp hm i v : Nat) : mN (scr (mdS σ en mr mm) u dd sp hm) 33 i v = scr (mdS σ (upN en i v) mr mm) u dd sp hm := by
  refine mS_eq (fun k => rfl) (fun k => ?_) rfl
  show upN (upN (upN (upN (upN (upN σ.2.1 33 en) 32 mr) 24 u.1) 25 u.2.1) 26 u.2.2.1) 33 (upN en i v) k = upN (upN (upN (upN (upN σ.2.1 33 (upN en i v)) 32 mr) 24 u.1) 25 u.2.1) 26 u.2.2.1 k
  by_cases e : k = 33
  · subst e; rw [upN_s, upN_n _ _ _ _ (by decide), upN_n _ _ _ _ (by decide), upN_n _ _ _ _ (by decide), upN_n _ _ _ _ (by decide), upN_s]
  · rw [upN_n _ _ _ _ e]
    generalize upN en i v = w
    simp only [upN]
    repeat' split
    all_goals first | rfl | omega
theorem scr_md_m (σ : mS) (en mr : Nat → Nat) (mm x : Int32) (u : pS) (dd : Int32) (sp hm : Nat) : mI (scr (mdS σ en mr mm) u dd sp hm) 35 x = scr (mdS σ en mr x) u dd sp hm := by
  refine mS_eq (fun k => ?_) (fun k => rfl) rfl
  show upN (upN (upN (upN (upN σ.1 35 mm) 30 (nI hm)) 29 (nI sp)) 28 dd) 35 x k = upN (upN (upN (upN σ.1 35 x) 30 (nI hm)) 29 (nI sp)) 28 dd k
  simp only [upN]
  repeat' split
  all_goals first | rfl | omega
theorem scr_md_r (σ : mS) (en mr r : Nat → Nat) (mm : Int32) (u : pS) (dd : Int32) (sp hm : Nat) : sN (scr (mdS σ en mr mm) u dd sp hm) 32 r = scr (mdS σ en r mm) u dd sp hm := by
  refine mS_eq (fun k => rfl) (fun k => ?_) rfl
  show upN (upN (upN (upN (upN (upN σ.2.1 33 en) 32 mr) 24 u.1) 25 u.2.1) 26 u.2.2.1) 32 r k = upN (upN (upN (upN (upN σ.2.1 33 en) 32 r) 24 u.1) 25 u.2.1) 26 u.2.2.1 k
  simp only [upN]
  repeat' split
  all_goals first | rfl | omega
def MV (m0 : Int32) (r0 : Nat → Nat) (acc : List (List Nat × nD)) (en mr : Nat → Nat) (mm : Int32) : Prop := (∀ l, l < 7 → en l = cntE acc l) ∧ (acc = [] → mm = m0 ∧ mr = r0) ∧ ∀ r, acc.head? = some r → mm = nI r.1.length ∧ ∀ i, i < r.1.length → mr i = r.1.getD i 0
theorem cntE_le (M : List (List Nat × nD)) (l : Nat) : cntE M l ≤ M.length := List.length_filter_le _ _
theorem cntE_app (M : List (List Nat × nD)) (r : List Nat × nD) (l : Nat) : cntE (M ++ [r]) l = cntE M l + if l = r.2.1 then 1 else 0 := by
  unfold cntE
  rw [List.filter_append, List.length_append]
  congr 1
  by_cases h : l = r.2.1
  · rw [if_pos h, List.filter_cons_of_pos (by simp [h])]; rfl
  · rw [if_neg h, List.filter_cons_of_neg (by simp; exact fun e => h e.symm)]; rfl
theorem rwG_le {f : nD → List (List Nat × nD)} {t : Nat → Nat} {hm sp B : Nat} (hf : ∀ u, (f u).length ≤ B) (v : nD) : ∀ n x, (rwG f t hm sp v n x).length ≤ n * B := by
  intro n
  induction n with
  | zero => intro x; exact Nat.zero_le _
  | succ n ih =>
    intro x
    rw [rwG, List.length_append]
    have h1 : (brF f t hm sp v x).length ≤ B := by
      unfold brF
      split
      · exact Nat.zero_le _
      · rw [List.length_map]; exact hf _
    have h2 := ih (x + 1)
    rw [Nat.succ_mul]; omega
theorem rwF_le {t : Nat → Nat} {hm sp : Nat} (h0 : t 0 ≤ 7) : ∀ j v, (rwF t hm sp j v).length ≤ 7 ^ j := by
  intro j
  induction j with
  | zero => intro v; exact Nat.le_refl _
  | succ j ih =>
    intro v
    rw [rwF]
    refine Nat.le_trans (rwG_le ih v _ _) ?_
    rw [Nat.pow_succ, Nat.mul_comm]
    exact Nat.mul_le_mul_left _ h0
theorem rwG_mem {f : nD → List (List Nat × nD)} {t : Nat → Nat} {hm sp : Nat} {v : nD} {P : List Nat × nD → Prop} : ∀ n x, (∀ y u, x ≤ y → y < x + n → stN t hm sp v y = some u → ∀ r ∈ f u, P (y :: r.1, r.2)) → ∀ r ∈ rwG f t hm sp v n x, P r := by
  intro n
  induction n with
  | zero => intro x _ r h; cases h
  | succ n ih =>
    intro x H r h
    rw [rwG] at h
    rcases List.mem_append.mp h with h | h
    · unfold brF at h
      cases e : stN t hm sp v x with
      | none => rw [e] at h; cases h
      | some u =>
        rw [e] at h
        obtain ⟨r', hr', rfl⟩ := List.mem_map.mp h
        exact H x u (Nat.le_refl _) (by omega) e r' hr'
    · exact ih (x + 1) (fun y u h1 h2 => H y u (by omega) (by omega)) r h
theorem rwF_rl {t : Nat → Nat} {hm sp : Nat} : ∀ j v, ∀ r ∈ rwF t hm sp j v, r.1.length = j := by
  intro j
  induction j with
  | zero => intro v r h; rw [rwF] at h; rcases List.mem_singleton.mp h with rfl; rfl
  | succ j ih =>
    intro v
    rw [rwF]
    refine rwG_mem _ _ (fun y u _ _ _ r hr => ?_)
    show r.1.length + 1 = j + 1
    rw [ih u r hr]
theorem MV_skip {m0 : Int32} {r0 : Nat → Nat} {acc : List (List Nat × nD)} {en mr : Nat → Nat} {mm : Int32} (h : MV m0 r0 acc en mr mm) : MV m0 r0 (acc ++ []) en mr mm := by rw [List.append_nil]; exact h
theorem MV_one {m0 : Int32} {r0 : Nat → Nat} {acc : List (List Nat × nD)} {en mr mr' : Nat → Nat} {mm mm' : Int32} (h : MV m0 r0 acc en mr mm) {r : List Nat × nD} (hz : acc = [] → mm' = nI r.1.length ∧ ∀ i, i < r.1.length → mr' i = r.1.getD i 0) (hs : ¬ acc = [] → mm' = mm ∧ mr' = mr) : MV m0 r0 (acc ++ [r]) (upN en r.2.1 (en r.2.1 + 1)) mr' mm' := by
  refine ⟨fun l hl => ?_, fun e => absurd e (by simp), fun r9 h9 => ?_⟩
  · rw [cntE_app]
    by_cases e : l = r.2.1
    · rw [if_pos e, ← e, upN_s, h.1 l hl]
    · rw [if_neg e, upN_n _ _ _ _ e, h.1 l hl]; rfl
  · cases acc with
    | nil => cases h9; exact hz rfl
    | cons r1 acc =>
      obtain ⟨rfl, rfl⟩ := hs (by simp)
      exact h.2.2 r9 h9

set_option maxHeartbeats 1000000 in
set_option maxRecDepth 20000 in
theorem s_octet {G : xG} {d : Nat} {Q : xQ} {a : Nat → Nat} {σ : mS} {k : Nat} (hk : k < 940) (kk : Q (some (.int (nI (octN (σ.2.2.1 1 k))))) (mW G.2.2.1 a σ)) : MT G MX12_octet (d) 0 0 [.ref (a 60), .int (nI k)] (mW G.2.2.1 a σ) Q := by
  refine mt_start (L := [some (.ref (a 60)), some (.int (nI k))]) rfl (Nat.le_of_ble_eq_true rfl) rfl ?_
  refine aw_aload_n (pc := 0) (i := 0) dX12_octet_0 rfl rfl ?_
  refine mg_tape (pc := 1) dX12_octet_1 rfl ?_
  refine aw_iload_n (pc := 4) (i := 1) dX12_octet_4 rfl rfl ?_
  refine ml_tape (pc := 5) dX12_octet_5 (by omega) ?_
  refine aw_sipush (pc := 6) dX12_octet_6 sipush_255 ?_
  refine aw_iand (pc := 9) dX12_octet_9 ?_
  refine aw_top (y := (nI (octN (σ.2.2.1 1 k)))) (octN_and _) ?_
  exact aw_iret (pc := 10) dX12_octet_10 rfl (Nat.le_refl _) (Nat.le_refl _) (kk)
set_option maxHeartbeats 1000000 in
set_option maxRecDepth 20000 in
theorem md_cp {G : xG} {d : Nat} {Q : xQ} {a : Nat → Nat} {σ : mS} {c k : Nat} {f : Nat → Nat} (hk : k ≤ 4) (hst : ∀ i, i < k → σ.2.2.1 27 i = nI (f i)) (kk : ∀ u9 : Nat → Nat, (∀ i, i < k → u9 i = f i) → AW G MX12_made (d + 1) 0 0 Q 132 [some (.ref (a 60)), some (.int (nI c)), some (.int (nI k)), none] [] (mW G.2.2.1 a (sN σ 32 u9)) 0 0) : ∀ (m i : Nat), i + m = k → ∀ u : Nat → Nat, (∀ j, j < i → u j = f j) → AW G MX12_made (d + 1) 0 0 Q 109 [some (.ref (a 60)), some (.int (nI c)), some (.int (nI k)), some (.int (nI i))] [] (mW G.2.2.1 a (sN σ 32 u)) 0 0 := by
  intro m
  induction m with
  | zero =>
    intro i hi u hu
    refine aw_iload_n (pc := 109) (i := 3) dX12_made_109 rfl rfl ?_
    refine aw_iload_n (pc := 110) (i := 2) dX12_made_110 rfl rfl ?_
    refine an_icmp_ge (pc := 111) (tgt := 132) dX12_made_111 rfl (by omega) (by omega) (fun h111 => ?_) (fun h111 => ?_)
    · -- 132
      refine aw_sub (L' := [some (.ref (a 60)), some (.int (nI c)), some (.int (nI k)), none]) (by intro i v h; match i with | 0 => exact h | 1 => exact h | 2 => exact h | 3 => exact absurd h (by simp) | n + 4 => exact absurd h (by simp)) ?_
      exact kk u (fun j hj => hu j (by omega))
    · -- 114
      exfalso; omega
  | succ m ih =>
    intro i hi u hu
    refine aw_iload_n (pc := 109) (i := 3) dX12_made_109 rfl rfl ?_
    refine aw_iload_n (pc := 110) (i := 2) dX12_made_110 rfl rfl ?_
    refine an_icmp_ge (pc := 111) (tgt := 132) dX12_made_111 rfl (by omega) (by omega) (fun h111 => ?_) (fun h111 => ?_)
    · -- 132
      exfalso; omega
    · -- 114
      refine aw_aload_n (pc := 114) (i := 0) dX12_made_114 rfl rfl ?_
      refine mg_madeRow (pc := 115) dX12_made_115 rfl ?_
      refine aw_iload_n (pc := 118) (i := 3) dX12_made_118 rfl rfl ?_
      refine aw_aload_n (pc := 119) (i := 0) dX12_made_119 rfl rfl ?_
      refine mg_step (pc := 120) dX12_made_120 rfl ?_
      refine aw_iload_n (pc := 123) (i := 3) dX12_made_123 rfl rfl ?_
      refine ml_step (pc := 124) dX12_made_124 (by omega) ?_
      refine aw_top (y := (σ.2.2.1 27 i)) rfl ?_
      refine aw_top (y := (nI (f i))) (hst i (by omega)) ?_
      refine ms_madeRow (pc := 125) dX12_made_125 (by omega) ?_
      refine an_inc (pc := 126) (z := 1) dX12_made_126 rfl (Nat.le_of_ble_eq_true rfl) rfl ?_
      refine aw_goto (pc := 129) (tgt := 109) dX12_made_129 rfl ?_
      refine aw_ws (w9 := mW G.2.2.1 a (sN σ 32 (upN u i (f i)))) rfl ?_
      exact ih (i + 1) (by omega) (upN u i (f i)) (fun j hj => by
        by_cases e : j = i
        · subst e; exact upN_s _ _ _
        · rw [upN_n _ _ _ _ e]; exact hu j (by omega))
set_option maxHeartbeats 1000000 in
set_option maxRecDepth 20000 in
theorem md_in {G : xG} {d : Nat} {Q : xQ} {a : Nat → Nat} {σ : mS} {sp hm k : Nat} {m0 : Int32} {r0 : Nat → Nat} (hb : ∀ j, σ.2.1 6 j < 2 ^ 30) (h0 : σ.2.1 6 0 ≤ 7) (h1 : σ.2.1 6 1 ≤ 12) (hsp : sp < 2 ^ 31) (hhm : hm < 2 ^ 31) (hk4 : k ≤ 4) (hk1 : 1 ≤ k) : ∀ (R : List (List Nat × nD)) (e : Nat) (x : Int32) (p : pS) (acc : List (List Nat × nD)) (en mr : Nat → Nat) (mm : Int32), stA k e x → PO e p → acc.length + R.length < 2 ^ 30 → MV m0 r0 acc en mr mm → RB (σ.2.1 6) hm sp k e p = R → (∀ (en' mr' : Nat → Nat) (mm' : Int32) (p9 : pS) (dd9 : Int32), MV m0 r0 (acc ++ R.filter (mdB (octN (σ.2.2.1 1 1)))) en' mr' mm' → AW G MX12_made (d + 5) 0 0 Q 153 [some (.ref (a 60)), some (.int (nI ((acc ++ R.filter (mdB (octN (σ.2.2.1 1 1)))).length))), some (.int (nI k)), none] [] (mW G.2.2.1 a (scr (mdS σ en' mr' mm') p9 dd9 sp hm)) 0 0) → AW G MX12_made (d + 5) 0 0 Q 73 [some (.ref (a 60)), some (.int (nI acc.length)), some (.int (nI k)), none] [] (mW G.2.2.1 a (scr (mdS σ en mr mm) p x sp hm)) 0 0 := by
  intro R
  induction R with
  | nil =>
    intro e x p acc en mr mm he hp hle hM hR kk
    refine aw_aload_n (pc := 73) (i := 0) dX12_made_73 rfl rfl ?_
    refine aw_iload_n (pc := 74) (i := 2) dX12_made_74 rfl rfl ?_
    refine mc_I (pc := 75) (As := [.int (nI k)]) (rest := []) dX12_made_75 rfl ok_X12_369 rfl rfl rfl (Nat.le_of_ble_eq_true rfl) (s_goesU (σ := mdS σ en mr mm) hb h0 h1 hsp hhm (by omega) hk1 he hp ?_ (fun u hu => by rw [show RB ((mdS σ en mr mm).2.1 6) hm sp k e p = [] from hR] at hu; cases hu))
    · -- call
      intro _ p9 dd9
      refine ⟨_, _, rfl, rfl, ?_⟩
      refine ab_if_eq (pc := 78) (tgt := 153) dX12_made_78 rfl (fun h78 => ?_) (fun h78 => absurd h78 (by decide))
      have := kk en mr mm p9 dd9 (MV_skip hM)
      rw [show (acc ++ List.filter (mdB (octN (σ.2.2.1 1 1))) []).length = acc.length by simp] at this
      exact this
  | cons row R ih =>
    intro e x p acc en mr mm he hp hle hM hR kk
    refine aw_aload_n (pc := 73) (i := 0) dX12_made_73 rfl rfl ?_
    refine aw_iload_n (pc := 74) (i := 2) dX12_made_74 rfl rfl ?_
    refine mc_I (pc := 75) (As := [.int (nI k)]) (rest := []) dX12_made_75 rfl ok_X12_369 rfl rfl rfl (Nat.le_of_ble_eq_true rfl) (s_goesU (σ := mdS σ en mr mm) hb h0 h1 hsp hhm (by omega) hk1 he hp (fun h => by rw [show RB ((mdS σ en mr mm).2.1 6) hm sp k e p = _ from hR] at h; cases h) ?_)
    · -- call
      intro u hu hpu hu0
      refine ⟨_, _, rfl, rfl, ?_⟩
      have hu : RB (σ.2.1 6) hm sp k e p = _ := hu
      rw [hu] at hR
      injection hR with hR1 hR2
      subst hR1
      have g4 := hpu.1 k (by omega)
      rw [List.length_cons] at hle
      refine ab_if_eq (pc := 78) (tgt := 153) dX12_made_78 rfl (fun h78 => absurd h78 (by decide)) (fun h78 => ?_)
      refine aw_aload_n (pc := 81) (i := 0) dX12_made_81 rfl rfl ?_
      refine mg_much (pc := 82) dX12_made_82 rfl ?_
      refine aw_iload_n (pc := 85) (i := 2) dX12_made_85 rfl rfl ?_
      refine ml_much (pc := 86) dX12_made_86 (by omega) ?_
      refine aw_top (y := (nI (u.2.1 k))) rfl ?_
      refine aw_aload_n (pc := 87) (i := 0) dX12_made_87 rfl rfl ?_
      refine aw_iconst (pc := 88) dX12_made_88 iconst_1 ?_
      refine mc_I (pc := 89) (As := [.int (nI 1)]) (rest := [.int (nI (u.2.1 k))]) dX12_made_89 rfl ok_X12_386 rfl rfl rfl (Nat.le_of_ble_eq_true rfl) (s_octet (by decide) ⟨_, _, rfl, rfl, ?_⟩)
      refine aw_top (y := nI (octN (σ.2.2.1 1 1))) rfl ?_
      refine an_icmp_eq (pc := 92) (tgt := 98) dX12_made_92 rfl (by omega) (Nat.lt_trans (octN_lt _) (by decide)) (fun h92 => ?_) (fun h92 => ?_)
      · -- 98
        refine aw_iload_n (pc := 98) (i := 1) dX12_made_98 rfl rfl ?_
        refine an_if_ne (pc := 99) (tgt := 132) dX12_made_99 rfl (by omega) (fun h99 => ?_) (fun h99 => ?_)
        · -- 132
          have hM9 : MV m0 r0 (acc ++ [(ptF u.2.2.2 k, ndP u k)]) (upN en (u.1 k) (en (u.1 k) + 1)) mr mm := MV_one (r := (ptF u.2.2.2 k, ndP u k)) hM (fun e => absurd h99 (by rw [e]; simp)) (fun _ => ⟨rfl, rfl⟩)
          refine an_inc (pc := 132) (z := 1) dX12_made_132 rfl (Nat.le_of_ble_eq_true rfl) rfl ?_
          refine aw_aload_n (pc := 135) (i := 0) dX12_made_135 rfl rfl ?_
          refine mg_ends (pc := 136) dX12_made_136 rfl ?_
          refine aw_aload_n (pc := 139) (i := 0) dX12_made_139 rfl rfl ?_
          refine mg_where (pc := 140) dX12_made_140 rfl ?_
          refine aw_iload_n (pc := 143) (i := 2) dX12_made_143 rfl rfl ?_
          refine ml_where (pc := 144) dX12_made_144 (by omega) ?_
          refine aw_top (y := (nI (u.1 k))) rfl ?_
          refine aw_dup2 (pc := 145) dX12_made_145 rfl rfl ?_
          refine ml_ends (pc := 146) dX12_made_146 (by omega) ?_
          refine aw_top (y := (nI (en (u.1 k)))) rfl ?_
          refine aw_iconst (pc := 147) dX12_made_147 iconst_1 ?_
          refine an_add (pc := 148) dX12_made_148 ?_
          refine ms_ends (pc := 149) dX12_made_149 (by omega) ?_
          refine aw_goto (pc := 150) (tgt := 73) dX12_made_150 rfl ?_
          have hfl : List.filter (mdB (octN (σ.2.2.1 1 1))) ((ptF u.2.2.2 k, ndP u k) :: R) = (ptF u.2.2.2 k, ndP u k) :: List.filter (mdB (octN (σ.2.2.1 1 1))) R := List.filter_cons_of_pos (decide_eq_true h92)
          refine aw_ws (w9 := mW G.2.2.1 a (scr (mdS σ (upN en (u.1 k) (en (u.1 k) + 1)) mr mm) u (nI k) sp hm)) (congrArg (mW G.2.2.1 a) (scr_md_e σ en mr mm u (nI k) sp hm (u.1 k) (en (u.1 k) + 1))) ?_
          refine aw_L (L9 := [some (.ref (a 60)), some (.int (nI ((acc ++ [(ptF u.2.2.2 k, ndP u k)]).length))), some (.int (nI k)), none]) (by rw [List.length_append]; rfl) ?_
          refine ih k (nI k) u (acc ++ [(ptF u.2.2.2 k, ndP u k)]) _ _ _ (Or.inr ⟨rfl, rfl⟩) (PO_le hpu (by omega)) (by rw [List.length_append]; simp; omega) hM9 hR2 (fun en9 mr9 mm9 p9 dd9 hv => ?_)
          have e9 : acc ++ [(ptF u.2.2.2 k, ndP u k)] ++ List.filter (mdB (octN (σ.2.2.1 1 1))) R = acc ++ List.filter (mdB (octN (σ.2.2.1 1 1))) ((ptF u.2.2.2 k, ndP u k) :: R) := by rw [hfl, List.append_assoc]; rfl
          rw [e9] at hv ⊢
          exact kk en9 mr9 mm9 p9 dd9 hv
        · -- 102
          refine aw_aload_n (pc := 102) (i := 0) dX12_made_102 rfl rfl ?_
          refine aw_iload_n (pc := 103) (i := 2) dX12_made_103 rfl rfl ?_
          refine mp_madeMany (pc := 104) dX12_made_104 rfl ?_
          refine aw_iconst (pc := 107) dX12_made_107 iconst_0 ?_
          refine aw_istore_n (pc := 108) (i := 3) dX12_made_108 rfl (Nat.le_of_ble_eq_true rfl) rfl ?_
          refine aw_ws (w9 := mW G.2.2.1 a (sN (scr (mdS σ en mr (nI k)) u (nI k) sp hm) 32 mr)) (congrArg (mW G.2.2.1 a) ((scr_md_m σ en mr mm (nI k) u (nI k) sp hm).trans (scr_md_r σ en mr mr (nI k) u (nI k) sp hm).symm)) ?_
          refine md_cp (d := d + 4) (σ := scr (mdS σ en mr (nI k)) u (nI k) sp hm) (f := fun i => (ptF u.2.2.2 k).getD i 0) hk4 (fun i hi => ?_) (fun u9 hu9 => ?_) k 0 (by omega) mr (fun j hj => absurd hj (Nat.not_lt_zero _))
          · show u.2.2.2 i = nI ((ptF u.2.2.2 k).getD i 0)
            rw [PO_st hpu (by omega), ptF_get _ _ _ hi]
          ·
            have hM9 : MV m0 r0 (acc ++ [(ptF u.2.2.2 k, ndP u k)]) (upN en (u.1 k) (en (u.1 k) + 1)) u9 (nI k) := MV_one (r := (ptF u.2.2.2 k, ndP u k)) hM (fun _ => ⟨by rw [ptF_len], fun i hi => hu9 i (by rw [ptF_len] at hi; exact hi)⟩) (fun hne => absurd (List.length_eq_zero_iff.mp h99) hne)
            refine aw_ws (w9 := mW G.2.2.1 a (scr (mdS σ en u9 (nI k)) u (nI k) sp hm)) (congrArg (mW G.2.2.1 a) (scr_md_r σ en mr u9 (nI k) u (nI k) sp hm)) ?_
            refine an_inc (pc := 132) (z := 1) dX12_made_132 rfl (Nat.le_of_ble_eq_true rfl) rfl ?_
            refine aw_aload_n (pc := 135) (i := 0) dX12_made_135 rfl rfl ?_
            refine mg_ends (pc := 136) dX12_made_136 rfl ?_
            refine aw_aload_n (pc := 139) (i := 0) dX12_made_139 rfl rfl ?_
            refine mg_where (pc := 140) dX12_made_140 rfl ?_
            refine aw_iload_n (pc := 143) (i := 2) dX12_made_143 rfl rfl ?_
            refine ml_where (pc := 144) dX12_made_144 (by omega) ?_
            refine aw_top (y := (nI (u.1 k))) rfl ?_
            refine aw_dup2 (pc := 145) dX12_made_145 rfl rfl ?_
            refine ml_ends (pc := 146) dX12_made_146 (by omega) ?_
            refine aw_top (y := (nI (en (u.1 k)))) rfl ?_
            refine aw_iconst (pc := 147) dX12_made_147 iconst_1 ?_
            refine an_add (pc := 148) dX12_made_148 ?_
            refine ms_ends (pc := 149) dX12_made_149 (by omega) ?_
            refine aw_goto (pc := 150) (tgt := 73) dX12_made_150 rfl ?_
            have hfl : List.filter (mdB (octN (σ.2.2.1 1 1))) ((ptF u.2.2.2 k, ndP u k) :: R) = (ptF u.2.2.2 k, ndP u k) :: List.filter (mdB (octN (σ.2.2.1 1 1))) R := List.filter_cons_of_pos (decide_eq_true h92)
            refine aw_ws (w9 := mW G.2.2.1 a (scr (mdS σ (upN en (u.1 k) (en (u.1 k) + 1)) u9 (nI k)) u (nI k) sp hm)) (congrArg (mW G.2.2.1 a) (scr_md_e σ en u9 (nI k) u (nI k) sp hm (u.1 k) (en (u.1 k) + 1))) ?_
            refine aw_L (L9 := [some (.ref (a 60)), some (.int (nI ((acc ++ [(ptF u.2.2.2 k, ndP u k)]).length))), some (.int (nI k)), none]) (by rw [List.length_append]; rfl) ?_
            refine ih k (nI k) u (acc ++ [(ptF u.2.2.2 k, ndP u k)]) _ _ _ (Or.inr ⟨rfl, rfl⟩) (PO_le hpu (by omega)) (by rw [List.length_append]; simp; omega) hM9 hR2 (fun en9 mr9 mm9 p9 dd9 hv => ?_)
            have e9 : acc ++ [(ptF u.2.2.2 k, ndP u k)] ++ List.filter (mdB (octN (σ.2.2.1 1 1))) R = acc ++ List.filter (mdB (octN (σ.2.2.1 1 1))) ((ptF u.2.2.2 k, ndP u k) :: R) := by rw [hfl, List.append_assoc]; rfl
            rw [e9] at hv ⊢
            exact kk en9 mr9 mm9 p9 dd9 hv
      · -- 95
        refine aw_goto (pc := 95) (tgt := 73) dX12_made_95 rfl ?_
        have hfl : List.filter (mdB (octN (σ.2.2.1 1 1))) ((ptF u.2.2.2 k, ndP u k) :: R) = List.filter (mdB (octN (σ.2.2.1 1 1))) R := List.filter_cons_of_neg (fun hc => h92 (of_decide_eq_true hc))
        rw [hfl] at kk
        exact ih k (nI k) u acc en mr mm (Or.inr ⟨rfl, rfl⟩) (PO_le hpu (by omega)) (by omega) hM hR2 kk
