def gt (ol : List Nat) (i : Nat) : Nat := ol.getD i 0
def nxL (ol : List Nat) : Option (List Nat) := match piv (gt ol) (ol.length - 1) with
  | none => none
  | some i => some ((List.range ol.length).map (ro (gt ol) ol.length i))
def chB : List (List Nat) → Bool
  | [] => false
  | [x] => decide (nxL x = none)
  | x :: y :: r => decide (nxL x = some y) && chB (y :: r)
/-- all orders, the smallest first -/
def PM : Nat → List Nat → List (List Nat)
  | 0, _ => [[]]
  | n + 1, l => l.flatMap (fun x => (PM n (l.erase x)).map (fun r => x :: r))
def bitL (s : Nat) : List Nat := (List.range 6).filter (fun i => s.testBit i)
set_option maxRecDepth 100000 in
theorem ch_all : ∀ s, s < 64 → chB (PM (bitL s).length (bitL s)) = true := by decide +kernel
def crS (t : Nat → Nat) (l q : Nat) : Nat → Nat := if whyX t q l = 0 then crossF t q l else t
def crL (t : Nat → Nat) (l : Nat) (ol : List Nat) : Nat → Nat := ol.foldl (fun u q => crS u l q) t
def bsS (t : Nat → Nat) (l : Nat) (acc : Nat × List Nat) (ol : List Nat) : Nat × List Nat := if acc.1 < allLongF (crL t l ol) + 1 then (allLongF (crL t l ol) + 1, ol) else acc
def goL (t : Nat → Nat) (l n : Nat) : List Nat := (List.range n).filter (fun q => decide (whyX t q l = 0))
theorem piv_cong {o o' : Nat → Nat} : ∀ e, (∀ k, k ≤ e → o k = o' k) → piv o e = piv o' e := by
  intro e
  induction e with
  | zero => intro _; rfl
  | succ e ih => intro h; rw [piv, piv, ih (fun k hk => h k (by omega)), h (e + 1) (by omega), h e (by omega)]
theorem jF_cong {o o' : Nat → Nat} {x : Nat} : ∀ e, (∀ k, k ≤ e → o k = o' k) → jF o x e = jF o' x e := by
  intro e
  induction e with
  | zero => intro _; rfl
  | succ e ih => intro h; rw [jF, jF, ih (fun k hk => h k (by omega)), h (e + 1) (by omega)]
theorem sw_cong {o o' : Nat → Nat} {n i j : Nat} (hi : i < n) (hj : j < n) (h : ∀ k, k < n → o k = o' k) : ∀ k, k < n → sw o i j k = sw o' i j k := by
  intro k hk
  unfold sw
  rw [h i hi, h j hj]
  by_cases e1 : k = j
  · subst e1; rw [upN_s, upN_s]
  · rw [upN_n _ _ _ _ e1, upN_n _ _ _ _ e1]
    by_cases e2 : k = i
    · subst e2; rw [upN_s, upN_s]
    · rw [upN_n _ _ _ _ e2, upN_n _ _ _ _ e2, h k hk]
theorem rv_cong {n : Nat} : ∀ (f : Nat) (o o' : Nat → Nat) (lo hi : Nat), hi < n → (∀ k, k < n → o k = o' k) → ∀ k, k < n → rv f o lo hi k = rv f o' lo hi k := by
  intro f
  induction f with
  | zero => intro o o' lo hi _ h k hk; exact h k hk
  | succ f ih =>
    intro o o' lo hi hh h k hk
    rw [rv, rv]
    by_cases e : lo < hi
    · rw [if_pos e, if_pos e]
      exact ih _ _ _ _ (by omega) (sw_cong (by omega) hh h) k hk
    · rw [if_neg e, if_neg e]; exact h k hk
theorem ro_cong {o o' : Nat → Nat} {n i : Nat} (hi : i + 1 < n) (hx : o i ≤ o (i + 1)) (h : ∀ k, k < n → o k = o' k) : ∀ k, k < n → ro o n i k = ro o' n i k := by
  intro k hk
  unfold ro
  rw [← h i (by omega), ← jF_cong (x := o i) (n - 1) (fun k hk => h k (by omega))]
  have := jF_in hx (n - 1) (by omega)
  exact rv_cong n _ _ _ _ (by omega) (sw_cong (by omega) (by omega) h) k hk
theorem gt_map {n : Nat} (f : Nat → Nat) {k : Nat} (hk : k < n) : gt ((List.range n).map f) k = f k := by
  unfold gt
  rw [List.getD_eq_getElem?_getD, List.getElem?_map, List.getElem?_range hk]; rfl
theorem goL_lt {t : Nat → Nat} {l n q : Nat} (h : q ∈ goL t l n) : q < n := List.mem_range.mp (List.mem_filter.mp h).1
theorem goL_s {t : Nat → Nat} {l n : Nat} : goL t l (n + 1) = if whyX t n l = 0 then goL t l n ++ [n] else goL t l n := by
  unfold goL
  rw [List.range_succ, List.filter_append]
  by_cases h : whyX t n l = 0
  · rw [if_pos h]; simp [h]
  · rw [if_neg h]; simp [h]
theorem goL_le {t : Nat → Nat} {l : Nat} (n : Nat) : (goL t l n).length ≤ n := Nat.le_trans (List.length_filter_le _ _) (Nat.le_of_eq (List.length_range))
theorem goL_bit {t : Nat → Nat} {l n : Nat} (hn : n ≤ 6) : ∃ s, s < 64 ∧ goL t l n = bitL s := by
  have key : ∀ (p : Nat → Bool), ∃ s, s < 64 ∧ ∀ i, i < 6 → s.testBit i = p i := by
    intro p
    have : ∀ b0 b1 b2 b3 b4 b5 : Bool, ∃ s, s < 64 ∧ s.testBit 0 = b0 ∧ s.testBit 1 = b1 ∧ s.testBit 2 = b2 ∧ s.testBit 3 = b3 ∧ s.testBit 4 = b4 ∧ s.testBit 5 = b5 := by
      intro b0 b1 b2 b3 b4 b5
      refine ⟨(if b0 then 1 else 0) + (if b1 then 2 else 0) + (if b2 then 4 else 0) + (if b3 then 8 else 0) + (if b4 then 16 else 0) + (if b5 then 32 else 0), ?_⟩
      cases b0 <;> cases b1 <;> cases b2 <;> cases b3 <;> cases b4 <;> cases b5 <;> decide
    obtain ⟨s, h, h0, h1, h2, h3, h4, h5⟩ := this (p 0) (p 1) (p 2) (p 3) (p 4) (p 5)
    refine ⟨s, h, fun i hi => ?_⟩
    rcases (show i = 0 ∨ i = 1 ∨ i = 2 ∨ i = 3 ∨ i = 4 ∨ i = 5 by omega) with rfl | rfl | rfl | rfl | rfl | rfl <;> assumption
  obtain ⟨s, hs, hb⟩ := key (fun i => decide (i < n) && decide (whyX t i l = 0))
  refine ⟨s, hs, ?_⟩
  unfold bitL goL
  have e1 : (List.range 6).filter (fun i => s.testBit i) = (List.range 6).filter (fun i => decide (i < n) && decide (whyX t i l = 0)) := List.filter_congr (fun i hi => hb i (List.mem_range.mp hi))
  have e2 : (List.range 6).filter (fun i => decide (i < n)) = List.range n := by
    rcases (show n = 0 ∨ n = 1 ∨ n = 2 ∨ n = 3 ∨ n = 4 ∨ n = 5 ∨ n = 6 by omega) with rfl | rfl | rfl | rfl | rfl | rfl | rfl <;> decide
  rw [e1, ← e2, List.filter_filter]
  exact List.filter_congr (fun i _ => Bool.and_comm _ _)
theorem PM_mem : ∀ n l, l.length = n → ∀ r ∈ PM n l, r.length = n ∧ ∀ x ∈ r, x ∈ l := by
  intro n
  induction n with
  | zero => intro l _ r h; rw [PM] at h; rcases List.mem_singleton.mp h with rfl; exact ⟨rfl, fun x hx => by cases hx⟩
  | succ n ih =>
    intro l hl r h
    rw [PM] at h
    obtain ⟨x, hx, h⟩ := List.mem_flatMap.mp h
    obtain ⟨r', hr', rfl⟩ := List.mem_map.mp h
    have := ih (l.erase x) (by rw [List.length_erase_of_mem hx, hl]; rfl) r' hr'
    refine ⟨by rw [List.length_cons, this.1], fun y hy => ?_⟩
    rcases List.mem_cons.mp hy with rfl | hy
    · exact hx
    · exact List.mem_of_mem_erase (this.2 y hy)
theorem PM_head : ∀ n l, l.length = n → (PM n l).head? = some l := by
  intro n
  induction n with
  | zero => intro l h; rw [List.length_eq_zero_iff.mp h]; rfl
  | succ n ih =>
    intro l hl
    cases l with
    | nil => cases hl
    | cons x l =>
      rw [PM, List.flatMap_cons, show (x :: l).erase x = l by simp]
      have := ih l (by simpa using hl)
      cases hp : PM n l with
      | nil => rw [hp] at this; cases this
      | cons r rs => rw [hp] at this; cases this; rfl
theorem WV_crS {u : Nat → Nat} {b l q : Nat} (H : WV u b) (hb : b ≤ 2 ^ 29) (hb5 : 500 ≤ b) (hq : q < u 2) (hl : l < u 0) : WV (crS u l q) (b + 21) ∧ ∀ j, ¬ (91 ≤ j ∧ j < 138) → crS u l q j = u j := by
  obtain ⟨hb0, h0, h1, h2, -⟩ := H.1.1
  unfold crS
  split
  · exact ⟨WV_cross H hb hb5 hq hl (by assumption), fun j hj => crossF_lo (by omega) (by omega) (by omega)⟩
  · exact ⟨WV_mono H (by omega), fun _ _ => rfl⟩
theorem sN_sN (σ : mS) (k : Nat) (u v : Nat → Nat) : sN (sN σ k u) k v = sN σ k v := by
  refine mS_eq (fun _ => rfl) (fun j => ?_) rfl
  show upN (upN σ.2.1 k u) k v j = upN σ.2.1 k v j
  by_cases e : j = k
  · subst e; rw [upN_s, upN_s]
  · rw [upN_n _ _ _ _ e, upN_n _ _ _ _ e, upN_n _ _ _ _ e]
def cvS (σ : mS) (u bf o cr : Nat → Nat) : mS := sN (sN (sN (sN σ 40 cr) 39 o) 22 bf) 6 u
theorem cv_r (σ : mS) (u bf o cr : Nat → Nat) (i v : Nat) : mN (cvS σ u bf o cr) 40 i v = cvS σ u bf o (upN cr i v) := by
  refine mS_eq (fun _ => rfl) (fun k => ?_) rfl
  show upN (upN (upN (upN (upN σ.2.1 40 cr) 39 o) 22 bf) 6 u) 40 (upN cr i v) k = upN (upN (upN (upN σ.2.1 40 (upN cr i v)) 39 o) 22 bf) 6 u k
  generalize upN cr i v = w
  simp only [upN]
  repeat' split
  all_goals first | rfl | omega
theorem cv_o (σ : mS) (u bf o o' cr : Nat → Nat) : sN (cvS σ u bf o cr) 39 o' = cvS σ u bf o' cr := by
  refine mS_eq (fun _ => rfl) (fun k => ?_) rfl
  show upN (upN (upN (upN (upN σ.2.1 40 cr) 39 o) 22 bf) 6 u) 39 o' k = upN (upN (upN (upN σ.2.1 40 cr) 39 o') 22 bf) 6 u k
  simp only [upN]
  repeat' split
  all_goals first | rfl | omega
theorem allLong_le {u : Nat → Nat} {b : Nat} (H : WV u b) : allLongF u ≤ 1440 := by
  have h2 := H.1.1.2.2.2.1
  have : ∀ n, n ≤ 6 → sumF (fun q => u (114 + q)) n ≤ 240 * n := by
    intro n
    induction n with
    | zero => intro _; exact Nat.le_refl _
    | succ n ih => intro hn; rw [sumF]; have := ih (by omega); have := H.2.2 n (by omega); omega
  have := this (u 2) h2
  unfold allLongF; omega
theorem dpI_lt {m v : Nat} (hm : m < 2 ^ 30) (hv : v < 2 ^ 30) : nI v ≤ dpI m ↔ v + 1 ≤ m := by
  cases m with
  | zero =>
    rw [show dpI 0 = -1 by decide]
    constructor
    · intro h
      have := nI_pos (n := v) (by omega)
      exact absurd (Int32.lt_of_le_of_lt h (by decide)) this
    · intro h; omega
  | succ m => rw [dpI_s, nI_leI (by omega) (by omega)]; omega

set_option maxHeartbeats 1000000 in
set_option maxRecDepth 20000 in
theorem cv_go {G : xG} {d : Nat} {Q : xQ} {a : Nat → Nat} {σ : mS} {l : Nat} (hw : WT (σ.2.1 6)) (hl : l < σ.2.1 6 0) (kk : ∀ o : Nat → Nat, (∀ k, k < (goL (σ.2.1 6) l (σ.2.1 6 2)).length → o k = gt (goL (σ.2.1 6) l (σ.2.1 6 2)) k) → AW G MX12_caravan (d + 4) 0 0 Q 57 [some (.ref (a 60)), some (.int (nI l)), some (.int (nI ((goL (σ.2.1 6) l (σ.2.1 6 2)).length))), none, none, none, none] [] (mW G.2.2.1 a (sN σ 39 o)) 0 0) : ∀ (m i : Nat), i + m = σ.2.1 6 2 → ∀ o : Nat → Nat, (∀ k, k < (goL (σ.2.1 6) l i).length → o k = gt (goL (σ.2.1 6) l i) k) → AW G MX12_caravan (d + 4) 0 0 Q 19 [some (.ref (a 60)), some (.int (nI l)), some (.int (nI ((goL (σ.2.1 6) l i).length))), some (.int (nI i)), none, none, none] [] (mW G.2.2.1 a (sN σ 39 o)) 0 0 := by
  obtain ⟨hb, h0, h1, h2, hR, hP, hD, hC, hT⟩ := id hw
  intro m
  induction m with
  | zero =>
    intro i hi o ho
    refine aw_iload_n (pc := 19) (i := 3) dX12_caravan_19 rfl rfl ?_
    refine aw_aload_n (pc := 20) (i := 0) dX12_caravan_20 rfl rfl ?_
    refine mg_s (pc := 21) dX12_caravan_21 rfl ?_
    refine aw_iconst (pc := 24) dX12_caravan_24 iconst_2 ?_
    refine ml_s (pc := 25) dX12_caravan_25 (by decide) ?_
    refine aw_top (y := (nI (σ.2.1 6 2))) rfl ?_
    refine an_icmp_ge (pc := 26) (tgt := 57) dX12_caravan_26 rfl (by omega) (Nat.lt_trans (hb _) (by decide)) (fun h26 => ?_) (fun h26 => ?_)
    · -- 57
      obtain rfl : i = σ.2.1 6 2 := by omega
      refine aw_sub (L' := [some (.ref (a 60)), some (.int (nI l)), some (.int (nI ((goL (σ.2.1 6) l (σ.2.1 6 2)).length))), none, none, none, none]) (by intro i v h; match i with | 0 => exact h | 1 => exact h | 2 => exact h | 3 => exact absurd h (by simp) | 4 => exact absurd h (by simp) | 5 => exact absurd h (by simp) | 6 => exact absurd h (by simp) | n + 7 => exact absurd h (by simp)) ?_
      exact kk o ho
    · -- 29
      exfalso; omega
  | succ m ih =>
    intro i hi o ho
    have hgl := goL_le (t := σ.2.1 6) (l := l) i
    have hh := hP i (by omega)
    refine aw_iload_n (pc := 19) (i := 3) dX12_caravan_19 rfl rfl ?_
    refine aw_aload_n (pc := 20) (i := 0) dX12_caravan_20 rfl rfl ?_
    refine mg_s (pc := 21) dX12_caravan_21 rfl ?_
    refine aw_iconst (pc := 24) dX12_caravan_24 iconst_2 ?_
    refine ml_s (pc := 25) dX12_caravan_25 (by decide) ?_
    refine aw_top (y := (nI (σ.2.1 6 2))) rfl ?_
    refine an_icmp_ge (pc := 26) (tgt := 57) dX12_caravan_26 rfl (by omega) (Nat.lt_trans (hb _) (by decide)) (fun h26 => ?_) (fun h26 => ?_)
    · -- 57
      exfalso; omega
    · -- 29
      refine aw_aload_n (pc := 29) (i := 0) dX12_caravan_29 rfl rfl ?_
      refine aw_iload_n (pc := 30) (i := 3) dX12_caravan_30 rfl rfl ?_
      refine aw_iload_n (pc := 31) (i := 1) dX12_caravan_31 rfl rfl ?_
      refine mc_I (pc := 32) (As := [.int (nI i), .int (nI l)]) (rest := []) dX12_caravan_32 rfl ok_X12_292 rfl rfl rfl (Nat.le_of_ble_eq_true rfl) (s_whyCross hb h1 (by omega) (by show σ.2.1 6 (79 + i) < 7; omega) (by omega) ⟨_, _, rfl, rfl, ?_⟩)
      refine aw_top (y := nI (whyX (σ.2.1 6) i l)) rfl ?_
      refine an_if_le (pc := 35) (tgt := 41) dX12_caravan_35 rfl (whyX_lt _ _ _) (fun h35 => ?_) (fun h35 => ?_)
      · -- 41
        refine aw_aload_n (pc := 41) (i := 0) dX12_caravan_41 rfl rfl ?_
        refine mg_order (pc := 42) dX12_caravan_42 rfl ?_
        refine aw_iload_n (pc := 45) (i := 2) dX12_caravan_45 rfl rfl ?_
        refine aw_iload_n (pc := 46) (i := 3) dX12_caravan_46 rfl rfl ?_
        refine ms_order (pc := 47) dX12_caravan_47 (by omega) ?_
        refine an_inc (pc := 48) (z := 1) dX12_caravan_48 rfl (Nat.le_of_ble_eq_true rfl) rfl ?_
        refine an_inc (pc := 51) (z := 1) dX12_caravan_51 rfl (Nat.le_of_ble_eq_true rfl) rfl ?_
        refine aw_goto (pc := 54) (tgt := 19) dX12_caravan_54 rfl ?_
        have hg : goL (σ.2.1 6) l (i + 1) = goL (σ.2.1 6) l i ++ [i] := by rw [goL_s, if_pos h35]
        refine aw_ws (w9 := mW G.2.2.1 a (sN σ 39 (upN o (goL (σ.2.1 6) l i).length i))) rfl ?_
        refine aw_L (L9 := [some (.ref (a 60)), some (.int (nI l)), some (.int (nI ((goL (σ.2.1 6) l (i + 1)).length))), some (.int (nI (i + 1))), none, none, none]) (by rw [hg, List.length_append]; rfl) ?_
        refine ih (i + 1) (by omega) _ (fun k hk => ?_)
        rw [hg] at hk ⊢
        rw [List.length_append] at hk
        by_cases e : k = (goL (σ.2.1 6) l i).length
        · subst e; rw [upN_s]; unfold gt; rw [List.getD_eq_getElem?_getD, List.getElem?_append_right (Nat.le_refl _)]; simp
        · have hk2 : k < (goL (σ.2.1 6) l i).length := by simp at hk; omega
          rw [upN_n _ _ _ _ e, ho k hk2]; unfold gt; rw [List.getD_eq_getElem?_getD, List.getD_eq_getElem?_getD, List.getElem?_append_left hk2]
      · -- 38
        refine aw_goto (pc := 38) (tgt := 51) dX12_caravan_38 rfl ?_
        refine an_inc (pc := 51) (z := 1) dX12_caravan_51 rfl (Nat.le_of_ble_eq_true rfl) rfl ?_
        refine aw_goto (pc := 54) (tgt := 19) dX12_caravan_54 rfl ?_
        have hg : goL (σ.2.1 6) l (i + 1) = goL (σ.2.1 6) l i := by rw [goL_s, if_neg (Nat.ne_of_gt h35)]
        rw [← hg] at ho ⊢
        exact ih (i + 1) (by omega) o ho
set_option maxHeartbeats 1000000 in
set_option maxRecDepth 20000 in
theorem cv_cr {G : xG} {d : Nat} {Q : xQ} {a : Nat → Nat} {σ : mS} {bf o cr : Nat → Nat} {l n : Nat} {bst mor : Int32} (hn : n ≤ 6) : ∀ (r : List Nat) (i b : Nat) (u : Nat → Nat), i + r.length = n → (∀ k, k < r.length → o (i + k) = gt r k) → WV u b → b + 21 * r.length + 21 ≤ 2 ^ 29 → 500 ≤ b → l < u 0 → (∀ q ∈ r, q < u 2) → (WV (crL u l r) (b + 21 * r.length) → (∀ j, ¬ (91 ≤ j ∧ j < 138) → crL u l r j = u j) → AW G MX12_caravan (d + 4) 0 0 Q 113 [some (.ref (a 60)), some (.int (nI l)), some (.int (nI n)), some (.int bst), some (.int mor), none, none] [] (mW G.2.2.1 a (cvS σ (crL u l r) bf o cr)) 0 0) → AW G MX12_caravan (d + 4) 0 0 Q 74 [some (.ref (a 60)), some (.int (nI l)), some (.int (nI n)), some (.int bst), some (.int mor), some (.int (nI i)), none] [] (mW G.2.2.1 a (cvS σ u bf o cr)) 0 0 := by
  intro r
  induction r with
  | nil =>
    intro i b u hi ho H hB hb5 hl hr kk
    rw [List.length_nil] at hi
    refine aw_iload (pc := 74) dX12_caravan_74 rfl ?_
    refine aw_iload_n (pc := 76) (i := 2) dX12_caravan_76 rfl rfl ?_
    refine an_icmp_ge (pc := 77) (tgt := 113) dX12_caravan_77 rfl (by omega) (by omega) (fun h77 => ?_) (fun h77 => ?_)
    · -- 113
      refine aw_sub (L' := [some (.ref (a 60)), some (.int (nI l)), some (.int (nI n)), some (.int bst), some (.int mor), none, none]) (by intro i v h; match i with | 0 => exact h | 1 => exact h | 2 => exact h | 3 => exact h | 4 => exact h | 5 => exact absurd h (by simp) | 6 => exact absurd h (by simp) | n + 7 => exact absurd h (by simp)) ?_
      exact kk H (fun _ _ => rfl)
    · -- 80
      exfalso; omega
  | cons q r ih =>
    intro i b u hi ho H hB hb5 hl hr kk
    rw [List.length_cons] at hi hB
    have hq := hr q List.mem_cons_self
    have hoi : o i = q := ho 0 (by simp)
    obtain ⟨hb, h0, h1, h2, hR, hP, hD, hC, hT⟩ := id H.1.1
    have hh := hP q hq
    have hS := WV_crS H (by omega) hb5 hq hl
    have go : AW G MX12_caravan (d + 4) 0 0 Q 74 [some (.ref (a 60)), some (.int (nI l)), some (.int (nI n)), some (.int bst), some (.int mor), some (.int (nI (i + 1))), none] [] (mW G.2.2.1 a (cvS σ (crS u l q) bf o cr)) 0 0 := by
      refine ih (i + 1) (b + 21) (crS u l q) (by omega) (fun k hk => ?_) hS.1 (by omega) (by omega) (by rw [hS.2 0 (by omega)]; exact hl) (fun p hp => by rw [hS.2 2 (by omega)]; exact hr p (List.mem_cons_of_mem _ hp)) (fun hv hk => ?_)
      · have := ho (k + 1) (by simp; omega)
        rw [show i + 1 + k = i + (k + 1) by omega, this]; rfl
      · exact kk (by rw [List.length_cons, show b + 21 * (r.length + 1) = b + 21 + 21 * r.length by omega]; exact hv) (fun j hj => (hk j hj).trans (hS.2 j hj))
    refine aw_iload (pc := 74) dX12_caravan_74 rfl ?_
    refine aw_iload_n (pc := 76) (i := 2) dX12_caravan_76 rfl rfl ?_
    refine an_icmp_ge (pc := 77) (tgt := 113) dX12_caravan_77 rfl (by omega) (by omega) (fun h77 => ?_) (fun h77 => ?_)
    · -- 113
      exfalso; omega
    · -- 80
      refine aw_aload_n (pc := 80) (i := 0) dX12_caravan_80 rfl rfl ?_
      refine aw_aload_n (pc := 81) (i := 0) dX12_caravan_81 rfl rfl ?_
      refine mg_order (pc := 82) dX12_caravan_82 rfl ?_
      refine aw_iload (pc := 85) dX12_caravan_85 rfl ?_
      refine ml_order (pc := 87) dX12_caravan_87 (by omega) ?_
      refine aw_top (y := (nI (o i))) rfl ?_
      refine aw_top (y := (nI q)) (congrArg nI hoi) ?_
      refine aw_iload_n (pc := 88) (i := 1) dX12_caravan_88 rfl rfl ?_
      refine mc_I (pc := 89) (As := [.int (nI q), .int (nI l)]) (rest := []) dX12_caravan_89 rfl ok_X12_292 rfl rfl rfl (Nat.le_of_ble_eq_true rfl) (s_whyCross (σ := cvS σ u bf o cr) hb h1 (by omega) (by show u (79 + q) < 7; omega) (by omega) ⟨_, _, rfl, rfl, ?_⟩)
      refine aw_top (y := nI (whyX u q l)) rfl ?_
      refine an_if_ne (pc := 92) (tgt := 107) dX12_caravan_92 rfl (whyX_lt _ _ _) (fun h92 => ?_) (fun h92 => ?_)
      · -- 107
        refine an_inc (pc := 107) (z := 1) dX12_caravan_107 rfl (Nat.le_of_ble_eq_true rfl) rfl ?_
        refine aw_goto (pc := 110) (tgt := 74) dX12_caravan_110 rfl ?_
        rw [show crS u l q = u by unfold crS; rw [if_neg (Nat.ne_of_gt h92)]] at go
        exact go
      · -- 95
        refine aw_aload_n (pc := 95) (i := 0) dX12_caravan_95 rfl rfl ?_
        refine aw_aload_n (pc := 96) (i := 0) dX12_caravan_96 rfl rfl ?_
        refine mg_order (pc := 97) dX12_caravan_97 rfl ?_
        refine aw_iload (pc := 100) dX12_caravan_100 rfl ?_
        refine ml_order (pc := 102) dX12_caravan_102 (by omega) ?_
        refine aw_top (y := (nI (o i))) rfl ?_
        refine aw_top (y := (nI q)) (congrArg nI hoi) ?_
        refine aw_iload_n (pc := 103) (i := 1) dX12_caravan_103 rfl rfl ?_
        refine mc_V (pc := 104) (As := [.int (nI q), .int (nI l)]) (rest := []) dX12_caravan_104 rfl ok_X12_330 rfl rfl rfl (Nat.le_of_ble_eq_true rfl) (s_crosses (σ := cvS σ u bf o cr) (fun j => Nat.lt_of_lt_of_le (H.1.2 j) (by omega)) (by omega) (by omega) (by show u (79 + q) < 7; omega) (by show u (114 + q) ≤ 240; omega) (Or.inr (whyX_0 h92)) ⟨_, rfl, rfl, ?_⟩)
        refine an_inc (pc := 107) (z := 1) dX12_caravan_107 rfl (Nat.le_of_ble_eq_true rfl) rfl ?_
        refine aw_goto (pc := 110) (tgt := 74) dX12_caravan_110 rfl ?_
        refine aw_ws (w9 := mW G.2.2.1 a (cvS σ (crS u l q) bf o cr)) (congrArg (mW G.2.2.1 a) (show sN (cvS σ u bf o cr) 6 (crossF u q l) = cvS σ (crS u l q) bf o cr by unfold crS; rw [if_pos h92]; exact sN_sN _ _ _ _)) ?_
        exact go
set_option maxHeartbeats 1000000 in
set_option maxRecDepth 20000 in
theorem cv_cp {G : xG} {d : Nat} {Q : xQ} {a : Nat → Nat} {σ : mS} {u bf o : Nat → Nat} {l n : Nat} {bst mor al : Int32} (hn : n ≤ 6) (kk : ∀ cr : Nat → Nat, (∀ k, k < n → cr k = o k) → AW G MX12_caravan (d + 4) 0 0 Q 161 [some (.ref (a 60)), some (.int (nI l)), some (.int (nI n)), some (.int bst), some (.int mor), none, none] [] (mW G.2.2.1 a (cvS σ u bf o cr)) 0 0) : ∀ (m i : Nat), i + m = n → ∀ cr : Nat → Nat, (∀ k, k < i → cr k = o k) → AW G MX12_caravan (d + 4) 0 0 Q 135 [some (.ref (a 60)), some (.int (nI l)), some (.int (nI n)), some (.int bst), some (.int mor), some (.int al), some (.int (nI i))] [] (mW G.2.2.1 a (cvS σ u bf o cr)) 0 0 := by
  intro m
  induction m with
  | zero =>
    intro i hi cr hc
    refine aw_iload (pc := 135) dX12_caravan_135 rfl ?_
    refine aw_iload_n (pc := 137) (i := 2) dX12_caravan_137 rfl rfl ?_
    refine an_icmp_ge (pc := 138) (tgt := 161) dX12_caravan_138 rfl (by omega) (by omega) (fun h138 => ?_) (fun h138 => ?_)
    · -- 161
      refine aw_sub (L' := [some (.ref (a 60)), some (.int (nI l)), some (.int (nI n)), some (.int bst), some (.int mor), none, none]) (by intro i v h; match i with | 0 => exact h | 1 => exact h | 2 => exact h | 3 => exact h | 4 => exact h | 5 => exact absurd h (by simp) | 6 => exact absurd h (by simp) | n + 7 => exact absurd h (by simp)) ?_
      exact kk cr (fun k hk => hc k (by omega))
    · -- 141
      exfalso; omega
  | succ m ih =>
    intro i hi cr hc
    refine aw_iload (pc := 135) dX12_caravan_135 rfl ?_
    refine aw_iload_n (pc := 137) (i := 2) dX12_caravan_137 rfl rfl ?_
    refine an_icmp_ge (pc := 138) (tgt := 161) dX12_caravan_138 rfl (by omega) (by omega) (fun h138 => ?_) (fun h138 => ?_)
    · -- 161
      exfalso; omega
    · -- 141
      refine aw_aload_n (pc := 141) (i := 0) dX12_caravan_141 rfl rfl ?_
      refine mg_caravanRow (pc := 142) dX12_caravan_142 rfl ?_
      refine aw_iload (pc := 145) dX12_caravan_145 rfl ?_
      refine aw_aload_n (pc := 147) (i := 0) dX12_caravan_147 rfl rfl ?_
      refine mg_order (pc := 148) dX12_caravan_148 rfl ?_
      refine aw_iload (pc := 151) dX12_caravan_151 rfl ?_
      refine ml_order (pc := 153) dX12_caravan_153 (by omega) ?_
      refine aw_top (y := (nI (o i))) rfl ?_
      refine ms_caravanRow (pc := 154) dX12_caravan_154 (by omega) ?_
      refine an_inc (pc := 155) (z := 1) dX12_caravan_155 rfl (Nat.le_of_ble_eq_true rfl) rfl ?_
      refine aw_goto (pc := 158) (tgt := 135) dX12_caravan_158 rfl ?_
      refine aw_ws (w9 := mW G.2.2.1 a (cvS σ u bf o (upN cr i (o i)))) (congrArg (mW G.2.2.1 a) (cv_r σ u bf o cr i (o i))) ?_
      exact ih (i + 1) (by omega) (upN cr i (o i)) (fun j hj => by
        by_cases e : j = i
        · subst e; exact upN_s _ _ _
        · rw [upN_n _ _ _ _ e]; exact hc j (by omega))
