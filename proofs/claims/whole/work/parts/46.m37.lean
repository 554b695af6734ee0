theorem bs_t {t : Nat → Nat} {l : Nat} {acc : Nat × List Nat} {x : List Nat} (h : acc.1 < allLongF (crL t l x) + 1) : bsS t l acc x = (allLongF (crL t l x) + 1, x) := if_pos h
theorem bs_f {t : Nat → Nat} {l : Nat} {acc : Nat × List Nat} {x : List Nat} (h : ¬ acc.1 < allLongF (crL t l x) + 1) : bsS t l acc x = acc := if_neg h
theorem nx_none {x : List Nat} (h : nxL x = none) : piv (gt x) (x.length - 1) = none := by
  unfold nxL at h
  split at h
  · assumption
  · cases h
theorem nx_some {x y : List Nat} (h : nxL x = some y) : ∃ i, piv (gt x) (x.length - 1) = some i ∧ y = (List.range x.length).map (ro (gt x) x.length i) := by
  unfold nxL at h
  split at h
  · cases h
  · rename_i i hi; exact ⟨i, hi, by cases h; rfl⟩
theorem ch_1 {x : List Nat} (h : chB [x] = true) : nxL x = none := of_decide_eq_true h
theorem ch_2 {x y : List Nat} {V : List (List Nat)} (h : chB (x :: y :: V) = true) : nxL x = some y ∧ chB (y :: V) = true := by
  rw [chB, Bool.and_eq_true] at h
  exact ⟨of_decide_eq_true h.1, h.2⟩

set_option maxHeartbeats 1000000 in
set_option maxRecDepth 20000 in
theorem cv_main {G : xG} {d : Nat} {Q : xQ} {a : Nat → Nat} {σ : mS} {t b0 : Nat → Nat} {l n b : Nat} (hn : n ≤ 6) (H : WV t b) (hB : b + 147 ≤ 2 ^ 29) (hb5 : 500 ≤ b) (hl : l < t 0) : ∀ (V : List (List Nat)) (x : List Nat) (acc : Nat × List Nat) (o cr : Nat → Nat), chB (x :: V) = true → (∀ y ∈ x :: V, y.length = n ∧ ∀ q ∈ y, q < t 2) → (∀ k, k < n → o k = gt x k) → (acc.1 = 0 ∨ ∀ k, k < n → cr k = gt acc.2 k) → acc.1 ≤ 1441 → (∀ o9 cr9 : Nat → Nat, (∀ k, k < n → cr9 k = gt ((x :: V).foldl (bsS t l) acc).2 k) → AW G MX12_caravan (d + 4) 0 0 Q 171 [some (.ref (a 60)), some (.int (nI l)), some (.int (nI n)), some (.int (dpI ((x :: V).foldl (bsS t l) acc).1)), some (.int (bI false)), none, none] [] (mW G.2.2.1 a (cvS σ t (cpF b0 t 0 91 47) o9 cr9)) 0 0) → AW G MX12_caravan (d + 4) 0 0 Q 66 [some (.ref (a 60)), some (.int (nI l)), some (.int (nI n)), some (.int (dpI acc.1)), some (.int (bI true)), none, none] [] (mW G.2.2.1 a (cvS σ t (cpF b0 t 0 91 47) o cr)) 0 0 := by
  intro V
  induction V with
  | nil =>
    intro x acc o cr hch hall ho hcr hle kk
    have h2 := H.1.1.2.2.2.1
    obtain ⟨hxl, hxq⟩ := hall x List.mem_cons_self
    have hob : ∀ k, k < n → o k < 6 := fun k hk => by
      have hm : gt x k ∈ x := by unfold gt; rw [List.getD_eq_getElem?_getD, List.getElem?_eq_getElem (by omega)]; exact List.getElem_mem _
      rw [ho k hk]; have := hxq _ hm; omega
    have hpc : piv o (n - 1) = piv (gt x) (x.length - 1) := by
      rw [hxl]
      rcases Nat.eq_zero_or_pos n with e | e
      · rw [e]; rfl
      · exact piv_cong _ (fun k hk => ho k (by omega))
    have hall1 : allLongF (crL t l x) ≤ 1440 ∨ True := Or.inr trivial
    have nxt : ∀ cr9 : Nat → Nat, (∀ k, k < n → cr9 k = gt (bsS t l acc x).2 k) → (bsS t l acc x).1 ≤ 1441 → AW G MX12_caravan (d + 4) 0 0 Q 161 [some (.ref (a 60)), some (.int (nI l)), some (.int (nI n)), some (.int (dpI (bsS t l acc x).1)), some (.int (bI true)), none, none] [] (mW G.2.2.1 a (cvS σ t (cpF b0 t 0 91 47) o cr9)) 0 0 := by
      intro cr9 hc9 hle9
      refine aw_ws (w9 := mW G.2.2.1 a (sN (cvS σ t (cpF b0 t 0 91 47) o cr9) 39 o)) (congrArg (mW G.2.2.1 a) (cv_o σ t _ o o cr9).symm) ?_
      refine aw_aload_n (pc := 161) (i := 0) dX12_caravan_161 rfl rfl ?_
      refine aw_iload_n (pc := 162) (i := 2) dX12_caravan_162 rfl rfl ?_
      refine mc_I (pc := 163) (As := [.int (nI n)]) (rest := []) dX12_caravan_163 rfl ok_X12_398 rfl rfl rfl (Nat.le_of_ble_eq_true rfl) (s_reorders (B := 6) hn (by decide) hob ?_ (fun i hi => by rw [hpc, nx_none (ch_1 hch)] at hi; cases hi))
      · -- call
        intro _
        refine ⟨_, _, rfl, rfl, ?_⟩
        refine aw_ws (w9 := mW G.2.2.1 a (cvS σ t (cpF b0 t 0 91 47) o cr9)) (congrArg (mW G.2.2.1 a) (cv_o σ t _ o o cr9)) ?_
        refine aw_istore (pc := 166) (i := 4) dX12_caravan_166 (Nat.le_of_ble_eq_true rfl) rfl ?_
        refine aw_goto (pc := 168) (tgt := 66) dX12_caravan_168 rfl ?_
        refine aw_iload (pc := 66) dX12_caravan_66 rfl ?_
        refine ab_if_eq (pc := 68) (tgt := 171) dX12_caravan_68 rfl (fun h68 => ?_) (fun h68 => absurd h68 (by decide))
        exact kk o cr9 hc9
    have hA : allLongF (crL t l x) ≤ 1440 → True := fun _ => trivial
    refine aw_iload (pc := 66) dX12_caravan_66 rfl ?_
    refine ab_if_eq (pc := 68) (tgt := 171) dX12_caravan_68 rfl (fun h68 => absurd h68 (by decide)) (fun h68 => ?_)
    refine aw_iconst (pc := 71) dX12_caravan_71 iconst_0 ?_
    refine aw_istore (pc := 72) (i := 5) dX12_caravan_72 (Nat.le_of_ble_eq_true rfl) rfl ?_
    refine cv_cr (σ := σ) (bf := cpF b0 t 0 91 47) (o := o) (cr := cr) (bst := dpI acc.1) (mor := bI true) hn x 0 b t (by omega) (fun k hk => by rw [Nat.zero_add]; exact ho k (by omega)) H (by omega) hb5 hl hxq (fun hv hkp => ?_)
    have hal := allLong_le hv
    refine aw_aload_n (pc := 113) (i := 0) dX12_caravan_113 rfl rfl ?_
    refine mc_I (pc := 114) (As := []) (rest := []) dX12_caravan_114 rfl ok_X12_318 rfl rfl rfl (Nat.le_of_ble_eq_true rfl) (s_allLong (by show crL t l x 2 ≤ 6; rw [hkp 2 (by omega)]; exact h2) ⟨_, _, rfl, rfl, ?_⟩)
    refine aw_top (y := nI (allLongF (crL t l x))) rfl ?_
    refine aw_istore (pc := 117) (i := 5) dX12_caravan_117 (Nat.le_of_ble_eq_true rfl) rfl ?_
    refine aw_aload_n (pc := 119) (i := 0) dX12_caravan_119 rfl rfl ?_
    refine mc_V (pc := 120) (As := []) (rest := []) dX12_caravan_120 rfl ok_X12_395 rfl rfl rfl (Nat.le_of_ble_eq_true rfl) (s_back ⟨_, rfl, rfl, ?_⟩)
    refine aw_ws (w9 := mW G.2.2.1 a (cvS σ t (cpF b0 t 0 91 47) o cr)) (congrArg (mW G.2.2.1 a) ((sN_sN _ 6 _ _).trans (congrArg (sN (sN (sN (sN σ 40 cr) 39 o) 22 (cpF b0 t 0 91 47)) 6) (back_id hkp)))) ?_
    refine aw_iload (pc := 123) dX12_caravan_123 rfl ?_
    refine aw_iload_n (pc := 125) (i := 3) dX12_caravan_125 rfl rfl ?_
    refine aw_icmp_le (pc := 126) (tgt := 161) dX12_caravan_126 rfl (fun h126 => ?_) (fun h126 => ?_)
    · -- 161
      rw [dpI_lt (by omega) (by omega)] at h126
      have hbf : bsS t l acc x = acc := bs_f (by omega)
      refine aw_sub (L' := [some (.ref (a 60)), some (.int (nI l)), some (.int (nI n)), some (.int (dpI acc.1)), some (.int (bI true)), none, none]) (by intro i v h; match i with | 0 => exact h | 1 => exact h | 2 => exact h | 3 => exact h | 4 => exact h | 5 => exact absurd h (by simp) | 6 => exact absurd h (by simp) | n + 7 => exact absurd h (by simp)) ?_
      have := nxt cr (by rw [hbf]; exact hcr.resolve_left (by omega)) (by rw [hbf]; exact hle)
      rw [hbf] at this
      exact this
    · -- 129
      refine aw_iload (pc := 129) dX12_caravan_129 rfl ?_
      refine aw_istore_n (pc := 131) (i := 3) dX12_caravan_131 rfl (Nat.le_of_ble_eq_true rfl) rfl ?_
      refine aw_iconst (pc := 132) dX12_caravan_132 iconst_0 ?_
      refine aw_istore (pc := 133) (i := 6) dX12_caravan_133 (Nat.le_of_ble_eq_true rfl) rfl ?_
      rw [dpI_lt (by omega) (by omega)] at h126
      have hbt : bsS t l acc x = (allLongF (crL t l x) + 1, x) := bs_t (by omega)
      refine cv_cp (bst := nI (allLongF (crL t l x))) (mor := bI true) (al := nI (allLongF (crL t l x))) hn (fun cr9 hc9 => ?_) n 0 (by omega) cr (fun k hk => absurd hk (Nat.not_lt_zero _))
      have := nxt cr9 (fun k hk => by rw [hbt, hc9 k hk]; exact ho k hk) (by rw [hbt]; show allLongF (crL t l x) + 1 ≤ 1441; omega)
      rw [hbt, dpI_s] at this
      exact this
  | cons y V ih =>
    intro x acc o cr hch hall ho hcr hle kk
    have h2 := H.1.1.2.2.2.1
    obtain ⟨hxl, hxq⟩ := hall x List.mem_cons_self
    have hob : ∀ k, k < n → o k < 6 := fun k hk => by
      have hm : gt x k ∈ x := by unfold gt; rw [List.getD_eq_getElem?_getD, List.getElem?_eq_getElem (by omega)]; exact List.getElem_mem _
      rw [ho k hk]; have := hxq _ hm; omega
    have hpc : piv o (n - 1) = piv (gt x) (x.length - 1) := by
      rw [hxl]
      rcases Nat.eq_zero_or_pos n with e | e
      · rw [e]; rfl
      · exact piv_cong _ (fun k hk => ho k (by omega))
    have hall1 : allLongF (crL t l x) ≤ 1440 ∨ True := Or.inr trivial
    have nxt : ∀ cr9 : Nat → Nat, (∀ k, k < n → cr9 k = gt (bsS t l acc x).2 k) → (bsS t l acc x).1 ≤ 1441 → AW G MX12_caravan (d + 4) 0 0 Q 161 [some (.ref (a 60)), some (.int (nI l)), some (.int (nI n)), some (.int (dpI (bsS t l acc x).1)), some (.int (bI true)), none, none] [] (mW G.2.2.1 a (cvS σ t (cpF b0 t 0 91 47) o cr9)) 0 0 := by
      intro cr9 hc9 hle9
      refine aw_ws (w9 := mW G.2.2.1 a (sN (cvS σ t (cpF b0 t 0 91 47) o cr9) 39 o)) (congrArg (mW G.2.2.1 a) (cv_o σ t _ o o cr9).symm) ?_
      refine aw_aload_n (pc := 161) (i := 0) dX12_caravan_161 rfl rfl ?_
      refine aw_iload_n (pc := 162) (i := 2) dX12_caravan_162 rfl rfl ?_
      refine mc_I (pc := 163) (As := [.int (nI n)]) (rest := []) dX12_caravan_163 rfl ok_X12_398 rfl rfl rfl (Nat.le_of_ble_eq_true rfl) (s_reorders (B := 6) hn (by decide) hob (fun h0 => by rw [hpc] at h0; obtain ⟨i, hi, -⟩ := nx_some (ch_2 hch).1; rw [hi] at h0; cases h0) ?_)
      · -- call
        intro i hi
        refine ⟨_, _, rfl, rfl, ?_⟩
        refine aw_ws (w9 := mW G.2.2.1 a (cvS σ t (cpF b0 t 0 91 47) (ro o n i) cr9)) (congrArg (mW G.2.2.1 a) (cv_o σ t _ o _ cr9)) ?_
        refine aw_istore (pc := 166) (i := 4) dX12_caravan_166 (Nat.le_of_ble_eq_true rfl) rfl ?_
        refine aw_goto (pc := 168) (tgt := 66) dX12_caravan_168 rfl ?_
        obtain ⟨i9, hi9, hy⟩ := nx_some (ch_2 hch).1
        have e9 : i = i9 := by rw [hpc, hi9] at hi; injection hi with hi; exact hi.symm
        rw [e9]
        rw [← hpc] at hi9
        have hpv := piv_some _ _ hi9
        rw [hxl] at hy
        refine ih y (bsS t l acc x) (ro o n i9) cr9 (ch_2 hch).2 (fun z hz => hall z (List.mem_cons_of_mem _ hz)) (fun k hk => ?_) (Or.inr hc9) hle9 kk
        rw [hy, gt_map _ hk]
        exact ro_cong (by omega) hpv.2 ho k hk
    have hA : allLongF (crL t l x) ≤ 1440 → True := fun _ => trivial
    refine aw_iload (pc := 66) dX12_caravan_66 rfl ?_
    refine ab_if_eq (pc := 68) (tgt := 171) dX12_caravan_68 rfl (fun h68 => absurd h68 (by decide)) (fun h68 => ?_)
    refine aw_iconst (pc := 71) dX12_caravan_71 iconst_0 ?_
    refine aw_istore (pc := 72) (i := 5) dX12_caravan_72 (Nat.le_of_ble_eq_true rfl) rfl ?_
    refine cv_cr (σ := σ) (bf := cpF b0 t 0 91 47) (o := o) (cr := cr) (bst := dpI acc.1) (mor := bI true) hn x 0 b t (by omega) (fun k hk => by rw [Nat.zero_add]; exact ho k (by omega)) H (by omega) hb5 hl hxq (fun hv hkp => ?_)
    have hal := allLong_le hv
    refine aw_aload_n (pc := 113) (i := 0) dX12_caravan_113 rfl rfl ?_
    refine mc_I (pc := 114) (As := []) (rest := []) dX12_caravan_114 rfl ok_X12_318 rfl rfl rfl (Nat.le_of_ble_eq_true rfl) (s_allLong (by show crL t l x 2 ≤ 6; rw [hkp 2 (by omega)]; exact h2) ⟨_, _, rfl, rfl, ?_⟩)
    refine aw_top (y := nI (allLongF (crL t l x))) rfl ?_
    refine aw_istore (pc := 117) (i := 5) dX12_caravan_117 (Nat.le_of_ble_eq_true rfl) rfl ?_
    refine aw_aload_n (pc := 119) (i := 0) dX12_caravan_119 rfl rfl ?_
    refine mc_V (pc := 120) (As := []) (rest := []) dX12_caravan_120 rfl ok_X12_395 rfl rfl rfl (Nat.le_of_ble_eq_true rfl) (s_back ⟨_, rfl, rfl, ?_⟩)
    refine aw_ws (w9 := mW G.2.2.1 a (cvS σ t (cpF b0 t 0 91 47) o cr)) (congrArg (mW G.2.2.1 a) ((sN_sN _ 6 _ _).trans (congrArg (sN (sN (sN (sN σ 40 cr) 39 o) 22 (cpF b0 t 0 91 47)) 6) (back_id hkp)))) ?_
    refine aw_iload (pc := 123) dX12_caravan_123 rfl ?_
    refine aw_iload_n (pc := 125) (i := 3) dX12_caravan_125 rfl rfl ?_
    refine aw_icmp_le (pc := 126) (tgt := 161) dX12_caravan_126 rfl (fun h126 => ?_) (fun h126 => ?_)
    · -- 161
      rw [dpI_lt (by omega) (by omega)] at h126
      have hbf : bsS t l acc x = acc := bs_f (by omega)
      refine aw_sub (L' := [some (.ref (a 60)), some (.int (nI l)), some (.int (nI n)), some (.int (dpI acc.1)), some (.int (bI true)), none, none]) (by intro i v h; match i with | 0 => exact h | 1 => exact h | 2 => exact h | 3 => exact h | 4 => exact h | 5 => exact absurd h (by simp) | 6 => exact absurd h (by simp) | n + 7 => exact absurd h (by simp)) ?_
      have := nxt cr (by rw [hbf]; exact hcr.resolve_left (by omega)) (by rw [hbf]; exact hle)
      rw [hbf] at this
      exact this
    · -- 129
      refine aw_iload (pc := 129) dX12_caravan_129 rfl ?_
      refine aw_istore_n (pc := 131) (i := 3) dX12_caravan_131 rfl (Nat.le_of_ble_eq_true rfl) rfl ?_
      refine aw_iconst (pc := 132) dX12_caravan_132 iconst_0 ?_
      refine aw_istore (pc := 133) (i := 6) dX12_caravan_133 (Nat.le_of_ble_eq_true rfl) rfl ?_
      rw [dpI_lt (by omega) (by omega)] at h126
      have hbt : bsS t l acc x = (allLongF (crL t l x) + 1, x) := bs_t (by omega)
      refine cv_cp (bst := nI (allLongF (crL t l x))) (mor := bI true) (al := nI (allLongF (crL t l x))) hn (fun cr9 hc9 => ?_) n 0 (by omega) cr (fun k hk => absurd hk (Nat.not_lt_zero _))
      have := nxt cr9 (fun k hk => by rw [hbt, hc9 k hk]; exact ho k hk) (by rw [hbt]; show allLongF (crL t l x) + 1 ≤ 1441; omega)
      rw [hbt, dpI_s] at this
      exact this
def caG (t : Nat → Nat) (l : Nat) : List Nat := goL t l (t 2)
def caF (t : Nat → Nat) (l : Nat) : Nat × List Nat := (PM (caG t l).length (caG t l)).foldl (bsS t l) (0, [])

set_option maxHeartbeats 1000000 in
set_option maxRecDepth 20000 in
theorem s_caravan {G : xG} {d : Nat} {Q : xQ} {a : Nat → Nat} {σ : mS} {x : Int32} {b : Nat} (H : WV (σ.2.1 6) b) (hB : b + 147 ≤ 2 ^ 29) (hb5 : 500 ≤ b) (k0 : inB (σ.2.1 6 0) x = false → Q (some (.int (-1))) (mW G.2.2.1 a (mI σ 0 (nI 0)))) (k1 : ∀ l, l < σ.2.1 6 0 → x = nI l → ∀ o9 bf9 cr9 : Nat → Nat, (∀ k, k < (caG (σ.2.1 6) l).length → cr9 k = gt (caF (σ.2.1 6) l).2 k) → Q (some (.int (dpI (caF (σ.2.1 6) l).1))) (mW G.2.2.1 a (mI (cvS (mI σ 0 (nI 0)) (σ.2.1 6) bf9 o9 cr9) 41 (nI (caG (σ.2.1 6) l).length)))) : MT G MX12_caravan (d + 4) 0 0 [.ref (a 60), .int x] (mW G.2.2.1 a σ) Q := by
  have hw := H.1.1
  obtain ⟨hb, h0, h1, h2, hR, hP, hD, hC, hT⟩ := id hw
  refine mt_start (L := [some (.ref (a 60)), some (.int x), none, none, none, none, none]) rfl (Nat.le_of_ble_eq_true rfl) rfl ?_
  refine aw_aload_n (pc := 0) (i := 0) dX12_caravan_0 rfl rfl ?_
  refine aw_iconst (pc := 1) dX12_caravan_1 iconst_0 ?_
  refine mp_thrown (pc := 2) dX12_caravan_2 rfl ?_
  refine aw_aload_n (pc := 5) (i := 0) dX12_caravan_5 rfl rfl ?_
  refine aw_iload_n (pc := 6) (i := 1) dX12_caravan_6 rfl rfl ?_
  refine mc_I (pc := 7) (As := [.int x]) (rest := []) dX12_caravan_7 rfl ok_X12_312 rfl rfl rfl (Nat.le_of_ble_eq_true rfl) (s_isLand ⟨_, _, rfl, rfl, ?_⟩)
  refine aw_top (y := bI (inB (σ.2.1 6 0) x)) rfl ?_
  refine ab_if_ne (pc := 10) (tgt := 15) dX12_caravan_10 rfl (fun h10 => ?_) (fun h10 => ?_)
  · -- 15
    obtain ⟨l, b_l, rfl⟩ := inB_t (by omega) h10
    have e_l := nI_clamp (n := l) (by omega)
    refine aw_iconst (pc := 15) dX12_caravan_15 iconst_0 ?_
    refine aw_istore_n (pc := 16) (i := 2) dX12_caravan_16 rfl (Nat.le_of_ble_eq_true rfl) rfl ?_
    refine aw_iconst (pc := 17) dX12_caravan_17 iconst_0 ?_
    refine aw_istore_n (pc := 18) (i := 3) dX12_caravan_18 rfl (Nat.le_of_ble_eq_true rfl) rfl ?_
    refine aw_ws (w9 := mW G.2.2.1 a (sN (mI σ 0 (nI 0)) 39 (σ.2.1 39))) rfl ?_
    refine aw_L (L9 := [some (.ref (a 60)), some (.int (nI l)), some (.int (nI (goL (σ.2.1 6) l 0).length)), some (.int (nI 0)), none, none, none]) rfl ?_
    refine cv_go (σ := mI σ 0 (nI 0)) H.1.1 (by assumption) (fun o ho => ?_) _ 0 (Nat.zero_add _) _ (fun k hk => absurd hk (Nat.not_lt_zero _))
    have ho : ∀ k, k < (caG (σ.2.1 6) l).length → o k = gt (caG (σ.2.1 6) l) k := ho
    refine aw_L (L9 := [some (.ref (a 60)), some (.int (nI l)), some (.int (nI (caG (σ.2.1 6) l).length)), none, none, none, none]) rfl ?_
    have hgl : (caG (σ.2.1 6) l).length ≤ 6 := Nat.le_trans (goL_le _) h2
    have hpm := PM_mem _ (caG (σ.2.1 6) l) rfl
    have hhd := PM_head _ (caG (σ.2.1 6) l) rfl
    obtain ⟨sb, hsb, hbl⟩ := goL_bit (t := σ.2.1 6) (l := l) h2
    have hch := ch_all sb hsb
    rw [← hbl] at hch
    have hch : chB (PM (caG (σ.2.1 6) l).length (caG (σ.2.1 6) l)) = true := hch
    have hk1 := k1 l (by assumption) rfl
    unfold caF at hk1
    generalize hV : PM (caG (σ.2.1 6) l).length (caG (σ.2.1 6) l) = VV at *
    cases VV with
    | nil => cases hhd
    | cons y V =>
      injection hhd with hy
      subst hy
      refine aw_aload_n (pc := 57) (i := 0) dX12_caravan_57 rfl rfl ?_
      refine mc_V (pc := 58) (As := []) (rest := []) dX12_caravan_58 rfl ok_X12_392 rfl rfl rfl (Nat.le_of_ble_eq_true rfl) (s_tries ⟨_, rfl, rfl, ?_⟩)
      refine aw_ws (w9 := mW G.2.2.1 a (cvS (mI σ 0 (nI 0)) (σ.2.1 6) (cpF (σ.2.1 22) (σ.2.1 6) 0 91 47) o (σ.2.1 40))) rfl ?_
      refine aw_iconst (pc := 61) dX12_caravan_61 iconst_m1 ?_
      refine aw_istore_n (pc := 62) (i := 3) dX12_caravan_62 rfl (Nat.le_of_ble_eq_true rfl) rfl ?_
      refine aw_iconst (pc := 63) dX12_caravan_63 iconst_1 ?_
      refine aw_istore (pc := 64) (i := 4) dX12_caravan_64 (Nat.le_of_ble_eq_true rfl) rfl ?_
      refine aw_L (L9 := [some (.ref (a 60)), some (.int (nI l)), some (.int (nI (caG (σ.2.1 6) l).length)), some (.int (dpI 0)), some (.int (bI true)), none, none]) rfl ?_
      refine cv_main (σ := mI σ 0 (nI 0)) hgl H hB hb5 (by assumption) V _ (0, []) o (σ.2.1 40) hch (fun z hz => ⟨(hpm z hz).1, fun q hq => goL_lt ((hpm z hz).2 q hq)⟩) ho (Or.inl rfl) (Nat.zero_le _) (fun o9 cr9 hc9 => ?_)
      refine aw_aload_n (pc := 171) (i := 0) dX12_caravan_171 rfl rfl ?_
      refine aw_iload_n (pc := 172) (i := 2) dX12_caravan_172 rfl rfl ?_
      refine mp_caravanMany (pc := 173) dX12_caravan_173 rfl ?_
      refine aw_iload_n (pc := 176) (i := 3) dX12_caravan_176 rfl rfl ?_
      exact aw_iret (pc := 177) dX12_caravan_177 rfl (Nat.le_refl _) (Nat.le_refl _) (hk1 o9 _ cr9 hc9)
  · -- 13
    refine aw_iconst (pc := 13) dX12_caravan_13 iconst_m1 ?_
    exact aw_iret (pc := 14) dX12_caravan_14 rfl (Nat.le_refl _) (Nat.le_refl _) (k0 h10)
