set_option maxHeartbeats 1000000 in
set_option maxRecDepth 20000 in
theorem lke_loop {G : xG} {d : Nat} {Q : xQ} {a : Nat → Nat} {κ : kS} {R : va_W} {e : Nat → Nat} (he : ∀ l, l < 7 → κ.2.1 9 l = nI (e l)) (hb : ∀ l, l < 7 → e l < 2 ^ 31) {r : Nat} (kk : Q (some (.int (nI r))) (wWk G.2.2.1 a κ ++ R)) : ∀ (z l b : Nat), l + z = 7 → b < 7 → lkG e z l b = r → AW G MX9_likeliestEnd d 0 0 Q 4 [some (.ref (a 13)), some (.int (nI b)), some (.int (nI l))] [] (wWk G.2.2.1 a κ ++ R) 0 0 := by
  intro z
  induction z with
  | zero =>
    intro l b hl hb7 hr
    refine aw_iload_n (pc := 4) (i := 2) dX9_likeliestEnd_4 rfl rfl ?_
    refine aw_bipush (pc := 5) dX9_likeliestEnd_5 bipush_7 ?_
    refine an_icmp_ge (pc := 7) (tgt := 33) dX9_likeliestEnd_7 rfl (by omega) (by decide) (fun h7 => ?_) (fun h7 => ?_)
    · -- 33
      refine aw_iload_n (pc := 33) (i := 1) dX9_likeliestEnd_33 rfl rfl ?_
      exact aw_iret (pc := 34) dX9_likeliestEnd_34 rfl (Nat.le_refl _) (Nat.le_refl _) (by rw [← hr] at kk; exact kk)
    · -- 10
      exfalso; omega
  | succ z ih =>
    intro l b hl hb7 hr
    refine aw_iload_n (pc := 4) (i := 2) dX9_likeliestEnd_4 rfl rfl ?_
    refine aw_bipush (pc := 5) dX9_likeliestEnd_5 bipush_7 ?_
    refine an_icmp_ge (pc := 7) (tgt := 33) dX9_likeliestEnd_7 rfl (by omega) (by decide) (fun h7 => ?_) (fun h7 => ?_)
    · -- 33
      exfalso; omega
    · -- 10
      refine aw_aload_n (pc := 10) (i := 0) dX9_likeliestEnd_10 rfl rfl ?_
      refine pg_X9_37 (pc := 11) dX9_likeliestEnd_11 rfl ?_
      refine aw_iload_n (pc := 14) (i := 2) dX9_likeliestEnd_14 rfl rfl ?_
      refine pl_X9_ends (pc := 15) (x := (nI (e l))) dX9_likeliestEnd_15 (by omega) (he _ (by omega)) ?_
      refine aw_aload_n (pc := 16) (i := 0) dX9_likeliestEnd_16 rfl rfl ?_
      refine pg_X9_37 (pc := 17) dX9_likeliestEnd_17 rfl ?_
      refine aw_iload_n (pc := 20) (i := 1) dX9_likeliestEnd_20 rfl rfl ?_
      refine pl_X9_ends (pc := 21) (x := (nI (e b))) dX9_likeliestEnd_21 (by omega) (he _ (by omega)) ?_
      refine an_icmp_le (pc := 22) (tgt := 27) dX9_likeliestEnd_22 rfl (hb _ (by omega)) (hb _ (by omega)) (fun h22 => ?_) (fun h22 => ?_)
      · -- 27
        refine an_inc (pc := 27) (z := 1) dX9_likeliestEnd_27 rfl (Nat.le_of_ble_eq_true rfl) rfl ?_
        refine aw_goto (pc := 30) (tgt := 4) dX9_likeliestEnd_30 rfl ?_
        exact ih (l + 1) _ (by omega) (by omega) (by rw [← hr, lkG, if_neg (by omega)])
      · -- 25
        refine aw_iload_n (pc := 25) (i := 2) dX9_likeliestEnd_25 rfl rfl ?_
        refine aw_istore_n (pc := 26) (i := 1) dX9_likeliestEnd_26 rfl (Nat.le_of_ble_eq_true rfl) rfl ?_
        refine an_inc (pc := 27) (z := 1) dX9_likeliestEnd_27 rfl (Nat.le_of_ble_eq_true rfl) rfl ?_
        refine aw_goto (pc := 30) (tgt := 4) dX9_likeliestEnd_30 rfl ?_
        exact ih (l + 1) _ (by omega) (by omega) (by rw [← hr, lkG, if_pos (by omega)])
set_option maxHeartbeats 1000000 in
set_option maxRecDepth 20000 in
theorem c9_likely {G : xG} {d : Nat} {Q : xQ} {a : Nat → Nat} {κ : kS} {R : va_W} {e : Nat → Nat} (he : ∀ l, l < 7 → κ.2.1 9 l = nI (e l)) (hb : ∀ l, l < 7 → e l < 2 ^ 31) (kk : Q (some (.int (nI (lkG e 6 1 0)))) (wWk G.2.2.1 a κ ++ R)) : MT G MX9_likeliestEnd (d) 0 0 [.ref (a 13)] (wWk G.2.2.1 a κ ++ R) Q := by
  refine mt_start (L := [some (.ref (a 13)), none, none]) rfl (Nat.le_of_ble_eq_true rfl) rfl ?_
  refine aw_iconst (pc := 0) dX9_likeliestEnd_0 iconst_0 ?_
  refine aw_istore_n (pc := 1) (i := 1) dX9_likeliestEnd_1 rfl (Nat.le_of_ble_eq_true rfl) rfl ?_
  refine aw_iconst (pc := 2) dX9_likeliestEnd_2 iconst_1 ?_
  refine aw_istore_n (pc := 3) (i := 2) dX9_likeliestEnd_3 rfl (Nat.le_of_ble_eq_true rfl) rfl ?_
  exact lke_loop he hb kk 6 1 0 rfl (by decide) rfl
