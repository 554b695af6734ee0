section SW5
variable {G : xG} {μ : xM} {d mc ms : Nat} {Q : xQ} {pc : Nat} {L : List (Option Value)} {st : List Value} {n k : Nat}
theorem aw_swap5 {X Y Z U V R : va_W} (kk : AW G μ d mc ms Q pc L st (V ++ (X ++ (Y ++ (Z ++ (U ++ R))))) n k) : AW G μ d mc ms Q pc L st (X ++ (Y ++ (Z ++ (U ++ (V ++ R))))) n k := by
  refine aw_perm ?_ kk
  have e : ∀ T : va_W, X ++ (Y ++ (Z ++ (U ++ T))) = (X ++ (Y ++ (Z ++ U))) ++ T := fun T => by simp [List.append_assoc]
  rw [e, e, ← List.append_assoc, ← List.append_assoc V]
  exact List.Perm.append_right R List.perm_append_comm
theorem aw_swap6 {X Y Z U V S R : va_W} (kk : AW G μ d mc ms Q pc L st (S ++ (X ++ (Y ++ (Z ++ (U ++ (V ++ R)))))) n k) : AW G μ d mc ms Q pc L st (X ++ (Y ++ (Z ++ (U ++ (V ++ (S ++ R)))))) n k := by
  refine aw_perm ?_ kk
  have e : ∀ T : va_W, X ++ (Y ++ (Z ++ (U ++ (V ++ T)))) = (X ++ (Y ++ (Z ++ (U ++ V)))) ++ T := fun T => by simp [List.append_assoc]
  rw [e, e, ← List.append_assoc, ← List.append_assoc S]
  exact List.Perm.append_right R List.perm_append_comm
end SW5
theorem mem_d4 {X Y Z U R : va_W} : ∀ x ∈ R, x ∈ X ++ (Y ++ (Z ++ (U ++ R))) := fun _ h => List.mem_append_right _ (List.mem_append_right _ (List.mem_append_right _ (List.mem_append_right _ h)))
theorem mem_d5 {X Y Z U V R : va_W} : ∀ x ∈ R, x ∈ X ++ (Y ++ (Z ++ (U ++ (V ++ R)))) := fun _ h => List.mem_append_right _ (List.mem_append_right _ (List.mem_append_right _ (List.mem_append_right _ (List.mem_append_right _ h))))
theorem rwF_end {t : Nat → Nat} {hm sp : Nat} : ∀ j v, ∀ r ∈ rwF t hm sp (j + 1) v, r.2.1 < t 0 := by
  intro j
  induction j with
  | zero =>
    intro v
    rw [rwF]
    refine rwG_mem _ _ (fun y u h1 h2 hs r hr => ?_)
    rw [rwF] at hr
    rcases List.mem_singleton.mp hr with rfl
    show u.1 < t 0
    rw [stN_1 hs]; omega
  | succ j ih =>
    intro v
    rw [rwF]
    refine rwG_mem _ _ (fun y u h1 h2 hs r hr => ?_)
    exact ih u r hr
theorem mdK_end {t : Nat → Nat} {q v : Nat} : ∀ n k, 1 ≤ k → ∀ r ∈ mdK t q v n k, r.2.1 < t 0 := by
  intro n
  induction n with
  | zero => intro k _ r hr; exact absurd hr List.not_mem_nil
  | succ n ih =>
    intro k hk r hr
    rw [mdK] at hr
    rcases List.mem_append.mp hr with h | h
    · obtain ⟨j, rfl⟩ : ∃ j, k = j + 1 := ⟨k - 1, by omega⟩
      exact rwF_end j _ r (List.mem_filter.mp h).1
    · exact ih (k + 1) (by omega) r h
theorem cntE_0 {t : Nat → Nat} {q v l : Nat} (hl : t 0 ≤ l) : cntE (mdM t q v) l = 0 := by
  unfold cntE mdM
  rw [List.length_eq_zero_iff, List.filter_eq_nil_iff]
  intro r hr
  have := mdK_end 4 1 (by decide) r hr
  simp; omega
theorem lkG_z {e : Nat → Nat} : ∀ m l b, (∀ j, l ≤ j → e j = 0) → lkG e m l b = b := by
  intro m
  induction m with
  | zero => intro l b _; rfl
  | succ m ih => intro l b h; rw [lkG, if_neg (by rw [h l (Nat.le_refl _)]; omega)]; exact ih _ _ (fun j hj => h j (by omega))
theorem lkG_add {e : Nat → Nat} : ∀ p q l b, lkG e (p + q) l b = lkG e q (l + p) (lkG e p l b) := by
  intro p
  induction p with
  | zero => intro q l b; rw [Nat.zero_add]; rfl
  | succ p ih => intro q l b; rw [show p + 1 + q = (p + q) + 1 by omega, lkG, lkG, ih, show l + 1 + p = l + (p + 1) by omega]
theorem lkG_same {t : Nat → Nat} {q v : Nat} (h0 : t 0 ≤ 7) (h1 : 1 ≤ t 0) : lkG (cntE (mdM t q v)) 6 1 0 = lkG (cntE (mdM t q v)) (t 0 - 1) 1 0 := by
  have := lkG_add (e := cntE (mdM t q v)) (t 0 - 1) (7 - t 0) 1 0
  rw [show t 0 - 1 + (7 - t 0) = 6 by omega] at this
  rw [this]
  exact lkG_z _ _ _ (fun j hj => cntE_0 (by omega))
theorem mdM_mem {t : Nat → Nat} {q v : Nat} : ∀ n k r, r ∈ mdK t q v n k → k ≤ r.1.length ∧ r.1.length < k + n := by
  intro n
  induction n with
  | zero => intro k r hr; exact absurd hr List.not_mem_nil
  | succ n ih =>
    intro k r hr
    rw [mdK] at hr
    rcases List.mem_append.mp hr with h | h
    · have := rwF_rl _ _ r (List.mem_filter.mp h).1; omega
    · have := ih _ r h; omega
theorem mdM_len {t : Nat → Nat} {q v : Nat} {r : List Nat × nD} (h : (mdM t q v).head? = some r) : r.1.length ≤ 4 := by
  have := mdM_mem 4 1 r (List.mem_of_head? h); omega
theorem md_pos {t : Nat → Nat} {q v : Nat} {r : List Nat × nD} (h : (mdM t q v).head? = some r) : ¬ nI r.1.length ≤ 0 := by
  have := mdM_mem 4 1 r (List.mem_of_head? h)
  intro e
  have := (nI_leI (by omega) (by decide)).mp (show nI r.1.length ≤ nI 0 from e)
  omega
set_option maxHeartbeats 1000000 in
set_option maxRecDepth 20000 in
theorem x_made {G : xG} {d : Nat} {Q : xQ} {ae : Nat → Nat} {tw ts : Nat} {kd : Nat → Bool} {ad : Nat → Nat → Nat} {κ : Nat → kS} {n : Nat} {σ : mS} {B : Nat} {R : va_W} (hE : EB ae tw ts G) (hNB : NB G) (hAO : AO G) (hJ : J ae kd ad κ n σ B) (k0 : ∀ n1, σ.1 2 = nI n1 → n1 ≤ 940 → ¬ (n1 = 2 ∧ (octN (σ.2.2.1 1 0)) < σ.2.1 6 2) → ∀ κ9, J ae kd ad κ9 n (takenS (mI σ 0 (nI 0)) n1 940) B → Q (some (.int (-1))) (WX G.2.2.1 kd ad κ9 n [] ++ R)) (k1 : ∀ n1, σ.1 2 = nI n1 → n1 ≤ 940 → n1 = 2 → (octN (σ.2.2.1 1 0)) < σ.2.1 6 2 → mdM (σ.2.1 6) (octN (σ.2.2.1 1 0)) (octN (σ.2.2.1 1 1)) = [] → ∀ κ9, (∀ (p9 : pS) (dd9 : Int32) (sp9 hm9 : Nat) (en9 : Nat → Nat), J ae kd ad κ9 n (scr (mdS (takenS (mI σ 0 (nI 0)) n1 940) en9 (σ.2.1 32) (σ.1 35)) p9 dd9 sp9 hm9) B) → Q (some (.int (nI 0))) (WX G.2.2.1 kd ad κ9 n [] ++ R)) (k2 : ∀ n1, σ.1 2 = nI n1 → n1 ≤ 940 → n1 = 2 → (octN (σ.2.2.1 1 0)) < σ.2.1 6 2 → ∀ r, (mdM (σ.2.1 6) (octN (σ.2.2.1 1 0)) (octN (σ.2.2.1 1 1))).head? = some r → r.1.length ≤ 4 → ∀ κ9, (∀ (p9 : pS) (dd9 : Int32) (sp9 hm9 : Nat) (en9 mr9 : Nat → Nat), (∀ i, i < r.1.length → mr9 i = r.1.getD i 0) → J ae kd ad κ9 n (mI (scr (mdS (takenS (mI σ 0 (nI 0)) n1 940) en9 mr9 (nI r.1.length)) p9 dd9 sp9 hm9) 36 (nI (lkG (cntE (mdM (σ.2.1 6) (octN (σ.2.2.1 1 0)) (octN (σ.2.2.1 1 1)))) (σ.2.1 6 0 - 1) 1 0))) B) → Q (some (.int (nI (mdM (σ.2.1 6) (octN (σ.2.2.1 1 0)) (octN (σ.2.2.1 1 1))).length))) (WX G.2.2.1 kd ad κ9 n [] ++ R)) : MT G MX11_made (d + 12) 0 0 [.ref ((ad 0) 20)] (WX G.2.2.1 kd ad κ n [] ++ R) Q := by
  obtain ⟨hn, hMain, hSub, hTape, hR10, hR11, hR12, hR13, hMisc, hRef, hB5, jc, NM, sn, sd, m, pn, im, hCht, hSR, hSnt, hTok, hPast, hPm, hSds, hImg⟩ := id hJ
  have hw : WT (σ.2.1 6) := hTok.1.1.1
  obtain ⟨n1, hTB, hlen, hflt⟩ := id hTape
  have hn9 := hTB.2.1
  obtain ⟨hb, h0, h1, h2, hRd, hP, hD, hCl, hT⟩ := id hw
  have hSx := st_2 (G := G) (kd := kd) (ad := ad) (n := n) (xs := [11, 7, 6, 1, 0]) (R := R) hSR hw (by omega) (by simp)
  have hCx : CHR G (WX G.2.2.1 kd ad κ n [11, 7, 6, 1, 0] ++ R) (ad jc) (σ.2.1 6) NM := (hCht.chr (ad := ad) hw (fun i hi => by simp at hi; omega)).sub mem_R1
  have h256 := octN_lt (σ.2.2.1 1 0)
  have h257 := octN_lt (σ.2.2.1 1 1)
  refine mt_start (L := [some (.ref ((ad 0) 20)), none, none]) rfl (Nat.le_of_ble_eq_true rfl) rfl ?_
  refine aw_pull5 (p1 := 0) (p2 := 1) (p3 := 6) (p4 := 7) (p5 := 11) (by omega) (by omega) (by omega) (by omega) (by omega) (by decide) (by decide) (by decide) (by decide) (by decide) (by decide) (by decide) (by decide) (by decide) (by decide) ?_
  refine aw_ws (w9 := (wIb G.2.2.1 (ad 0) (κ 0) ++ (wTp G.2.2.1 (ad 1) (κ 1) ++ (wWk G.2.2.1 (ad 6) (κ 6) ++ (wRw G.2.2.1 (ad 7) 5 (κ 7) ++ (wRw G.2.2.1 (ad 11) 5 (κ 11) ++ (WX G.2.2.1 kd ad κ n [11, 7, 6, 1, 0] ++ R))))))) rfl ?_
  refine aw_aload_n (pc := 0) (i := 0) dX11_made_0 rfl rfl ?_
  refine pg_X11_10 (pc := 1) (v := .ref ((ad 1) 13)) dX11_made_1 rfl hMain.1 ?_
  refine aw_swap ?_
  refine pg_X11_113 (pc := 4) (v := .int (nI n1)) dX11_made_4 rfl hTB.1 ?_
  refine aw_istore_n (pc := 7) (i := 1) dX11_made_7 rfl (Nat.le_of_ble_eq_true rfl) rfl ?_
  refine aw_aload_n (pc := 8) (i := 0) dX11_made_8 rfl rfl ?_
  refine aw_swap ?_
  refine pg_X11_10 (pc := 9) (v := .ref ((ad 1) 13)) dX11_made_9 rfl hMain.1 ?_
  refine aw_iconst (pc := 12) dX11_made_12 iconst_0 ?_
  refine aw_swap ?_
  refine pp_X11_113 (pc := 13) dX11_made_13 rfl ?_
  refine aw_iload_n (pc := 16) (i := 1) dX11_made_16 rfl rfl ?_
  refine aw_iconst (pc := 17) dX11_made_17 iconst_2 ?_
  refine an_icmp_ne (pc := 18) (tgt := 36) dX11_made_18 rfl (by omega) (by decide) (fun h18 => ?_) (fun h18 => ?_)
  · -- 36
    refine aw_iconst (pc := 36) dX11_made_36 iconst_m1 ?_
    refine aw_swap5 ?_
    refine aw_swap5 ?_
    refine aw_swap5 ?_
    refine aw_swap4 ?_
    refine aw_swap5 ?_
    refine aw_push5 (p1 := 0) (p2 := 1) (p3 := 6) (p4 := 7) (p5 := 11) (by omega) (by omega) (by omega) (by omega) (by omega) (by decide) (by decide) (by decide) (by decide) (by decide) (by decide) (by decide) (by decide) (by decide) (by decide) ?_
    refine aw_iret (pc := 37) dX11_made_37 rfl (Nat.le_refl _) (Nat.le_refl _) ?_
    rw [upN_id _ 11 rfl, upN_id _ 7 rfl, upN_id _ 6 rfl, upN_id (upN κ 1 (kF (κ 1) 1 (.int (nI 0)))) 0 (v := κ 0) rfl]
    exact k0 n1 hlen hn9 (by omega) _ (⟨hn, hMain, hSub, ⟨0, ⟨rfl, by decide, hTB.2.2⟩, rfl, hflt⟩, hR10, hR11, hR12, hR13, hMisc, hRef, hB5, jc, NM, sn, sd, m, pn, im, (jSt.up (i := 1) (by omega) (by omega) (by omega) ⟨hCht, hSR, hSnt, hTok, hPast, hPm, hSds, hImg⟩)⟩)
  · -- 21
    refine aw_aload_n (pc := 21) (i := 0) dX11_made_21 rfl rfl ?_
    refine aw_aload_n (pc := 22) (i := 0) dX11_made_22 rfl rfl ?_
    refine aw_swap ?_
    refine pg_X11_10 (pc := 23) (v := .ref ((ad 1) 13)) dX11_made_23 rfl hMain.1 ?_
    refine aw_iconst (pc := 26) dX11_made_26 iconst_0 ?_
    refine aw_swap ?_
    refine cVi (pc := 27) (As := [.int (nI 0)]) (rest := [.ref ((ad 0) 20)]) dX11_made_27 rfl oc_X11_270 rfl rfl (Nat.le_of_ble_eq_true rfl) rfl rfl ovX8 (Nat.le_refl _) (Nat.le_refl _) (c8_byteOf (τ := σ.2.2.1 1) (n := 0) ⟨rfl, by decide, hTB.2.2⟩ (by decide) ⟨_, rfl, ?_⟩)
    change AW _ _ _ _ _ _ _ _ (.int (nI (octN (σ.2.2.1 1 0))) :: _) _ _ _
    refine aw_swap ?_
    refine cVi (pc := 30) (As := [.int (nI (octN (σ.2.2.1 1 0)))]) (rest := []) dX11_made_30 rfl oc_X11_135 rfl rfl (Nat.le_of_ble_eq_true rfl) rfl rfl ovX11 (Nat.le_refl _) (Nat.le_refl _) (c11_isPerson ovX11 hMain.2.1 (hSx.sub mem_d5) (hCx.sub mem_d5) (by omega) ⟨_, rfl, ?_⟩)
    refine ab_if_ne (pc := 33) (tgt := 38) dX11_made_33 rfl (fun h33 => ?_) (fun h33 => ?_)
    · -- 38
      have hp2 : (octN (σ.2.2.1 1 0)) < σ.2.1 6 2 := by rw [inB_nI (by omega) (by omega)] at h33; exact of_decide_eq_true h33
      refine aw_aload_n (pc := 38) (i := 0) dX11_made_38 rfl rfl ?_
      refine pg_X11_100 (pc := 39) (v := .ref ((ad 6) 13)) dX11_made_39 rfl hMain.2.2.2.2.2.1 ?_
      refine aw_aload_n (pc := 42) (i := 0) dX11_made_42 rfl rfl ?_
      refine pg_X11_72 (pc := 43) (v := .ref ((ad 2) 12)) dX11_made_43 rfl hMain.2.1 ?_
      refine aw_aload_n (pc := 46) (i := 0) dX11_made_46 rfl rfl ?_
      refine pg_X11_10 (pc := 47) (v := .ref ((ad 1) 13)) dX11_made_47 rfl hMain.1 ?_
      refine aw_iconst (pc := 50) dX11_made_50 iconst_0 ?_
      refine aw_swap ?_
      refine cVi (pc := 51) (As := [.int (nI 0)]) (rest := [.ref ((ad 2) 12), .ref ((ad 6) 13)]) dX11_made_51 rfl oc_X11_270 rfl rfl (Nat.le_of_ble_eq_true rfl) rfl rfl ovX8 (Nat.le_refl _) (Nat.le_refl _) (c8_byteOf (τ := σ.2.2.1 1) (n := 0) ⟨rfl, by decide, hTB.2.2⟩ (by decide) ⟨_, rfl, ?_⟩)
      change AW _ _ _ _ _ _ _ _ (.int (nI (octN (σ.2.2.1 1 0))) :: _) _ _ _
      refine aw_aload_n (pc := 54) (i := 0) dX11_made_54 rfl rfl ?_
      refine aw_swap ?_
      refine pg_X11_10 (pc := 55) (v := .ref ((ad 1) 13)) dX11_made_55 rfl hMain.1 ?_
      refine aw_iconst (pc := 58) dX11_made_58 iconst_1 ?_
      refine aw_swap ?_
      refine cVi (pc := 59) (As := [.int (nI 1)]) (rest := [.int (nI (octN (σ.2.2.1 1 0))), .ref ((ad 2) 12), .ref ((ad 6) 13)]) dX11_made_59 rfl oc_X11_270 rfl rfl (Nat.le_of_ble_eq_true rfl) rfl rfl ovX8 (Nat.le_refl _) (Nat.le_refl _) (c8_byteOf (τ := σ.2.2.1 1) (n := 0) ⟨rfl, by decide, hTB.2.2⟩ (by decide) ⟨_, rfl, ?_⟩)
      change AW _ _ _ _ _ _ _ _ (.int (nI (octN (σ.2.2.1 1 1))) :: _) _ _ _
      refine aw_swap3 ?_
      refine aw_swap5 ?_
      refine aw_swap3 ?_
      refine aw_swap4 ?_
      refine aw_swap5 ?_
      refine aw_swap5 ?_
      refine cVi (pc := 62) (As := [.ref ((ad 2) 12), .int (nI (octN (σ.2.2.1 1 0))), .int (nI (octN (σ.2.2.1 1 1)))]) (rest := []) dX11_made_62 rfl oc_X11_273 rfl rfl (Nat.le_of_ble_eq_true rfl) rfl rfl ovX9 (Nat.le_refl _) (Nat.le_refl _) (c9_count hNB (hSx.sub mem_d3) (hCx.sub mem_d3) hw (by omega) hSub.2.2.2.1 (by omega) ?_)
      intro k6 k7 hI6 hen hbs hl20
      refine ⟨_, rfl, ?_⟩
      refine aw_istore_n (pc := 65) (i := 2) dX11_made_65 rfl (Nat.le_of_ble_eq_true rfl) rfl ?_
      refine aw_iload_n (pc := 66) (i := 2) dX11_made_66 rfl rfl ?_
      refine an_if_le (pc := 67) (tgt := 95) dX11_made_67 rfl (by omega) (fun h67 => ?_) (fun h67 => ?_)
      · -- 95
        refine aw_iload_n (pc := 95) (i := 2) dX11_made_95 rfl rfl ?_
        refine aw_swap5 ?_
        refine aw_swap3 ?_
        refine aw_swap3 ?_
        refine aw_swap5 ?_
        refine aw_swap5 ?_
        refine aw_push5 (p1 := 0) (p2 := 1) (p3 := 6) (p4 := 7) (p5 := 11) (by omega) (by omega) (by omega) (by omega) (by omega) (by decide) (by decide) (by decide) (by decide) (by decide) (by decide) (by decide) (by decide) (by decide) (by decide) ?_
        refine aw_iret (pc := 96) dX11_made_96 rfl (Nat.le_refl _) (Nat.le_refl _) ?_
        rw [upN_id _ 11 rfl, upN_id (upN (upN (upN κ 7 k7) 6 k6) 1 (kF (κ 1) 1 (.int (nI 0)))) 0 (v := κ 0) rfl]
        have h0l : (mdM (σ.2.1 6) (octN (σ.2.2.1 1 0)) (octN (σ.2.2.1 1 1))).length = 0 := h67
        rw [h0l]
        exact k1 n1 hlen hn9 h18 hp2 (List.length_eq_zero_iff.mp h0l) _ (fun p9 dd9 sp9 hm9 en9 => ⟨hn, hMain, ⟨hSub.1, hSub.2.1, hSub.2.2.1, hI6, hSub.2.2.2.2⟩, ⟨0, ⟨rfl, by decide, hTB.2.2⟩, rfl, hflt⟩, hR10, hR11, hR12, hR13, hMisc, hRef, hB5, jc, NM, sn, sd, m, pn, im, (jSt.up (i := 1) (by omega) (by omega) (by omega) (jSt.up (i := 6) (by omega) (by omega) (by omega) (jSt.up (i := 7) (by omega) (by omega) (by omega) ⟨hCht, hSR, hSnt, hTok, hPast, hPm, hSds, hImg⟩)))⟩)
      · -- 70
        obtain ⟨r9, hr9⟩ : ∃ r, (mdM (σ.2.1 6) (octN (σ.2.2.1 1 0)) (octN (σ.2.2.1 1 1))).head? = some r := by cases e : mdM (σ.2.1 6) (octN (σ.2.2.1 1 0)) (octN (σ.2.2.1 1 1)) with | nil => rw [e] at h67; exact absurd h67 (by decide) | cons x l => exact ⟨x, rfl⟩
        obtain ⟨hbr, hb5⟩ := hbs r9 hr9
        have hr4 : r9.1.length ≤ 4 := mdM_len hr9
        refine aw_aload_n (pc := 70) (i := 0) dX11_made_70 rfl rfl ?_
        refine aw_swap3 ?_
        refine pg_X11_48 (pc := 71) (v := .ref ((ad 11) 2)) dX11_made_71 rfl hMain.2.2.2.2.2.2.2.2.1 ?_
        refine aw_aload_n (pc := 74) (i := 0) dX11_made_74 rfl rfl ?_
        refine pg_X11_100 (pc := 75) (v := .ref ((ad 6) 13)) dX11_made_75 rfl hMain.2.2.2.2.2.1 ?_
        refine aw_swap ?_
        refine pg_X11_249 (pc := 78) (v := .ref ((ad 7) 2)) dX11_made_78 rfl hI6.1 ?_
        refine aw_swap5 ?_
        refine aw_swap5 ?_
        refine aw_swap4 ?_
        refine aw_swap5 ?_
        refine aw_swap5 ?_
        refine aw_swap5 ?_
        refine cVv (pc := 81) (As := [.ref ((ad 7) 2)]) (rest := []) dX11_made_81 rfl oc_X11_252 rfl rfl (Nat.le_of_ble_eq_true rfl) rfl rfl ovX5 (Nat.le_refl _) (Nat.le_refl _) (c5_copy (by decide) (by decide) ((RwV.of hbr (by rw [List.length_map]; omega)).sub mem_app) (by rw [List.length_map]; omega) ?_)
        intro k11 g11
        refine ⟨rfl, ?_⟩
        refine aw_aload_n (pc := 84) (i := 0) dX11_made_84 rfl rfl ?_
        refine aw_aload_n (pc := 85) (i := 0) dX11_made_85 rfl rfl ?_
        refine aw_swap4 ?_
        refine pg_X11_100 (pc := 86) (v := .ref ((ad 6) 13)) dX11_made_86 rfl hMain.2.2.2.2.2.1 ?_
        refine aw_swap3 ?_
        refine cVi (pc := 89) (As := []) (rest := [.ref ((ad 0) 20)]) dX11_made_89 rfl oc_X11_277 rfl rfl (Nat.le_of_ble_eq_true rfl) rfl rfl ovX9 (Nat.le_refl _) (Nat.le_refl _) (c9_likely hen (fun l _ => by have := cntE_le (M := mdM (σ.2.1 6) (octN (σ.2.2.1 1 0)) (octN (σ.2.2.1 1 1))) (l := l); omega) ⟨_, rfl, ?_⟩)
        refine aw_swap ?_
        refine pp_X11_57 (pc := 92) dX11_made_92 rfl ?_
        refine aw_iload_n (pc := 95) (i := 2) dX11_made_95 rfl rfl ?_
        refine aw_swap3 ?_
        refine aw_swap4 ?_
        refine aw_swap4 ?_
        refine aw_swap5 ?_
        refine aw_swap5 ?_
        refine aw_push5 (p1 := 0) (p2 := 1) (p3 := 6) (p4 := 7) (p5 := 11) (by omega) (by omega) (by omega) (by omega) (by omega) (by decide) (by decide) (by decide) (by decide) (by decide) (by decide) (by decide) (by decide) (by decide) (by decide) ?_
        refine aw_iret (pc := 96) dX11_made_96 rfl (Nat.le_refl _) (Nat.le_refl _) ?_
        have h10 : 1 ≤ σ.2.1 6 0 := by have := (hP _ hp2).1; omega
        refine k2 n1 hlen hn9 h18 hp2 r9 hr9 hr4 _ (fun p9 dd9 sp9 hm9 en9 mr9 hmr => ?_)
        obtain ⟨b1, b2, b3, b4, b5, b6, b7, b8⟩ := jSt.up (i := 1) (k := kF (κ 1) 1 (.int (nI 0))) (by omega) (by omega) (by omega) (jSt.up (i := 6) (k := k6) (by omega) (by omega) (by omega) (jSt.up (i := 7) (k := k7) (by omega) (by omega) (by omega) (jSt.up (i := 11) (k := k11) (by omega) (by omega) (by omega) (show jSt ae kd ad κ n σ B jc NM sn sd m pn im from ⟨hCht, hSR, hSnt, hTok, hPast, hPm, hSds, hImg⟩))))
        exact ⟨hn, hMain, ⟨hSub.1, hSub.2.1, hSub.2.2.1, hI6, hSub.2.2.2.2⟩, ⟨0, ⟨rfl, by decide, hTB.2.2⟩, rfl, hflt⟩, hR10, ⟨Or.inr ⟨_, hr4, rfl⟩, r9.1.map nI, g11, by rw [List.length_map]; omega, row_eq rfl (by omega) hmr⟩, hR12, hR13, ⟨by show _ = Value.int (likelyA (nI r9.1.length) (nI (lkG (cntE (mdM (σ.2.1 6) (octN (σ.2.2.1 1 0)) (octN (σ.2.2.1 1 1)))) (σ.2.1 6 0 - 1) 1 0))); rw [show likelyA (nI r9.1.length) (nI (lkG (cntE (mdM (σ.2.1 6) (octN (σ.2.2.1 1 0)) (octN (σ.2.2.1 1 1)))) (σ.2.1 6 0 - 1) 1 0)) = nI (lkG (cntE (mdM (σ.2.1 6) (octN (σ.2.2.1 1 0)) (octN (σ.2.2.1 1 1)))) 6 1 0) from by rw [lkG_same h0 h10]; exact if_neg (md_pos hr9)]; rfl, hMisc.2⟩, hRef, hB5, jc, NM, sn, sd, m, pn, im, ⟨b1.up (by decide), b2, b3.up (by decide), b4, jPast.up (by decide) b5, b6, fun j q1 q2 => by rw [upN_n _ _ _ _ (by omega)]; exact b7 j q1 q2, ⟨b8.1, b8.2.1, b8.2.2.1, b8.2.2.2.1, fun k hk hp => by obtain ⟨c1, c2⟩ := b8.2.2.2.2 k hk hp; exact ⟨by rw [upN_n _ _ _ _ (by omega)]; exact c1.up (by decide), c2⟩⟩⟩⟩
    · -- 36
      refine aw_iconst (pc := 36) dX11_made_36 iconst_m1 ?_
      refine aw_push5 (p1 := 0) (p2 := 1) (p3 := 6) (p4 := 7) (p5 := 11) (by omega) (by omega) (by omega) (by omega) (by omega) (by decide) (by decide) (by decide) (by decide) (by decide) (by decide) (by decide) (by decide) (by decide) (by decide) ?_
      refine aw_iret (pc := 37) dX11_made_37 rfl (Nat.le_refl _) (Nat.le_refl _) ?_
      rw [upN_id _ 11 rfl, upN_id _ 7 rfl, upN_id _ 6 rfl, upN_id (upN κ 1 (kF (κ 1) 1 (.int (nI 0)))) 0 (v := κ 0) rfl]
      exact k0 n1 hlen hn9 (by rw [inB_nI (by omega) (by omega)] at h33; have := of_decide_eq_false h33; omega) _ (⟨hn, hMain, hSub, ⟨0, ⟨rfl, by decide, hTB.2.2⟩, rfl, hflt⟩, hR10, hR11, hR12, hR13, hMisc, hRef, hB5, jc, NM, sn, sd, m, pn, im, (jSt.up (i := 1) (by omega) (by omega) (by omega) ⟨hCht, hSR, hSnt, hTok, hPast, hPm, hSds, hImg⟩)⟩)
