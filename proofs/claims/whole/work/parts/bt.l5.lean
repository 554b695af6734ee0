theorem lw_end {N : Nat} (h : N < 6) : nI N - nI 6 < nI 0 := by
  rcases (show N = 0 ∨ N = 1 ∨ N = 2 ∨ N = 3 ∨ N = 4 ∨ N = 5 by omega) with rfl | rfl | rfl | rfl | rfl | rfl <;> decide
set_option maxHeartbeats 4000000 in
set_option maxRecDepth 20000 in
theorem la_loop {G : xG} {d : Nat} {Q : xQ} {ae : Nat → Nat} {tw ts : Nat} {a : Nat → Nat} {ao b N q : Nat} {sc : Nat → Int32} {aK aV : Nat → Nat} {tf : Option Nat} (hE : EB ae tw ts G) (hNB : NB G) (hAO : AO G) (hTH : TH G) (hKB : KB aK aV tf G) (hSc : SC b N sc G) (hN : N ≤ 384) (kk : ∀ w, Q (some (.int (nI 1))) w) :
    ∀ (r c i : Nat), c + r = 64 → i = 6 * c → i ≤ N → ∀ (kd : Nat → Bool) (ad : Nat → Nat → Nat) (κ : Nat → kS) (n : Nat) (σ : mS) (f : Nat → Int64), ad 0 20 = q → J ae kd ad κ n σ (4096 + 8000 * c) → AW G ML_law (d + 60) 600128 7301098 Q 23 (Lw b q (a 60) ao i) [] (WX G.2.2.1 kd ad κ n [] ++ (mW G.2.2.1 a σ ++ oW G ao f)) (200 + 16 * c) (10000 + 200 * c) := by
  intro r
  induction r with
  | zero =>
    intro c i hc hi6 hiN kd ad κ n σ f hq hJ
    refine aw_iload (pc := 23) (i := 4) dL_law_23 rfl ?_
    refine aw_aload_n (pc := 25) (i := 0) dL_law_25 rfl rfl ?_
    refine aw_slen (pc := 26) dL_law_26 hSc ?_
    refine aw_bipush (pc := 27) (v := nI 6) dL_law_27 (by decide) ?_
    refine an_sub (pc := 29) dL_law_29 (by omega) ?_
    refine an_icmp_gt (pc := 30) (tgt := 1385) dL_law_30 rfl (by omega) (by omega) (fun _ => ?_) (fun h => absurd h (by omega))
    refine aw_iconst (pc := 1385) dL_law_1385 iconst_1 ?_
    exact ab_ret1 (pc := 1386) dL_law_1386 rfl (by omega) (by omega) (kk _)
  | succ r ih =>
    intro c i hc hi6 hiN kd ad κ n σ f hq hJ
    refine aw_iload (pc := 23) (i := 4) dL_law_23 rfl ?_
    refine aw_aload_n (pc := 25) (i := 0) dL_law_25 rfl rfl ?_
    refine aw_slen (pc := 26) dL_law_26 hSc ?_
    refine aw_bipush (pc := 27) (v := nI 6) dL_law_27 (by decide) ?_
    by_cases h6 : N < 6
    · refine aw_isub (pc := 29) dL_law_29 ?_
      have i0 : i = 0 := by omega
      subst i0
      refine aw_icmp_gt (pc := 30) (tgt := 1385) dL_law_30 rfl (fun _ => ?_) (fun h => absurd (lw_end h6) h)
      refine aw_iconst (pc := 1385) dL_law_1385 iconst_1 ?_
      exact ab_ret1 (pc := 1386) dL_law_1386 rfl (by omega) (by omega) (kk _)
    · refine an_sub (pc := 29) dL_law_29 (by omega) ?_
      refine an_icmp_gt (pc := 30) (tgt := 1385) dL_law_30 rfl (by omega) (by omega) (fun h => ?_) (fun h => ?_)
      · refine aw_iconst (pc := 1385) dL_law_1385 iconst_1 ?_
        exact ab_ret1 (pc := 1386) dL_law_1386 rfl (by omega) (by omega) (kk _)
      · refine aw_aload_n (pc := 33) (i := 0) dL_law_33 rfl rfl ?_
        refine aw_iload (pc := 34) (i := 4) dL_law_34 rfl ?_
        refine aw_sld (pc := 36) dL_law_36 hSc (by omega) (by omega) ?_
        refine aw_bipush (pc := 37) (v := nI 63) dL_law_37 (by decide) ?_
        refine aw_iand (pc := 39) dL_law_39 ?_
        subst hq
        refine la_sw (aK := aK) (aV := aV) (tf := tf) (tw := tw) (ts := ts) (N := N) (sc := sc) ⟨hE, hNB, hAO, hTH, hKB, hSc, by omega, hN, by omega, by omega, by omega⟩ hJ ?_
        intro kd9 ad9 κ9 n9 σ9 f9 hq9 hJ9
        refine an_inc (pc := 1379) (z := 6) dL_law_1379 rfl (Nat.le_of_ble_eq_true rfl) rfl ?_
        refine aw_goto (pc := 1382) (tgt := 23) dL_law_1382 rfl ?_
        refine aw_wid (n' := 200 + 16 * (c + 1)) (k' := 10000 + 200 * (c + 1)) (by omega) (by omega) ?_
        exact ih (c + 1) (i + 6) (by omega) (by omega) (by omega) kd9 ad9 κ9 n9 σ9 f9 hq9 (hJ9.mono (by omega))
theorem perm_s {O M X : va_W} : List.Perm (O ++ (M ++ (X ++ []))) (X ++ (M ++ O)) := by
  rw [List.append_nil, ← List.append_assoc X M O]
  exact List.perm_append_comm.trans ((List.perm_append_comm (l₁ := M) (l₂ := X)).append_right O)
theorem oi_L_15 : xIok "InchBordersLaw" MX11_init 15 0 := ⟨(gtbl_in (List.mem_of_getElem? (i := 137) (by decide +kernel)) rfl), (gtbl_in (List.mem_of_getElem? (i := 135) (by decide +kernel)) rfl), (gtbl_in (List.mem_of_getElem? (i := 136) (by decide +kernel)) rfl), tw_109, by decide +kernel, by decide⟩
theorem oi_L_18 : xIok "InchBordersLaw" MX12_init 18 0 := ⟨(gtbl_in (List.mem_of_getElem? (i := 1379) (by decide +kernel)) rfl), (gtbl_in (List.mem_of_getElem? (i := 1377) (by decide +kernel)) rfl), (gtbl_in (List.mem_of_getElem? (i := 1378) (by decide +kernel)) rfl), tw_119, by decide +kernel, by decide⟩
set_option maxHeartbeats 4000000 in
set_option maxRecDepth 20000 in
theorem la_start {G : xG} {d : Nat} {Q : xQ} {ae : Nat → Nat} {tw ts : Nat} {b N : Nat} {sc : Nat → Int32} {aK aV : Nat → Nat} {tf : Option Nat} (hE : EB ae tw ts G) (hNB : NB G) (hAO : AO G) (hTH : TH G) (hKB : KB aK aV tf G) (hSc : SC b N sc G) (hN : N ≤ 384) (kk : ∀ w, Q (some (.int (nI 1))) w) :
    AW G ML_law (d + 60) 600128 7301098 Q 0 [some (.ref b), none, none, none, none, none, none] [] [] 0 0 := by
  refine aw_new (pc := 0) (fs := [.null, .null, .null, .null, .int 0, .int 0, .null, .int 0, .null, .null, .null, .null, .null, .null, .null, .null, .null, .int 0, .int 0, .int 0]) (T := TX11) (ty := tyX11) dL_law_0 rfl (gtbl_in (List.mem_of_getElem? (i := 133) (by decide +kernel)) rfl) (gtbl_in (List.mem_of_getElem? (i := 134) (by decide +kernel)) rfl) tw_109 inGX11 tyX11_ok (ci := 9) rfl (fun j hj => by have hj : j < 20 := hj; rcases (show j = 0 ∨ j = 1 ∨ j = 2 ∨ j = 3 ∨ j = 4 ∨ j = 5 ∨ j = 6 ∨ j = 7 ∨ j = 8 ∨ j = 9 ∨ j = 10 ∨ j = 11 ∨ j = 12 ∨ j = 13 ∨ j = 14 ∨ j = 15 ∨ j = 16 ∨ j = 17 ∨ j = 18 ∨ j = 19 by omega) with rfl | rfl | rfl | rfl | rfl | rfl | rfl | rfl | rfl | rfl | rfl | rfl | rfl | rfl | rfl | rfl | rfl | rfl | rfl | rfl <;> rfl) (by omega) (by omega) (fun q0 => ?_)
  refine aw_dup (pc := 3) dL_law_3 rfl ?_
  refine aw_cI (pc := 4) (As := []) (rest := [.ref q0]) dL_law_4 rfl oi_L_15 rfl rfl (Nat.le_of_ble_eq_true rfl) (by omega) (by omega) (i_X11 (d := d + 56) hNB hAO (fun ad κ hq hJ => ⟨rfl, ?_⟩))
  refine aw_astore_n (pc := 7) (i := 1) dL_law_7 rfl (Nat.le_of_ble_eq_true rfl) rfl ?_
  refine aw_new (pc := 8) (fs := [.int 0, .null, .int 0, .int 0, .int 0, .int 0, .null, .null, .null, .null, .null, .int 0, .int 0, .int 0, .int 0, .int 0, .int 0, .long 0, .int 0, .int 0, .int 0, .null, .null, .int 0, .null, .null, .null, .null, .int 0, .int 0, .int 0, .null, .null, .null, .int 0, .int 0, .int 0, .int 0, .int 0, .null, .null, .int 0, .int 0, .int 0, .null, .int 0, .int 0, .int 0, .null, .int 0, .null, .int 0, .int 0, .int 0, .int 0, .int 0, .null, .null, .null, .null]) (T := TX12) (ty := tyX12) dL_law_8 rfl (gtbl_in (List.mem_of_getElem? (i := 1376) (by decide +kernel)) rfl) (gtbl_in (List.mem_of_getElem? (i := 1370) (by decide +kernel)) rfl) tw_119 inG12 tyX12_ok (ci := 10) rfl (fun j hj => by have hj : j < 60 := hj; rcases (show j = 0 ∨ j = 1 ∨ j = 2 ∨ j = 3 ∨ j = 4 ∨ j = 5 ∨ j = 6 ∨ j = 7 ∨ j = 8 ∨ j = 9 ∨ j = 10 ∨ j = 11 ∨ j = 12 ∨ j = 13 ∨ j = 14 ∨ j = 15 ∨ j = 16 ∨ j = 17 ∨ j = 18 ∨ j = 19 ∨ j = 20 ∨ j = 21 ∨ j = 22 ∨ j = 23 ∨ j = 24 ∨ j = 25 ∨ j = 26 ∨ j = 27 ∨ j = 28 ∨ j = 29 ∨ j = 30 ∨ j = 31 ∨ j = 32 ∨ j = 33 ∨ j = 34 ∨ j = 35 ∨ j = 36 ∨ j = 37 ∨ j = 38 ∨ j = 39 ∨ j = 40 ∨ j = 41 ∨ j = 42 ∨ j = 43 ∨ j = 44 ∨ j = 45 ∨ j = 46 ∨ j = 47 ∨ j = 48 ∨ j = 49 ∨ j = 50 ∨ j = 51 ∨ j = 52 ∨ j = 53 ∨ j = 54 ∨ j = 55 ∨ j = 56 ∨ j = 57 ∨ j = 58 ∨ j = 59 by omega) with rfl | rfl | rfl | rfl | rfl | rfl | rfl | rfl | rfl | rfl | rfl | rfl | rfl | rfl | rfl | rfl | rfl | rfl | rfl | rfl | rfl | rfl | rfl | rfl | rfl | rfl | rfl | rfl | rfl | rfl | rfl | rfl | rfl | rfl | rfl | rfl | rfl | rfl | rfl | rfl | rfl | rfl | rfl | rfl | rfl | rfl | rfl | rfl | rfl | rfl | rfl | rfl | rfl | rfl | rfl | rfl | rfl | rfl | rfl | rfl <;> rfl) (by omega) (by omega) (fun q8 => ?_)
  refine aw_dup (pc := 11) dL_law_11 rfl ?_
  refine aw_cI (pc := 12) (As := []) (rest := [.ref q8]) dL_law_12 rfl oi_L_18 rfl rfl (Nat.le_of_ble_eq_true rfl) (by omega) (by omega) (i_X12 (d := d + 57) (fun a σ hq8 hS0 => ⟨rfl, ?_⟩))
  refine aw_astore_n (pc := 15) (i := 2) dL_law_15 rfl (Nat.le_of_ble_eq_true rfl) rfl ?_
  refine aw_iconst (pc := 16) dL_law_16 iconst_1 ?_
  refine aw_newJ (pc := 17) (N := 1) dL_law_17 (by decide) (by omega) (by omega) (fun ao => ?_)
  refine aw_astore_n (pc := 19) (i := 3) dL_law_19 rfl (Nat.le_of_ble_eq_true rfl) rfl ?_
  refine aw_iconst (pc := 20) dL_law_20 iconst_0 ?_
  refine aw_istore (pc := 21) (i := 4) dL_law_21 (Nat.le_of_ble_eq_true rfl) rfl ?_
  refine aw_perm (perm_s (O := oW G ao (fun _ => 0)) (M := mW G.2.2.1 a σ) (X := WX G.2.2.1 (fun _ => true) ad κ 25 [])) ?_
  refine aw_wid (n' := 200 + 16 * 0) (k' := 10000 + 200 * 0) (by omega) (by omega) ?_
  subst hq8
  exact la_loop (q := q0) hE hNB hAO hTH hKB hSc hN kk 64 0 0 (by omega) (by omega) (by omega) _ ad κ 25 σ _ hq (hJ ae σ hS0)
