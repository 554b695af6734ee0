set_option maxRecDepth 100000 in
theorem lp_lk : Cond.methodLink "InchBordersLaw" 38 yL_person ∈ gtbl := by decide +kernel
theorem lw_sub {b q m ao i : Nat} {x y : Option Value} (j : Nat) (v : Value) (h : (Lw b q m ao i)[j]? = some (some v)) : ((((Lw b q m ao i).set 5 x).set 6 y))[j]? = some (some v) := by
  match j, h with
  | 0, h => exact h
  | 1, h => exact h
  | 2, h => exact h
  | 3, h => exact h
  | 4, h => exact h
  | 5, h => exact absurd (show (some none : Option (Option Value)) = some (some v) from h) (by simp)
  | 6, h => exact absurd (show (some none : Option (Option Value)) = some (some v) from h) (by simp)
  | (j + 7), h => exact absurd (show (none : Option (Option Value)) = some (some v) from h) (by simp)
set_option maxHeartbeats 4000000 in
set_option maxRecDepth 20000 in
theorem la_person {G : xG} {d : Nat} {Q : xQ} {ae : Nat → Nat} {tw ts : Nat} {kd : Nat → Bool} {ad : Nat → Nat → Nat} {κ : Nat → kS} {n : Nat} {σ : mS} {B nc ks : Nat} {a : Nat → Nat} {ao b N i : Nat} {f : Nat → Int64} {sc : Nat → Int32} {aK aV : Nat → Nat} {tf : Option Nat} (H : LH G ae tw ts aK aV tf b N sc i B nc ks) (hJ : J ae kd ad κ n σ B) (kk : LK G d Q (Lw b (ad 0 20) (a 60) ao i) (ad 0 20) a ao ae B nc ks) : AW G ML_law (d + 60) 600128 7301098 Q 340 (Lw b (ad 0 20) (a 60) ao i) [] (WX G.2.2.1 kd ad κ n [] ++ (mW G.2.2.1 a σ ++ oW G ao f)) nc ks := by
  obtain ⟨hE, hNB, hAO, hTH, hKB, hSc, hi, hN, hB0, hnc, hks⟩ := id H
  obtain ⟨hn, hMain, hSub, hTape, hR10, hR11, hR12, hR13, hMisc, hRef, hB5, jc, NM, sn, sd, m, pn, im, hCht, hSR, hSnt, hTok, hPast, hPm, hSds, hImg⟩ := id hJ
  have hw : WT (σ.2.1 6) := hTok.1.1.1
  have e0 : (nI 0).toNatClampNeg = 0 := by decide
  refine aw_aload_n (pc := 340) (i := 1) dL_law_340 rfl rfl ?_
  refine la_arg (pc := 341) (j := 1) dL_law_341 dL_law_342 dL_law_344 dL_law_345 dL_law_346 (by decide) hSc (by omega) hN rfl rfl ?_
  refine la_arg (pc := 347) (j := 2) dL_law_347 dL_law_348 dL_law_350 dL_law_351 dL_law_352 (by decide) hSc (by omega) hN rfl rfl ?_
  refine aw_aload_n (pc := 353) (i := 3) dL_law_353 rfl rfl ?_
  refine aw_cP (pc := 354) (As := [.ref (ad 0 20), .int (sc (i + 1)), .int (sc (i + 2)), .ref ao]) (rest := []) (Q9 := fun v w => AW G ML_law (d + 60) 600128 7301098 Q 357 (Lw b (ad 0 20) (a 60) ao i) v.toList w (nc + 1) (ks + 6)) dL_law_354 rfl lp_lk rfl rfl (Nat.le_of_ble_eq_true rfl) (l_person (d := d + 18) (X := mW G.2.2.1 a σ) hE hNB hAO hJ hTH (fun hok f9 hf9 => ?_) (fun hok => ?_)) (fun v w h => by rw [List.append_nil]; exact h) (by omega) (by omega)
  · refine aw_istore (pc := 357) (i := 5) (x := nI 0) dL_law_357 (Nat.le_of_ble_eq_true rfl) rfl ?_
    refine aw_aload_n (pc := 359) (i := 2) dL_law_359 rfl rfl ?_
    refine la_arg (pc := 360) (j := 1) dL_law_360 dL_law_361 dL_law_363 dL_law_364 dL_law_365 (by decide) hSc (by omega) hN rfl rfl ?_
    refine la_arg (pc := 366) (j := 2) dL_law_366 dL_law_367 dL_law_369 dL_law_370 dL_law_371 (by decide) hSc (by omega) hN rfl rfl ?_
    refine la_cm (pc := 372) (As := [.int (sc (i + 1)), .int (sc (i + 2))]) (rest := []) dL_law_372 oc_L_43 rfl rfl rfl (Nat.le_of_ble_eq_true rfl) (by omega) (by omega) (s_person (d := d + 54) hw ⟨_, _, rfl, rfl, ?_⟩)
    refine aw_istore (pc := 375) (i := 6) dL_law_375 (Nat.le_of_ble_eq_true rfl) rfl ?_
    refine aw_aload_n (pc := 377) (i := 2) dL_law_377 rfl rfl ?_
    refine la_cm (pc := 378) (As := []) (rest := []) dL_law_378 oc_L_44 rfl rfl rfl (Nat.le_of_ble_eq_true rfl) (by omega) (by omega) (s_thrown (d := d + 59) ⟨_, _, rfl, rfl, ?_⟩)
    refine aw_top (y := nI 0) (show bI (!personOK (σ.2.1 6) (sc (i + 1)) (sc (i + 2))) = nI 0 by rw [hok]; rfl) ?_
    refine aw_iload (pc := 381) (i := 5) (x := nI 0) dL_law_381 rfl ?_
    refine aw_icmp_eq (pc := 383) (tgt := 388) dL_law_383 rfl (fun _ => ?_) (fun h => absurd rfl h)
    refine aw_iload (pc := 388) (i := 5) (x := nI 0) dL_law_388 rfl ?_
    refine aw_if_ne (pc := 390) (tgt := 405) dL_law_390 rfl (fun h => absurd (show nI 0 = 0 by decide) h) (fun _ => ?_)
    refine aw_aload_n (pc := 393) (i := 3) dL_law_393 rfl rfl ?_
    refine aw_iconst (pc := 394) dL_law_394 iconst_0 ?_
    refine aw_perm perm_o ?_
    refine aw_lald (pc := 395) (q0 := 0) dL_law_395 rfl (vp_in_nI (by decide) (by decide)) ?_
    refine aw_perm perm_o.symm ?_
    refine aw_iload (pc := 396) (i := 6) (x := personA (σ.2.1 6) (sc (i + 1)) (sc (i + 2))) dL_law_396 rfl ?_
    refine aw_i2l (pc := 398) dL_law_398 ?_
    refine aw_lcmp (pc := 399) dL_law_399 ?_
    refine aj_if_eq (pc := 400) (tgt := 405) dL_law_400 rfl (fun _ => ?_) (fun h => absurd (by rw [e0]; exact hf9) h)
    refine aw_goto (pc := 405) (tgt := 1379) dL_law_405 rfl ?_
    refine aw_sub (L' := (Lw b (ad 0 20) (a 60) ao i)) lw_sub ?_
    exact kk.use rfl hJ.th (by omega) (by omega) (by omega)
  · refine aw_istore (pc := 357) (i := 5) (x := nI 1) dL_law_357 (Nat.le_of_ble_eq_true rfl) rfl ?_
    refine aw_aload_n (pc := 359) (i := 2) dL_law_359 rfl rfl ?_
    refine la_arg (pc := 360) (j := 1) dL_law_360 dL_law_361 dL_law_363 dL_law_364 dL_law_365 (by decide) hSc (by omega) hN rfl rfl ?_
    refine la_arg (pc := 366) (j := 2) dL_law_366 dL_law_367 dL_law_369 dL_law_370 dL_law_371 (by decide) hSc (by omega) hN rfl rfl ?_
    refine la_cm (pc := 372) (As := [.int (sc (i + 1)), .int (sc (i + 2))]) (rest := []) dL_law_372 oc_L_43 rfl rfl rfl (Nat.le_of_ble_eq_true rfl) (by omega) (by omega) (s_person (d := d + 54) hw ⟨_, _, rfl, rfl, ?_⟩)
    refine aw_istore (pc := 375) (i := 6) dL_law_375 (Nat.le_of_ble_eq_true rfl) rfl ?_
    refine aw_aload_n (pc := 377) (i := 2) dL_law_377 rfl rfl ?_
    refine la_cm (pc := 378) (As := []) (rest := []) dL_law_378 oc_L_44 rfl rfl rfl (Nat.le_of_ble_eq_true rfl) (by omega) (by omega) (s_thrown (d := d + 59) ⟨_, _, rfl, rfl, ?_⟩)
    refine aw_top (y := nI 1) (show bI (!personOK (σ.2.1 6) (sc (i + 1)) (sc (i + 2))) = nI 1 by rw [hok]; rfl) ?_
    refine aw_iload (pc := 381) (i := 5) (x := nI 1) dL_law_381 rfl ?_
    refine aw_icmp_eq (pc := 383) (tgt := 388) dL_law_383 rfl (fun _ => ?_) (fun h => absurd rfl h)
    refine aw_iload (pc := 388) (i := 5) (x := nI 1) dL_law_388 rfl ?_
    refine aw_if_ne (pc := 390) (tgt := 405) dL_law_390 rfl (fun _ => ?_) (fun h => absurd h (by decide))
    refine aw_goto (pc := 405) (tgt := 1379) dL_law_405 rfl ?_
    refine aw_sub (L' := (Lw b (ad 0 20) (a 60) ao i)) lw_sub ?_
    exact kk.use rfl hJ.th (by omega) (by omega) (by omega)
set_option maxHeartbeats 4000000 in
set_option maxRecDepth 20000 in
theorem la_sw {G : xG} {d : Nat} {Q : xQ} {ae : Nat → Nat} {tw ts : Nat} {kd : Nat → Bool} {ad : Nat → Nat → Nat} {κ : Nat → kS} {n : Nat} {σ : mS} {B nc ks : Nat} {a : Nat → Nat} {ao b N i : Nat} {f : Nat → Int64} {sc : Nat → Int32} {aK aV : Nat → Nat} {tf : Option Nat} (H : LH G ae tw ts aK aV tf b N sc i B nc ks) (hJ : J ae kd ad κ n σ B) {x : Int32} (kk : LK G d Q (Lw b (ad 0 20) (a 60) ao i) (ad 0 20) a ao ae B nc ks) : AW G ML_law (d + 60) 600128 7301098 Q 40 (Lw b (ad 0 20) (a 60) ao i) [.int x] (WX G.2.2.1 kd ad κ n [] ++ (mW G.2.2.1 a σ ++ oW G ao f)) nc ks := by
  rcases sw_in (n := 39) (by decide) x with ⟨hne, hsw⟩ | ⟨k, hk, rfl⟩
  · refine aw_tabOut (pc := 40) (tgt := 1379) dL_law_40 hsw rfl ?_
    exact kk.use rfl hJ (by omega) (by omega) (by omega)
  · rcases (show k = 0 ∨ k = 1 ∨ k = 2 ∨ k = 3 ∨ k = 4 ∨ k = 5 ∨ k = 6 ∨ k = 7 ∨ k = 8 ∨ k = 9 ∨ k = 10 ∨ k = 11 ∨ k = 12 ∨ k = 13 ∨ k = 14 ∨ k = 15 ∨ k = 16 ∨ k = 17 ∨ k = 18 ∨ k = 19 ∨ k = 20 ∨ k = 21 ∨ k = 22 ∨ k = 23 ∨ k = 24 ∨ k = 25 ∨ k = 26 ∨ k = 27 ∨ k = 28 ∨ k = 29 ∨ k = 30 ∨ k = 31 ∨ k = 32 ∨ k = 33 ∨ k = 34 ∨ k = 35 ∨ k = 36 ∨ k = 37 ∨ k = 38 ∨ k = 39 by omega) with rfl | rfl | rfl | rfl | rfl | rfl | rfl | rfl | rfl | rfl | rfl | rfl | rfl | rfl | rfl | rfl | rfl | rfl | rfl | rfl | rfl | rfl | rfl | rfl | rfl | rfl | rfl | rfl | rfl | rfl | rfl | rfl | rfl | rfl | rfl | rfl | rfl | rfl | rfl | rfl
    · exact aw_tabIn (pc := 40) (tgt := 216) dL_law_40 (by decide) (by decide) rfl rfl (la_feed H hJ kk)
    · exact aw_tabIn (pc := 40) (tgt := 289) dL_law_40 (by decide) (by decide) rfl rfl (la_end H hJ kk)
    · exact aw_tabIn (pc := 40) (tgt := 314) dL_law_40 (by decide) (by decide) rfl rfl (la_map H hJ kk)
    · exact aw_tabIn (pc := 40) (tgt := 327) dL_law_40 (by decide) (by decide) rfl rfl (la_fault H hJ kk)
    · exact aw_tabIn (pc := 40) (tgt := 340) dL_law_40 (by decide) (by decide) rfl rfl (la_person H hJ kk)
    · exact aw_tabIn (pc := 40) (tgt := 408) dL_law_40 (by decide) (by decide) rfl rfl (la_land H hJ kk)
    · exact aw_tabIn (pc := 40) (tgt := 445) dL_law_40 (by decide) (by decide) rfl rfl (la_road H hJ kk)
    · exact aw_tabIn (pc := 40) (tgt := 482) dL_law_40 (by decide) (by decide) rfl rfl (la_now H hJ kk)
    · exact aw_tabIn (pc := 40) (tgt := 507) dL_law_40 (by decide) (by decide) rfl rfl (la_cross H hJ kk)
    · exact aw_tabIn (pc := 40) (tgt := 544) dL_law_40 (by decide) (by decide) rfl rfl (la_pact H hJ kk)
    · exact aw_tabIn (pc := 40) (tgt := 581) dL_law_40 (by decide) (by decide) rfl rfl (la_breaks H hJ kk)
    · exact aw_tabIn (pc := 40) (tgt := 618) dL_law_40 (by decide) (by decide) rfl rfl (la_close H hJ kk)
    · exact aw_tabIn (pc := 40) (tgt := 643) dL_law_40 (by decide) (by decide) rfl rfl (la_open H hJ kk)
    · exact aw_tabIn (pc := 40) (tgt := 668) dL_law_40 (by decide) (by decide) rfl rfl (la_lend H hJ kk)
    · exact aw_tabIn (pc := 40) (tgt := 717) dL_law_40 (by decide) (by decide) rfl rfl (la_days H hJ kk)
    · exact aw_tabIn (pc := 40) (tgt := 742) dL_law_40 (by decide) (by decide) rfl rfl (la_undo H hJ kk)
    · exact aw_tabIn (pc := 40) (tgt := 755) dL_law_40 (by decide) (by decide) rfl rfl (la_way H hJ kk)
    · exact aw_tabIn (pc := 40) (tgt := 804) dL_law_40 (by decide) (by decide) rfl rfl (la_wayAt H hJ kk)
    · exact aw_tabIn (pc := 40) (tgt := 829) dL_law_40 (by decide) (by decide) rfl rfl (la_round H hJ kk)
    · exact aw_tabIn (pc := 40) (tgt := 854) dL_law_40 (by decide) (by decide) rfl rfl (la_spare H hJ kk)
    · exact aw_tabIn (pc := 40) (tgt := 903) dL_law_40 (by decide) (by decide) rfl rfl (la_spared H hJ kk)
    · exact aw_tabIn (pc := 40) (tgt := 916) dL_law_40 (by decide) (by decide) rfl rfl (la_made H hJ kk)
    · exact aw_tabIn (pc := 40) (tgt := 929) dL_law_40 (by decide) (by decide) rfl rfl (la_madeAt H hJ kk)
    · exact aw_tabIn (pc := 40) (tgt := 954) dL_law_40 (by decide) (by decide) rfl rfl (la_likely H hJ kk)
    · exact aw_tabIn (pc := 40) (tgt := 967) dL_law_40 (by decide) (by decide) rfl rfl (la_caravan H hJ kk)
    · exact aw_tabIn (pc := 40) (tgt := 992) dL_law_40 (by decide) (by decide) rfl rfl (la_caravanAt H hJ kk)
    · exact aw_tabIn (pc := 40) (tgt := 1017) dL_law_40 (by decide) (by decide) rfl rfl (la_part H hJ kk)
    · exact aw_tabIn (pc := 40) (tgt := 1054) dL_law_40 (by decide) (by decide) rfl rfl (la_parting H hJ kk)
    · exact aw_tabIn (pc := 40) (tgt := 1067) dL_law_40 (by decide) (by decide) rfl rfl (la_rests H hJ kk)
    · exact aw_tabIn (pc := 40) (tgt := 1080) dL_law_40 (by decide) (by decide) rfl rfl (la_pass H hJ kk)
    · exact aw_tabIn (pc := 40) (tgt := 1105) dL_law_40 (by decide) (by decide) rfl rfl (la_byteAt H hJ kk)
    · exact aw_tabIn (pc := 40) (tgt := 1130) dL_law_40 (by decide) (by decide) rfl rfl (la_drawn H hJ kk)
    · exact aw_tabIn (pc := 40) (tgt := 1167) dL_law_40 (by decide) (by decide) rfl rfl (la_odds H hJ kk)
    · exact aw_tabIn (pc := 40) (tgt := 1216) dL_law_40 (by decide) (by decide) rfl rfl (la_book H hJ kk)
    · exact aw_tabIn (pc := 40) (tgt := 1241) dL_law_40 (by decide) (by decide) rfl rfl (la_told H hJ kk)
    · exact aw_tabIn (pc := 40) (tgt := 1266) dL_law_40 (by decide) (by decide) rfl rfl (la_sentence H hJ kk)
    · exact aw_tabIn (pc := 40) (tgt := 1279) dL_law_40 (by decide) (by decide) rfl rfl (la_said H hJ kk)
    · exact aw_tabIn (pc := 40) (tgt := 1304) dL_law_40 (by decide) (by decide) rfl rfl (la_image H hJ kk)
    · exact aw_tabIn (pc := 40) (tgt := 1329) dL_law_40 (by decide) (by decide) rfl rfl (la_restore H hJ kk)
    · exact aw_tabIn (pc := 40) (tgt := 1354) dL_law_40 (by decide) (by decide) rfl rfl (la_count H hJ kk)
