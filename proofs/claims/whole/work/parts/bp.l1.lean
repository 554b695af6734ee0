set_option maxHeartbeats 2000000 in
set_option maxRecDepth 20000 in
theorem la_fault {G : xG} {d : Nat} {Q : xQ} {ae : Nat → Nat} {tw ts : Nat} {kd : Nat → Bool} {ad : Nat → Nat → Nat} {κ : Nat → kS} {n : Nat} {σ : mS} {B nc ks : Nat} {a : Nat → Nat} {ao b N i : Nat} {f : Nat → Int64} {sc : Nat → Int32} {aK aV : Nat → Nat} {tf : Option Nat} (H : LH G ae tw ts aK aV tf b N sc i B nc ks) (hJ : J ae kd ad κ n σ B) (kk : LK G d Q (Lw b (ad 0 20) (a 60) ao i) (ad 0 20) a ao ae B nc ks) : AW G ML_law (d + 60) 600128 7301098 Q 327 (Lw b (ad 0 20) (a 60) ao i) [] (WX G.2.2.1 kd ad κ n [] ++ (mW G.2.2.1 a σ ++ oW G ao f)) nc ks := by
  obtain ⟨hE, hNB, hAO, hTH, hKB, hSc, hi, hN, hB0, hnc, hks⟩ := id H
  obtain ⟨hn, hMain, hSub, hTape, hR10, hR11, hR12, hR13, hMisc, hRef, hB5, jc, NM, sn, sd, m, pn, im, hCht, hSR, hSnt, hTok, hPast, hPm, hSds, hImg⟩ := id hJ
  have hw : WT (σ.2.1 6) := hTok.1.1.1
  have h07 : σ.2.1 6 0 ≤ 7 := hw.2.1
  have hb9 : ∀ j, σ.2.1 6 j < 2 ^ 29 := fun j => by have := hTok.1.1.2 j; omega
  obtain ⟨hRES, hr7, hr14, hr11, hr12, hr56⟩ := id hRef
  refine aw_aload_n (pc := 327) (i := 1) dL_law_327 rfl rfl ?_
  refine la_cx (pc := 328) (As := []) (rest := []) dL_law_328 oc_L_34 rfl rfl rfl (Nat.le_of_ble_eq_true rfl) hn (by omega) (by omega) (x_fault (d := d + 19) hE hNB hAO hJ (fun hJ9 => ⟨_, rfl, ?_⟩))
  refine aw_aload_n (pc := 331) (i := 2) dL_law_331 rfl rfl ?_
  refine la_cm (pc := 332) (As := []) (rest := [.int _]) dL_law_332 oc_L_37 rfl rfl rfl (Nat.le_of_ble_eq_true rfl) (by omega) (by omega) (s_fault (d := d + 59) ⟨_, _, rfl, rfl, ?_⟩)
  refine la_eq (pc := 335) dL_law_335 rfl ?_
  exact kk.use rfl hJ9 (by omega) (by omega) (by omega)
set_option maxHeartbeats 2000000 in
set_option maxRecDepth 20000 in
theorem la_likely {G : xG} {d : Nat} {Q : xQ} {ae : Nat → Nat} {tw ts : Nat} {kd : Nat → Bool} {ad : Nat → Nat → Nat} {κ : Nat → kS} {n : Nat} {σ : mS} {B nc ks : Nat} {a : Nat → Nat} {ao b N i : Nat} {f : Nat → Int64} {sc : Nat → Int32} {aK aV : Nat → Nat} {tf : Option Nat} (H : LH G ae tw ts aK aV tf b N sc i B nc ks) (hJ : J ae kd ad κ n σ B) (kk : LK G d Q (Lw b (ad 0 20) (a 60) ao i) (ad 0 20) a ao ae B nc ks) : AW G ML_law (d + 60) 600128 7301098 Q 954 (Lw b (ad 0 20) (a 60) ao i) [] (WX G.2.2.1 kd ad κ n [] ++ (mW G.2.2.1 a σ ++ oW G ao f)) nc ks := by
  obtain ⟨hE, hNB, hAO, hTH, hKB, hSc, hi, hN, hB0, hnc, hks⟩ := id H
  obtain ⟨hn, hMain, hSub, hTape, hR10, hR11, hR12, hR13, hMisc, hRef, hB5, jc, NM, sn, sd, m, pn, im, hCht, hSR, hSnt, hTok, hPast, hPm, hSds, hImg⟩ := id hJ
  have hw : WT (σ.2.1 6) := hTok.1.1.1
  have h07 : σ.2.1 6 0 ≤ 7 := hw.2.1
  have hb9 : ∀ j, σ.2.1 6 j < 2 ^ 29 := fun j => by have := hTok.1.1.2 j; omega
  obtain ⟨hRES, hr7, hr14, hr11, hr12, hr56⟩ := id hRef
  refine aw_aload_n (pc := 954) (i := 1) dL_law_954 rfl rfl ?_
  refine la_cx (pc := 955) (As := []) (rest := []) dL_law_955 oc_L_121 rfl rfl rfl (Nat.le_of_ble_eq_true rfl) hn (by omega) (by omega) (x_likely (d := d + 19) hE hNB hAO hJ (fun hJ9 => ⟨_, rfl, ?_⟩))
  refine aw_aload_n (pc := 958) (i := 2) dL_law_958 rfl rfl ?_
  refine la_cm (pc := 959) (As := []) (rest := [.int _]) dL_law_959 oc_L_124 rfl rfl rfl (Nat.le_of_ble_eq_true rfl) (by omega) (by omega) (s_likely (d := d + 59) ⟨_, _, rfl, rfl, ?_⟩)
  refine la_eq (pc := 962) dL_law_962 rfl ?_
  exact kk.use rfl hJ9 (by omega) (by omega) (by omega)
set_option maxHeartbeats 2000000 in
set_option maxRecDepth 20000 in
theorem la_count {G : xG} {d : Nat} {Q : xQ} {ae : Nat → Nat} {tw ts : Nat} {kd : Nat → Bool} {ad : Nat → Nat → Nat} {κ : Nat → kS} {n : Nat} {σ : mS} {B nc ks : Nat} {a : Nat → Nat} {ao b N i : Nat} {f : Nat → Int64} {sc : Nat → Int32} {aK aV : Nat → Nat} {tf : Option Nat} (H : LH G ae tw ts aK aV tf b N sc i B nc ks) (hJ : J ae kd ad κ n σ B) (kk : LK G d Q (Lw b (ad 0 20) (a 60) ao i) (ad 0 20) a ao ae B nc ks) : AW G ML_law (d + 60) 600128 7301098 Q 1354 (Lw b (ad 0 20) (a 60) ao i) [] (WX G.2.2.1 kd ad κ n [] ++ (mW G.2.2.1 a σ ++ oW G ao f)) nc ks := by
  obtain ⟨hE, hNB, hAO, hTH, hKB, hSc, hi, hN, hB0, hnc, hks⟩ := id H
  obtain ⟨hn, hMain, hSub, hTape, hR10, hR11, hR12, hR13, hMisc, hRef, hB5, jc, NM, sn, sd, m, pn, im, hCht, hSR, hSnt, hTok, hPast, hPm, hSds, hImg⟩ := id hJ
  have hw : WT (σ.2.1 6) := hTok.1.1.1
  have h07 : σ.2.1 6 0 ≤ 7 := hw.2.1
  have hb9 : ∀ j, σ.2.1 6 j < 2 ^ 29 := fun j => by have := hTok.1.1.2 j; omega
  obtain ⟨hRES, hr7, hr14, hr11, hr12, hr56⟩ := id hRef
  refine aw_aload_n (pc := 1354) (i := 1) dL_law_1354 rfl rfl ?_
  refine la_arg (pc := 1355) (j := 1) dL_law_1355 dL_law_1356 dL_law_1358 dL_law_1359 dL_law_1360 (by decide) hSc (by omega) hN rfl rfl ?_
  refine la_cx (pc := 1361) (As := [.int (sc (i + 1))]) (rest := []) dL_law_1361 oc_L_185 rfl rfl rfl (Nat.le_of_ble_eq_true rfl) hn (by omega) (by omega) (x_count (d := d + 19) hE hNB hAO hJ (fun hJ9 => ⟨_, rfl, ?_⟩))
  refine aw_aload_n (pc := 1364) (i := 2) dL_law_1364 rfl rfl ?_
  refine la_arg (pc := 1365) (j := 1) dL_law_1365 dL_law_1366 dL_law_1368 dL_law_1369 dL_law_1370 (by decide) hSc (by omega) hN rfl rfl ?_
  refine la_cm (pc := 1371) (As := [.int (sc (i + 1))]) (rest := [.int _]) dL_law_1371 oc_L_188 rfl rfl rfl (Nat.le_of_ble_eq_true rfl) (by omega) (by omega) (s_count (d := d + 58) ⟨_, _, rfl, rfl, ?_⟩)
  refine la_eq (pc := 1374) dL_law_1374 rfl ?_
  exact kk.use rfl hJ9 (by omega) (by omega) (by omega)
set_option maxHeartbeats 2000000 in
set_option maxRecDepth 20000 in
theorem la_now {G : xG} {d : Nat} {Q : xQ} {ae : Nat → Nat} {tw ts : Nat} {kd : Nat → Bool} {ad : Nat → Nat → Nat} {κ : Nat → kS} {n : Nat} {σ : mS} {B nc ks : Nat} {a : Nat → Nat} {ao b N i : Nat} {f : Nat → Int64} {sc : Nat → Int32} {aK aV : Nat → Nat} {tf : Option Nat} (H : LH G ae tw ts aK aV tf b N sc i B nc ks) (hJ : J ae kd ad κ n σ B) (kk : LK G d Q (Lw b (ad 0 20) (a 60) ao i) (ad 0 20) a ao ae B nc ks) : AW G ML_law (d + 60) 600128 7301098 Q 482 (Lw b (ad 0 20) (a 60) ao i) [] (WX G.2.2.1 kd ad κ n [] ++ (mW G.2.2.1 a σ ++ oW G ao f)) nc ks := by
  obtain ⟨hE, hNB, hAO, hTH, hKB, hSc, hi, hN, hB0, hnc, hks⟩ := id H
  obtain ⟨hn, hMain, hSub, hTape, hR10, hR11, hR12, hR13, hMisc, hRef, hB5, jc, NM, sn, sd, m, pn, im, hCht, hSR, hSnt, hTok, hPast, hPm, hSds, hImg⟩ := id hJ
  have hw : WT (σ.2.1 6) := hTok.1.1.1
  have h07 : σ.2.1 6 0 ≤ 7 := hw.2.1
  have hb9 : ∀ j, σ.2.1 6 j < 2 ^ 29 := fun j => by have := hTok.1.1.2 j; omega
  obtain ⟨hRES, hr7, hr14, hr11, hr12, hr56⟩ := id hRef
  refine aw_aload_n (pc := 482) (i := 1) dL_law_482 rfl rfl ?_
  refine la_arg (pc := 483) (j := 1) dL_law_483 dL_law_484 dL_law_486 dL_law_487 dL_law_488 (by decide) hSc (by omega) hN rfl rfl ?_
  refine la_cx (pc := 489) (As := [.int (sc (i + 1))]) (rest := []) dL_law_489 oc_L_55 rfl rfl rfl (Nat.le_of_ble_eq_true rfl) hn (by omega) (by omega) (x_now (d := d + 19) hE hNB hAO hJ (fun hJ9 => ⟨_, rfl, ?_⟩))
  refine aw_aload_n (pc := 492) (i := 2) dL_law_492 rfl rfl ?_
  refine la_arg (pc := 493) (j := 1) dL_law_493 dL_law_494 dL_law_496 dL_law_497 dL_law_498 (by decide) hSc (by omega) hN rfl rfl ?_
  refine la_cm (pc := 499) (As := [.int (sc (i + 1))]) (rest := [.int _]) dL_law_499 oc_L_59 rfl rfl rfl (Nat.le_of_ble_eq_true rfl) (by omega) (by omega) (s_now (d := d + 54) hw ⟨_, _, rfl, rfl, ?_⟩)
  refine la_eq (pc := 502) dL_law_502 rfl ?_
  exact kk.use rfl hJ9 (by omega) (by omega) (by omega)
set_option maxHeartbeats 2000000 in
set_option maxRecDepth 20000 in
theorem la_land {G : xG} {d : Nat} {Q : xQ} {ae : Nat → Nat} {tw ts : Nat} {kd : Nat → Bool} {ad : Nat → Nat → Nat} {κ : Nat → kS} {n : Nat} {σ : mS} {B nc ks : Nat} {a : Nat → Nat} {ao b N i : Nat} {f : Nat → Int64} {sc : Nat → Int32} {aK aV : Nat → Nat} {tf : Option Nat} (H : LH G ae tw ts aK aV tf b N sc i B nc ks) (hJ : J ae kd ad κ n σ B) (kk : LK G d Q (Lw b (ad 0 20) (a 60) ao i) (ad 0 20) a ao ae B nc ks) : AW G ML_law (d + 60) 600128 7301098 Q 408 (Lw b (ad 0 20) (a 60) ao i) [] (WX G.2.2.1 kd ad κ n [] ++ (mW G.2.2.1 a σ ++ oW G ao f)) nc ks := by
  obtain ⟨hE, hNB, hAO, hTH, hKB, hSc, hi, hN, hB0, hnc, hks⟩ := id H
  obtain ⟨hn, hMain, hSub, hTape, hR10, hR11, hR12, hR13, hMisc, hRef, hB5, jc, NM, sn, sd, m, pn, im, hCht, hSR, hSnt, hTok, hPast, hPm, hSds, hImg⟩ := id hJ
  have hw : WT (σ.2.1 6) := hTok.1.1.1
  have h07 : σ.2.1 6 0 ≤ 7 := hw.2.1
  have hb9 : ∀ j, σ.2.1 6 j < 2 ^ 29 := fun j => by have := hTok.1.1.2 j; omega
  obtain ⟨hRES, hr7, hr14, hr11, hr12, hr56⟩ := id hRef
  refine aw_aload_n (pc := 408) (i := 1) dL_law_408 rfl rfl ?_
  refine la_arg (pc := 409) (j := 1) dL_law_409 dL_law_410 dL_law_412 dL_law_413 dL_law_414 (by decide) hSc (by omega) hN rfl rfl ?_
  refine la_arg (pc := 415) (j := 2) dL_law_415 dL_law_416 dL_law_418 dL_law_419 dL_law_420 (by decide) hSc (by omega) hN rfl rfl ?_
  refine la_cx (pc := 421) (As := [.int (sc (i + 1)), .int (sc (i + 2))]) (rest := []) dL_law_421 oc_L_47 rfl rfl rfl (Nat.le_of_ble_eq_true rfl) hn (by omega) (by omega) (x_land (d := d + 19) hE hNB hAO hJ (fun hJ9 => ⟨_, rfl, ?_⟩))
  refine aw_aload_n (pc := 424) (i := 2) dL_law_424 rfl rfl ?_
  refine la_arg (pc := 425) (j := 1) dL_law_425 dL_law_426 dL_law_428 dL_law_429 dL_law_430 (by decide) hSc (by omega) hN rfl rfl ?_
  refine la_arg (pc := 431) (j := 2) dL_law_431 dL_law_432 dL_law_434 dL_law_435 dL_law_436 (by decide) hSc (by omega) hN rfl rfl ?_
  refine la_cm (pc := 437) (As := [.int (sc (i + 1)), .int (sc (i + 2))]) (rest := [.int _]) dL_law_437 oc_L_50 rfl rfl rfl (Nat.le_of_ble_eq_true rfl) (by omega) (by omega) (s_land (d := d + 57) hw ⟨_, _, rfl, rfl, ?_⟩)
  refine la_eq (pc := 440) dL_law_440 rfl ?_
  exact kk.use rfl hJ9 (by omega) (by omega) (by omega)
set_option maxHeartbeats 2000000 in
set_option maxRecDepth 20000 in
theorem la_road {G : xG} {d : Nat} {Q : xQ} {ae : Nat → Nat} {tw ts : Nat} {kd : Nat → Bool} {ad : Nat → Nat → Nat} {κ : Nat → kS} {n : Nat} {σ : mS} {B nc ks : Nat} {a : Nat → Nat} {ao b N i : Nat} {f : Nat → Int64} {sc : Nat → Int32} {aK aV : Nat → Nat} {tf : Option Nat} (H : LH G ae tw ts aK aV tf b N sc i B nc ks) (hJ : J ae kd ad κ n σ B) (kk : LK G d Q (Lw b (ad 0 20) (a 60) ao i) (ad 0 20) a ao ae B nc ks) : AW G ML_law (d + 60) 600128 7301098 Q 445 (Lw b (ad 0 20) (a 60) ao i) [] (WX G.2.2.1 kd ad κ n [] ++ (mW G.2.2.1 a σ ++ oW G ao f)) nc ks := by
  obtain ⟨hE, hNB, hAO, hTH, hKB, hSc, hi, hN, hB0, hnc, hks⟩ := id H
  obtain ⟨hn, hMain, hSub, hTape, hR10, hR11, hR12, hR13, hMisc, hRef, hB5, jc, NM, sn, sd, m, pn, im, hCht, hSR, hSnt, hTok, hPast, hPm, hSds, hImg⟩ := id hJ
  have hw : WT (σ.2.1 6) := hTok.1.1.1
  have h07 : σ.2.1 6 0 ≤ 7 := hw.2.1
  have hb9 : ∀ j, σ.2.1 6 j < 2 ^ 29 := fun j => by have := hTok.1.1.2 j; omega
  obtain ⟨hRES, hr7, hr14, hr11, hr12, hr56⟩ := id hRef
  refine aw_aload_n (pc := 445) (i := 1) dL_law_445 rfl rfl ?_
  refine la_arg (pc := 446) (j := 1) dL_law_446 dL_law_447 dL_law_449 dL_law_450 dL_law_451 (by decide) hSc (by omega) hN rfl rfl ?_
  refine la_arg (pc := 452) (j := 2) dL_law_452 dL_law_453 dL_law_455 dL_law_456 dL_law_457 (by decide) hSc (by omega) hN rfl rfl ?_
  refine la_cx (pc := 458) (As := [.int (sc (i + 1)), .int (sc (i + 2))]) (rest := []) dL_law_458 oc_L_51 rfl rfl rfl (Nat.le_of_ble_eq_true rfl) hn (by omega) (by omega) (x_road (d := d + 19) hE hNB hAO hJ (fun hJ9 => ⟨_, rfl, ?_⟩))
  refine aw_aload_n (pc := 461) (i := 2) dL_law_461 rfl rfl ?_
  refine la_arg (pc := 462) (j := 1) dL_law_462 dL_law_463 dL_law_465 dL_law_466 dL_law_467 (by decide) hSc (by omega) hN rfl rfl ?_
  refine la_arg (pc := 468) (j := 2) dL_law_468 dL_law_469 dL_law_471 dL_law_472 dL_law_473 (by decide) hSc (by omega) hN rfl rfl ?_
  refine la_cm (pc := 474) (As := [.int (sc (i + 1)), .int (sc (i + 2))]) (rest := [.int _]) dL_law_474 oc_L_54 rfl rfl rfl (Nat.le_of_ble_eq_true rfl) (by omega) (by omega) (s_road (d := d + 57) hw ⟨_, _, rfl, rfl, ?_⟩)
  refine la_eq (pc := 477) dL_law_477 rfl ?_
  exact kk.use rfl hJ9 (by omega) (by omega) (by omega)
set_option maxHeartbeats 2000000 in
set_option maxRecDepth 20000 in
theorem la_wayAt {G : xG} {d : Nat} {Q : xQ} {ae : Nat → Nat} {tw ts : Nat} {kd : Nat → Bool} {ad : Nat → Nat → Nat} {κ : Nat → kS} {n : Nat} {σ : mS} {B nc ks : Nat} {a : Nat → Nat} {ao b N i : Nat} {f : Nat → Int64} {sc : Nat → Int32} {aK aV : Nat → Nat} {tf : Option Nat} (H : LH G ae tw ts aK aV tf b N sc i B nc ks) (hJ : J ae kd ad κ n σ B) (kk : LK G d Q (Lw b (ad 0 20) (a 60) ao i) (ad 0 20) a ao ae B nc ks) : AW G ML_law (d + 60) 600128 7301098 Q 804 (Lw b (ad 0 20) (a 60) ao i) [] (WX G.2.2.1 kd ad κ n [] ++ (mW G.2.2.1 a σ ++ oW G ao f)) nc ks := by
  obtain ⟨hE, hNB, hAO, hTH, hKB, hSc, hi, hN, hB0, hnc, hks⟩ := id H
  obtain ⟨hn, hMain, hSub, hTape, hR10, hR11, hR12, hR13, hMisc, hRef, hB5, jc, NM, sn, sd, m, pn, im, hCht, hSR, hSnt, hTok, hPast, hPm, hSds, hImg⟩ := id hJ
  have hw : WT (σ.2.1 6) := hTok.1.1.1
  have h07 : σ.2.1 6 0 ≤ 7 := hw.2.1
  have hb9 : ∀ j, σ.2.1 6 j < 2 ^ 29 := fun j => by have := hTok.1.1.2 j; omega
  obtain ⟨hRES, hr7, hr14, hr11, hr12, hr56⟩ := id hRef
  refine aw_aload_n (pc := 804) (i := 1) dL_law_804 rfl rfl ?_
  refine la_arg (pc := 805) (j := 1) dL_law_805 dL_law_806 dL_law_808 dL_law_809 dL_law_810 (by decide) hSc (by omega) hN rfl rfl ?_
  refine la_cx (pc := 811) (As := [.int (sc (i + 1))]) (rest := []) dL_law_811 oc_L_97 rfl rfl rfl (Nat.le_of_ble_eq_true rfl) hn (by omega) (by omega) (x_wayAt (d := d + 19) hE hNB hAO hJ (fun hJ9 => ⟨_, rfl, ?_⟩))
  refine aw_aload_n (pc := 814) (i := 2) dL_law_814 rfl rfl ?_
  refine la_arg (pc := 815) (j := 1) dL_law_815 dL_law_816 dL_law_818 dL_law_819 dL_law_820 (by decide) hSc (by omega) hN rfl rfl ?_
  refine la_cm (pc := 821) (As := [.int (sc (i + 1))]) (rest := [.int _]) dL_law_821 oc_L_100 rfl rfl rfl (Nat.le_of_ble_eq_true rfl) (by omega) (by omega) (s_wayAt (d := d + 58) hR10.1 ⟨_, _, rfl, rfl, ?_⟩)
  refine la_eq (pc := 824) dL_law_824 rfl ?_
  exact kk.use rfl hJ9 (by omega) (by omega) (by omega)
set_option maxHeartbeats 2000000 in
set_option maxRecDepth 20000 in
theorem la_madeAt {G : xG} {d : Nat} {Q : xQ} {ae : Nat → Nat} {tw ts : Nat} {kd : Nat → Bool} {ad : Nat → Nat → Nat} {κ : Nat → kS} {n : Nat} {σ : mS} {B nc ks : Nat} {a : Nat → Nat} {ao b N i : Nat} {f : Nat → Int64} {sc : Nat → Int32} {aK aV : Nat → Nat} {tf : Option Nat} (H : LH G ae tw ts aK aV tf b N sc i B nc ks) (hJ : J ae kd ad κ n σ B) (kk : LK G d Q (Lw b (ad 0 20) (a 60) ao i) (ad 0 20) a ao ae B nc ks) : AW G ML_law (d + 60) 600128 7301098 Q 929 (Lw b (ad 0 20) (a 60) ao i) [] (WX G.2.2.1 kd ad κ n [] ++ (mW G.2.2.1 a σ ++ oW G ao f)) nc ks := by
  obtain ⟨hE, hNB, hAO, hTH, hKB, hSc, hi, hN, hB0, hnc, hks⟩ := id H
  obtain ⟨hn, hMain, hSub, hTape, hR10, hR11, hR12, hR13, hMisc, hRef, hB5, jc, NM, sn, sd, m, pn, im, hCht, hSR, hSnt, hTok, hPast, hPm, hSds, hImg⟩ := id hJ
  have hw : WT (σ.2.1 6) := hTok.1.1.1
  have h07 : σ.2.1 6 0 ≤ 7 := hw.2.1
  have hb9 : ∀ j, σ.2.1 6 j < 2 ^ 29 := fun j => by have := hTok.1.1.2 j; omega
  obtain ⟨hRES, hr7, hr14, hr11, hr12, hr56⟩ := id hRef
  refine aw_aload_n (pc := 929) (i := 1) dL_law_929 rfl rfl ?_
  refine la_arg (pc := 930) (j := 1) dL_law_930 dL_law_931 dL_law_933 dL_law_934 dL_law_935 (by decide) hSc (by omega) hN rfl rfl ?_
  refine la_cx (pc := 936) (As := [.int (sc (i + 1))]) (rest := []) dL_law_936 oc_L_117 rfl rfl rfl (Nat.le_of_ble_eq_true rfl) hn (by omega) (by omega) (x_madeAt (d := d + 19) hE hNB hAO hJ (fun hJ9 => ⟨_, rfl, ?_⟩))
  refine aw_aload_n (pc := 939) (i := 2) dL_law_939 rfl rfl ?_
  refine la_arg (pc := 940) (j := 1) dL_law_940 dL_law_941 dL_law_943 dL_law_944 dL_law_945 (by decide) hSc (by omega) hN rfl rfl ?_
  refine la_cm (pc := 946) (As := [.int (sc (i + 1))]) (rest := [.int _]) dL_law_946 oc_L_120 rfl rfl rfl (Nat.le_of_ble_eq_true rfl) (by omega) (by omega) (s_madeAt (d := d + 58) hR11.1 ⟨_, _, rfl, rfl, ?_⟩)
  refine la_eq (pc := 949) dL_law_949 rfl ?_
  exact kk.use rfl hJ9 (by omega) (by omega) (by omega)
set_option maxHeartbeats 2000000 in
set_option maxRecDepth 20000 in
theorem la_caravanAt {G : xG} {d : Nat} {Q : xQ} {ae : Nat → Nat} {tw ts : Nat} {kd : Nat → Bool} {ad : Nat → Nat → Nat} {κ : Nat → kS} {n : Nat} {σ : mS} {B nc ks : Nat} {a : Nat → Nat} {ao b N i : Nat} {f : Nat → Int64} {sc : Nat → Int32} {aK aV : Nat → Nat} {tf : Option Nat} (H : LH G ae tw ts aK aV tf b N sc i B nc ks) (hJ : J ae kd ad κ n σ B) (kk : LK G d Q (Lw b (ad 0 20) (a 60) ao i) (ad 0 20) a ao ae B nc ks) : AW G ML_law (d + 60) 600128 7301098 Q 992 (Lw b (ad 0 20) (a 60) ao i) [] (WX G.2.2.1 kd ad κ n [] ++ (mW G.2.2.1 a σ ++ oW G ao f)) nc ks := by
  obtain ⟨hE, hNB, hAO, hTH, hKB, hSc, hi, hN, hB0, hnc, hks⟩ := id H
  obtain ⟨hn, hMain, hSub, hTape, hR10, hR11, hR12, hR13, hMisc, hRef, hB5, jc, NM, sn, sd, m, pn, im, hCht, hSR, hSnt, hTok, hPast, hPm, hSds, hImg⟩ := id hJ
  have hw : WT (σ.2.1 6) := hTok.1.1.1
  have h07 : σ.2.1 6 0 ≤ 7 := hw.2.1
  have hb9 : ∀ j, σ.2.1 6 j < 2 ^ 29 := fun j => by have := hTok.1.1.2 j; omega
  obtain ⟨hRES, hr7, hr14, hr11, hr12, hr56⟩ := id hRef
  refine aw_aload_n (pc := 992) (i := 1) dL_law_992 rfl rfl ?_
  refine la_arg (pc := 993) (j := 1) dL_law_993 dL_law_994 dL_law_996 dL_law_997 dL_law_998 (by decide) hSc (by omega) hN rfl rfl ?_
  refine la_cx (pc := 999) (As := [.int (sc (i + 1))]) (rest := []) dL_law_999 oc_L_129 rfl rfl rfl (Nat.le_of_ble_eq_true rfl) hn (by omega) (by omega) (x_caravanAt (d := d + 19) hE hNB hAO hJ (fun hJ9 => ⟨_, rfl, ?_⟩))
  refine aw_aload_n (pc := 1002) (i := 2) dL_law_1002 rfl rfl ?_
  refine la_arg (pc := 1003) (j := 1) dL_law_1003 dL_law_1004 dL_law_1006 dL_law_1007 dL_law_1008 (by decide) hSc (by omega) hN rfl rfl ?_
  refine la_cm (pc := 1009) (As := [.int (sc (i + 1))]) (rest := [.int _]) dL_law_1009 oc_L_132 rfl rfl rfl (Nat.le_of_ble_eq_true rfl) (by omega) (by omega) (s_caravanAt (d := d + 58) hR12.1 ⟨_, _, rfl, rfl, ?_⟩)
  refine la_eq (pc := 1012) dL_law_1012 rfl ?_
  exact kk.use rfl hJ9 (by omega) (by omega) (by omega)
set_option maxHeartbeats 2000000 in
set_option maxRecDepth 20000 in
theorem la_byteAt {G : xG} {d : Nat} {Q : xQ} {ae : Nat → Nat} {tw ts : Nat} {kd : Nat → Bool} {ad : Nat → Nat → Nat} {κ : Nat → kS} {n : Nat} {σ : mS} {B nc ks : Nat} {a : Nat → Nat} {ao b N i : Nat} {f : Nat → Int64} {sc : Nat → Int32} {aK aV : Nat → Nat} {tf : Option Nat} (H : LH G ae tw ts aK aV tf b N sc i B nc ks) (hJ : J ae kd ad κ n σ B) (kk : LK G d Q (Lw b (ad 0 20) (a 60) ao i) (ad 0 20) a ao ae B nc ks) : AW G ML_law (d + 60) 600128 7301098 Q 1105 (Lw b (ad 0 20) (a 60) ao i) [] (WX G.2.2.1 kd ad κ n [] ++ (mW G.2.2.1 a σ ++ oW G ao f)) nc ks := by
  obtain ⟨hE, hNB, hAO, hTH, hKB, hSc, hi, hN, hB0, hnc, hks⟩ := id H
  obtain ⟨hn, hMain, hSub, hTape, hR10, hR11, hR12, hR13, hMisc, hRef, hB5, jc, NM, sn, sd, m, pn, im, hCht, hSR, hSnt, hTok, hPast, hPm, hSds, hImg⟩ := id hJ
  have hw : WT (σ.2.1 6) := hTok.1.1.1
  have h07 : σ.2.1 6 0 ≤ 7 := hw.2.1
  have hb9 : ∀ j, σ.2.1 6 j < 2 ^ 29 := fun j => by have := hTok.1.1.2 j; omega
  obtain ⟨hRES, hr7, hr14, hr11, hr12, hr56⟩ := id hRef
  refine aw_aload_n (pc := 1105) (i := 1) dL_law_1105 rfl rfl ?_
  refine la_arg (pc := 1106) (j := 1) dL_law_1106 dL_law_1107 dL_law_1109 dL_law_1110 dL_law_1111 (by decide) hSc (by omega) hN rfl rfl ?_
  refine la_cx (pc := 1112) (As := [.int (sc (i + 1))]) (rest := []) dL_law_1112 oc_L_149 rfl rfl rfl (Nat.le_of_ble_eq_true rfl) hn (by omega) (by omega) (x_byteAt (d := d + 19) hE hNB hAO hJ (fun hJ9 => ⟨_, rfl, ?_⟩))
  refine aw_aload_n (pc := 1115) (i := 2) dL_law_1115 rfl rfl ?_
  refine la_arg (pc := 1116) (j := 1) dL_law_1116 dL_law_1117 dL_law_1119 dL_law_1120 dL_law_1121 (by decide) hSc (by omega) hN rfl rfl ?_
  refine la_cm (pc := 1122) (As := [.int (sc (i + 1))]) (rest := [.int _]) dL_law_1122 oc_L_152 rfl rfl rfl (Nat.le_of_ble_eq_true rfl) (by omega) (by omega) (s_byteAt (d := d + 58) hR13.1 ⟨_, _, rfl, rfl, ?_⟩)
  refine la_eq (pc := 1125) dL_law_1125 rfl ?_
  exact kk.use rfl hJ9 (by omega) (by omega) (by omega)
set_option maxHeartbeats 2000000 in
set_option maxRecDepth 20000 in
theorem la_spared {G : xG} {d : Nat} {Q : xQ} {ae : Nat → Nat} {tw ts : Nat} {kd : Nat → Bool} {ad : Nat → Nat → Nat} {κ : Nat → kS} {n : Nat} {σ : mS} {B nc ks : Nat} {a : Nat → Nat} {ao b N i : Nat} {f : Nat → Int64} {sc : Nat → Int32} {aK aV : Nat → Nat} {tf : Option Nat} (H : LH G ae tw ts aK aV tf b N sc i B nc ks) (hJ : J ae kd ad κ n σ B) (kk : LK G d Q (Lw b (ad 0 20) (a 60) ao i) (ad 0 20) a ao ae B nc ks) : AW G ML_law (d + 60) 600128 7301098 Q 903 (Lw b (ad 0 20) (a 60) ao i) [] (WX G.2.2.1 kd ad κ n [] ++ (mW G.2.2.1 a σ ++ oW G ao f)) nc ks := by
  obtain ⟨hE, hNB, hAO, hTH, hKB, hSc, hi, hN, hB0, hnc, hks⟩ := id H
  obtain ⟨hn, hMain, hSub, hTape, hR10, hR11, hR12, hR13, hMisc, hRef, hB5, jc, NM, sn, sd, m, pn, im, hCht, hSR, hSnt, hTok, hPast, hPm, hSds, hImg⟩ := id hJ
  have hw : WT (σ.2.1 6) := hTok.1.1.1
  have h07 : σ.2.1 6 0 ≤ 7 := hw.2.1
  have hb9 : ∀ j, σ.2.1 6 j < 2 ^ 29 := fun j => by have := hTok.1.1.2 j; omega
  obtain ⟨hRES, hr7, hr14, hr11, hr12, hr56⟩ := id hRef
  refine aw_aload_n (pc := 903) (i := 1) dL_law_903 rfl rfl ?_
  refine la_cx (pc := 904) (As := []) (rest := []) dL_law_904 oc_L_109 rfl rfl rfl (Nat.le_of_ble_eq_true rfl) hn (by omega) (by omega) (x_spared (d := d + 19) hE hNB hAO hJ (fun c9 hc9 hJ9 => ⟨_, rfl, ?_⟩))
  refine aw_aload_n (pc := 907) (i := 2) dL_law_907 rfl rfl ?_
  refine la_cm (pc := 908) (As := []) (rest := [.int _]) dL_law_908 oc_L_112 rfl rfl rfl (Nat.le_of_ble_eq_true rfl) (by omega) (by omega) (s_spared (d := d + 59) hc9 ⟨_, _, rfl, rfl, ?_⟩)
  refine la_eq (pc := 911) dL_law_911 rfl ?_
  exact kk.use rfl hJ9 (by omega) (by omega) (by omega)
set_option maxHeartbeats 2000000 in
set_option maxRecDepth 20000 in
theorem la_parting {G : xG} {d : Nat} {Q : xQ} {ae : Nat → Nat} {tw ts : Nat} {kd : Nat → Bool} {ad : Nat → Nat → Nat} {κ : Nat → kS} {n : Nat} {σ : mS} {B nc ks : Nat} {a : Nat → Nat} {ao b N i : Nat} {f : Nat → Int64} {sc : Nat → Int32} {aK aV : Nat → Nat} {tf : Option Nat} (H : LH G ae tw ts aK aV tf b N sc i B nc ks) (hJ : J ae kd ad κ n σ B) (kk : LK G d Q (Lw b (ad 0 20) (a 60) ao i) (ad 0 20) a ao ae B nc ks) : AW G ML_law (d + 60) 600128 7301098 Q 1054 (Lw b (ad 0 20) (a 60) ao i) [] (WX G.2.2.1 kd ad κ n [] ++ (mW G.2.2.1 a σ ++ oW G ao f)) nc ks := by
  obtain ⟨hE, hNB, hAO, hTH, hKB, hSc, hi, hN, hB0, hnc, hks⟩ := id H
  obtain ⟨hn, hMain, hSub, hTape, hR10, hR11, hR12, hR13, hMisc, hRef, hB5, jc, NM, sn, sd, m, pn, im, hCht, hSR, hSnt, hTok, hPast, hPm, hSds, hImg⟩ := id hJ
  have hw : WT (σ.2.1 6) := hTok.1.1.1
  have h07 : σ.2.1 6 0 ≤ 7 := hw.2.1
  have hb9 : ∀ j, σ.2.1 6 j < 2 ^ 29 := fun j => by have := hTok.1.1.2 j; omega
  obtain ⟨hRES, hr7, hr14, hr11, hr12, hr56⟩ := id hRef
  refine aw_aload_n (pc := 1054) (i := 1) dL_law_1054 rfl rfl ?_
  refine la_cx (pc := 1055) (As := []) (rest := []) dL_law_1055 oc_L_137 rfl rfl rfl (Nat.le_of_ble_eq_true rfl) hn (by omega) (by omega) (x_parting (d := d + 19) hE hNB hAO hJ (fun c9 hc9 hJ9 => ⟨_, rfl, ?_⟩))
  refine aw_aload_n (pc := 1058) (i := 2) dL_law_1058 rfl rfl ?_
  refine la_cm (pc := 1059) (As := []) (rest := [.int _]) dL_law_1059 oc_L_140 rfl rfl rfl (Nat.le_of_ble_eq_true rfl) (by omega) (by omega) (s_parting (d := d + 59) hc9 ⟨_, _, rfl, rfl, ?_⟩)
  refine la_eq (pc := 1062) dL_law_1062 rfl ?_
  exact kk.use rfl hJ9 (by omega) (by omega) (by omega)
set_option maxHeartbeats 2000000 in
set_option maxRecDepth 20000 in
theorem la_told {G : xG} {d : Nat} {Q : xQ} {ae : Nat → Nat} {tw ts : Nat} {kd : Nat → Bool} {ad : Nat → Nat → Nat} {κ : Nat → kS} {n : Nat} {σ : mS} {B nc ks : Nat} {a : Nat → Nat} {ao b N i : Nat} {f : Nat → Int64} {sc : Nat → Int32} {aK aV : Nat → Nat} {tf : Option Nat} (H : LH G ae tw ts aK aV tf b N sc i B nc ks) (hJ : J ae kd ad κ n σ B) (kk : LK G d Q (Lw b (ad 0 20) (a 60) ao i) (ad 0 20) a ao ae B nc ks) : AW G ML_law (d + 60) 600128 7301098 Q 1241 (Lw b (ad 0 20) (a 60) ao i) [] (WX G.2.2.1 kd ad κ n [] ++ (mW G.2.2.1 a σ ++ oW G ao f)) nc ks := by
  obtain ⟨hE, hNB, hAO, hTH, hKB, hSc, hi, hN, hB0, hnc, hks⟩ := id H
  obtain ⟨hn, hMain, hSub, hTape, hR10, hR11, hR12, hR13, hMisc, hRef, hB5, jc, NM, sn, sd, m, pn, im, hCht, hSR, hSnt, hTok, hPast, hPm, hSds, hImg⟩ := id hJ
  have hw : WT (σ.2.1 6) := hTok.1.1.1
  have h07 : σ.2.1 6 0 ≤ 7 := hw.2.1
  have hb9 : ∀ j, σ.2.1 6 j < 2 ^ 29 := fun j => by have := hTok.1.1.2 j; omega
  obtain ⟨hRES, hr7, hr14, hr11, hr12, hr56⟩ := id hRef
  refine aw_aload_n (pc := 1241) (i := 1) dL_law_1241 rfl rfl ?_
  refine la_arg (pc := 1242) (j := 1) dL_law_1242 dL_law_1243 dL_law_1245 dL_law_1246 dL_law_1247 (by decide) hSc (by omega) hN rfl rfl ?_
  refine la_cx (pc := 1248) (As := [.int (sc (i + 1))]) (rest := []) dL_law_1248 oc_L_165 rfl rfl rfl (Nat.le_of_ble_eq_true rfl) hn (by omega) (by omega) (x_told (d := d + 19) hE hNB hAO hJ (fun c9 hc9 hJ9 => ⟨_, rfl, ?_⟩))
  refine aw_aload_n (pc := 1251) (i := 2) dL_law_1251 rfl rfl ?_
  refine la_arg (pc := 1252) (j := 1) dL_law_1252 dL_law_1253 dL_law_1255 dL_law_1256 dL_law_1257 (by decide) hSc (by omega) hN rfl rfl ?_
  refine la_cm (pc := 1258) (As := [.int (sc (i + 1))]) (rest := [.int _]) dL_law_1258 oc_L_168 rfl rfl rfl (Nat.le_of_ble_eq_true rfl) (by omega) (by omega) (s_told (d := d + 58) hc9 ⟨_, _, rfl, rfl, ?_⟩)
  refine la_eq (pc := 1261) dL_law_1261 rfl ?_
  exact kk.use rfl hJ9 (by omega) (by omega) (by omega)
set_option maxHeartbeats 2000000 in
set_option maxRecDepth 20000 in
theorem la_feed {G : xG} {d : Nat} {Q : xQ} {ae : Nat → Nat} {tw ts : Nat} {kd : Nat → Bool} {ad : Nat → Nat → Nat} {κ : Nat → kS} {n : Nat} {σ : mS} {B nc ks : Nat} {a : Nat → Nat} {ao b N i : Nat} {f : Nat → Int64} {sc : Nat → Int32} {aK aV : Nat → Nat} {tf : Option Nat} (H : LH G ae tw ts aK aV tf b N sc i B nc ks) (hJ : J ae kd ad κ n σ B) (kk : LK G d Q (Lw b (ad 0 20) (a 60) ao i) (ad 0 20) a ao ae B nc ks) : AW G ML_law (d + 60) 600128 7301098 Q 216 (Lw b (ad 0 20) (a 60) ao i) [] (WX G.2.2.1 kd ad κ n [] ++ (mW G.2.2.1 a σ ++ oW G ao f)) nc ks := by
  obtain ⟨hE, hNB, hAO, hTH, hKB, hSc, hi, hN, hB0, hnc, hks⟩ := id H
  obtain ⟨hn, hMain, hSub, hTape, hR10, hR11, hR12, hR13, hMisc, hRef, hB5, jc, NM, sn, sd, m, pn, im, hCht, hSR, hSnt, hTok, hPast, hPm, hSds, hImg⟩ := id hJ
  have hw : WT (σ.2.1 6) := hTok.1.1.1
  have h07 : σ.2.1 6 0 ≤ 7 := hw.2.1
  have hb9 : ∀ j, σ.2.1 6 j < 2 ^ 29 := fun j => by have := hTok.1.1.2 j; omega
  obtain ⟨hRES, hr7, hr14, hr11, hr12, hr56⟩ := id hRef
  refine aw_aload_n (pc := 216) (i := 1) dL_law_216 rfl rfl ?_
  refine la_arg (pc := 217) (j := 1) dL_law_217 dL_law_218 dL_law_220 dL_law_221 dL_law_222 (by decide) hSc (by omega) hN rfl rfl ?_
  refine la_arg (pc := 223) (j := 2) dL_law_223 dL_law_224 dL_law_226 dL_law_227 dL_law_228 (by decide) hSc (by omega) hN rfl rfl ?_
  refine la_arg (pc := 229) (j := 3) dL_law_229 dL_law_230 dL_law_232 dL_law_233 dL_law_234 (by decide) hSc (by omega) hN rfl rfl ?_
  refine la_arg (pc := 235) (j := 4) dL_law_235 dL_law_236 dL_law_238 dL_law_239 dL_law_240 (by decide) hSc (by omega) hN rfl rfl ?_
  refine la_arg (pc := 241) (j := 5) dL_law_241 dL_law_242 dL_law_244 dL_law_245 dL_law_246 (by decide) hSc (by omega) hN rfl rfl ?_
  refine la_cx (pc := 247) (As := [.int (sc (i + 1)), .int (sc (i + 2)), .int (sc (i + 3)), .int (sc (i + 4)), .int (sc (i + 5))]) (rest := []) dL_law_247 oc_L_19 rfl rfl rfl (Nat.le_of_ble_eq_true rfl) hn (by omega) (by omega) (x_feed (d := d + 19) hE hNB hAO hJ (fun κ9 n1 hn1 hn9 hJ9 => ⟨_, rfl, ?_⟩))
  refine aw_aload_n (pc := 250) (i := 2) dL_law_250 rfl rfl ?_
  refine la_arg (pc := 251) (j := 1) dL_law_251 dL_law_252 dL_law_254 dL_law_255 dL_law_256 (by decide) hSc (by omega) hN rfl rfl ?_
  refine la_arg (pc := 257) (j := 2) dL_law_257 dL_law_258 dL_law_260 dL_law_261 dL_law_262 (by decide) hSc (by omega) hN rfl rfl ?_
  refine la_arg (pc := 263) (j := 3) dL_law_263 dL_law_264 dL_law_266 dL_law_267 dL_law_268 (by decide) hSc (by omega) hN rfl rfl ?_
  refine la_arg (pc := 269) (j := 4) dL_law_269 dL_law_270 dL_law_272 dL_law_273 dL_law_274 (by decide) hSc (by omega) hN rfl rfl ?_
  refine la_arg (pc := 275) (j := 5) dL_law_275 dL_law_276 dL_law_278 dL_law_279 dL_law_280 (by decide) hSc (by omega) hN rfl rfl ?_
  refine la_cm (pc := 281) (As := [.int (sc (i + 1)), .int (sc (i + 2)), .int (sc (i + 3)), .int (sc (i + 4)), .int (sc (i + 5))]) (rest := [.int _]) dL_law_281 oc_L_23 rfl rfl rfl (Nat.le_of_ble_eq_true rfl) (by omega) (by omega) (s_feed (d := d + 58) hn1 hn9 ⟨_, _, rfl, rfl, ?_⟩)
  refine la_eq (pc := 284) dL_law_284 rfl ?_
  exact kk.use rfl hJ9 (by omega) (by omega) (by omega)
set_option maxHeartbeats 2000000 in
set_option maxRecDepth 20000 in
theorem la_end {G : xG} {d : Nat} {Q : xQ} {ae : Nat → Nat} {tw ts : Nat} {kd : Nat → Bool} {ad : Nat → Nat → Nat} {κ : Nat → kS} {n : Nat} {σ : mS} {B nc ks : Nat} {a : Nat → Nat} {ao b N i : Nat} {f : Nat → Int64} {sc : Nat → Int32} {aK aV : Nat → Nat} {tf : Option Nat} (H : LH G ae tw ts aK aV tf b N sc i B nc ks) (hJ : J ae kd ad κ n σ B) (kk : LK G d Q (Lw b (ad 0 20) (a 60) ao i) (ad 0 20) a ao ae B nc ks) : AW G ML_law (d + 60) 600128 7301098 Q 289 (Lw b (ad 0 20) (a 60) ao i) [] (WX G.2.2.1 kd ad κ n [] ++ (mW G.2.2.1 a σ ++ oW G ao f)) nc ks := by
  obtain ⟨hE, hNB, hAO, hTH, hKB, hSc, hi, hN, hB0, hnc, hks⟩ := id H
  obtain ⟨hn, hMain, hSub, hTape, hR10, hR11, hR12, hR13, hMisc, hRef, hB5, jc, NM, sn, sd, m, pn, im, hCht, hSR, hSnt, hTok, hPast, hPm, hSds, hImg⟩ := id hJ
  have hw : WT (σ.2.1 6) := hTok.1.1.1
  have h07 : σ.2.1 6 0 ≤ 7 := hw.2.1
  have hb9 : ∀ j, σ.2.1 6 j < 2 ^ 29 := fun j => by have := hTok.1.1.2 j; omega
  obtain ⟨hRES, hr7, hr14, hr11, hr12, hr56⟩ := id hRef
  refine aw_aload_n (pc := 289) (i := 1) dL_law_289 rfl rfl ?_
  refine la_arg (pc := 290) (j := 1) dL_law_290 dL_law_291 dL_law_293 dL_law_294 dL_law_295 (by decide) hSc (by omega) hN rfl rfl ?_
  refine la_cx (pc := 296) (As := [.int (sc (i + 1))]) (rest := []) dL_law_296 oc_L_24 rfl rfl rfl (Nat.le_of_ble_eq_true rfl) hn (by omega) (by omega) (x_end (d := d + 19) hE hNB hAO hJ (fun κ9 n1 hn1 hJ9 => ⟨_, rfl, ?_⟩))
  refine aw_aload_n (pc := 299) (i := 2) dL_law_299 rfl rfl ?_
  refine la_arg (pc := 300) (j := 1) dL_law_300 dL_law_301 dL_law_303 dL_law_304 dL_law_305 (by decide) hSc (by omega) hN rfl rfl ?_
  refine la_cm (pc := 306) (As := [.int (sc (i + 1))]) (rest := [.int _]) dL_law_306 oc_L_28 rfl rfl rfl (Nat.le_of_ble_eq_true rfl) (by omega) (by omega) (s_end (d := d + 59) hn1 ⟨_, _, rfl, rfl, ?_⟩)
  refine la_eq (pc := 309) dL_law_309 rfl ?_
  exact kk.use rfl hJ9 (by omega) (by omega) (by omega)
