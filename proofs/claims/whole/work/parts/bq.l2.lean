set_option maxHeartbeats 2000000 in
set_option maxRecDepth 20000 in
theorem la_cross {G : xG} {d : Nat} {Q : xQ} {ae : Nat → Nat} {tw ts : Nat} {kd : Nat → Bool} {ad : Nat → Nat → Nat} {κ : Nat → kS} {n : Nat} {σ : mS} {B nc ks : Nat} {a : Nat → Nat} {ao b N i : Nat} {f : Nat → Int64} {sc : Nat → Int32} {aK aV : Nat → Nat} {tf : Option Nat} (H : LH G ae tw ts aK aV tf b N sc i B nc ks) (hJ : J ae kd ad κ n σ B) (kk : LK G d Q (Lw b (ad 0 20) (a 60) ao i) (ad 0 20) a ao ae B nc ks) : AW G ML_law (d + 60) 600128 7301098 Q 507 (Lw b (ad 0 20) (a 60) ao i) [] (WX G.2.2.1 kd ad κ n [] ++ (mW G.2.2.1 a σ ++ oW G ao f)) nc ks := by
  obtain ⟨hE, hNB, hAO, hTH, hKB, hSc, hi, hN, hB0, hnc, hks⟩ := id H
  obtain ⟨hn, hMain, hSub, hTape, hR10, hR11, hR12, hR13, hMisc, hRef, hB5, jc, NM, sn, sd, m, pn, im, hCht, hSR, hSnt, hTok, hPast, hPm, hSds, hImg⟩ := id hJ
  have hw : WT (σ.2.1 6) := hTok.1.1.1
  have h07 : σ.2.1 6 0 ≤ 7 := hw.2.1
  have hb9 : ∀ j, σ.2.1 6 j < 2 ^ 29 := fun j => by have := hTok.1.1.2 j; omega
  obtain ⟨hRES, hr7, hr14, hr11, hr12, hr56⟩ := id hRef
  refine aw_aload_n (pc := 507) (i := 1) dL_law_507 rfl rfl ?_
  refine la_arg (pc := 508) (j := 1) dL_law_508 dL_law_509 dL_law_511 dL_law_512 dL_law_513 (by decide) hSc (by omega) hN rfl rfl ?_
  refine la_arg (pc := 514) (j := 2) dL_law_514 dL_law_515 dL_law_517 dL_law_518 dL_law_519 (by decide) hSc (by omega) hN rfl rfl ?_
  refine la_cx (pc := 520) (As := [.int (sc (i + 1)), .int (sc (i + 2))]) (rest := []) dL_law_520 oc_L_60 rfl rfl rfl (Nat.le_of_ble_eq_true rfl) hn (by omega) (by omega) (x_cross (d := d + 54) hE hNB hAO hJ (by omega) (fun κ9 m9 hm9 hm8 hJ9 => ⟨_, rfl, ?_⟩))
  refine aw_aload_n (pc := 523) (i := 2) dL_law_523 rfl rfl ?_
  refine la_arg (pc := 524) (j := 1) dL_law_524 dL_law_525 dL_law_527 dL_law_528 dL_law_529 (by decide) hSc (by omega) hN rfl rfl ?_
  refine la_arg (pc := 530) (j := 2) dL_law_530 dL_law_531 dL_law_533 dL_law_534 dL_law_535 (by decide) hSc (by omega) hN rfl rfl ?_
  refine la_cm (pc := 536) (As := [.int (sc (i + 1)), .int (sc (i + 2))]) (rest := [.int _]) dL_law_536 oc_L_63 rfl rfl rfl (Nat.le_of_ble_eq_true rfl) (by omega) (by omega) (s_cross (d := d + 55) hw hb9 hm9 hm8 ⟨_, _, rfl, rfl, ?_⟩)
  refine la_eq (pc := 539) dL_law_539 rfl ?_
  exact kk.use rfl hJ9 (by omega) (by omega) (by omega)
set_option maxHeartbeats 2000000 in
set_option maxRecDepth 20000 in
theorem la_pact {G : xG} {d : Nat} {Q : xQ} {ae : Nat → Nat} {tw ts : Nat} {kd : Nat → Bool} {ad : Nat → Nat → Nat} {κ : Nat → kS} {n : Nat} {σ : mS} {B nc ks : Nat} {a : Nat → Nat} {ao b N i : Nat} {f : Nat → Int64} {sc : Nat → Int32} {aK aV : Nat → Nat} {tf : Option Nat} (H : LH G ae tw ts aK aV tf b N sc i B nc ks) (hJ : J ae kd ad κ n σ B) (kk : LK G d Q (Lw b (ad 0 20) (a 60) ao i) (ad 0 20) a ao ae B nc ks) : AW G ML_law (d + 60) 600128 7301098 Q 544 (Lw b (ad 0 20) (a 60) ao i) [] (WX G.2.2.1 kd ad κ n [] ++ (mW G.2.2.1 a σ ++ oW G ao f)) nc ks := by
  obtain ⟨hE, hNB, hAO, hTH, hKB, hSc, hi, hN, hB0, hnc, hks⟩ := id H
  obtain ⟨hn, hMain, hSub, hTape, hR10, hR11, hR12, hR13, hMisc, hRef, hB5, jc, NM, sn, sd, m, pn, im, hCht, hSR, hSnt, hTok, hPast, hPm, hSds, hImg⟩ := id hJ
  have hw : WT (σ.2.1 6) := hTok.1.1.1
  have h07 : σ.2.1 6 0 ≤ 7 := hw.2.1
  have hb9 : ∀ j, σ.2.1 6 j < 2 ^ 29 := fun j => by have := hTok.1.1.2 j; omega
  obtain ⟨hRES, hr7, hr14, hr11, hr12, hr56⟩ := id hRef
  refine aw_aload_n (pc := 544) (i := 1) dL_law_544 rfl rfl ?_
  refine la_arg (pc := 545) (j := 1) dL_law_545 dL_law_546 dL_law_548 dL_law_549 dL_law_550 (by decide) hSc (by omega) hN rfl rfl ?_
  refine la_arg (pc := 551) (j := 2) dL_law_551 dL_law_552 dL_law_554 dL_law_555 dL_law_556 (by decide) hSc (by omega) hN rfl rfl ?_
  refine la_cx (pc := 557) (As := [.int (sc (i + 1)), .int (sc (i + 2))]) (rest := []) dL_law_557 oc_L_64 rfl rfl rfl (Nat.le_of_ble_eq_true rfl) hn (by omega) (by omega) (x_pact (d := d + 54) hE hNB hAO hJ (by omega) (fun κ9 m9 hm9 hm8 hJ9 => ⟨_, rfl, ?_⟩))
  refine aw_aload_n (pc := 560) (i := 2) dL_law_560 rfl rfl ?_
  refine la_arg (pc := 561) (j := 1) dL_law_561 dL_law_562 dL_law_564 dL_law_565 dL_law_566 (by decide) hSc (by omega) hN rfl rfl ?_
  refine la_arg (pc := 567) (j := 2) dL_law_567 dL_law_568 dL_law_570 dL_law_571 dL_law_572 (by decide) hSc (by omega) hN rfl rfl ?_
  refine la_cm (pc := 573) (As := [.int (sc (i + 1)), .int (sc (i + 2))]) (rest := [.int _]) dL_law_573 oc_L_67 rfl rfl rfl (Nat.le_of_ble_eq_true rfl) (by omega) (by omega) (s_pact (d := d + 57) hw hb9 hm9 hm8 ⟨_, _, rfl, rfl, ?_⟩)
  refine la_eq (pc := 576) dL_law_576 rfl ?_
  exact kk.use rfl hJ9 (by omega) (by omega) (by omega)
set_option maxHeartbeats 2000000 in
set_option maxRecDepth 20000 in
theorem la_breaks {G : xG} {d : Nat} {Q : xQ} {ae : Nat → Nat} {tw ts : Nat} {kd : Nat → Bool} {ad : Nat → Nat → Nat} {κ : Nat → kS} {n : Nat} {σ : mS} {B nc ks : Nat} {a : Nat → Nat} {ao b N i : Nat} {f : Nat → Int64} {sc : Nat → Int32} {aK aV : Nat → Nat} {tf : Option Nat} (H : LH G ae tw ts aK aV tf b N sc i B nc ks) (hJ : J ae kd ad κ n σ B) (kk : LK G d Q (Lw b (ad 0 20) (a 60) ao i) (ad 0 20) a ao ae B nc ks) : AW G ML_law (d + 60) 600128 7301098 Q 581 (Lw b (ad 0 20) (a 60) ao i) [] (WX G.2.2.1 kd ad κ n [] ++ (mW G.2.2.1 a σ ++ oW G ao f)) nc ks := by
  obtain ⟨hE, hNB, hAO, hTH, hKB, hSc, hi, hN, hB0, hnc, hks⟩ := id H
  obtain ⟨hn, hMain, hSub, hTape, hR10, hR11, hR12, hR13, hMisc, hRef, hB5, jc, NM, sn, sd, m, pn, im, hCht, hSR, hSnt, hTok, hPast, hPm, hSds, hImg⟩ := id hJ
  have hw : WT (σ.2.1 6) := hTok.1.1.1
  have h07 : σ.2.1 6 0 ≤ 7 := hw.2.1
  have hb9 : ∀ j, σ.2.1 6 j < 2 ^ 29 := fun j => by have := hTok.1.1.2 j; omega
  obtain ⟨hRES, hr7, hr14, hr11, hr12, hr56⟩ := id hRef
  refine aw_aload_n (pc := 581) (i := 1) dL_law_581 rfl rfl ?_
  refine la_arg (pc := 582) (j := 1) dL_law_582 dL_law_583 dL_law_585 dL_law_586 dL_law_587 (by decide) hSc (by omega) hN rfl rfl ?_
  refine la_arg (pc := 588) (j := 2) dL_law_588 dL_law_589 dL_law_591 dL_law_592 dL_law_593 (by decide) hSc (by omega) hN rfl rfl ?_
  refine la_cx (pc := 594) (As := [.int (sc (i + 1)), .int (sc (i + 2))]) (rest := []) dL_law_594 oc_L_68 rfl rfl rfl (Nat.le_of_ble_eq_true rfl) hn (by omega) (by omega) (x_breaks (d := d + 54) hE hNB hAO hJ (by omega) (fun κ9 m9 hm9 hm8 hJ9 => ⟨_, rfl, ?_⟩))
  refine aw_aload_n (pc := 597) (i := 2) dL_law_597 rfl rfl ?_
  refine la_arg (pc := 598) (j := 1) dL_law_598 dL_law_599 dL_law_601 dL_law_602 dL_law_603 (by decide) hSc (by omega) hN rfl rfl ?_
  refine la_arg (pc := 604) (j := 2) dL_law_604 dL_law_605 dL_law_607 dL_law_608 dL_law_609 (by decide) hSc (by omega) hN rfl rfl ?_
  refine la_cm (pc := 610) (As := [.int (sc (i + 1)), .int (sc (i + 2))]) (rest := [.int _]) dL_law_610 oc_L_71 rfl rfl rfl (Nat.le_of_ble_eq_true rfl) (by omega) (by omega) (s_breaks (d := d + 57) hw hb9 hm9 hm8 ⟨_, _, rfl, rfl, ?_⟩)
  refine la_eq (pc := 613) dL_law_613 rfl ?_
  exact kk.use rfl hJ9 (by omega) (by omega) (by omega)
set_option maxHeartbeats 2000000 in
set_option maxRecDepth 20000 in
theorem la_close {G : xG} {d : Nat} {Q : xQ} {ae : Nat → Nat} {tw ts : Nat} {kd : Nat → Bool} {ad : Nat → Nat → Nat} {κ : Nat → kS} {n : Nat} {σ : mS} {B nc ks : Nat} {a : Nat → Nat} {ao b N i : Nat} {f : Nat → Int64} {sc : Nat → Int32} {aK aV : Nat → Nat} {tf : Option Nat} (H : LH G ae tw ts aK aV tf b N sc i B nc ks) (hJ : J ae kd ad κ n σ B) (kk : LK G d Q (Lw b (ad 0 20) (a 60) ao i) (ad 0 20) a ao ae B nc ks) : AW G ML_law (d + 60) 600128 7301098 Q 618 (Lw b (ad 0 20) (a 60) ao i) [] (WX G.2.2.1 kd ad κ n [] ++ (mW G.2.2.1 a σ ++ oW G ao f)) nc ks := by
  obtain ⟨hE, hNB, hAO, hTH, hKB, hSc, hi, hN, hB0, hnc, hks⟩ := id H
  obtain ⟨hn, hMain, hSub, hTape, hR10, hR11, hR12, hR13, hMisc, hRef, hB5, jc, NM, sn, sd, m, pn, im, hCht, hSR, hSnt, hTok, hPast, hPm, hSds, hImg⟩ := id hJ
  have hw : WT (σ.2.1 6) := hTok.1.1.1
  have h07 : σ.2.1 6 0 ≤ 7 := hw.2.1
  have hb9 : ∀ j, σ.2.1 6 j < 2 ^ 29 := fun j => by have := hTok.1.1.2 j; omega
  obtain ⟨hRES, hr7, hr14, hr11, hr12, hr56⟩ := id hRef
  refine aw_aload_n (pc := 618) (i := 1) dL_law_618 rfl rfl ?_
  refine la_arg (pc := 619) (j := 1) dL_law_619 dL_law_620 dL_law_622 dL_law_623 dL_law_624 (by decide) hSc (by omega) hN rfl rfl ?_
  refine la_cx (pc := 625) (As := [.int (sc (i + 1))]) (rest := []) dL_law_625 oc_L_72 rfl rfl rfl (Nat.le_of_ble_eq_true rfl) hn (by omega) (by omega) (x_close (d := d + 54) hE hNB hAO hJ (by omega) (fun κ9 m9 hm9 hm8 hJ9 => ⟨_, rfl, ?_⟩))
  refine aw_aload_n (pc := 628) (i := 2) dL_law_628 rfl rfl ?_
  refine la_arg (pc := 629) (j := 1) dL_law_629 dL_law_630 dL_law_632 dL_law_633 dL_law_634 (by decide) hSc (by omega) hN rfl rfl ?_
  refine la_cm (pc := 635) (As := [.int (sc (i + 1))]) (rest := [.int _]) dL_law_635 oc_L_75 rfl rfl rfl (Nat.le_of_ble_eq_true rfl) (by omega) (by omega) (s_close (d := d + 55) hw hb9 hm9 hm8 ⟨_, _, rfl, rfl, ?_⟩)
  refine la_eq (pc := 638) dL_law_638 rfl ?_
  exact kk.use rfl hJ9 (by omega) (by omega) (by omega)
set_option maxHeartbeats 2000000 in
set_option maxRecDepth 20000 in
theorem la_open {G : xG} {d : Nat} {Q : xQ} {ae : Nat → Nat} {tw ts : Nat} {kd : Nat → Bool} {ad : Nat → Nat → Nat} {κ : Nat → kS} {n : Nat} {σ : mS} {B nc ks : Nat} {a : Nat → Nat} {ao b N i : Nat} {f : Nat → Int64} {sc : Nat → Int32} {aK aV : Nat → Nat} {tf : Option Nat} (H : LH G ae tw ts aK aV tf b N sc i B nc ks) (hJ : J ae kd ad κ n σ B) (kk : LK G d Q (Lw b (ad 0 20) (a 60) ao i) (ad 0 20) a ao ae B nc ks) : AW G ML_law (d + 60) 600128 7301098 Q 643 (Lw b (ad 0 20) (a 60) ao i) [] (WX G.2.2.1 kd ad κ n [] ++ (mW G.2.2.1 a σ ++ oW G ao f)) nc ks := by
  obtain ⟨hE, hNB, hAO, hTH, hKB, hSc, hi, hN, hB0, hnc, hks⟩ := id H
  obtain ⟨hn, hMain, hSub, hTape, hR10, hR11, hR12, hR13, hMisc, hRef, hB5, jc, NM, sn, sd, m, pn, im, hCht, hSR, hSnt, hTok, hPast, hPm, hSds, hImg⟩ := id hJ
  have hw : WT (σ.2.1 6) := hTok.1.1.1
  have h07 : σ.2.1 6 0 ≤ 7 := hw.2.1
  have hb9 : ∀ j, σ.2.1 6 j < 2 ^ 29 := fun j => by have := hTok.1.1.2 j; omega
  obtain ⟨hRES, hr7, hr14, hr11, hr12, hr56⟩ := id hRef
  refine aw_aload_n (pc := 643) (i := 1) dL_law_643 rfl rfl ?_
  refine la_arg (pc := 644) (j := 1) dL_law_644 dL_law_645 dL_law_647 dL_law_648 dL_law_649 (by decide) hSc (by omega) hN rfl rfl ?_
  refine la_cx (pc := 650) (As := [.int (sc (i + 1))]) (rest := []) dL_law_650 oc_L_76 rfl rfl rfl (Nat.le_of_ble_eq_true rfl) hn (by omega) (by omega) (x_open (d := d + 54) hE hNB hAO hJ (by omega) (fun κ9 m9 hm9 hm8 hJ9 => ⟨_, rfl, ?_⟩))
  refine aw_aload_n (pc := 653) (i := 2) dL_law_653 rfl rfl ?_
  refine la_arg (pc := 654) (j := 1) dL_law_654 dL_law_655 dL_law_657 dL_law_658 dL_law_659 (by decide) hSc (by omega) hN rfl rfl ?_
  refine la_cm (pc := 660) (As := [.int (sc (i + 1))]) (rest := [.int _]) dL_law_660 oc_L_79 rfl rfl rfl (Nat.le_of_ble_eq_true rfl) (by omega) (by omega) (s_open (d := d + 55) hw hb9 hm9 hm8 ⟨_, _, rfl, rfl, ?_⟩)
  refine la_eq (pc := 663) dL_law_663 rfl ?_
  exact kk.use rfl hJ9 (by omega) (by omega) (by omega)
set_option maxHeartbeats 2000000 in
set_option maxRecDepth 20000 in
theorem la_lend {G : xG} {d : Nat} {Q : xQ} {ae : Nat → Nat} {tw ts : Nat} {kd : Nat → Bool} {ad : Nat → Nat → Nat} {κ : Nat → kS} {n : Nat} {σ : mS} {B nc ks : Nat} {a : Nat → Nat} {ao b N i : Nat} {f : Nat → Int64} {sc : Nat → Int32} {aK aV : Nat → Nat} {tf : Option Nat} (H : LH G ae tw ts aK aV tf b N sc i B nc ks) (hJ : J ae kd ad κ n σ B) (kk : LK G d Q (Lw b (ad 0 20) (a 60) ao i) (ad 0 20) a ao ae B nc ks) : AW G ML_law (d + 60) 600128 7301098 Q 668 (Lw b (ad 0 20) (a 60) ao i) [] (WX G.2.2.1 kd ad κ n [] ++ (mW G.2.2.1 a σ ++ oW G ao f)) nc ks := by
  obtain ⟨hE, hNB, hAO, hTH, hKB, hSc, hi, hN, hB0, hnc, hks⟩ := id H
  obtain ⟨hn, hMain, hSub, hTape, hR10, hR11, hR12, hR13, hMisc, hRef, hB5, jc, NM, sn, sd, m, pn, im, hCht, hSR, hSnt, hTok, hPast, hPm, hSds, hImg⟩ := id hJ
  have hw : WT (σ.2.1 6) := hTok.1.1.1
  have h07 : σ.2.1 6 0 ≤ 7 := hw.2.1
  have hb9 : ∀ j, σ.2.1 6 j < 2 ^ 29 := fun j => by have := hTok.1.1.2 j; omega
  obtain ⟨hRES, hr7, hr14, hr11, hr12, hr56⟩ := id hRef
  refine aw_aload_n (pc := 668) (i := 1) dL_law_668 rfl rfl ?_
  refine la_arg (pc := 669) (j := 1) dL_law_669 dL_law_670 dL_law_672 dL_law_673 dL_law_674 (by decide) hSc (by omega) hN rfl rfl ?_
  refine la_arg (pc := 675) (j := 2) dL_law_675 dL_law_676 dL_law_678 dL_law_679 dL_law_680 (by decide) hSc (by omega) hN rfl rfl ?_
  refine la_arg (pc := 681) (j := 3) dL_law_681 dL_law_682 dL_law_684 dL_law_685 dL_law_686 (by decide) hSc (by omega) hN rfl rfl ?_
  refine la_cx (pc := 687) (As := [.int (sc (i + 1)), .int (sc (i + 2)), .int (sc (i + 3))]) (rest := []) dL_law_687 oc_L_80 rfl rfl rfl (Nat.le_of_ble_eq_true rfl) hn (by omega) (by omega) (x_lend (d := d + 54) hE hNB hAO hJ (by omega) (fun κ9 m9 hm9 hm8 hJ9 => ⟨_, rfl, ?_⟩))
  refine aw_aload_n (pc := 690) (i := 2) dL_law_690 rfl rfl ?_
  refine la_arg (pc := 691) (j := 1) dL_law_691 dL_law_692 dL_law_694 dL_law_695 dL_law_696 (by decide) hSc (by omega) hN rfl rfl ?_
  refine la_arg (pc := 697) (j := 2) dL_law_697 dL_law_698 dL_law_700 dL_law_701 dL_law_702 (by decide) hSc (by omega) hN rfl rfl ?_
  refine la_arg (pc := 703) (j := 3) dL_law_703 dL_law_704 dL_law_706 dL_law_707 dL_law_708 (by decide) hSc (by omega) hN rfl rfl ?_
  refine la_cm (pc := 709) (As := [.int (sc (i + 1)), .int (sc (i + 2)), .int (sc (i + 3))]) (rest := [.int _]) dL_law_709 oc_L_84 rfl rfl rfl (Nat.le_of_ble_eq_true rfl) (by omega) (by omega) (s_lend (d := d + 57) hw hb9 hm9 hm8 ⟨_, _, rfl, rfl, ?_⟩)
  refine la_eq (pc := 712) dL_law_712 rfl ?_
  exact kk.use rfl hJ9 (by omega) (by omega) (by omega)
set_option maxHeartbeats 2000000 in
set_option maxRecDepth 20000 in
theorem la_days {G : xG} {d : Nat} {Q : xQ} {ae : Nat → Nat} {tw ts : Nat} {kd : Nat → Bool} {ad : Nat → Nat → Nat} {κ : Nat → kS} {n : Nat} {σ : mS} {B nc ks : Nat} {a : Nat → Nat} {ao b N i : Nat} {f : Nat → Int64} {sc : Nat → Int32} {aK aV : Nat → Nat} {tf : Option Nat} (H : LH G ae tw ts aK aV tf b N sc i B nc ks) (hJ : J ae kd ad κ n σ B) (kk : LK G d Q (Lw b (ad 0 20) (a 60) ao i) (ad 0 20) a ao ae B nc ks) : AW G ML_law (d + 60) 600128 7301098 Q 717 (Lw b (ad 0 20) (a 60) ao i) [] (WX G.2.2.1 kd ad κ n [] ++ (mW G.2.2.1 a σ ++ oW G ao f)) nc ks := by
  obtain ⟨hE, hNB, hAO, hTH, hKB, hSc, hi, hN, hB0, hnc, hks⟩ := id H
  obtain ⟨hn, hMain, hSub, hTape, hR10, hR11, hR12, hR13, hMisc, hRef, hB5, jc, NM, sn, sd, m, pn, im, hCht, hSR, hSnt, hTok, hPast, hPm, hSds, hImg⟩ := id hJ
  have hw : WT (σ.2.1 6) := hTok.1.1.1
  have h07 : σ.2.1 6 0 ≤ 7 := hw.2.1
  have hb9 : ∀ j, σ.2.1 6 j < 2 ^ 29 := fun j => by have := hTok.1.1.2 j; omega
  obtain ⟨hRES, hr7, hr14, hr11, hr12, hr56⟩ := id hRef
  refine aw_aload_n (pc := 717) (i := 1) dL_law_717 rfl rfl ?_
  refine la_arg (pc := 718) (j := 1) dL_law_718 dL_law_719 dL_law_721 dL_law_722 dL_law_723 (by decide) hSc (by omega) hN rfl rfl ?_
  refine la_cx (pc := 724) (As := [.int (sc (i + 1))]) (rest := []) dL_law_724 oc_L_85 rfl rfl rfl (Nat.le_of_ble_eq_true rfl) hn (by omega) (by omega) (x_days (d := d + 54) hE hNB hAO hJ (by omega) (fun κ9 m9 hm9 hm8 hJ9 => ⟨_, rfl, ?_⟩))
  refine aw_aload_n (pc := 727) (i := 2) dL_law_727 rfl rfl ?_
  refine la_arg (pc := 728) (j := 1) dL_law_728 dL_law_729 dL_law_731 dL_law_732 dL_law_733 (by decide) hSc (by omega) hN rfl rfl ?_
  refine la_cm (pc := 734) (As := [.int (sc (i + 1))]) (rest := [.int _]) dL_law_734 oc_L_88 rfl rfl rfl (Nat.le_of_ble_eq_true rfl) (by omega) (by omega) (s_days (d := d + 56) hw hb9 hm9 hm8 ⟨_, _, rfl, rfl, ?_⟩)
  refine la_eq (pc := 737) dL_law_737 rfl ?_
  exact kk.use rfl hJ9 (by omega) (by omega) (by omega)
set_option maxHeartbeats 2000000 in
set_option maxRecDepth 20000 in
theorem la_undo {G : xG} {d : Nat} {Q : xQ} {ae : Nat → Nat} {tw ts : Nat} {kd : Nat → Bool} {ad : Nat → Nat → Nat} {κ : Nat → kS} {n : Nat} {σ : mS} {B nc ks : Nat} {a : Nat → Nat} {ao b N i : Nat} {f : Nat → Int64} {sc : Nat → Int32} {aK aV : Nat → Nat} {tf : Option Nat} (H : LH G ae tw ts aK aV tf b N sc i B nc ks) (hJ : J ae kd ad κ n σ B) (kk : LK G d Q (Lw b (ad 0 20) (a 60) ao i) (ad 0 20) a ao ae B nc ks) : AW G ML_law (d + 60) 600128 7301098 Q 742 (Lw b (ad 0 20) (a 60) ao i) [] (WX G.2.2.1 kd ad κ n [] ++ (mW G.2.2.1 a σ ++ oW G ao f)) nc ks := by
  obtain ⟨hE, hNB, hAO, hTH, hKB, hSc, hi, hN, hB0, hnc, hks⟩ := id H
  obtain ⟨hn, hMain, hSub, hTape, hR10, hR11, hR12, hR13, hMisc, hRef, hB5, jc, NM, sn, sd, m, pn, im, hCht, hSR, hSnt, hTok, hPast, hPm, hSds, hImg⟩ := id hJ
  have hw : WT (σ.2.1 6) := hTok.1.1.1
  have h07 : σ.2.1 6 0 ≤ 7 := hw.2.1
  have hb9 : ∀ j, σ.2.1 6 j < 2 ^ 29 := fun j => by have := hTok.1.1.2 j; omega
  obtain ⟨hRES, hr7, hr14, hr11, hr12, hr56⟩ := id hRef
  refine aw_aload_n (pc := 742) (i := 1) dL_law_742 rfl rfl ?_
  refine la_cx (pc := 743) (As := []) (rest := []) dL_law_743 oc_L_89 rfl rfl rfl (Nat.le_of_ble_eq_true rfl) hn (by omega) (by omega) (x_undo (d := d + 58) hE hNB hAO hJ (fun κ9 m9 hm9 hm8 hJ9 => ⟨_, rfl, ?_⟩))
  refine aw_aload_n (pc := 746) (i := 2) dL_law_746 rfl rfl ?_
  refine la_cm (pc := 747) (As := []) (rest := [.int _]) dL_law_747 oc_L_92 rfl rfl rfl (Nat.le_of_ble_eq_true rfl) (by omega) (by omega) (s_undo (d := d + 59) hm9 hm8 ⟨_, _, rfl, rfl, ?_⟩)
  refine la_eq (pc := 750) dL_law_750 rfl ?_
  exact kk.use rfl hJ9 (by omega) (by omega) (by omega)
set_option maxHeartbeats 2000000 in
set_option maxRecDepth 20000 in
theorem la_rests {G : xG} {d : Nat} {Q : xQ} {ae : Nat → Nat} {tw ts : Nat} {kd : Nat → Bool} {ad : Nat → Nat → Nat} {κ : Nat → kS} {n : Nat} {σ : mS} {B nc ks : Nat} {a : Nat → Nat} {ao b N i : Nat} {f : Nat → Int64} {sc : Nat → Int32} {aK aV : Nat → Nat} {tf : Option Nat} (H : LH G ae tw ts aK aV tf b N sc i B nc ks) (hJ : J ae kd ad κ n σ B) (kk : LK G d Q (Lw b (ad 0 20) (a 60) ao i) (ad 0 20) a ao ae B nc ks) : AW G ML_law (d + 60) 600128 7301098 Q 1067 (Lw b (ad 0 20) (a 60) ao i) [] (WX G.2.2.1 kd ad κ n [] ++ (mW G.2.2.1 a σ ++ oW G ao f)) nc ks := by
  obtain ⟨hE, hNB, hAO, hTH, hKB, hSc, hi, hN, hB0, hnc, hks⟩ := id H
  obtain ⟨hn, hMain, hSub, hTape, hR10, hR11, hR12, hR13, hMisc, hRef, hB5, jc, NM, sn, sd, m, pn, im, hCht, hSR, hSnt, hTok, hPast, hPm, hSds, hImg⟩ := id hJ
  have hw : WT (σ.2.1 6) := hTok.1.1.1
  have h07 : σ.2.1 6 0 ≤ 7 := hw.2.1
  have hb9 : ∀ j, σ.2.1 6 j < 2 ^ 29 := fun j => by have := hTok.1.1.2 j; omega
  obtain ⟨hRES, hr7, hr14, hr11, hr12, hr56⟩ := id hRef
  refine aw_aload_n (pc := 1067) (i := 1) dL_law_1067 rfl rfl ?_
  refine la_cx (pc := 1068) (As := []) (rest := []) dL_law_1068 oc_L_141 rfl rfl rfl (Nat.le_of_ble_eq_true rfl) hn (by omega) (by omega) (x_rests (d := d + 55) hE hNB hAO hJ (fun κ9 hJ9 => ⟨_, rfl, ?_⟩))
  refine aw_aload_n (pc := 1071) (i := 2) dL_law_1071 rfl rfl ?_
  refine la_cm (pc := 1072) (As := []) (rest := [.int _]) dL_law_1072 oc_L_144 rfl rfl rfl (Nat.le_of_ble_eq_true rfl) (by omega) (by omega) (s_rests (d := d + 56) ⟨hw.1, hw.2.2.2.1, fun q hq => by have := (hw.2.2.2.2.2.1 q hq).1; have := hw.2.1; omega⟩ ⟨_, _, rfl, rfl, ?_⟩)
  refine la_eq (pc := 1075) dL_law_1075 rfl ?_
  exact kk.use rfl hJ9 (by omega) (by omega) (by omega)
set_option maxHeartbeats 2000000 in
set_option maxRecDepth 20000 in
theorem la_part {G : xG} {d : Nat} {Q : xQ} {ae : Nat → Nat} {tw ts : Nat} {kd : Nat → Bool} {ad : Nat → Nat → Nat} {κ : Nat → kS} {n : Nat} {σ : mS} {B nc ks : Nat} {a : Nat → Nat} {ao b N i : Nat} {f : Nat → Int64} {sc : Nat → Int32} {aK aV : Nat → Nat} {tf : Option Nat} (H : LH G ae tw ts aK aV tf b N sc i B nc ks) (hJ : J ae kd ad κ n σ B) (kk : LK G d Q (Lw b (ad 0 20) (a 60) ao i) (ad 0 20) a ao ae B nc ks) : AW G ML_law (d + 60) 600128 7301098 Q 1017 (Lw b (ad 0 20) (a 60) ao i) [] (WX G.2.2.1 kd ad κ n [] ++ (mW G.2.2.1 a σ ++ oW G ao f)) nc ks := by
  obtain ⟨hE, hNB, hAO, hTH, hKB, hSc, hi, hN, hB0, hnc, hks⟩ := id H
  obtain ⟨hn, hMain, hSub, hTape, hR10, hR11, hR12, hR13, hMisc, hRef, hB5, jc, NM, sn, sd, m, pn, im, hCht, hSR, hSnt, hTok, hPast, hPm, hSds, hImg⟩ := id hJ
  have hw : WT (σ.2.1 6) := hTok.1.1.1
  have h07 : σ.2.1 6 0 ≤ 7 := hw.2.1
  have hb9 : ∀ j, σ.2.1 6 j < 2 ^ 29 := fun j => by have := hTok.1.1.2 j; omega
  obtain ⟨hRES, hr7, hr14, hr11, hr12, hr56⟩ := id hRef
  refine aw_aload_n (pc := 1017) (i := 1) dL_law_1017 rfl rfl ?_
  refine la_arg (pc := 1018) (j := 1) dL_law_1018 dL_law_1019 dL_law_1021 dL_law_1022 dL_law_1023 (by decide) hSc (by omega) hN rfl rfl ?_
  refine la_arg (pc := 1024) (j := 2) dL_law_1024 dL_law_1025 dL_law_1027 dL_law_1028 dL_law_1029 (by decide) hSc (by omega) hN rfl rfl ?_
  refine la_cx (pc := 1030) (As := [.int (sc (i + 1)), .int (sc (i + 2))]) (rest := []) dL_law_1030 oc_L_133 rfl rfl rfl (Nat.le_of_ble_eq_true rfl) hn (by omega) (by omega) (x_part (d := d + 56) hE hNB hAO hJ (fun κ9 hJ9 => ⟨_, rfl, ?_⟩))
  refine aw_aload_n (pc := 1033) (i := 2) dL_law_1033 rfl rfl ?_
  refine la_arg (pc := 1034) (j := 1) dL_law_1034 dL_law_1035 dL_law_1037 dL_law_1038 dL_law_1039 (by decide) hSc (by omega) hN rfl rfl ?_
  refine la_arg (pc := 1040) (j := 2) dL_law_1040 dL_law_1041 dL_law_1043 dL_law_1044 dL_law_1045 (by decide) hSc (by omega) hN rfl rfl ?_
  refine la_cm (pc := 1046) (As := [.int (sc (i + 1)), .int (sc (i + 2))]) (rest := [.int _]) dL_law_1046 oc_L_136 rfl rfl rfl (Nat.le_of_ble_eq_true rfl) (by omega) (by omega) (s_part (d := d + 57) hw ⟨_, _, rfl, rfl, ?_⟩)
  refine la_eq (pc := 1049) dL_law_1049 rfl ?_
  exact kk.use rfl hJ9 (by omega) (by omega) (by omega)
set_option maxHeartbeats 2000000 in
set_option maxRecDepth 20000 in
theorem la_odds {G : xG} {d : Nat} {Q : xQ} {ae : Nat → Nat} {tw ts : Nat} {kd : Nat → Bool} {ad : Nat → Nat → Nat} {κ : Nat → kS} {n : Nat} {σ : mS} {B nc ks : Nat} {a : Nat → Nat} {ao b N i : Nat} {f : Nat → Int64} {sc : Nat → Int32} {aK aV : Nat → Nat} {tf : Option Nat} (H : LH G ae tw ts aK aV tf b N sc i B nc ks) (hJ : J ae kd ad κ n σ B) (kk : LK G d Q (Lw b (ad 0 20) (a 60) ao i) (ad 0 20) a ao ae B nc ks) : AW G ML_law (d + 60) 600128 7301098 Q 1167 (Lw b (ad 0 20) (a 60) ao i) [] (WX G.2.2.1 kd ad κ n [] ++ (mW G.2.2.1 a σ ++ oW G ao f)) nc ks := by
  obtain ⟨hE, hNB, hAO, hTH, hKB, hSc, hi, hN, hB0, hnc, hks⟩ := id H
  obtain ⟨hn, hMain, hSub, hTape, hR10, hR11, hR12, hR13, hMisc, hRef, hB5, jc, NM, sn, sd, m, pn, im, hCht, hSR, hSnt, hTok, hPast, hPm, hSds, hImg⟩ := id hJ
  have hw : WT (σ.2.1 6) := hTok.1.1.1
  have h07 : σ.2.1 6 0 ≤ 7 := hw.2.1
  have hb9 : ∀ j, σ.2.1 6 j < 2 ^ 29 := fun j => by have := hTok.1.1.2 j; omega
  obtain ⟨hRES, hr7, hr14, hr11, hr12, hr56⟩ := id hRef
  refine aw_aload_n (pc := 1167) (i := 1) dL_law_1167 rfl rfl ?_
  refine la_arg (pc := 1168) (j := 1) dL_law_1168 dL_law_1169 dL_law_1171 dL_law_1172 dL_law_1173 (by decide) hSc (by omega) hN rfl rfl ?_
  refine la_arg (pc := 1174) (j := 2) dL_law_1174 dL_law_1175 dL_law_1177 dL_law_1178 dL_law_1179 (by decide) hSc (by omega) hN rfl rfl ?_
  refine la_arg (pc := 1180) (j := 3) dL_law_1180 dL_law_1181 dL_law_1183 dL_law_1184 dL_law_1185 (by decide) hSc (by omega) hN rfl rfl ?_
  refine la_cx (pc := 1186) (As := [.int (sc (i + 1)), .int (sc (i + 2)), .int (sc (i + 3))]) (rest := []) dL_law_1186 oc_L_157 rfl rfl rfl (Nat.le_of_ble_eq_true rfl) hn (by omega) (by omega) (x_odds (d := d + 54) hE hNB hAO hJ (by omega) (fun κ9 hJ9 => ⟨_, rfl, ?_⟩))
  refine aw_aload_n (pc := 1189) (i := 2) dL_law_1189 rfl rfl ?_
  refine la_arg (pc := 1190) (j := 1) dL_law_1190 dL_law_1191 dL_law_1193 dL_law_1194 dL_law_1195 (by decide) hSc (by omega) hN rfl rfl ?_
  refine la_arg (pc := 1196) (j := 2) dL_law_1196 dL_law_1197 dL_law_1199 dL_law_1200 dL_law_1201 (by decide) hSc (by omega) hN rfl rfl ?_
  refine la_arg (pc := 1202) (j := 3) dL_law_1202 dL_law_1203 dL_law_1205 dL_law_1206 dL_law_1207 (by decide) hSc (by omega) hN rfl rfl ?_
  refine la_cm (pc := 1208) (As := [.int (sc (i + 1)), .int (sc (i + 2)), .int (sc (i + 3))]) (rest := [.int _]) dL_law_1208 oc_L_160 rfl rfl rfl (Nat.le_of_ble_eq_true rfl) (by omega) (by omega) (s_odds (d := d + 54) (by omega) hB5 hTok.1 ⟨_, _, rfl, rfl, ?_⟩)
  refine la_eq (pc := 1211) dL_law_1211 rfl ?_
  exact kk.use rfl hJ9 (by omega) (by omega) (by omega)
set_option maxHeartbeats 2000000 in
set_option maxRecDepth 20000 in
theorem la_image {G : xG} {d : Nat} {Q : xQ} {ae : Nat → Nat} {tw ts : Nat} {kd : Nat → Bool} {ad : Nat → Nat → Nat} {κ : Nat → kS} {n : Nat} {σ : mS} {B nc ks : Nat} {a : Nat → Nat} {ao b N i : Nat} {f : Nat → Int64} {sc : Nat → Int32} {aK aV : Nat → Nat} {tf : Option Nat} (H : LH G ae tw ts aK aV tf b N sc i B nc ks) (hJ : J ae kd ad κ n σ B) (kk : LK G d Q (Lw b (ad 0 20) (a 60) ao i) (ad 0 20) a ao ae B nc ks) : AW G ML_law (d + 60) 600128 7301098 Q 1304 (Lw b (ad 0 20) (a 60) ao i) [] (WX G.2.2.1 kd ad κ n [] ++ (mW G.2.2.1 a σ ++ oW G ao f)) nc ks := by
  obtain ⟨hE, hNB, hAO, hTH, hKB, hSc, hi, hN, hB0, hnc, hks⟩ := id H
  obtain ⟨hn, hMain, hSub, hTape, hR10, hR11, hR12, hR13, hMisc, hRef, hB5, jc, NM, sn, sd, m, pn, im, hCht, hSR, hSnt, hTok, hPast, hPm, hSds, hImg⟩ := id hJ
  have hw : WT (σ.2.1 6) := hTok.1.1.1
  have h07 : σ.2.1 6 0 ≤ 7 := hw.2.1
  have hb9 : ∀ j, σ.2.1 6 j < 2 ^ 29 := fun j => by have := hTok.1.1.2 j; omega
  obtain ⟨hRES, hr7, hr14, hr11, hr12, hr56⟩ := id hRef
  refine aw_aload_n (pc := 1304) (i := 1) dL_law_1304 rfl rfl ?_
  refine la_arg (pc := 1305) (j := 1) dL_law_1305 dL_law_1306 dL_law_1308 dL_law_1309 dL_law_1310 (by decide) hSc (by omega) hN rfl rfl ?_
  refine la_cx (pc := 1311) (As := [.int (sc (i + 1))]) (rest := []) dL_law_1311 oc_L_177 rfl rfl rfl (Nat.le_of_ble_eq_true rfl) hn (by omega) (by omega) (x_image (d := d + 56) hE hNB hAO hJ (by omega) (fun κ9 hJ9 => ⟨_, rfl, ?_⟩))
  refine aw_aload_n (pc := 1314) (i := 2) dL_law_1314 rfl rfl ?_
  refine la_arg (pc := 1315) (j := 1) dL_law_1315 dL_law_1316 dL_law_1318 dL_law_1319 dL_law_1320 (by decide) hSc (by omega) hN rfl rfl ?_
  refine la_cm (pc := 1321) (As := [.int (sc (i + 1))]) (rest := [.int _]) dL_law_1321 oc_L_180 rfl rfl rfl (Nat.le_of_ble_eq_true rfl) (by omega) (by omega) (s_image (d := d + 58) ⟨_, _, rfl, rfl, ?_⟩)
  refine la_eq (pc := 1324) dL_law_1324 rfl ?_
  exact kk.use rfl hJ9 (by omega) (by omega) (by omega)
set_option maxHeartbeats 2000000 in
set_option maxRecDepth 20000 in
theorem la_restore {G : xG} {d : Nat} {Q : xQ} {ae : Nat → Nat} {tw ts : Nat} {kd : Nat → Bool} {ad : Nat → Nat → Nat} {κ : Nat → kS} {n : Nat} {σ : mS} {B nc ks : Nat} {a : Nat → Nat} {ao b N i : Nat} {f : Nat → Int64} {sc : Nat → Int32} {aK aV : Nat → Nat} {tf : Option Nat} (H : LH G ae tw ts aK aV tf b N sc i B nc ks) (hJ : J ae kd ad κ n σ B) (kk : LK G d Q (Lw b (ad 0 20) (a 60) ao i) (ad 0 20) a ao ae B nc ks) : AW G ML_law (d + 60) 600128 7301098 Q 1329 (Lw b (ad 0 20) (a 60) ao i) [] (WX G.2.2.1 kd ad κ n [] ++ (mW G.2.2.1 a σ ++ oW G ao f)) nc ks := by
  obtain ⟨hE, hNB, hAO, hTH, hKB, hSc, hi, hN, hB0, hnc, hks⟩ := id H
  obtain ⟨hn, hMain, hSub, hTape, hR10, hR11, hR12, hR13, hMisc, hRef, hB5, jc, NM, sn, sd, m, pn, im, hCht, hSR, hSnt, hTok, hPast, hPm, hSds, hImg⟩ := id hJ
  have hw : WT (σ.2.1 6) := hTok.1.1.1
  have h07 : σ.2.1 6 0 ≤ 7 := hw.2.1
  have hb9 : ∀ j, σ.2.1 6 j < 2 ^ 29 := fun j => by have := hTok.1.1.2 j; omega
  obtain ⟨hRES, hr7, hr14, hr11, hr12, hr56⟩ := id hRef
  refine aw_aload_n (pc := 1329) (i := 1) dL_law_1329 rfl rfl ?_
  refine la_arg (pc := 1330) (j := 1) dL_law_1330 dL_law_1331 dL_law_1333 dL_law_1334 dL_law_1335 (by decide) hSc (by omega) hN rfl rfl ?_
  refine la_cx (pc := 1336) (As := [.int (sc (i + 1))]) (rest := []) dL_law_1336 oc_L_181 rfl rfl rfl (Nat.le_of_ble_eq_true rfl) hn (by omega) (by omega) (x_restore (d := d + 56) hE hNB hAO hJ (by omega) (fun κ9 hJ9 => ⟨_, rfl, ?_⟩))
  refine aw_aload_n (pc := 1339) (i := 2) dL_law_1339 rfl rfl ?_
  refine la_arg (pc := 1340) (j := 1) dL_law_1340 dL_law_1341 dL_law_1343 dL_law_1344 dL_law_1345 (by decide) hSc (by omega) hN rfl rfl ?_
  refine la_cm (pc := 1346) (As := [.int (sc (i + 1))]) (rest := [.int _]) dL_law_1346 oc_L_184 rfl rfl rfl (Nat.le_of_ble_eq_true rfl) (by omega) (by omega) (s_restore (d := d + 58) hImg.2.2.2.1 ⟨_, _, rfl, rfl, ?_⟩)
  refine la_eq (pc := 1349) dL_law_1349 rfl ?_
  exact kk.use rfl hJ9 (by omega) (by omega) (by omega)
set_option maxHeartbeats 2000000 in
set_option maxRecDepth 20000 in
theorem la_drawn {G : xG} {d : Nat} {Q : xQ} {ae : Nat → Nat} {tw ts : Nat} {kd : Nat → Bool} {ad : Nat → Nat → Nat} {κ : Nat → kS} {n : Nat} {σ : mS} {B nc ks : Nat} {a : Nat → Nat} {ao b N i : Nat} {f : Nat → Int64} {sc : Nat → Int32} {aK aV : Nat → Nat} {tf : Option Nat} (H : LH G ae tw ts aK aV tf b N sc i B nc ks) (hJ : J ae kd ad κ n σ B) (kk : LK G d Q (Lw b (ad 0 20) (a 60) ao i) (ad 0 20) a ao ae B nc ks) : AW G ML_law (d + 60) 600128 7301098 Q 1130 (Lw b (ad 0 20) (a 60) ao i) [] (WX G.2.2.1 kd ad κ n [] ++ (mW G.2.2.1 a σ ++ oW G ao f)) nc ks := by
  obtain ⟨hE, hNB, hAO, hTH, hKB, hSc, hi, hN, hB0, hnc, hks⟩ := id H
  obtain ⟨hn, hMain, hSub, hTape, hR10, hR11, hR12, hR13, hMisc, hRef, hB5, jc, NM, sn, sd, m, pn, im, hCht, hSR, hSnt, hTok, hPast, hPm, hSds, hImg⟩ := id hJ
  have hw : WT (σ.2.1 6) := hTok.1.1.1
  have h07 : σ.2.1 6 0 ≤ 7 := hw.2.1
  have hb9 : ∀ j, σ.2.1 6 j < 2 ^ 29 := fun j => by have := hTok.1.1.2 j; omega
  obtain ⟨hRES, hr7, hr14, hr11, hr12, hr56⟩ := id hRef
  refine aw_aload_n (pc := 1130) (i := 1) dL_law_1130 rfl rfl ?_
  refine la_arg (pc := 1131) (j := 1) dL_law_1131 dL_law_1132 dL_law_1134 dL_law_1135 dL_law_1136 (by decide) hSc (by omega) hN rfl rfl ?_
  refine la_arg (pc := 1137) (j := 2) dL_law_1137 dL_law_1138 dL_law_1140 dL_law_1141 dL_law_1142 (by decide) hSc (by omega) hN rfl rfl ?_
  refine la_cx (pc := 1143) (As := [.int (sc (i + 1)), .int (sc (i + 2))]) (rest := []) dL_law_1143 oc_L_153 rfl rfl rfl (Nat.le_of_ble_eq_true rfl) hn (by omega) (by omega) (x_drawn (d := d + 54) hE hNB hAO hJ (by omega) (fun κ9 m9 hm9 hm8 hJ9 => ⟨_, rfl, ?_⟩))
  refine aw_aload_n (pc := 1146) (i := 2) dL_law_1146 rfl rfl ?_
  refine la_arg (pc := 1147) (j := 1) dL_law_1147 dL_law_1148 dL_law_1150 dL_law_1151 dL_law_1152 (by decide) hSc (by omega) hN rfl rfl ?_
  refine la_arg (pc := 1153) (j := 2) dL_law_1153 dL_law_1154 dL_law_1156 dL_law_1157 dL_law_1158 (by decide) hSc (by omega) hN rfl rfl ?_
  refine la_cm (pc := 1159) (As := [.int (sc (i + 1)), .int (sc (i + 2))]) (rest := [.int _]) dL_law_1159 oc_L_156 rfl rfl rfl (Nat.le_of_ble_eq_true rfl) (by omega) (by omega) (s_drawn (d := d + 54) hm9 hm8 (by omega) hB5 hTok.1 ⟨_, _, rfl, rfl, ?_⟩)
  refine la_eq (pc := 1162) dL_law_1162 rfl ?_
  exact kk.use rfl hJ9 (by omega) (by omega) (by omega)
set_option maxHeartbeats 2000000 in
set_option maxRecDepth 20000 in
theorem la_pass {G : xG} {d : Nat} {Q : xQ} {ae : Nat → Nat} {tw ts : Nat} {kd : Nat → Bool} {ad : Nat → Nat → Nat} {κ : Nat → kS} {n : Nat} {σ : mS} {B nc ks : Nat} {a : Nat → Nat} {ao b N i : Nat} {f : Nat → Int64} {sc : Nat → Int32} {aK aV : Nat → Nat} {tf : Option Nat} (H : LH G ae tw ts aK aV tf b N sc i B nc ks) (hJ : J ae kd ad κ n σ B) (kk : LK G d Q (Lw b (ad 0 20) (a 60) ao i) (ad 0 20) a ao ae B nc ks) : AW G ML_law (d + 60) 600128 7301098 Q 1080 (Lw b (ad 0 20) (a 60) ao i) [] (WX G.2.2.1 kd ad κ n [] ++ (mW G.2.2.1 a σ ++ oW G ao f)) nc ks := by
  obtain ⟨hE, hNB, hAO, hTH, hKB, hSc, hi, hN, hB0, hnc, hks⟩ := id H
  obtain ⟨hn, hMain, hSub, hTape, hR10, hR11, hR12, hR13, hMisc, hRef, hB5, jc, NM, sn, sd, m, pn, im, hCht, hSR, hSnt, hTok, hPast, hPm, hSds, hImg⟩ := id hJ
  have hw : WT (σ.2.1 6) := hTok.1.1.1
  have h07 : σ.2.1 6 0 ≤ 7 := hw.2.1
  have hb9 : ∀ j, σ.2.1 6 j < 2 ^ 29 := fun j => by have := hTok.1.1.2 j; omega
  obtain ⟨hRES, hr7, hr14, hr11, hr12, hr56⟩ := id hRef
  refine aw_aload_n (pc := 1080) (i := 1) dL_law_1080 rfl rfl ?_
  refine la_arg (pc := 1081) (j := 1) dL_law_1081 dL_law_1082 dL_law_1084 dL_law_1085 dL_law_1086 (by decide) hSc (by omega) hN rfl rfl ?_
  refine la_cx (pc := 1087) (As := [.int (sc (i + 1))]) (rest := []) dL_law_1087 oc_L_145 rfl rfl rfl (Nat.le_of_ble_eq_true rfl) hn (by omega) (by omega) (x_pass (d := d + 54) hE hNB hAO hJ hKB (fun NW κ9 hNW hJ9 => ⟨_, rfl, ?_⟩))
  refine aw_aload_n (pc := 1090) (i := 2) dL_law_1090 rfl rfl ?_
  refine la_arg (pc := 1091) (j := 1) dL_law_1091 dL_law_1092 dL_law_1094 dL_law_1095 dL_law_1096 (by decide) hSc (by omega) hN rfl rfl ?_
  refine la_cm (pc := 1097) (As := [.int (sc (i + 1))]) (rest := [.int _]) dL_law_1097 oc_L_148 rfl rfl rfl (Nat.le_of_ble_eq_true rfl) (by omega) (by omega) (s_passW (d := d + 56) hw hNW ⟨_, _, rfl, rfl, ?_⟩)
  refine la_eq (pc := 1100) dL_law_1100 rfl ?_
  exact kk.use rfl hJ9 (by omega) (by omega) (by omega)
set_option maxHeartbeats 2000000 in
set_option maxRecDepth 20000 in
theorem la_said {G : xG} {d : Nat} {Q : xQ} {ae : Nat → Nat} {tw ts : Nat} {kd : Nat → Bool} {ad : Nat → Nat → Nat} {κ : Nat → kS} {n : Nat} {σ : mS} {B nc ks : Nat} {a : Nat → Nat} {ao b N i : Nat} {f : Nat → Int64} {sc : Nat → Int32} {aK aV : Nat → Nat} {tf : Option Nat} (H : LH G ae tw ts aK aV tf b N sc i B nc ks) (hJ : J ae kd ad κ n σ B) (kk : LK G d Q (Lw b (ad 0 20) (a 60) ao i) (ad 0 20) a ao ae B nc ks) : AW G ML_law (d + 60) 600128 7301098 Q 1279 (Lw b (ad 0 20) (a 60) ao i) [] (WX G.2.2.1 kd ad κ n [] ++ (mW G.2.2.1 a σ ++ oW G ao f)) nc ks := by
  obtain ⟨hE, hNB, hAO, hTH, hKB, hSc, hi, hN, hB0, hnc, hks⟩ := id H
  obtain ⟨hn, hMain, hSub, hTape, hR10, hR11, hR12, hR13, hMisc, hRef, hB5, jc, NM, sn, sd, m, pn, im, hCht, hSR, hSnt, hTok, hPast, hPm, hSds, hImg⟩ := id hJ
  have hw : WT (σ.2.1 6) := hTok.1.1.1
  have h07 : σ.2.1 6 0 ≤ 7 := hw.2.1
  have hb9 : ∀ j, σ.2.1 6 j < 2 ^ 29 := fun j => by have := hTok.1.1.2 j; omega
  obtain ⟨hRES, hr7, hr14, hr11, hr12, hr56⟩ := id hRef
  refine aw_aload_n (pc := 1279) (i := 1) dL_law_1279 rfl rfl ?_
  refine la_arg (pc := 1280) (j := 1) dL_law_1280 dL_law_1281 dL_law_1283 dL_law_1284 dL_law_1285 (by decide) hSc (by omega) hN rfl rfl ?_
  refine la_cx (pc := 1286) (As := [.int (sc (i + 1))]) (rest := []) dL_law_1286 oc_L_173 rfl rfl rfl (Nat.le_of_ble_eq_true rfl) hn (by omega) (by omega) (x_said (d := d + 52) hE hNB hAO hJ (fun κ9 hJ9 => ⟨_, rfl, ?_⟩))
  refine aw_aload_n (pc := 1289) (i := 2) dL_law_1289 rfl rfl ?_
  refine la_arg (pc := 1290) (j := 1) dL_law_1290 dL_law_1291 dL_law_1293 dL_law_1294 dL_law_1295 (by decide) hSc (by omega) hN rfl rfl ?_
  refine la_cm (pc := 1296) (As := [.int (sc (i + 1))]) (rest := [.int _]) dL_law_1296 oc_L_176 rfl rfl rfl (Nat.le_of_ble_eq_true rfl) (by omega) (by omega) (s_saidU (d := d + 52) hw hTok.2.1 hr56 (fun u9 hu9 => ⟨_, _, rfl, rfl, ?_⟩))
  refine la_eq (pc := 1299) dL_law_1299 rfl ?_
  exact kk.use rfl (hJ9 u9 hu9) (by omega) (by omega) (by omega)
set_option maxHeartbeats 2000000 in
set_option maxRecDepth 20000 in
theorem la_round {G : xG} {d : Nat} {Q : xQ} {ae : Nat → Nat} {tw ts : Nat} {kd : Nat → Bool} {ad : Nat → Nat → Nat} {κ : Nat → kS} {n : Nat} {σ : mS} {B nc ks : Nat} {a : Nat → Nat} {ao b N i : Nat} {f : Nat → Int64} {sc : Nat → Int32} {aK aV : Nat → Nat} {tf : Option Nat} (H : LH G ae tw ts aK aV tf b N sc i B nc ks) (hJ : J ae kd ad κ n σ B) (kk : LK G d Q (Lw b (ad 0 20) (a 60) ao i) (ad 0 20) a ao ae B nc ks) : AW G ML_law (d + 60) 600128 7301098 Q 829 (Lw b (ad 0 20) (a 60) ao i) [] (WX G.2.2.1 kd ad κ n [] ++ (mW G.2.2.1 a σ ++ oW G ao f)) nc ks := by
  obtain ⟨hE, hNB, hAO, hTH, hKB, hSc, hi, hN, hB0, hnc, hks⟩ := id H
  obtain ⟨hn, hMain, hSub, hTape, hR10, hR11, hR12, hR13, hMisc, hRef, hB5, jc, NM, sn, sd, m, pn, im, hCht, hSR, hSnt, hTok, hPast, hPm, hSds, hImg⟩ := id hJ
  have hw : WT (σ.2.1 6) := hTok.1.1.1
  have h07 : σ.2.1 6 0 ≤ 7 := hw.2.1
  have hb9 : ∀ j, σ.2.1 6 j < 2 ^ 29 := fun j => by have := hTok.1.1.2 j; omega
  obtain ⟨hRES, hr7, hr14, hr11, hr12, hr56⟩ := id hRef
  refine aw_aload_n (pc := 829) (i := 1) dL_law_829 rfl rfl ?_
  refine la_arg (pc := 830) (j := 1) dL_law_830 dL_law_831 dL_law_833 dL_law_834 dL_law_835 (by decide) hSc (by omega) hN rfl rfl ?_
  refine la_cx (pc := 836) (As := [.int (sc (i + 1))]) (rest := []) dL_law_836 oc_L_101 rfl rfl rfl (Nat.le_of_ble_eq_true rfl) hn (by omega) (by omega) (x_round (d := d + 47) hE hNB hAO hJ (fun κ9 hJ9 => ⟨_, rfl, ?_⟩))
  refine aw_aload_n (pc := 839) (i := 2) dL_law_839 rfl rfl ?_
  refine la_arg (pc := 840) (j := 1) dL_law_840 dL_law_841 dL_law_843 dL_law_844 dL_law_845 (by decide) hSc (by omega) hN rfl rfl ?_
  refine la_cm (pc := 846) (As := [.int (sc (i + 1))]) (rest := [.int _]) dL_law_846 oc_L_104 rfl rfl rfl (Nat.le_of_ble_eq_true rfl) (by omega) (by omega) (s_round (d := d + 53) hw (fun p9 dd9 sp9 hm9 => ⟨_, _, rfl, rfl, ?_⟩))
  refine la_eq (pc := 849) dL_law_849 rfl ?_
  exact kk.use rfl (hJ9 p9 dd9 sp9 hm9) (by omega) (by omega) (by omega)
set_option maxHeartbeats 2000000 in
set_option maxRecDepth 20000 in
theorem la_sentence {G : xG} {d : Nat} {Q : xQ} {ae : Nat → Nat} {tw ts : Nat} {kd : Nat → Bool} {ad : Nat → Nat → Nat} {κ : Nat → kS} {n : Nat} {σ : mS} {B nc ks : Nat} {a : Nat → Nat} {ao b N i : Nat} {f : Nat → Int64} {sc : Nat → Int32} {aK aV : Nat → Nat} {tf : Option Nat} (H : LH G ae tw ts aK aV tf b N sc i B nc ks) (hJ : J ae kd ad κ n σ B) (kk : LK G d Q (Lw b (ad 0 20) (a 60) ao i) (ad 0 20) a ao ae B nc ks) : AW G ML_law (d + 60) 600128 7301098 Q 1266 (Lw b (ad 0 20) (a 60) ao i) [] (WX G.2.2.1 kd ad κ n [] ++ (mW G.2.2.1 a σ ++ oW G ao f)) nc ks := by
  obtain ⟨hE, hNB, hAO, hTH, hKB, hSc, hi, hN, hB0, hnc, hks⟩ := id H
  obtain ⟨hn, hMain, hSub, hTape, hR10, hR11, hR12, hR13, hMisc, hRef, hB5, jc, NM, sn, sd, m, pn, im, hCht, hSR, hSnt, hTok, hPast, hPm, hSds, hImg⟩ := id hJ
  have hw : WT (σ.2.1 6) := hTok.1.1.1
  have h07 : σ.2.1 6 0 ≤ 7 := hw.2.1
  have hb9 : ∀ j, σ.2.1 6 j < 2 ^ 29 := fun j => by have := hTok.1.1.2 j; omega
  obtain ⟨hRES, hr7, hr14, hr11, hr12, hr56⟩ := id hRef
  refine aw_aload_n (pc := 1266) (i := 1) dL_law_1266 rfl rfl ?_
  refine la_cx (pc := 1267) (As := []) (rest := []) dL_law_1267 oc_L_169 rfl rfl rfl (Nat.le_of_ble_eq_true rfl) hn (by omega) (by omega) (x_sentence (d := d + 27) hE hNB hAO hJ (by omega) (fun n1 kd9 ad9 κ9 hn1 hn9 had hJ9 => ⟨_, rfl, ?_⟩))
  refine aw_aload_n (pc := 1270) (i := 2) dL_law_1270 rfl rfl ?_
  refine la_cm (pc := 1271) (As := []) (rest := [.int _]) dL_law_1271 oc_L_172 rfl rfl rfl (Nat.le_of_ble_eq_true rfl) (by omega) (by omega) (s_sentence (d := d + 55) hn1 hn9 hr14 hr11 hr12 hw.2.1 ⟨_, _, rfl, rfl, ?_⟩)
  refine la_eq (pc := 1274) dL_law_1274 rfl ?_
  exact kk.use (by rw [had]) hJ9 (by omega) (by omega) (by omega)
set_option maxHeartbeats 2000000 in
set_option maxRecDepth 20000 in
theorem la_map {G : xG} {d : Nat} {Q : xQ} {ae : Nat → Nat} {tw ts : Nat} {kd : Nat → Bool} {ad : Nat → Nat → Nat} {κ : Nat → kS} {n : Nat} {σ : mS} {B nc ks : Nat} {a : Nat → Nat} {ao b N i : Nat} {f : Nat → Int64} {sc : Nat → Int32} {aK aV : Nat → Nat} {tf : Option Nat} (H : LH G ae tw ts aK aV tf b N sc i B nc ks) (hJ : J ae kd ad κ n σ B) (kk : LK G d Q (Lw b (ad 0 20) (a 60) ao i) (ad 0 20) a ao ae B nc ks) : AW G ML_law (d + 60) 600128 7301098 Q 314 (Lw b (ad 0 20) (a 60) ao i) [] (WX G.2.2.1 kd ad κ n [] ++ (mW G.2.2.1 a σ ++ oW G ao f)) nc ks := by
  obtain ⟨hE, hNB, hAO, hTH, hKB, hSc, hi, hN, hB0, hnc, hks⟩ := id H
  obtain ⟨hn, hMain, hSub, hTape, hR10, hR11, hR12, hR13, hMisc, hRef, hB5, jc, NM, sn, sd, m, pn, im, hCht, hSR, hSnt, hTok, hPast, hPm, hSds, hImg⟩ := id hJ
  have hw : WT (σ.2.1 6) := hTok.1.1.1
  have h07 : σ.2.1 6 0 ≤ 7 := hw.2.1
  have hb9 : ∀ j, σ.2.1 6 j < 2 ^ 29 := fun j => by have := hTok.1.1.2 j; omega
  obtain ⟨hRES, hr7, hr14, hr11, hr12, hr56⟩ := id hRef
  refine aw_aload_n (pc := 314) (i := 1) dL_law_314 rfl rfl ?_
  refine la_cx (pc := 315) (As := []) (rest := []) dL_law_315 oc_L_29 rfl rfl rfl (Nat.le_of_ble_eq_true rfl) hn (by omega) (by omega) (x_map (d := d + 52) hE hNB hAO hJ (by omega) (fun n1 kd9 ad9 κ9 hn1 hn9 had hJ9 => ⟨_, rfl, ?_⟩))
  refine aw_aload_n (pc := 318) (i := 2) dL_law_318 rfl rfl ?_
  refine la_cm (pc := 319) (As := []) (rest := [.int _]) dL_law_319 oc_L_33 rfl rfl rfl (Nat.le_of_ble_eq_true rfl) (by omega) (by omega) (s_map (d := d + 53) hn1 hn9 hr14 hr11 hr12 hr7 ⟨_, _, rfl, rfl, ?_⟩)
  refine la_eq (pc := 322) dL_law_322 rfl ?_
  exact kk.use (by rw [had]) hJ9 (by omega) (by omega) (by omega)
