set_option maxHeartbeats 2000000 in
set_option maxRecDepth 20000 in
theorem la_way {G : xG} {d : Nat} {Q : xQ} {ae : Nat → Nat} {tw ts : Nat} {kd : Nat → Bool} {ad : Nat → Nat → Nat} {κ : Nat → kS} {n : Nat} {σ : mS} {B nc ks : Nat} {a : Nat → Nat} {ao b N i : Nat} {f : Nat → Int64} {sc : Nat → Int32} {aK aV : Nat → Nat} {tf : Option Nat} (H : LH G ae tw ts aK aV tf b N sc i B nc ks) (hJ : J ae kd ad κ n σ B) (kk : LK G d Q (Lw b (ad 0 20) (a 60) ao i) (ad 0 20) a ao ae B nc ks) : AW G ML_law (d + 60) 600128 7301098 Q 755 (Lw b (ad 0 20) (a 60) ao i) [] (WX G.2.2.1 kd ad κ n [] ++ (mW G.2.2.1 a σ ++ oW G ao f)) nc ks := by
  obtain ⟨hE, hNB, hAO, hTH, hKB, hSc, hi, hN, hB0, hnc, hks⟩ := id H
  obtain ⟨hn, hMain, hSub, hTape, hR10, hR11, hR12, hR13, hMisc, hRef, hB5, jc, NM, sn, sd, m, pn, im, hCht, hSR, hSnt, hTok, hPast, hPm, hSds, hImg⟩ := id hJ
  have hw : WT (σ.2.1 6) := hTok.1.1.1
  have h07 : σ.2.1 6 0 ≤ 7 := hw.2.1
  have hb9 : ∀ j, σ.2.1 6 j < 2 ^ 29 := fun j => by have := hTok.1.1.2 j; omega
  obtain ⟨hRES, hr7, hr14, hr11, hr12, hr56⟩ := id hRef
  refine aw_aload_n (pc := 755) (i := 1) dL_law_755 rfl rfl ?_
  refine la_arg (pc := 756) (j := 1) dL_law_756 dL_law_757 dL_law_759 dL_law_760 dL_law_761 (by decide) hSc (by omega) hN rfl rfl ?_
  refine la_arg (pc := 762) (j := 2) dL_law_762 dL_law_763 dL_law_765 dL_law_766 dL_law_767 (by decide) hSc (by omega) hN rfl rfl ?_
  refine la_arg (pc := 768) (j := 3) dL_law_768 dL_law_769 dL_law_771 dL_law_772 dL_law_773 (by decide) hSc (by omega) hN rfl rfl ?_
  refine la_cx (pc := 774) (As := [.int (sc (i + 1)), .int (sc (i + 2)), .int (sc (i + 3))]) (rest := []) dL_law_774 oc_L_93 rfl rfl rfl (Nat.le_of_ble_eq_true rfl) hn (by omega) (by omega) (x_way (d := d + 47) hE hNB hAO hJ (fun h9 κ9 hJ9 => ⟨_, rfl, ?_⟩) (fun k9 row9 h9 hk9 κ9 hJ9 => ⟨_, rfl, ?_⟩))
  ·
    refine aw_aload_n (pc := 777) (i := 2) dL_law_777 rfl rfl ?_
    refine la_arg (pc := 778) (j := 1) dL_law_778 dL_law_779 dL_law_781 dL_law_782 dL_law_783 (by decide) hSc (by omega) hN rfl rfl ?_
    refine la_arg (pc := 784) (j := 2) dL_law_784 dL_law_785 dL_law_787 dL_law_788 dL_law_789 (by decide) hSc (by omega) hN rfl rfl ?_
    refine la_arg (pc := 790) (j := 3) dL_law_790 dL_law_791 dL_law_793 dL_law_794 dL_law_795 (by decide) hSc (by omega) hN rfl rfl ?_
    refine la_cm (pc := 796) (As := [.int (sc (i + 1)), .int (sc (i + 2)), .int (sc (i + 3))]) (rest := [.int _]) dL_law_796 oc_L_96 rfl rfl rfl (Nat.le_of_ble_eq_true rfl) (by omega) (by omega) (s_way (d := d + 53) hw (fun _ p9 dd9 sp9 hm9 => ⟨_, _, rfl, rfl, ?_⟩) (fun k8 r8 h8 => absurd (h9.symm.trans h8) (by simp)))
    refine la_eq (pc := 799) dL_law_799 rfl ?_
    exact kk.use rfl (hJ9 p9 dd9 sp9 hm9) (by omega) (by omega) (by omega)
  ·
    refine aw_aload_n (pc := 777) (i := 2) dL_law_777 rfl rfl ?_
    refine la_arg (pc := 778) (j := 1) dL_law_778 dL_law_779 dL_law_781 dL_law_782 dL_law_783 (by decide) hSc (by omega) hN rfl rfl ?_
    refine la_arg (pc := 784) (j := 2) dL_law_784 dL_law_785 dL_law_787 dL_law_788 dL_law_789 (by decide) hSc (by omega) hN rfl rfl ?_
    refine la_arg (pc := 790) (j := 3) dL_law_790 dL_law_791 dL_law_793 dL_law_794 dL_law_795 (by decide) hSc (by omega) hN rfl rfl ?_
    refine la_cm (pc := 796) (As := [.int (sc (i + 1)), .int (sc (i + 2)), .int (sc (i + 3))]) (rest := [.int _]) dL_law_796 oc_L_96 rfl rfl rfl (Nat.le_of_ble_eq_true rfl) (by omega) (by omega) (s_way (d := d + 53) hw (fun h8 => absurd (h9.symm.trans h8) (by simp)) (fun k8 r8 h8 hk8 p9 dd9 sp9 hm9 u9 hu9 => ?_))
    obtain ⟨rfl, rfl⟩ := Prod.mk.inj (Option.some.inj (h9.symm.trans h8))
    refine ⟨_, _, rfl, rfl, ?_⟩
    refine la_eq (pc := 799) dL_law_799 rfl ?_
    exact kk.use rfl (hJ9 p9 dd9 sp9 hm9 u9 hu9) (by omega) (by omega) (by omega)
set_option maxHeartbeats 2000000 in
set_option maxRecDepth 20000 in
theorem la_spare {G : xG} {d : Nat} {Q : xQ} {ae : Nat → Nat} {tw ts : Nat} {kd : Nat → Bool} {ad : Nat → Nat → Nat} {κ : Nat → kS} {n : Nat} {σ : mS} {B nc ks : Nat} {a : Nat → Nat} {ao b N i : Nat} {f : Nat → Int64} {sc : Nat → Int32} {aK aV : Nat → Nat} {tf : Option Nat} (H : LH G ae tw ts aK aV tf b N sc i B nc ks) (hJ : J ae kd ad κ n σ B) (kk : LK G d Q (Lw b (ad 0 20) (a 60) ao i) (ad 0 20) a ao ae B nc ks) : AW G ML_law (d + 60) 600128 7301098 Q 854 (Lw b (ad 0 20) (a 60) ao i) [] (WX G.2.2.1 kd ad κ n [] ++ (mW G.2.2.1 a σ ++ oW G ao f)) nc ks := by
  obtain ⟨hE, hNB, hAO, hTH, hKB, hSc, hi, hN, hB0, hnc, hks⟩ := id H
  obtain ⟨hn, hMain, hSub, hTape, hR10, hR11, hR12, hR13, hMisc, hRef, hB5, jc, NM, sn, sd, m, pn, im, hCht, hSR, hSnt, hTok, hPast, hPm, hSds, hImg⟩ := id hJ
  have hw : WT (σ.2.1 6) := hTok.1.1.1
  have h07 : σ.2.1 6 0 ≤ 7 := hw.2.1
  have hb9 : ∀ j, σ.2.1 6 j < 2 ^ 29 := fun j => by have := hTok.1.1.2 j; omega
  obtain ⟨hRES, hr7, hr14, hr11, hr12, hr56⟩ := id hRef
  refine aw_aload_n (pc := 854) (i := 1) dL_law_854 rfl rfl ?_
  refine la_arg (pc := 855) (j := 1) dL_law_855 dL_law_856 dL_law_858 dL_law_859 dL_law_860 (by decide) hSc (by omega) hN rfl rfl ?_
  refine la_arg (pc := 861) (j := 2) dL_law_861 dL_law_862 dL_law_864 dL_law_865 dL_law_866 (by decide) hSc (by omega) hN rfl rfl ?_
  refine la_arg (pc := 867) (j := 3) dL_law_867 dL_law_868 dL_law_870 dL_law_871 dL_law_872 (by decide) hSc (by omega) hN rfl rfl ?_
  refine la_cx (pc := 873) (As := [.int (sc (i + 1)), .int (sc (i + 2)), .int (sc (i + 3))]) (rest := []) dL_law_873 oc_L_105 rfl rfl rfl (Nat.le_of_ble_eq_true rfl) hn (by omega) (by omega) (x_spare (d := d + 47) hE hNB hAO hJ (fun h9 κ9 hJ9 => ⟨_, rfl, ?_⟩) (fun b9 h9 hb8 κ9 hJ9 => ⟨_, rfl, ?_⟩))
  ·
    refine aw_aload_n (pc := 876) (i := 2) dL_law_876 rfl rfl ?_
    refine la_arg (pc := 877) (j := 1) dL_law_877 dL_law_878 dL_law_880 dL_law_881 dL_law_882 (by decide) hSc (by omega) hN rfl rfl ?_
    refine la_arg (pc := 883) (j := 2) dL_law_883 dL_law_884 dL_law_886 dL_law_887 dL_law_888 (by decide) hSc (by omega) hN rfl rfl ?_
    refine la_arg (pc := 889) (j := 3) dL_law_889 dL_law_890 dL_law_892 dL_law_893 dL_law_894 (by decide) hSc (by omega) hN rfl rfl ?_
    refine la_cm (pc := 895) (As := [.int (sc (i + 1)), .int (sc (i + 2)), .int (sc (i + 3))]) (rest := [.int _]) dL_law_895 oc_L_108 rfl rfl rfl (Nat.le_of_ble_eq_true rfl) (by omega) (by omega) (s_spare (d := d + 53) hw (fun _ p9 dd9 sp9 hm9 => ⟨_, _, rfl, rfl, ?_⟩) (fun k8 h8 => absurd (h9.symm.trans h8) (by simp)))
    refine la_eq (pc := 898) dL_law_898 rfl ?_
    exact kk.use rfl (hJ9 p9 dd9 sp9 hm9) (by omega) (by omega) (by omega)
  ·
    refine aw_aload_n (pc := 876) (i := 2) dL_law_876 rfl rfl ?_
    refine la_arg (pc := 877) (j := 1) dL_law_877 dL_law_878 dL_law_880 dL_law_881 dL_law_882 (by decide) hSc (by omega) hN rfl rfl ?_
    refine la_arg (pc := 883) (j := 2) dL_law_883 dL_law_884 dL_law_886 dL_law_887 dL_law_888 (by decide) hSc (by omega) hN rfl rfl ?_
    refine la_arg (pc := 889) (j := 3) dL_law_889 dL_law_890 dL_law_892 dL_law_893 dL_law_894 (by decide) hSc (by omega) hN rfl rfl ?_
    refine la_cm (pc := 895) (As := [.int (sc (i + 1)), .int (sc (i + 2)), .int (sc (i + 3))]) (rest := [.int _]) dL_law_895 oc_L_108 rfl rfl rfl (Nat.le_of_ble_eq_true rfl) (by omega) (by omega) (s_spare (d := d + 53) hw (fun h8 => absurd (h9.symm.trans h8) (by simp)) (fun k8 h8 hk8 p9 dd9 sp9 hm9 => ?_))
    cases Option.some.inj (h9.symm.trans h8)
    refine ⟨_, _, rfl, rfl, ?_⟩
    refine la_eq (pc := 898) dL_law_898 rfl ?_
    exact kk.use rfl (hJ9 p9 dd9 sp9 hm9) (by omega) (by omega) (by omega)
set_option maxHeartbeats 2000000 in
set_option maxRecDepth 20000 in
theorem la_caravan {G : xG} {d : Nat} {Q : xQ} {ae : Nat → Nat} {tw ts : Nat} {kd : Nat → Bool} {ad : Nat → Nat → Nat} {κ : Nat → kS} {n : Nat} {σ : mS} {B nc ks : Nat} {a : Nat → Nat} {ao b N i : Nat} {f : Nat → Int64} {sc : Nat → Int32} {aK aV : Nat → Nat} {tf : Option Nat} (H : LH G ae tw ts aK aV tf b N sc i B nc ks) (hJ : J ae kd ad κ n σ B) (kk : LK G d Q (Lw b (ad 0 20) (a 60) ao i) (ad 0 20) a ao ae B nc ks) : AW G ML_law (d + 60) 600128 7301098 Q 967 (Lw b (ad 0 20) (a 60) ao i) [] (WX G.2.2.1 kd ad κ n [] ++ (mW G.2.2.1 a σ ++ oW G ao f)) nc ks := by
  obtain ⟨hE, hNB, hAO, hTH, hKB, hSc, hi, hN, hB0, hnc, hks⟩ := id H
  obtain ⟨hn, hMain, hSub, hTape, hR10, hR11, hR12, hR13, hMisc, hRef, hB5, jc, NM, sn, sd, m, pn, im, hCht, hSR, hSnt, hTok, hPast, hPm, hSds, hImg⟩ := id hJ
  have hw : WT (σ.2.1 6) := hTok.1.1.1
  have h07 : σ.2.1 6 0 ≤ 7 := hw.2.1
  have hb9 : ∀ j, σ.2.1 6 j < 2 ^ 29 := fun j => by have := hTok.1.1.2 j; omega
  obtain ⟨hRES, hr7, hr14, hr11, hr12, hr56⟩ := id hRef
  refine aw_aload_n (pc := 967) (i := 1) dL_law_967 rfl rfl ?_
  refine la_arg (pc := 968) (j := 1) dL_law_968 dL_law_969 dL_law_971 dL_law_972 dL_law_973 (by decide) hSc (by omega) hN rfl rfl ?_
  refine la_cx (pc := 974) (As := [.int (sc (i + 1))]) (rest := []) dL_law_974 oc_L_125 rfl rfl rfl (Nat.le_of_ble_eq_true rfl) hn (by omega) (by omega) (x_caravan (d := d + 47) hE hNB hAO hJ (fun h9 κ9 hJ9 => ⟨_, rfl, ?_⟩) (fun l9 hl9 h9 κ9 hJ9 => ⟨_, rfl, ?_⟩))
  ·
    refine aw_aload_n (pc := 977) (i := 2) dL_law_977 rfl rfl ?_
    refine la_arg (pc := 978) (j := 1) dL_law_978 dL_law_979 dL_law_981 dL_law_982 dL_law_983 (by decide) hSc (by omega) hN rfl rfl ?_
    refine la_cm (pc := 984) (As := [.int (sc (i + 1))]) (rest := [.int _]) dL_law_984 oc_L_128 rfl rfl rfl (Nat.le_of_ble_eq_true rfl) (by omega) (by omega) (s_caravan (d := d + 55) hTok.1 (by omega) (by omega) (fun _ => ⟨_, _, rfl, rfl, ?_⟩) (fun l8 hl8 h8 => absurd h9 (by rw [h8, inB_nI (by omega) (by omega), decide_eq_true hl8]; decide)))
    refine la_eq (pc := 987) dL_law_987 rfl ?_
    exact kk.use rfl hJ9 (by omega) (by omega) (by omega)
  ·
    refine aw_aload_n (pc := 977) (i := 2) dL_law_977 rfl rfl ?_
    refine la_arg (pc := 978) (j := 1) dL_law_978 dL_law_979 dL_law_981 dL_law_982 dL_law_983 (by decide) hSc (by omega) hN rfl rfl ?_
    refine la_cm (pc := 984) (As := [.int (sc (i + 1))]) (rest := [.int _]) dL_law_984 oc_L_128 rfl rfl rfl (Nat.le_of_ble_eq_true rfl) (by omega) (by omega) (s_caravan (d := d + 55) hTok.1 (by omega) (by omega) (fun h8 => absurd h8 (by rw [h9, inB_nI (by omega) (by omega), decide_eq_true hl9]; decide)) (fun l8 hl8 h8 o9 bf9 cr9 hcr => ?_))
    have e8 : l8 = l9 := by
      have e := congrArg Int32.toNatClampNeg (h8.symm.trans h9)
      rwa [nI_clamp (by omega), nI_clamp (by omega)] at e
    subst e8
    refine ⟨_, _, rfl, rfl, ?_⟩
    refine la_eq (pc := 987) dL_law_987 rfl ?_
    exact kk.use rfl (hJ9 o9 bf9 cr9 hcr) (by omega) (by omega) (by omega)
set_option maxHeartbeats 2000000 in
set_option maxRecDepth 20000 in
theorem la_made {G : xG} {d : Nat} {Q : xQ} {ae : Nat → Nat} {tw ts : Nat} {kd : Nat → Bool} {ad : Nat → Nat → Nat} {κ : Nat → kS} {n : Nat} {σ : mS} {B nc ks : Nat} {a : Nat → Nat} {ao b N i : Nat} {f : Nat → Int64} {sc : Nat → Int32} {aK aV : Nat → Nat} {tf : Option Nat} (H : LH G ae tw ts aK aV tf b N sc i B nc ks) (hJ : J ae kd ad κ n σ B) (kk : LK G d Q (Lw b (ad 0 20) (a 60) ao i) (ad 0 20) a ao ae B nc ks) : AW G ML_law (d + 60) 600128 7301098 Q 916 (Lw b (ad 0 20) (a 60) ao i) [] (WX G.2.2.1 kd ad κ n [] ++ (mW G.2.2.1 a σ ++ oW G ao f)) nc ks := by
  obtain ⟨hE, hNB, hAO, hTH, hKB, hSc, hi, hN, hB0, hnc, hks⟩ := id H
  obtain ⟨hn, hMain, hSub, hTape, hR10, hR11, hR12, hR13, hMisc, hRef, hB5, jc, NM, sn, sd, m, pn, im, hCht, hSR, hSnt, hTok, hPast, hPm, hSds, hImg⟩ := id hJ
  have hw : WT (σ.2.1 6) := hTok.1.1.1
  have h07 : σ.2.1 6 0 ≤ 7 := hw.2.1
  have hb9 : ∀ j, σ.2.1 6 j < 2 ^ 29 := fun j => by have := hTok.1.1.2 j; omega
  obtain ⟨hRES, hr7, hr14, hr11, hr12, hr56⟩ := id hRef
  refine aw_aload_n (pc := 916) (i := 1) dL_law_916 rfl rfl ?_
  refine la_cx (pc := 917) (As := []) (rest := []) dL_law_917 oc_L_113 rfl rfl rfl (Nat.le_of_ble_eq_true rfl) hn (by omega) (by omega) (x_made (d := d + 47) hE hNB hAO hJ (fun n1 hn1 hn9 h9 κ9 hJ9 => ⟨_, rfl, ?_⟩) (fun n1 hn1 hn9 h2 ho h9 κ9 hJ9 => ⟨_, rfl, ?_⟩) (fun n1 hn1 hn9 h2 ho r9 h9 hr9 κ9 hJ9 => ⟨_, rfl, ?_⟩))
  ·
    refine aw_aload_n (pc := 920) (i := 2) dL_law_920 rfl rfl ?_
    refine la_cm (pc := 921) (As := []) (rest := [.int _]) dL_law_921 oc_L_116 rfl rfl rfl (Nat.le_of_ble_eq_true rfl) (by omega) (by omega) (s_made (d := d + 54) hw hn1 hn9 (fun _ => ⟨_, _, rfl, rfl, ?_⟩) (fun h2 ho => absurd ⟨h2, ho⟩ h9) (fun h2 ho => absurd ⟨h2, ho⟩ h9))
    refine la_eq (pc := 924) dL_law_924 rfl ?_
    exact kk.use rfl hJ9 (by omega) (by omega) (by omega)
  ·
    refine aw_aload_n (pc := 920) (i := 2) dL_law_920 rfl rfl ?_
    refine la_cm (pc := 921) (As := []) (rest := [.int _]) dL_law_921 oc_L_116 rfl rfl rfl (Nat.le_of_ble_eq_true rfl) (by omega) (by omega) (s_made (d := d + 54) hw hn1 hn9 (fun h8 => absurd ⟨h2, ho⟩ h8) (fun _ _ _ p9 dd9 sp9 hm9 en9 => ⟨_, _, rfl, rfl, ?_⟩) (fun _ _ r8 h8 => absurd h8 (by rw [h9]; simp)))
    refine la_eq (pc := 924) dL_law_924 rfl ?_
    exact kk.use rfl (hJ9 p9 dd9 sp9 hm9 en9) (by omega) (by omega) (by omega)
  ·
    refine aw_aload_n (pc := 920) (i := 2) dL_law_920 rfl rfl ?_
    refine la_cm (pc := 921) (As := []) (rest := [.int _]) dL_law_921 oc_L_116 rfl rfl rfl (Nat.le_of_ble_eq_true rfl) (by omega) (by omega) (s_made (d := d + 54) hw hn1 hn9 (fun h8 => absurd ⟨h2, ho⟩ h8) (fun _ _ h8 => absurd h9 (by rw [h8]; simp)) (fun _ _ r8 h8 hr8 p9 dd9 sp9 hm9 en9 mr9 hmr => ?_))
    cases Option.some.inj (h9.symm.trans h8)
    refine ⟨_, _, rfl, rfl, ?_⟩
    refine la_eq (pc := 924) dL_law_924 rfl ?_
    exact kk.use rfl (hJ9 p9 dd9 sp9 hm9 en9 mr9 hmr) (by omega) (by omega) (by omega)
set_option maxHeartbeats 2000000 in
set_option maxRecDepth 20000 in
theorem la_book {G : xG} {d : Nat} {Q : xQ} {ae : Nat → Nat} {tw ts : Nat} {kd : Nat → Bool} {ad : Nat → Nat → Nat} {κ : Nat → kS} {n : Nat} {σ : mS} {B nc ks : Nat} {a : Nat → Nat} {ao b N i : Nat} {f : Nat → Int64} {sc : Nat → Int32} {aK aV : Nat → Nat} {tf : Option Nat} (H : LH G ae tw ts aK aV tf b N sc i B nc ks) (hJ : J ae kd ad κ n σ B) (kk : LK G d Q (Lw b (ad 0 20) (a 60) ao i) (ad 0 20) a ao ae B nc ks) : AW G ML_law (d + 60) 600128 7301098 Q 1216 (Lw b (ad 0 20) (a 60) ao i) [] (WX G.2.2.1 kd ad κ n [] ++ (mW G.2.2.1 a σ ++ oW G ao f)) nc ks := by
  obtain ⟨hE, hNB, hAO, hTH, hKB, hSc, hi, hN, hB0, hnc, hks⟩ := id H
  obtain ⟨hn, hMain, hSub, hTape, hR10, hR11, hR12, hR13, hMisc, hRef, hB5, jc, NM, sn, sd, m, pn, im, hCht, hSR, hSnt, hTok, hPast, hPm, hSds, hImg⟩ := id hJ
  have hw : WT (σ.2.1 6) := hTok.1.1.1
  have h07 : σ.2.1 6 0 ≤ 7 := hw.2.1
  have hb9 : ∀ j, σ.2.1 6 j < 2 ^ 29 := fun j => by have := hTok.1.1.2 j; omega
  obtain ⟨hRES, hr7, hr14, hr11, hr12, hr56⟩ := id hRef
  refine aw_aload_n (pc := 1216) (i := 1) dL_law_1216 rfl rfl ?_
  refine la_arg (pc := 1217) (j := 1) dL_law_1217 dL_law_1218 dL_law_1220 dL_law_1221 dL_law_1222 (by decide) hSc (by omega) hN rfl rfl ?_
  rcases (show sc (i + 1) = nI 0 ∨ sc (i + 1) = nI 1 ∨ inC (nI 0) (nI 1) (sc (i + 1)) = false by
    cases e : inC (nI 0) (nI 1) (sc (i + 1)) with
    | false => exact Or.inr (Or.inr rfl)
    | true =>
      obtain ⟨j, hj, e2⟩ := inC_t (by decide) (by decide) e
      rcases (show j = 0 ∨ j = 1 by omega) with rfl | rfl
      · exact Or.inl e2
      · exact Or.inr (Or.inl e2)) with hx | hx | hx
  · rw [hx]
    refine la_cx (pc := 1223) (As := [.int (nI 0)]) (rest := []) dL_law_1223 oc_L_161 rfl rfl rfl (Nat.le_of_ble_eq_true rfl) hn (by omega) (by omega) (x_book0 (d := d + 53) hE hNB hAO hJ (by omega) (fun n1 hn1 hn9 h9 κ9 hJ9 => ⟨_, rfl, ?_⟩) (fun n1 hn1 hn9 h9 κ9 hJ9 => ⟨_, rfl, ?_⟩))
    ·
      refine aw_aload_n (pc := 1226) (i := 2) dL_law_1226 rfl rfl ?_
      refine la_arg (pc := 1227) (j := 1) dL_law_1227 dL_law_1228 dL_law_1230 dL_law_1231 dL_law_1232 (by decide) hSc (by omega) hN rfl rfl ?_
      rw [hx]
      refine la_cm (pc := 1233) (As := [.int (nI 0)]) (rest := [.int _]) dL_law_1233 oc_L_164 rfl rfl rfl (Nat.le_of_ble_eq_true rfl) (by omega) (by omega) (s_book0 (d := d + 54) hn1 hn9 hr14 hr11 hr12 (by omega) hB5 hTok.1 (fun _ tf9 t0 t1 t2 t3 => ⟨_, _, rfl, rfl, ?_⟩) (fun h8 => absurd (h9.symm.trans h8) (by decide)))
      refine la_eq (pc := 1236) dL_law_1236 rfl ?_
      exact kk.use rfl (hJ9 tf9 t0 t1 t2 t3) (by omega) (by omega) (by omega)
    ·
      refine aw_aload_n (pc := 1226) (i := 2) dL_law_1226 rfl rfl ?_
      refine la_arg (pc := 1227) (j := 1) dL_law_1227 dL_law_1228 dL_law_1230 dL_law_1231 dL_law_1232 (by decide) hSc (by omega) hN rfl rfl ?_
      rw [hx]
      refine la_cm (pc := 1233) (As := [.int (nI 0)]) (rest := [.int _]) dL_law_1233 oc_L_164 rfl rfl rfl (Nat.le_of_ble_eq_true rfl) (by omega) (by omega) (s_book0 (d := d + 54) hn1 hn9 hr14 hr11 hr12 (by omega) hB5 hTok.1 (fun h8 => absurd (h9.symm.trans h8) (by decide)) (fun _ => ⟨_, _, rfl, rfl, ?_⟩))
      refine la_eq (pc := 1236) dL_law_1236 rfl ?_
      exact kk.use rfl hJ9 (by omega) (by omega) (by omega)
  · rw [hx]
    refine la_cx (pc := 1223) (As := [.int (nI 1)]) (rest := []) dL_law_1223 oc_L_161 rfl rfl rfl (Nat.le_of_ble_eq_true rfl) hn (by omega) (by omega) (x_book1 (d := d + 53) hE hNB hAO hJ (by omega) (fun n1 hn1 hn9 h9 κ9 mm hmm hm8 hJ9 => ⟨_, rfl, ?_⟩) (fun n1 hn1 hn9 h9 κ9 hJ9 => ⟨_, rfl, ?_⟩))
    ·
      refine aw_aload_n (pc := 1226) (i := 2) dL_law_1226 rfl rfl ?_
      refine la_arg (pc := 1227) (j := 1) dL_law_1227 dL_law_1228 dL_law_1230 dL_law_1231 dL_law_1232 (by decide) hSc (by omega) hN rfl rfl ?_
      rw [hx]
      refine la_cm (pc := 1233) (As := [.int (nI 1)]) (rest := [.int _]) dL_law_1233 oc_L_164 rfl rfl rfl (Nat.le_of_ble_eq_true rfl) (by omega) (by omega) (s_book1 (d := d + 54) hn1 hn9 hr14 hr11 hr12 (by omega) hB5 hTok.1 hmm hm8 (fun _ tf9 t0 t1 t2 t3 => ⟨_, _, rfl, rfl, ?_⟩) (fun h8 => absurd (h9.symm.trans h8) (by decide)))
      refine la_eq (pc := 1236) dL_law_1236 rfl ?_
      exact kk.use rfl (hJ9 tf9 t0 t1 t2 t3) (by omega) (by omega) (by omega)
    ·
      refine aw_aload_n (pc := 1226) (i := 2) dL_law_1226 rfl rfl ?_
      refine la_arg (pc := 1227) (j := 1) dL_law_1227 dL_law_1228 dL_law_1230 dL_law_1231 dL_law_1232 (by decide) hSc (by omega) hN rfl rfl ?_
      rw [hx]
      refine la_cm (pc := 1233) (As := [.int (nI 1)]) (rest := [.int _]) dL_law_1233 oc_L_164 rfl rfl rfl (Nat.le_of_ble_eq_true rfl) (by omega) (by omega) (s_book1 (d := d + 54) hn1 hn9 hr14 hr11 hr12 (by omega) hB5 hTok.1 hPm.1 hPm.2.2.2.1 (fun h8 => absurd (h9.symm.trans h8) (by decide)) (fun _ => ⟨_, _, rfl, rfl, ?_⟩))
      refine la_eq (pc := 1236) dL_law_1236 rfl ?_
      exact kk.use rfl hJ9 (by omega) (by omega) (by omega)
  ·
    refine la_cx (pc := 1223) (As := [.int (sc (i + 1))]) (rest := []) dL_law_1223 oc_L_161 rfl rfl rfl (Nat.le_of_ble_eq_true rfl) hn (by omega) (by omega) (x_bookN (d := d + 53) hE hNB hAO hJ hx (fun hJ9 => ⟨_, rfl, ?_⟩))
    refine aw_aload_n (pc := 1226) (i := 2) dL_law_1226 rfl rfl ?_
    refine la_arg (pc := 1227) (j := 1) dL_law_1227 dL_law_1228 dL_law_1230 dL_law_1231 dL_law_1232 (by decide) hSc (by omega) hN rfl rfl ?_
    refine la_cm (pc := 1233) (As := [.int (sc (i + 1))]) (rest := [.int _]) dL_law_1233 oc_L_164 rfl rfl rfl (Nat.le_of_ble_eq_true rfl) (by omega) (by omega) (s_bookN (d := d + 54) hx ⟨_, _, rfl, rfl, ?_⟩)
    refine la_eq (pc := 1236) dL_law_1236 rfl ?_
    exact kk.use rfl hJ9 (by omega) (by omega) (by omega)
