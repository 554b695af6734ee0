/-- what a new object holds -/
def kZ (fl : List Value) : kS := (fun k => fl.getD k .null, fun _ _ => 0, fun _ _ => 0, fun _ _ => none)
/-- addresses by a list -/
def aL (l : List Nat) : Nat → Nat := fun k => l.getD k 0
set_option maxHeartbeats 1000000 in
set_option maxRecDepth 20000 in
theorem i_X5 {G : xG} {d : Nat} {Q : xQ} {q : Nat} {R : va_W} {N : Nat} (hN16 : N < 2 ^ 16) (kk : ∀ a : Nat → Nat, a 2 = q → Q none (wRw G.2.2.1 a N (kZ [.null, .int (nI 0)]) ++ R)) : MT G MX5_init (d + 1) 1 N [.ref q, .int (nI N)] ((q, .inr (4, [.null, .int 0])) :: R) Q := by
  refine mt_start (L := [some (.ref q), some (.int (nI N))]) rfl (Nat.le_of_ble_eq_true rfl) rfl ?_
  refine aw_aload_n (pc := 0) (i := 0) dX5_init_0 rfl rfl ?_
  refine aw_obj0 (pc := 1) dX5_init_1 rfl (gtbl_in (List.mem_of_getElem? (i := 207) (by decide +kernel)) rfl) (gtbl_in (List.mem_of_getElem? (i := 139) (by decide +kernel)) rfl) (gtbl_in (List.mem_of_getElem? (i := 140) (by decide +kernel)) rfl) (Nat.le_of_ble_eq_true rfl) ?_
  refine aw_aload_n (pc := 4) (i := 0) dX5_init_4 rfl rfl ?_
  refine aw_iconst (pc := 5) dX5_init_5 iconst_0 ?_
  refine aw_put (pc := 6) (ci := 4) (q0 := 0) (f := 1) (CN := RX5) (T := TX5) (N := 2) (ty0 := tyX5) (w9 := ((q, .inr (4, [.null, .int (nI 0)])) :: R)) dX5_init_6 inGX5 tyX5_ok nmX5 tw_212 rfl (by decide) rfl rfl rfl rfl (Nat.le_of_ble_eq_true rfl) rfl ?_
  refine aw_aload_n (pc := 9) (i := 0) dX5_init_9 rfl rfl ?_
  refine aw_iload_n (pc := 10) (i := 1) dX5_init_10 rfl rfl ?_
  refine aw_iconst (pc := 11) dX5_init_11 iconst_0 ?_
  refine aw_max (pc := 12) dX5_init_12 rfl mk_X5_15 (Nat.le_of_ble_eq_true rfl) (by omega) (by omega) ?_
  refine aw_top (y := nI N) (by rw [if_neg]; exact fun h => absurd ((nI_ltI (by omega) (by omega)).mp h) (by omega)) ?_
  refine aw_newI (pc := 15) dX5_init_15 hN16 (by omega) (by omega) (fun q15 => ?_)
  refine aw_putF (pc := 17) (ci := 4) (q0 := 1) (f := 0) (CN := RX5) (T := TX5) (N := 2) (ty0 := tyX5) (w9 := ((q15, .inl (G.2.2.1 1, N, .inl (fun _ => 0))) :: ((q, .inr (4, [.ref q15, .int (nI 0)])) :: R))) dX5_init_17 inGX5 tyX5_ok nmX5 tw_211 rfl (by decide) rfl rfl rfl rfl rfl rfl (Nat.le_of_ble_eq_true rfl) rfl ?_
  refine aw_perm (w9 := wRw G.2.2.1 (aL [q15, 0, q]) N (kZ [.null, .int (nI 0)]) ++ R) (List.Perm.append_right R (List.reverse_perm (wRw G.2.2.1 (aL [q15, 0, q]) N (kZ [.null, .int (nI 0)])))) ?_
  exact aw_vret (pc := 20) dX5_init_20 rfl (by omega) (by omega) (kk _ rfl)
set_option maxHeartbeats 1000000 in
set_option maxRecDepth 20000 in
theorem i_X8 {G : xG} {d : Nat} {Q : xQ} {q : Nat} {R : va_W} (hAO : AO G) (kk : ∀ a : Nat → Nat, a 13 = q → Q none (wTp G.2.2.1 a (kZ [.null, .int (nI 0), .null, .null, .null, .null, .int (nI 0), .int (nI 0), .int (nI 0), .long 0, .null, .int (nI 0), .int (nI 0)]) ++ R)) : MT G MX8_init (d + 1) 5 4704 [.ref q] ((q, .inr (7, [.null, .int 0, .null, .null, .null, .null, .int 0, .int 0, .int 0, .long 0, .null, .int 0, .int 0])) :: R) Q := by
  refine mt_start (L := [some (.ref q)]) rfl (Nat.le_of_ble_eq_true rfl) rfl ?_
  refine aw_aload_n (pc := 0) (i := 0) dX8_init_0 rfl rfl ?_
  refine aw_obj0 (pc := 1) dX8_init_1 rfl (gtbl_in (List.mem_of_getElem? (i := 146) (by decide +kernel)) rfl) (gtbl_in (List.mem_of_getElem? (i := 139) (by decide +kernel)) rfl) (gtbl_in (List.mem_of_getElem? (i := 140) (by decide +kernel)) rfl) (Nat.le_of_ble_eq_true rfl) ?_
  refine aw_aload_n (pc := 4) (i := 0) dX8_init_4 rfl rfl ?_
  refine aw_sipush (pc := 5) dX8_init_5 sipush_940 ?_
  refine aw_newB (pc := 8) dX8_init_8 (by decide) (by decide) (by decide) (fun q8 => ?_)
  refine aw_putF (pc := 10) (ci := 7) (q0 := 1) (f := 0) (CN := RX8) (T := TX8) (N := 13) (ty0 := tyX8) (w9 := ((q8, .inl (G.2.2.1 0, 940, .inl (fun _ => 0))) :: ((q, .inr (7, [.ref q8, .int 0, .null, .null, .null, .null, .int 0, .int 0, .int 0, .long 0, .null, .int 0, .int 0])) :: R))) dX8_init_10 inGX8 tyX8_ok nmX8 tw_149 rfl (by decide) rfl rfl rfl rfl rfl rfl (Nat.le_of_ble_eq_true rfl) rfl ?_
  refine aw_aload_n (pc := 13) (i := 0) dX8_init_13 rfl rfl ?_
  refine aw_iconst (pc := 14) dX8_init_14 iconst_0 ?_
  refine aw_put (pc := 15) (ci := 7) (q0 := 1) (f := 1) (CN := RX8) (T := TX8) (N := 13) (ty0 := tyX8) (w9 := ((q8, .inl (G.2.2.1 0, 940, .inl (fun _ => 0))) :: ((q, .inr (7, [.ref q8, .int (nI 0), .null, .null, .null, .null, .int 0, .int 0, .int 0, .long 0, .null, .int 0, .int 0])) :: R))) dX8_init_15 inGX8 tyX8_ok nmX8 tw_150 rfl (by decide) rfl rfl rfl rfl (Nat.le_of_ble_eq_true rfl) rfl ?_
  refine aw_aload_n (pc := 18) (i := 0) dX8_init_18 rfl rfl ?_
  refine aw_sipush (pc := 19) dX8_init_19 sipush_941 ?_
  refine aw_newI (pc := 22) dX8_init_22 (by decide) (by decide) (by decide) (fun q22 => ?_)
  refine aw_putF (pc := 24) (ci := 7) (q0 := 2) (f := 2) (CN := RX8) (T := TX8) (N := 13) (ty0 := tyX8) (w9 := ((q22, .inl (G.2.2.1 1, 941, .inl (fun _ => 0))) :: ((q8, .inl (G.2.2.1 0, 940, .inl (fun _ => 0))) :: ((q, .inr (7, [.ref q8, .int (nI 0), .ref q22, .null, .null, .null, .int 0, .int 0, .int 0, .long 0, .null, .int 0, .int 0])) :: R)))) dX8_init_24 inGX8 tyX8_ok nmX8 tw_152 rfl (by decide) rfl rfl rfl rfl rfl rfl (Nat.le_of_ble_eq_true rfl) rfl ?_
  refine aw_aload_n (pc := 27) (i := 0) dX8_init_27 rfl rfl ?_
  refine aw_sipush (pc := 28) dX8_init_28 sipush_941 ?_
  refine aw_newI (pc := 31) dX8_init_31 (by decide) (by decide) (by decide) (fun q31 => ?_)
  refine aw_putF (pc := 33) (ci := 7) (q0 := 3) (f := 3) (CN := RX8) (T := TX8) (N := 13) (ty0 := tyX8) (w9 := ((q31, .inl (G.2.2.1 1, 941, .inl (fun _ => 0))) :: ((q22, .inl (G.2.2.1 1, 941, .inl (fun _ => 0))) :: ((q8, .inl (G.2.2.1 0, 940, .inl (fun _ => 0))) :: ((q, .inr (7, [.ref q8, .int (nI 0), .ref q22, .ref q31, .null, .null, .int 0, .int 0, .int 0, .long 0, .null, .int 0, .int 0])) :: R))))) dX8_init_33 inGX8 tyX8_ok nmX8 tw_153 rfl (by decide) rfl rfl rfl rfl rfl rfl (Nat.le_of_ble_eq_true rfl) rfl ?_
  refine aw_aload_n (pc := 36) (i := 0) dX8_init_36 rfl rfl ?_
  refine aw_sipush (pc := 37) dX8_init_37 sipush_941 ?_
  refine aw_newJ (pc := 40) dX8_init_40 (by decide) (by decide) (by decide) (fun q40 => ?_)
  refine aw_putF (pc := 42) (ci := 7) (q0 := 4) (f := 4) (CN := RX8) (T := TX8) (N := 13) (ty0 := tyX8) (w9 := ((q40, .inl (G.2.2.1 2, 941, .inr (.inl (fun _ => 0)))) :: ((q31, .inl (G.2.2.1 1, 941, .inl (fun _ => 0))) :: ((q22, .inl (G.2.2.1 1, 941, .inl (fun _ => 0))) :: ((q8, .inl (G.2.2.1 0, 940, .inl (fun _ => 0))) :: ((q, .inr (7, [.ref q8, .int (nI 0), .ref q22, .ref q31, .ref q40, .null, .int 0, .int 0, .int 0, .long 0, .null, .int 0, .int 0])) :: R)))))) dX8_init_42 inGX8 tyX8_ok nmX8 tw_154 rfl (by decide) rfl rfl rfl rfl rfl rfl (Nat.le_of_ble_eq_true rfl) rfl ?_
  refine aw_aload_n (pc := 45) (i := 0) dX8_init_45 rfl rfl ?_
  refine aw_sipush (pc := 46) dX8_init_46 sipush_941 ?_
  refine aw_newQ (j := 5) (pc := 49) dX8_init_49 rfl (gtbl_in (List.mem_of_getElem? (i := 147) (by decide +kernel)) rfl) (fun A U h => (hAO A U h).2) rfl (by decide) (by decide) (by decide) (fun q49 => ?_)
  refine aw_putF (pc := 52) (ci := 7) (q0 := 5) (f := 5) (CN := RX8) (T := TX8) (N := 13) (ty0 := tyX8) (w9 := ((q49, .inl (G.2.2.1 5, 941, .inr (.inr (.inr (.inr (fun _ => none)))))) :: ((q40, .inl (G.2.2.1 2, 941, .inr (.inl (fun _ => 0)))) :: ((q31, .inl (G.2.2.1 1, 941, .inl (fun _ => 0))) :: ((q22, .inl (G.2.2.1 1, 941, .inl (fun _ => 0))) :: ((q8, .inl (G.2.2.1 0, 940, .inl (fun _ => 0))) :: ((q, .inr (7, [.ref q8, .int (nI 0), .ref q22, .ref q31, .ref q40, .ref q49, .int 0, .int 0, .int 0, .long 0, .null, .int 0, .int 0])) :: R))))))) dX8_init_52 inGX8 tyX8_ok nmX8 tw_155 rfl (by decide) rfl rfl rfl rfl rfl rfl (Nat.le_of_ble_eq_true rfl) rfl ?_
  refine aw_aload_n (pc := 55) (i := 0) dX8_init_55 rfl rfl ?_
  refine aw_iconst (pc := 56) dX8_init_56 iconst_0 ?_
  refine aw_put (pc := 57) (ci := 7) (q0 := 5) (f := 6) (CN := RX8) (T := TX8) (N := 13) (ty0 := tyX8) (w9 := ((q49, .inl (G.2.2.1 5, 941, .inr (.inr (.inr (.inr (fun _ => none)))))) :: ((q40, .inl (G.2.2.1 2, 941, .inr (.inl (fun _ => 0)))) :: ((q31, .inl (G.2.2.1 1, 941, .inl (fun _ => 0))) :: ((q22, .inl (G.2.2.1 1, 941, .inl (fun _ => 0))) :: ((q8, .inl (G.2.2.1 0, 940, .inl (fun _ => 0))) :: ((q, .inr (7, [.ref q8, .int (nI 0), .ref q22, .ref q31, .ref q40, .ref q49, .int (nI 0), .int 0, .int 0, .long 0, .null, .int 0, .int 0])) :: R))))))) dX8_init_57 inGX8 tyX8_ok nmX8 tw_156 rfl (by decide) rfl rfl rfl rfl (Nat.le_of_ble_eq_true rfl) rfl ?_
  refine aw_aload_n (pc := 60) (i := 0) dX8_init_60 rfl rfl ?_
  refine aw_iconst (pc := 61) dX8_init_61 iconst_0 ?_
  refine aw_put (pc := 62) (ci := 7) (q0 := 5) (f := 7) (CN := RX8) (T := TX8) (N := 13) (ty0 := tyX8) (w9 := ((q49, .inl (G.2.2.1 5, 941, .inr (.inr (.inr (.inr (fun _ => none)))))) :: ((q40, .inl (G.2.2.1 2, 941, .inr (.inl (fun _ => 0)))) :: ((q31, .inl (G.2.2.1 1, 941, .inl (fun _ => 0))) :: ((q22, .inl (G.2.2.1 1, 941, .inl (fun _ => 0))) :: ((q8, .inl (G.2.2.1 0, 940, .inl (fun _ => 0))) :: ((q, .inr (7, [.ref q8, .int (nI 0), .ref q22, .ref q31, .ref q40, .ref q49, .int (nI 0), .int (nI 0), .int 0, .long 0, .null, .int 0, .int 0])) :: R))))))) dX8_init_62 inGX8 tyX8_ok nmX8 tw_157 rfl (by decide) rfl rfl rfl rfl (Nat.le_of_ble_eq_true rfl) rfl ?_
  refine aw_aload_n (pc := 65) (i := 0) dX8_init_65 rfl rfl ?_
  refine aw_iconst (pc := 66) dX8_init_66 iconst_0 ?_
  refine aw_put (pc := 67) (ci := 7) (q0 := 5) (f := 8) (CN := RX8) (T := TX8) (N := 13) (ty0 := tyX8) (w9 := ((q49, .inl (G.2.2.1 5, 941, .inr (.inr (.inr (.inr (fun _ => none)))))) :: ((q40, .inl (G.2.2.1 2, 941, .inr (.inl (fun _ => 0)))) :: ((q31, .inl (G.2.2.1 1, 941, .inl (fun _ => 0))) :: ((q22, .inl (G.2.2.1 1, 941, .inl (fun _ => 0))) :: ((q8, .inl (G.2.2.1 0, 940, .inl (fun _ => 0))) :: ((q, .inr (7, [.ref q8, .int (nI 0), .ref q22, .ref q31, .ref q40, .ref q49, .int (nI 0), .int (nI 0), .int (nI 0), .long 0, .null, .int 0, .int 0])) :: R))))))) dX8_init_67 inGX8 tyX8_ok nmX8 tw_158 rfl (by decide) rfl rfl rfl rfl (Nat.le_of_ble_eq_true rfl) rfl ?_
  refine aw_aload_n (pc := 70) (i := 0) dX8_init_70 rfl rfl ?_
  refine aw_lconst (pc := 71) (v := 0) dX8_init_71 rfl ?_
  refine aw_put (pc := 72) (ci := 7) (q0 := 5) (f := 9) (CN := RX8) (T := TX8) (N := 13) (ty0 := tyX8) (w9 := ((q49, .inl (G.2.2.1 5, 941, .inr (.inr (.inr (.inr (fun _ => none)))))) :: ((q40, .inl (G.2.2.1 2, 941, .inr (.inl (fun _ => 0)))) :: ((q31, .inl (G.2.2.1 1, 941, .inl (fun _ => 0))) :: ((q22, .inl (G.2.2.1 1, 941, .inl (fun _ => 0))) :: ((q8, .inl (G.2.2.1 0, 940, .inl (fun _ => 0))) :: ((q, .inr (7, [.ref q8, .int (nI 0), .ref q22, .ref q31, .ref q40, .ref q49, .int (nI 0), .int (nI 0), .int (nI 0), .long 0, .null, .int 0, .int 0])) :: R))))))) dX8_init_72 inGX8 tyX8_ok nmX8 tw_160 rfl (by decide) rfl rfl rfl rfl (Nat.le_of_ble_eq_true rfl) rfl ?_
  refine aw_aload_n (pc := 75) (i := 0) dX8_init_75 rfl rfl ?_
  refine aw_null (pc := 76) dX8_init_76 ?_
  refine aw_put (pc := 77) (ci := 7) (q0 := 5) (f := 10) (CN := RX8) (T := TX8) (N := 13) (ty0 := tyX8) (w9 := ((q49, .inl (G.2.2.1 5, 941, .inr (.inr (.inr (.inr (fun _ => none)))))) :: ((q40, .inl (G.2.2.1 2, 941, .inr (.inl (fun _ => 0)))) :: ((q31, .inl (G.2.2.1 1, 941, .inl (fun _ => 0))) :: ((q22, .inl (G.2.2.1 1, 941, .inl (fun _ => 0))) :: ((q8, .inl (G.2.2.1 0, 940, .inl (fun _ => 0))) :: ((q, .inr (7, [.ref q8, .int (nI 0), .ref q22, .ref q31, .ref q40, .ref q49, .int (nI 0), .int (nI 0), .int (nI 0), .long 0, .null, .int 0, .int 0])) :: R))))))) dX8_init_77 inGX8 tyX8_ok nmX8 tw_162 rfl (by decide) rfl rfl rfl rfl (Nat.le_of_ble_eq_true rfl) rfl ?_
  refine aw_aload_n (pc := 80) (i := 0) dX8_init_80 rfl rfl ?_
  refine aw_iconst (pc := 81) dX8_init_81 iconst_0 ?_
  refine aw_put (pc := 82) (ci := 7) (q0 := 5) (f := 11) (CN := RX8) (T := TX8) (N := 13) (ty0 := tyX8) (w9 := ((q49, .inl (G.2.2.1 5, 941, .inr (.inr (.inr (.inr (fun _ => none)))))) :: ((q40, .inl (G.2.2.1 2, 941, .inr (.inl (fun _ => 0)))) :: ((q31, .inl (G.2.2.1 1, 941, .inl (fun _ => 0))) :: ((q22, .inl (G.2.2.1 1, 941, .inl (fun _ => 0))) :: ((q8, .inl (G.2.2.1 0, 940, .inl (fun _ => 0))) :: ((q, .inr (7, [.ref q8, .int (nI 0), .ref q22, .ref q31, .ref q40, .ref q49, .int (nI 0), .int (nI 0), .int (nI 0), .long 0, .null, .int (nI 0), .int 0])) :: R))))))) dX8_init_82 inGX8 tyX8_ok nmX8 tw_166 rfl (by decide) rfl rfl rfl rfl (Nat.le_of_ble_eq_true rfl) rfl ?_
  refine aw_aload_n (pc := 85) (i := 0) dX8_init_85 rfl rfl ?_
  refine aw_iconst (pc := 86) dX8_init_86 iconst_0 ?_
  refine aw_put (pc := 87) (ci := 7) (q0 := 5) (f := 12) (CN := RX8) (T := TX8) (N := 13) (ty0 := tyX8) (w9 := ((q49, .inl (G.2.2.1 5, 941, .inr (.inr (.inr (.inr (fun _ => none)))))) :: ((q40, .inl (G.2.2.1 2, 941, .inr (.inl (fun _ => 0)))) :: ((q31, .inl (G.2.2.1 1, 941, .inl (fun _ => 0))) :: ((q22, .inl (G.2.2.1 1, 941, .inl (fun _ => 0))) :: ((q8, .inl (G.2.2.1 0, 940, .inl (fun _ => 0))) :: ((q, .inr (7, [.ref q8, .int (nI 0), .ref q22, .ref q31, .ref q40, .ref q49, .int (nI 0), .int (nI 0), .int (nI 0), .long 0, .null, .int (nI 0), .int (nI 0)])) :: R))))))) dX8_init_87 inGX8 tyX8_ok nmX8 tw_168 rfl (by decide) rfl rfl rfl rfl (Nat.le_of_ble_eq_true rfl) rfl ?_
  refine aw_perm (w9 := wTp G.2.2.1 (aL [q8, 0, q22, q31, q40, q49, 0, 0, 0, 0, 0, 0, 0, q]) (kZ [.null, .int (nI 0), .null, .null, .null, .null, .int (nI 0), .int (nI 0), .int (nI 0), .long 0, .null, .int (nI 0), .int (nI 0)]) ++ R) (List.Perm.append_right R (List.reverse_perm (wTp G.2.2.1 (aL [q8, 0, q22, q31, q40, q49, 0, 0, 0, 0, 0, 0, 0, q]) (kZ [.null, .int (nI 0), .null, .null, .null, .null, .int (nI 0), .int (nI 0), .int (nI 0), .long 0, .null, .int (nI 0), .int (nI 0)])))) ?_
  exact aw_vret (pc := 90) dX8_init_90 rfl (by decide) (by decide) (kk _ rfl)
set_option maxHeartbeats 1000000 in
set_option maxRecDepth 20000 in
theorem i_X3 {G : xG} {d : Nat} {Q : xQ} {q : Nat} {R : va_W} (kk : ∀ a : Nat → Nat, a 13 = q → Q none (wCh G.2.2.1 a (kZ [.int (nI 0), .int (nI 0), .int (nI 0), .null, .null, .null, .null, .null, .null, .null, .null, .null, .null]) ++ R)) : MT G MX3_init (d + 1) 10 130 [.ref q] ((q, .inr (2, [.int 0, .int 0, .int 0, .null, .null, .null, .null, .null, .null, .null, .null, .null, .null])) :: R) Q := by
  refine mt_start (L := [some (.ref q)]) rfl (Nat.le_of_ble_eq_true rfl) rfl ?_
  refine aw_aload_n (pc := 0) (i := 0) dX3_init_0 rfl rfl ?_
  refine aw_obj0 (pc := 1) dX3_init_1 rfl (gtbl_in (List.mem_of_getElem? (i := 225) (by decide +kernel)) rfl) (gtbl_in (List.mem_of_getElem? (i := 139) (by decide +kernel)) rfl) (gtbl_in (List.mem_of_getElem? (i := 140) (by decide +kernel)) rfl) (Nat.le_of_ble_eq_true rfl) ?_
  refine aw_aload_n (pc := 4) (i := 0) dX3_init_4 rfl rfl ?_
  refine aw_iconst (pc := 5) dX3_init_5 iconst_0 ?_
  refine aw_put (pc := 6) (ci := 2) (q0 := 0) (f := 0) (CN := RX3) (T := TX3) (N := 13) (ty0 := tyX3) (w9 := ((q, .inr (2, [.int (nI 0), .int 0, .int 0, .null, .null, .null, .null, .null, .null, .null, .null, .null, .null])) :: R)) dX3_init_6 inGX3 tyX3_ok nmX3 tw_226 rfl (by decide) rfl rfl rfl rfl (Nat.le_of_ble_eq_true rfl) rfl ?_
  refine aw_aload_n (pc := 9) (i := 0) dX3_init_9 rfl rfl ?_
  refine aw_iconst (pc := 10) dX3_init_10 iconst_0 ?_
  refine aw_put (pc := 11) (ci := 2) (q0 := 0) (f := 1) (CN := RX3) (T := TX3) (N := 13) (ty0 := tyX3) (w9 := ((q, .inr (2, [.int (nI 0), .int (nI 0), .int 0, .null, .null, .null, .null, .null, .null, .null, .null, .null, .null])) :: R)) dX3_init_11 inGX3 tyX3_ok nmX3 tw_231 rfl (by decide) rfl rfl rfl rfl (Nat.le_of_ble_eq_true rfl) rfl ?_
  refine aw_aload_n (pc := 14) (i := 0) dX3_init_14 rfl rfl ?_
  refine aw_iconst (pc := 15) dX3_init_15 iconst_0 ?_
  refine aw_put (pc := 16) (ci := 2) (q0 := 0) (f := 2) (CN := RX3) (T := TX3) (N := 13) (ty0 := tyX3) (w9 := ((q, .inr (2, [.int (nI 0), .int (nI 0), .int (nI 0), .null, .null, .null, .null, .null, .null, .null, .null, .null, .null])) :: R)) dX3_init_16 inGX3 tyX3_ok nmX3 tw_235 rfl (by decide) rfl rfl rfl rfl (Nat.le_of_ble_eq_true rfl) rfl ?_
  refine aw_aload_n (pc := 19) (i := 0) dX3_init_19 rfl rfl ?_
  refine aw_bipush (pc := 20) dX3_init_20 bipush_7 ?_
  refine aw_newJ (pc := 22) dX3_init_22 (by decide) (by decide) (by decide) (fun q22 => ?_)
  refine aw_putF (pc := 24) (ci := 2) (q0 := 1) (f := 3) (CN := RX3) (T := TX3) (N := 13) (ty0 := tyX3) (w9 := ((q22, .inl (G.2.2.1 2, 7, .inr (.inl (fun _ => 0)))) :: ((q, .inr (2, [.int (nI 0), .int (nI 0), .int (nI 0), .ref q22, .null, .null, .null, .null, .null, .null, .null, .null, .null])) :: R))) dX3_init_24 inGX3 tyX3_ok nmX3 tw_241 rfl (by decide) rfl rfl rfl rfl rfl rfl (Nat.le_of_ble_eq_true rfl) rfl ?_
  refine aw_aload_n (pc := 27) (i := 0) dX3_init_27 rfl rfl ?_
  refine aw_bipush (pc := 28) dX3_init_28 bipush_7 ?_
  refine aw_newI (pc := 30) dX3_init_30 (by decide) (by decide) (by decide) (fun q30 => ?_)
  refine aw_putF (pc := 32) (ci := 2) (q0 := 2) (f := 4) (CN := RX3) (T := TX3) (N := 13) (ty0 := tyX3) (w9 := ((q30, .inl (G.2.2.1 1, 7, .inl (fun _ => 0))) :: ((q22, .inl (G.2.2.1 2, 7, .inr (.inl (fun _ => 0)))) :: ((q, .inr (2, [.int (nI 0), .int (nI 0), .int (nI 0), .ref q22, .ref q30, .null, .null, .null, .null, .null, .null, .null, .null])) :: R)))) dX3_init_32 inGX3 tyX3_ok nmX3 tw_243 rfl (by decide) rfl rfl rfl rfl rfl rfl (Nat.le_of_ble_eq_true rfl) rfl ?_
  refine aw_aload_n (pc := 35) (i := 0) dX3_init_35 rfl rfl ?_
  refine aw_bipush (pc := 36) dX3_init_36 bipush_7 ?_
  refine aw_newI (pc := 38) dX3_init_38 (by decide) (by decide) (by decide) (fun q38 => ?_)
  refine aw_putF (pc := 40) (ci := 2) (q0 := 3) (f := 5) (CN := RX3) (T := TX3) (N := 13) (ty0 := tyX3) (w9 := ((q38, .inl (G.2.2.1 1, 7, .inl (fun _ => 0))) :: ((q30, .inl (G.2.2.1 1, 7, .inl (fun _ => 0))) :: ((q22, .inl (G.2.2.1 2, 7, .inr (.inl (fun _ => 0)))) :: ((q, .inr (2, [.int (nI 0), .int (nI 0), .int (nI 0), .ref q22, .ref q30, .ref q38, .null, .null, .null, .null, .null, .null, .null])) :: R))))) dX3_init_40 inGX3 tyX3_ok nmX3 tw_245 rfl (by decide) rfl rfl rfl rfl rfl rfl (Nat.le_of_ble_eq_true rfl) rfl ?_
  refine aw_aload_n (pc := 43) (i := 0) dX3_init_43 rfl rfl ?_
  refine aw_bipush (pc := 44) dX3_init_44 bipush_12 ?_
  refine aw_newI (pc := 46) dX3_init_46 (by decide) (by decide) (by decide) (fun q46 => ?_)
  refine aw_putF (pc := 48) (ci := 2) (q0 := 4) (f := 6) (CN := RX3) (T := TX3) (N := 13) (ty0 := tyX3) (w9 := ((q46, .inl (G.2.2.1 1, 12, .inl (fun _ => 0))) :: ((q38, .inl (G.2.2.1 1, 7, .inl (fun _ => 0))) :: ((q30, .inl (G.2.2.1 1, 7, .inl (fun _ => 0))) :: ((q22, .inl (G.2.2.1 2, 7, .inr (.inl (fun _ => 0)))) :: ((q, .inr (2, [.int (nI 0), .int (nI 0), .int (nI 0), .ref q22, .ref q30, .ref q38, .ref q46, .null, .null, .null, .null, .null, .null])) :: R)))))) dX3_init_48 inGX3 tyX3_ok nmX3 tw_247 rfl (by decide) rfl rfl rfl rfl rfl rfl (Nat.le_of_ble_eq_true rfl) rfl ?_
  refine aw_aload_n (pc := 51) (i := 0) dX3_init_51 rfl rfl ?_
  refine aw_bipush (pc := 52) dX3_init_52 bipush_12 ?_
  refine aw_newI (pc := 54) dX3_init_54 (by decide) (by decide) (by decide) (fun q54 => ?_)
  refine aw_putF (pc := 56) (ci := 2) (q0 := 5) (f := 7) (CN := RX3) (T := TX3) (N := 13) (ty0 := tyX3) (w9 := ((q54, .inl (G.2.2.1 1, 12, .inl (fun _ => 0))) :: ((q46, .inl (G.2.2.1 1, 12, .inl (fun _ => 0))) :: ((q38, .inl (G.2.2.1 1, 7, .inl (fun _ => 0))) :: ((q30, .inl (G.2.2.1 1, 7, .inl (fun _ => 0))) :: ((q22, .inl (G.2.2.1 2, 7, .inr (.inl (fun _ => 0)))) :: ((q, .inr (2, [.int (nI 0), .int (nI 0), .int (nI 0), .ref q22, .ref q30, .ref q38, .ref q46, .ref q54, .null, .null, .null, .null, .null])) :: R))))))) dX3_init_56 inGX3 tyX3_ok nmX3 tw_249 rfl (by decide) rfl rfl rfl rfl rfl rfl (Nat.le_of_ble_eq_true rfl) rfl ?_
  refine aw_aload_n (pc := 59) (i := 0) dX3_init_59 rfl rfl ?_
  refine aw_bipush (pc := 60) dX3_init_60 bipush_12 ?_
  refine aw_newI (pc := 62) dX3_init_62 (by decide) (by decide) (by decide) (fun q62 => ?_)
  refine aw_putF (pc := 64) (ci := 2) (q0 := 6) (f := 8) (CN := RX3) (T := TX3) (N := 13) (ty0 := tyX3) (w9 := ((q62, .inl (G.2.2.1 1, 12, .inl (fun _ => 0))) :: ((q54, .inl (G.2.2.1 1, 12, .inl (fun _ => 0))) :: ((q46, .inl (G.2.2.1 1, 12, .inl (fun _ => 0))) :: ((q38, .inl (G.2.2.1 1, 7, .inl (fun _ => 0))) :: ((q30, .inl (G.2.2.1 1, 7, .inl (fun _ => 0))) :: ((q22, .inl (G.2.2.1 2, 7, .inr (.inl (fun _ => 0)))) :: ((q, .inr (2, [.int (nI 0), .int (nI 0), .int (nI 0), .ref q22, .ref q30, .ref q38, .ref q46, .ref q54, .ref q62, .null, .null, .null, .null])) :: R)))))))) dX3_init_64 inGX3 tyX3_ok nmX3 tw_251 rfl (by decide) rfl rfl rfl rfl rfl rfl (Nat.le_of_ble_eq_true rfl) rfl ?_
  refine aw_aload_n (pc := 67) (i := 0) dX3_init_67 rfl rfl ?_
  refine aw_bipush (pc := 68) dX3_init_68 bipush_12 ?_
  refine aw_newI (pc := 70) dX3_init_70 (by decide) (by decide) (by decide) (fun q70 => ?_)
  refine aw_putF (pc := 72) (ci := 2) (q0 := 7) (f := 9) (CN := RX3) (T := TX3) (N := 13) (ty0 := tyX3) (w9 := ((q70, .inl (G.2.2.1 1, 12, .inl (fun _ => 0))) :: ((q62, .inl (G.2.2.1 1, 12, .inl (fun _ => 0))) :: ((q54, .inl (G.2.2.1 1, 12, .inl (fun _ => 0))) :: ((q46, .inl (G.2.2.1 1, 12, .inl (fun _ => 0))) :: ((q38, .inl (G.2.2.1 1, 7, .inl (fun _ => 0))) :: ((q30, .inl (G.2.2.1 1, 7, .inl (fun _ => 0))) :: ((q22, .inl (G.2.2.1 2, 7, .inr (.inl (fun _ => 0)))) :: ((q, .inr (2, [.int (nI 0), .int (nI 0), .int (nI 0), .ref q22, .ref q30, .ref q38, .ref q46, .ref q54, .ref q62, .ref q70, .null, .null, .null])) :: R))))))))) dX3_init_72 inGX3 tyX3_ok nmX3 tw_253 rfl (by decide) rfl rfl rfl rfl rfl rfl (Nat.le_of_ble_eq_true rfl) rfl ?_
  refine aw_aload_n (pc := 75) (i := 0) dX3_init_75 rfl rfl ?_
  refine aw_bipush (pc := 76) dX3_init_76 bipush_49 ?_
  refine aw_newI (pc := 78) dX3_init_78 (by decide) (by decide) (by decide) (fun q78 => ?_)
  refine aw_putF (pc := 80) (ci := 2) (q0 := 8) (f := 10) (CN := RX3) (T := TX3) (N := 13) (ty0 := tyX3) (w9 := ((q78, .inl (G.2.2.1 1, 49, .inl (fun _ => 0))) :: ((q70, .inl (G.2.2.1 1, 12, .inl (fun _ => 0))) :: ((q62, .inl (G.2.2.1 1, 12, .inl (fun _ => 0))) :: ((q54, .inl (G.2.2.1 1, 12, .inl (fun _ => 0))) :: ((q46, .inl (G.2.2.1 1, 12, .inl (fun _ => 0))) :: ((q38, .inl (G.2.2.1 1, 7, .inl (fun _ => 0))) :: ((q30, .inl (G.2.2.1 1, 7, .inl (fun _ => 0))) :: ((q22, .inl (G.2.2.1 2, 7, .inr (.inl (fun _ => 0)))) :: ((q, .inr (2, [.int (nI 0), .int (nI 0), .int (nI 0), .ref q22, .ref q30, .ref q38, .ref q46, .ref q54, .ref q62, .ref q70, .ref q78, .null, .null])) :: R)))))))))) dX3_init_80 inGX3 tyX3_ok nmX3 tw_255 rfl (by decide) rfl rfl rfl rfl rfl rfl (Nat.le_of_ble_eq_true rfl) rfl ?_
  refine aw_aload_n (pc := 83) (i := 0) dX3_init_83 rfl rfl ?_
  refine aw_bipush (pc := 84) dX3_init_84 bipush_6 ?_
  refine aw_newJ (pc := 86) dX3_init_86 (by decide) (by decide) (by decide) (fun q86 => ?_)
  refine aw_putF (pc := 88) (ci := 2) (q0 := 9) (f := 11) (CN := RX3) (T := TX3) (N := 13) (ty0 := tyX3) (w9 := ((q86, .inl (G.2.2.1 2, 6, .inr (.inl (fun _ => 0)))) :: ((q78, .inl (G.2.2.1 1, 49, .inl (fun _ => 0))) :: ((q70, .inl (G.2.2.1 1, 12, .inl (fun _ => 0))) :: ((q62, .inl (G.2.2.1 1, 12, .inl (fun _ => 0))) :: ((q54, .inl (G.2.2.1 1, 12, .inl (fun _ => 0))) :: ((q46, .inl (G.2.2.1 1, 12, .inl (fun _ => 0))) :: ((q38, .inl (G.2.2.1 1, 7, .inl (fun _ => 0))) :: ((q30, .inl (G.2.2.1 1, 7, .inl (fun _ => 0))) :: ((q22, .inl (G.2.2.1 2, 7, .inr (.inl (fun _ => 0)))) :: ((q, .inr (2, [.int (nI 0), .int (nI 0), .int (nI 0), .ref q22, .ref q30, .ref q38, .ref q46, .ref q54, .ref q62, .ref q70, .ref q78, .ref q86, .null])) :: R))))))))))) dX3_init_88 inGX3 tyX3_ok nmX3 tw_256 rfl (by decide) rfl rfl rfl rfl rfl rfl (Nat.le_of_ble_eq_true rfl) rfl ?_
  refine aw_aload_n (pc := 91) (i := 0) dX3_init_91 rfl rfl ?_
  refine aw_bipush (pc := 92) dX3_init_92 bipush_6 ?_
  refine aw_newI (pc := 94) dX3_init_94 (by decide) (by decide) (by decide) (fun q94 => ?_)
  refine aw_putF (pc := 96) (ci := 2) (q0 := 10) (f := 12) (CN := RX3) (T := TX3) (N := 13) (ty0 := tyX3) (w9 := ((q94, .inl (G.2.2.1 1, 6, .inl (fun _ => 0))) :: ((q86, .inl (G.2.2.1 2, 6, .inr (.inl (fun _ => 0)))) :: ((q78, .inl (G.2.2.1 1, 49, .inl (fun _ => 0))) :: ((q70, .inl (G.2.2.1 1, 12, .inl (fun _ => 0))) :: ((q62, .inl (G.2.2.1 1, 12, .inl (fun _ => 0))) :: ((q54, .inl (G.2.2.1 1, 12, .inl (fun _ => 0))) :: ((q46, .inl (G.2.2.1 1, 12, .inl (fun _ => 0))) :: ((q38, .inl (G.2.2.1 1, 7, .inl (fun _ => 0))) :: ((q30, .inl (G.2.2.1 1, 7, .inl (fun _ => 0))) :: ((q22, .inl (G.2.2.1 2, 7, .inr (.inl (fun _ => 0)))) :: ((q, .inr (2, [.int (nI 0), .int (nI 0), .int (nI 0), .ref q22, .ref q30, .ref q38, .ref q46, .ref q54, .ref q62, .ref q70, .ref q78, .ref q86, .ref q94])) :: R)))))))))))) dX3_init_96 inGX3 tyX3_ok nmX3 tw_258 rfl (by decide) rfl rfl rfl rfl rfl rfl (Nat.le_of_ble_eq_true rfl) rfl ?_
  refine aw_perm (w9 := wCh G.2.2.1 (aL [0, 0, 0, q22, q30, q38, q46, q54, q62, q70, q78, q86, q94, q]) (kZ [.int (nI 0), .int (nI 0), .int (nI 0), .null, .null, .null, .null, .null, .null, .null, .null, .null, .null]) ++ R) (List.Perm.append_right R (List.reverse_perm (wCh G.2.2.1 (aL [0, 0, 0, q22, q30, q38, q46, q54, q62, q70, q78, q86, q94, q]) (kZ [.int (nI 0), .int (nI 0), .int (nI 0), .null, .null, .null, .null, .null, .null, .null, .null, .null, .null])))) ?_
  exact aw_vret (pc := 99) dX3_init_99 rfl (by decide) (by decide) (kk _ rfl)
set_option maxHeartbeats 1000000 in
set_option maxRecDepth 20000 in
theorem i_X7 {G : xG} {d : Nat} {Q : xQ} {q : Nat} {R : va_W} {c : Nat} (kk : ∀ a : Nat → Nat, a 12 = q → Q none (wSt G.2.2.1 a (kZ [.ref c, .null, .null, .null, .int (nI 0), .int (nI 0), .null, .null, .null, .null, .null, .int (nI 0)]) ++ R)) : MT G MX7_init (d + 1) 7 44 [.ref q, .ref c] ((q, .inr (6, [.null, .null, .null, .null, .int 0, .int 0, .null, .null, .null, .null, .null, .int 0])) :: R) Q := by
  refine mt_start (L := [some (.ref q), some (.ref c)]) rfl (Nat.le_of_ble_eq_true rfl) rfl ?_
  refine aw_aload_n (pc := 0) (i := 0) dX7_init_0 rfl rfl ?_
  refine aw_obj0 (pc := 1) dX7_init_1 rfl (gtbl_in (List.mem_of_getElem? (i := 295) (by decide +kernel)) rfl) (gtbl_in (List.mem_of_getElem? (i := 139) (by decide +kernel)) rfl) (gtbl_in (List.mem_of_getElem? (i := 140) (by decide +kernel)) rfl) (Nat.le_of_ble_eq_true rfl) ?_
  refine aw_aload_n (pc := 4) (i := 0) dX7_init_4 rfl rfl ?_
  refine aw_null (pc := 5) dX7_init_5 ?_
  refine aw_put (pc := 6) (ci := 6) (q0 := 0) (f := 1) (CN := RX7) (T := TX7) (N := 12) (ty0 := tyX7) (w9 := ((q, .inr (6, [.null, .null, .null, .null, .int 0, .int 0, .null, .null, .null, .null, .null, .int 0])) :: R)) dX7_init_6 inGX7 tyX7_ok nmX7 tw_302 rfl (by decide) rfl rfl rfl rfl (Nat.le_of_ble_eq_true rfl) rfl ?_
  refine aw_aload_n (pc := 9) (i := 0) dX7_init_9 rfl rfl ?_
  refine aw_bipush (pc := 10) dX7_init_10 bipush_7 ?_
  refine aw_newI (pc := 12) dX7_init_12 (by decide) (by decide) (by decide) (fun q12 => ?_)
  refine aw_putF (pc := 14) (ci := 6) (q0 := 1) (f := 2) (CN := RX7) (T := TX7) (N := 12) (ty0 := tyX7) (w9 := ((q12, .inl (G.2.2.1 1, 7, .inl (fun _ => 0))) :: ((q, .inr (6, [.null, .null, .ref q12, .null, .int 0, .int 0, .null, .null, .null, .null, .null, .int 0])) :: R))) dX7_init_14 inGX7 tyX7_ok nmX7 tw_304 rfl (by decide) rfl rfl rfl rfl rfl rfl (Nat.le_of_ble_eq_true rfl) rfl ?_
  refine aw_aload_n (pc := 17) (i := 0) dX7_init_17 rfl rfl ?_
  refine aw_bipush (pc := 18) dX7_init_18 bipush_7 ?_
  refine aw_newI (pc := 20) dX7_init_20 (by decide) (by decide) (by decide) (fun q20 => ?_)
  refine aw_putF (pc := 22) (ci := 6) (q0 := 2) (f := 3) (CN := RX7) (T := TX7) (N := 12) (ty0 := tyX7) (w9 := ((q20, .inl (G.2.2.1 1, 7, .inl (fun _ => 0))) :: ((q12, .inl (G.2.2.1 1, 7, .inl (fun _ => 0))) :: ((q, .inr (6, [.null, .null, .ref q12, .ref q20, .int 0, .int 0, .null, .null, .null, .null, .null, .int 0])) :: R)))) dX7_init_22 inGX7 tyX7_ok nmX7 tw_309 rfl (by decide) rfl rfl rfl rfl rfl rfl (Nat.le_of_ble_eq_true rfl) rfl ?_
  refine aw_aload_n (pc := 25) (i := 0) dX7_init_25 rfl rfl ?_
  refine aw_iconst (pc := 26) dX7_init_26 iconst_0 ?_
  refine aw_put (pc := 27) (ci := 6) (q0 := 2) (f := 4) (CN := RX7) (T := TX7) (N := 12) (ty0 := tyX7) (w9 := ((q20, .inl (G.2.2.1 1, 7, .inl (fun _ => 0))) :: ((q12, .inl (G.2.2.1 1, 7, .inl (fun _ => 0))) :: ((q, .inr (6, [.null, .null, .ref q12, .ref q20, .int (nI 0), .int 0, .null, .null, .null, .null, .null, .int 0])) :: R)))) dX7_init_27 inGX7 tyX7_ok nmX7 tw_315 rfl (by decide) rfl rfl rfl rfl (Nat.le_of_ble_eq_true rfl) rfl ?_
  refine aw_aload_n (pc := 30) (i := 0) dX7_init_30 rfl rfl ?_
  refine aw_iconst (pc := 31) dX7_init_31 iconst_0 ?_
  refine aw_put (pc := 32) (ci := 6) (q0 := 2) (f := 5) (CN := RX7) (T := TX7) (N := 12) (ty0 := tyX7) (w9 := ((q20, .inl (G.2.2.1 1, 7, .inl (fun _ => 0))) :: ((q12, .inl (G.2.2.1 1, 7, .inl (fun _ => 0))) :: ((q, .inr (6, [.null, .null, .ref q12, .ref q20, .int (nI 0), .int (nI 0), .null, .null, .null, .null, .null, .int 0])) :: R)))) dX7_init_32 inGX7 tyX7_ok nmX7 tw_318 rfl (by decide) rfl rfl rfl rfl (Nat.le_of_ble_eq_true rfl) rfl ?_
  refine aw_aload_n (pc := 35) (i := 0) dX7_init_35 rfl rfl ?_
  refine aw_bipush (pc := 36) dX7_init_36 bipush_6 ?_
  refine aw_newI (pc := 38) dX7_init_38 (by decide) (by decide) (by decide) (fun q38 => ?_)
  refine aw_putF (pc := 40) (ci := 6) (q0 := 3) (f := 6) (CN := RX7) (T := TX7) (N := 12) (ty0 := tyX7) (w9 := ((q38, .inl (G.2.2.1 1, 6, .inl (fun _ => 0))) :: ((q20, .inl (G.2.2.1 1, 7, .inl (fun _ => 0))) :: ((q12, .inl (G.2.2.1 1, 7, .inl (fun _ => 0))) :: ((q, .inr (6, [.null, .null, .ref q12, .ref q20, .int (nI 0), .int (nI 0), .ref q38, .null, .null, .null, .null, .int 0])) :: R))))) dX7_init_40 inGX7 tyX7_ok nmX7 tw_320 rfl (by decide) rfl rfl rfl rfl rfl rfl (Nat.le_of_ble_eq_true rfl) rfl ?_
  refine aw_aload_n (pc := 43) (i := 0) dX7_init_43 rfl rfl ?_
  refine aw_bipush (pc := 44) dX7_init_44 bipush_6 ?_
  refine aw_newI (pc := 46) dX7_init_46 (by decide) (by decide) (by decide) (fun q46 => ?_)
  refine aw_putF (pc := 48) (ci := 6) (q0 := 4) (f := 7) (CN := RX7) (T := TX7) (N := 12) (ty0 := tyX7) (w9 := ((q46, .inl (G.2.2.1 1, 6, .inl (fun _ => 0))) :: ((q38, .inl (G.2.2.1 1, 6, .inl (fun _ => 0))) :: ((q20, .inl (G.2.2.1 1, 7, .inl (fun _ => 0))) :: ((q12, .inl (G.2.2.1 1, 7, .inl (fun _ => 0))) :: ((q, .inr (6, [.null, .null, .ref q12, .ref q20, .int (nI 0), .int (nI 0), .ref q38, .ref q46, .null, .null, .null, .int 0])) :: R)))))) dX7_init_48 inGX7 tyX7_ok nmX7 tw_325 rfl (by decide) rfl rfl rfl rfl rfl rfl (Nat.le_of_ble_eq_true rfl) rfl ?_
  refine aw_aload_n (pc := 51) (i := 0) dX7_init_51 rfl rfl ?_
  refine aw_bipush (pc := 52) dX7_init_52 bipush_6 ?_
  refine aw_newI (pc := 54) dX7_init_54 (by decide) (by decide) (by decide) (fun q54 => ?_)
  refine aw_putF (pc := 56) (ci := 6) (q0 := 5) (f := 8) (CN := RX7) (T := TX7) (N := 12) (ty0 := tyX7) (w9 := ((q54, .inl (G.2.2.1 1, 6, .inl (fun _ => 0))) :: ((q46, .inl (G.2.2.1 1, 6, .inl (fun _ => 0))) :: ((q38, .inl (G.2.2.1 1, 6, .inl (fun _ => 0))) :: ((q20, .inl (G.2.2.1 1, 7, .inl (fun _ => 0))) :: ((q12, .inl (G.2.2.1 1, 7, .inl (fun _ => 0))) :: ((q, .inr (6, [.null, .null, .ref q12, .ref q20, .int (nI 0), .int (nI 0), .ref q38, .ref q46, .ref q54, .null, .null, .int 0])) :: R))))))) dX7_init_56 inGX7 tyX7_ok nmX7 tw_331 rfl (by decide) rfl rfl rfl rfl rfl rfl (Nat.le_of_ble_eq_true rfl) rfl ?_
  refine aw_aload_n (pc := 59) (i := 0) dX7_init_59 rfl rfl ?_
  refine aw_bipush (pc := 60) dX7_init_60 bipush_6 ?_
  refine aw_newI (pc := 62) dX7_init_62 (by decide) (by decide) (by decide) (fun q62 => ?_)
  refine aw_putF (pc := 64) (ci := 6) (q0 := 6) (f := 9) (CN := RX7) (T := TX7) (N := 12) (ty0 := tyX7) (w9 := ((q62, .inl (G.2.2.1 1, 6, .inl (fun _ => 0))) :: ((q54, .inl (G.2.2.1 1, 6, .inl (fun _ => 0))) :: ((q46, .inl (G.2.2.1 1, 6, .inl (fun _ => 0))) :: ((q38, .inl (G.2.2.1 1, 6, .inl (fun _ => 0))) :: ((q20, .inl (G.2.2.1 1, 7, .inl (fun _ => 0))) :: ((q12, .inl (G.2.2.1 1, 7, .inl (fun _ => 0))) :: ((q, .inr (6, [.null, .null, .ref q12, .ref q20, .int (nI 0), .int (nI 0), .ref q38, .ref q46, .ref q54, .ref q62, .null, .int 0])) :: R)))))))) dX7_init_64 inGX7 tyX7_ok nmX7 tw_334 rfl (by decide) rfl rfl rfl rfl rfl rfl (Nat.le_of_ble_eq_true rfl) rfl ?_
  refine aw_aload_n (pc := 67) (i := 0) dX7_init_67 rfl rfl ?_
  refine aw_bipush (pc := 68) dX7_init_68 bipush_6 ?_
  refine aw_newI (pc := 70) dX7_init_70 (by decide) (by decide) (by decide) (fun q70 => ?_)
  refine aw_putF (pc := 72) (ci := 6) (q0 := 7) (f := 10) (CN := RX7) (T := TX7) (N := 12) (ty0 := tyX7) (w9 := ((q70, .inl (G.2.2.1 1, 6, .inl (fun _ => 0))) :: ((q62, .inl (G.2.2.1 1, 6, .inl (fun _ => 0))) :: ((q54, .inl (G.2.2.1 1, 6, .inl (fun _ => 0))) :: ((q46, .inl (G.2.2.1 1, 6, .inl (fun _ => 0))) :: ((q38, .inl (G.2.2.1 1, 6, .inl (fun _ => 0))) :: ((q20, .inl (G.2.2.1 1, 7, .inl (fun _ => 0))) :: ((q12, .inl (G.2.2.1 1, 7, .inl (fun _ => 0))) :: ((q, .inr (6, [.null, .null, .ref q12, .ref q20, .int (nI 0), .int (nI 0), .ref q38, .ref q46, .ref q54, .ref q62, .ref q70, .int 0])) :: R))))))))) dX7_init_72 inGX7 tyX7_ok nmX7 tw_336 rfl (by decide) rfl rfl rfl rfl rfl rfl (Nat.le_of_ble_eq_true rfl) rfl ?_
  refine aw_aload_n (pc := 75) (i := 0) dX7_init_75 rfl rfl ?_
  refine aw_iconst (pc := 76) dX7_init_76 iconst_0 ?_
  refine aw_put (pc := 77) (ci := 6) (q0 := 7) (f := 11) (CN := RX7) (T := TX7) (N := 12) (ty0 := tyX7) (w9 := ((q70, .inl (G.2.2.1 1, 6, .inl (fun _ => 0))) :: ((q62, .inl (G.2.2.1 1, 6, .inl (fun _ => 0))) :: ((q54, .inl (G.2.2.1 1, 6, .inl (fun _ => 0))) :: ((q46, .inl (G.2.2.1 1, 6, .inl (fun _ => 0))) :: ((q38, .inl (G.2.2.1 1, 6, .inl (fun _ => 0))) :: ((q20, .inl (G.2.2.1 1, 7, .inl (fun _ => 0))) :: ((q12, .inl (G.2.2.1 1, 7, .inl (fun _ => 0))) :: ((q, .inr (6, [.null, .null, .ref q12, .ref q20, .int (nI 0), .int (nI 0), .ref q38, .ref q46, .ref q54, .ref q62, .ref q70, .int (nI 0)])) :: R))))))))) dX7_init_77 inGX7 tyX7_ok nmX7 tw_339 rfl (by decide) rfl rfl rfl rfl (Nat.le_of_ble_eq_true rfl) rfl ?_
  refine aw_aload_n (pc := 80) (i := 0) dX7_init_80 rfl rfl ?_
  refine aw_aload_n (pc := 81) (i := 1) dX7_init_81 rfl rfl ?_
  refine aw_put (pc := 82) (ci := 6) (q0 := 7) (f := 0) (CN := RX7) (T := TX7) (N := 12) (ty0 := tyX7) (w9 := ((q70, .inl (G.2.2.1 1, 6, .inl (fun _ => 0))) :: ((q62, .inl (G.2.2.1 1, 6, .inl (fun _ => 0))) :: ((q54, .inl (G.2.2.1 1, 6, .inl (fun _ => 0))) :: ((q46, .inl (G.2.2.1 1, 6, .inl (fun _ => 0))) :: ((q38, .inl (G.2.2.1 1, 6, .inl (fun _ => 0))) :: ((q20, .inl (G.2.2.1 1, 7, .inl (fun _ => 0))) :: ((q12, .inl (G.2.2.1 1, 7, .inl (fun _ => 0))) :: ((q, .inr (6, [.ref c, .null, .ref q12, .ref q20, .int (nI 0), .int (nI 0), .ref q38, .ref q46, .ref q54, .ref q62, .ref q70, .int (nI 0)])) :: R))))))))) dX7_init_82 inGX7 tyX7_ok nmX7 tw_297 rfl (by decide) rfl rfl rfl rfl (Nat.le_of_ble_eq_true rfl) rfl ?_
  refine aw_perm (w9 := wSt G.2.2.1 (aL [0, 0, q12, q20, 0, 0, q38, q46, q54, q62, q70, 0, q]) (kZ [.ref c, .null, .null, .null, .int (nI 0), .int (nI 0), .null, .null, .null, .null, .null, .int (nI 0)]) ++ R) (List.Perm.append_right R (List.reverse_perm (wSt G.2.2.1 (aL [0, 0, q12, q20, 0, 0, q38, q46, q54, q62, q70, 0, q]) (kZ [.ref c, .null, .null, .null, .int (nI 0), .int (nI 0), .null, .null, .null, .null, .null, .int (nI 0)])))) ?_
  exact aw_vret (pc := 85) dX7_init_85 rfl (by decide) (by decide) (kk _ rfl)
set_option maxHeartbeats 1000000 in
set_option maxRecDepth 20000 in
theorem i_X4 {G : xG} {d : Nat} {Q : xQ} {q : Nat} {R : va_W} {x y : Nat} (kk : ∀ a : Nat → Nat, a 3 = q → Q none (wMt G.2.2.1 a (kZ [.ref x, .ref y, .int (nI 0)]) ++ R)) : MT G MX4_init (d + 1) 0 0 [.ref q, .ref x, .ref y] ((q, .inr (3, [.null, .null, .int 0])) :: R) Q := by
  refine mt_start (L := [some (.ref q), some (.ref x), some (.ref y)]) rfl (Nat.le_of_ble_eq_true rfl) rfl ?_
  refine aw_aload_n (pc := 0) (i := 0) dX4_init_0 rfl rfl ?_
  refine aw_obj0 (pc := 1) dX4_init_1 rfl (gtbl_in (List.mem_of_getElem? (i := 370) (by decide +kernel)) rfl) (gtbl_in (List.mem_of_getElem? (i := 139) (by decide +kernel)) rfl) (gtbl_in (List.mem_of_getElem? (i := 140) (by decide +kernel)) rfl) (Nat.le_of_ble_eq_true rfl) ?_
  refine aw_aload_n (pc := 4) (i := 0) dX4_init_4 rfl rfl ?_
  refine aw_iconst (pc := 5) dX4_init_5 iconst_0 ?_
  refine aw_put (pc := 6) (ci := 3) (q0 := 0) (f := 2) (CN := RX4) (T := TX4) (N := 3) (ty0 := tyX4) (w9 := ((q, .inr (3, [.null, .null, .int (nI 0)])) :: R)) dX4_init_6 inGX4 tyX4_ok nmX4 tw_373 rfl (by decide) rfl rfl rfl rfl (Nat.le_of_ble_eq_true rfl) rfl ?_
  refine aw_aload_n (pc := 9) (i := 0) dX4_init_9 rfl rfl ?_
  refine aw_aload_n (pc := 10) (i := 1) dX4_init_10 rfl rfl ?_
  refine aw_putF (pc := 11) (ci := 3) (q0 := 0) (f := 0) (CN := RX4) (T := TX4) (N := 3) (ty0 := tyX4) (w9 := ((q, .inr (3, [.ref x, .null, .int (nI 0)])) :: R)) dX4_init_11 inGX4 tyX4_ok nmX4 tw_371 rfl (by decide) rfl rfl rfl rfl rfl rfl (Nat.le_of_ble_eq_true rfl) rfl ?_
  refine aw_aload_n (pc := 14) (i := 0) dX4_init_14 rfl rfl ?_
  refine aw_aload_n (pc := 15) (i := 2) dX4_init_15 rfl rfl ?_
  refine aw_putF (pc := 16) (ci := 3) (q0 := 0) (f := 1) (CN := RX4) (T := TX4) (N := 3) (ty0 := tyX4) (w9 := ((q, .inr (3, [.ref x, .ref y, .int (nI 0)])) :: R)) dX4_init_16 inGX4 tyX4_ok nmX4 tw_372 rfl (by decide) rfl rfl rfl rfl rfl rfl (Nat.le_of_ble_eq_true rfl) rfl ?_
  refine aw_perm (w9 := wMt G.2.2.1 (aL [0, 0, 0, q]) (kZ [.ref x, .ref y, .int (nI 0)]) ++ R) (List.Perm.append_right R (List.reverse_perm (wMt G.2.2.1 (aL [0, 0, 0, q]) (kZ [.ref x, .ref y, .int (nI 0)])))) ?_
  exact aw_vret (pc := 19) dX4_init_19 rfl (by decide) (by decide) (kk _ rfl)
set_option maxHeartbeats 1000000 in
set_option maxRecDepth 20000 in
theorem i_X1 {G : xG} {d : Nat} {Q : xQ} {q : Nat} {R : va_W} {x y : Nat} (kk : ∀ a : Nat → Nat, a 8 = q → Q none (wBk G.2.2.1 a (kZ [.ref x, .ref y, .null, .null, .null, .null, .int (nI 0), .int (nI 0)]) ++ R)) : MT G MX1_init (d + 1) 4 160 [.ref q, .ref x, .ref y] ((q, .inr (0, [.null, .null, .null, .null, .null, .null, .int 0, .int 0])) :: R) Q := by
  refine mt_start (L := [some (.ref q), some (.ref x), some (.ref y)]) rfl (Nat.le_of_ble_eq_true rfl) rfl ?_
  refine aw_aload_n (pc := 0) (i := 0) dX1_init_0 rfl rfl ?_
  refine aw_obj0 (pc := 1) dX1_init_1 rfl (gtbl_in (List.mem_of_getElem? (i := 386) (by decide +kernel)) rfl) (gtbl_in (List.mem_of_getElem? (i := 139) (by decide +kernel)) rfl) (gtbl_in (List.mem_of_getElem? (i := 140) (by decide +kernel)) rfl) (Nat.le_of_ble_eq_true rfl) ?_
  refine aw_aload_n (pc := 4) (i := 0) dX1_init_4 rfl rfl ?_
  refine aw_bipush (pc := 5) dX1_init_5 bipush_40 ?_
  refine aw_newI (pc := 7) dX1_init_7 (by decide) (by decide) (by decide) (fun q7 => ?_)
  refine aw_putF (pc := 9) (ci := 0) (q0 := 1) (f := 2) (CN := RX1) (T := TX1) (N := 8) (ty0 := tyX1) (w9 := ((q7, .inl (G.2.2.1 1, 40, .inl (fun _ => 0))) :: ((q, .inr (0, [.null, .null, .ref q7, .null, .null, .null, .int 0, .int 0])) :: R))) dX1_init_9 inGX1 tyX1_ok nmX1 tw_389 rfl (by decide) rfl rfl rfl rfl rfl rfl (Nat.le_of_ble_eq_true rfl) rfl ?_
  refine aw_aload_n (pc := 12) (i := 0) dX1_init_12 rfl rfl ?_
  refine aw_bipush (pc := 13) dX1_init_13 bipush_40 ?_
  refine aw_newI (pc := 15) dX1_init_15 (by decide) (by decide) (by decide) (fun q15 => ?_)
  refine aw_putF (pc := 17) (ci := 0) (q0 := 2) (f := 3) (CN := RX1) (T := TX1) (N := 8) (ty0 := tyX1) (w9 := ((q15, .inl (G.2.2.1 1, 40, .inl (fun _ => 0))) :: ((q7, .inl (G.2.2.1 1, 40, .inl (fun _ => 0))) :: ((q, .inr (0, [.null, .null, .ref q7, .ref q15, .null, .null, .int 0, .int 0])) :: R)))) dX1_init_17 inGX1 tyX1_ok nmX1 tw_390 rfl (by decide) rfl rfl rfl rfl rfl rfl (Nat.le_of_ble_eq_true rfl) rfl ?_
  refine aw_aload_n (pc := 20) (i := 0) dX1_init_20 rfl rfl ?_
  refine aw_bipush (pc := 21) dX1_init_21 bipush_40 ?_
  refine aw_newI (pc := 23) dX1_init_23 (by decide) (by decide) (by decide) (fun q23 => ?_)
  refine aw_putF (pc := 25) (ci := 0) (q0 := 3) (f := 4) (CN := RX1) (T := TX1) (N := 8) (ty0 := tyX1) (w9 := ((q23, .inl (G.2.2.1 1, 40, .inl (fun _ => 0))) :: ((q15, .inl (G.2.2.1 1, 40, .inl (fun _ => 0))) :: ((q7, .inl (G.2.2.1 1, 40, .inl (fun _ => 0))) :: ((q, .inr (0, [.null, .null, .ref q7, .ref q15, .ref q23, .null, .int 0, .int 0])) :: R))))) dX1_init_25 inGX1 tyX1_ok nmX1 tw_391 rfl (by decide) rfl rfl rfl rfl rfl rfl (Nat.le_of_ble_eq_true rfl) rfl ?_
  refine aw_aload_n (pc := 28) (i := 0) dX1_init_28 rfl rfl ?_
  refine aw_bipush (pc := 29) dX1_init_29 bipush_40 ?_
  refine aw_newI (pc := 31) dX1_init_31 (by decide) (by decide) (by decide) (fun q31 => ?_)
  refine aw_putF (pc := 33) (ci := 0) (q0 := 4) (f := 5) (CN := RX1) (T := TX1) (N := 8) (ty0 := tyX1) (w9 := ((q31, .inl (G.2.2.1 1, 40, .inl (fun _ => 0))) :: ((q23, .inl (G.2.2.1 1, 40, .inl (fun _ => 0))) :: ((q15, .inl (G.2.2.1 1, 40, .inl (fun _ => 0))) :: ((q7, .inl (G.2.2.1 1, 40, .inl (fun _ => 0))) :: ((q, .inr (0, [.null, .null, .ref q7, .ref q15, .ref q23, .ref q31, .int 0, .int 0])) :: R)))))) dX1_init_33 inGX1 tyX1_ok nmX1 tw_392 rfl (by decide) rfl rfl rfl rfl rfl rfl (Nat.le_of_ble_eq_true rfl) rfl ?_
  refine aw_aload_n (pc := 36) (i := 0) dX1_init_36 rfl rfl ?_
  refine aw_iconst (pc := 37) dX1_init_37 iconst_0 ?_
  refine aw_put (pc := 38) (ci := 0) (q0 := 4) (f := 6) (CN := RX1) (T := TX1) (N := 8) (ty0 := tyX1) (w9 := ((q31, .inl (G.2.2.1 1, 40, .inl (fun _ => 0))) :: ((q23, .inl (G.2.2.1 1, 40, .inl (fun _ => 0))) :: ((q15, .inl (G.2.2.1 1, 40, .inl (fun _ => 0))) :: ((q7, .inl (G.2.2.1 1, 40, .inl (fun _ => 0))) :: ((q, .inr (0, [.null, .null, .ref q7, .ref q15, .ref q23, .ref q31, .int (nI 0), .int 0])) :: R)))))) dX1_init_38 inGX1 tyX1_ok nmX1 tw_393 rfl (by decide) rfl rfl rfl rfl (Nat.le_of_ble_eq_true rfl) rfl ?_
  refine aw_aload_n (pc := 41) (i := 0) dX1_init_41 rfl rfl ?_
  refine aw_iconst (pc := 42) dX1_init_42 iconst_0 ?_
  refine aw_put (pc := 43) (ci := 0) (q0 := 4) (f := 7) (CN := RX1) (T := TX1) (N := 8) (ty0 := tyX1) (w9 := ((q31, .inl (G.2.2.1 1, 40, .inl (fun _ => 0))) :: ((q23, .inl (G.2.2.1 1, 40, .inl (fun _ => 0))) :: ((q15, .inl (G.2.2.1 1, 40, .inl (fun _ => 0))) :: ((q7, .inl (G.2.2.1 1, 40, .inl (fun _ => 0))) :: ((q, .inr (0, [.null, .null, .ref q7, .ref q15, .ref q23, .ref q31, .int (nI 0), .int (nI 0)])) :: R)))))) dX1_init_43 inGX1 tyX1_ok nmX1 tw_394 rfl (by decide) rfl rfl rfl rfl (Nat.le_of_ble_eq_true rfl) rfl ?_
  refine aw_aload_n (pc := 46) (i := 0) dX1_init_46 rfl rfl ?_
  refine aw_aload_n (pc := 47) (i := 1) dX1_init_47 rfl rfl ?_
  refine aw_putF (pc := 48) (ci := 0) (q0 := 4) (f := 0) (CN := RX1) (T := TX1) (N := 8) (ty0 := tyX1) (w9 := ((q31, .inl (G.2.2.1 1, 40, .inl (fun _ => 0))) :: ((q23, .inl (G.2.2.1 1, 40, .inl (fun _ => 0))) :: ((q15, .inl (G.2.2.1 1, 40, .inl (fun _ => 0))) :: ((q7, .inl (G.2.2.1 1, 40, .inl (fun _ => 0))) :: ((q, .inr (0, [.ref x, .null, .ref q7, .ref q15, .ref q23, .ref q31, .int (nI 0), .int (nI 0)])) :: R)))))) dX1_init_48 inGX1 tyX1_ok nmX1 tw_387 rfl (by decide) rfl rfl rfl rfl rfl rfl (Nat.le_of_ble_eq_true rfl) rfl ?_
  refine aw_aload_n (pc := 51) (i := 0) dX1_init_51 rfl rfl ?_
  refine aw_aload_n (pc := 52) (i := 2) dX1_init_52 rfl rfl ?_
  refine aw_put (pc := 53) (ci := 0) (q0 := 4) (f := 1) (CN := RX1) (T := TX1) (N := 8) (ty0 := tyX1) (w9 := ((q31, .inl (G.2.2.1 1, 40, .inl (fun _ => 0))) :: ((q23, .inl (G.2.2.1 1, 40, .inl (fun _ => 0))) :: ((q15, .inl (G.2.2.1 1, 40, .inl (fun _ => 0))) :: ((q7, .inl (G.2.2.1 1, 40, .inl (fun _ => 0))) :: ((q, .inr (0, [.ref x, .ref y, .ref q7, .ref q15, .ref q23, .ref q31, .int (nI 0), .int (nI 0)])) :: R)))))) dX1_init_53 inGX1 tyX1_ok nmX1 tw_388 rfl (by decide) rfl rfl rfl rfl (Nat.le_of_ble_eq_true rfl) rfl ?_
  refine aw_perm (w9 := wBk G.2.2.1 (aL [0, 0, q7, q15, q23, q31, 0, 0, q]) (kZ [.ref x, .ref y, .null, .null, .null, .null, .int (nI 0), .int (nI 0)]) ++ R) (List.Perm.append_right R (List.reverse_perm (wBk G.2.2.1 (aL [0, 0, q7, q15, q23, q31, 0, 0, q]) (kZ [.ref x, .ref y, .null, .null, .null, .null, .int (nI 0), .int (nI 0)])))) ?_
  exact aw_vret (pc := 56) dX1_init_56 rfl (by decide) (by decide) (kk _ rfl)
set_option maxHeartbeats 1000000 in
set_option maxRecDepth 20000 in
theorem i_X6 {G : xG} {d : Nat} {Q : xQ} {q : Nat} {R : va_W} {x y : Nat} (hAO : AO G) (kk : ∀ a : Nat → Nat, a 8 = q → Q none (wSe G.2.2.1 a (kZ [.ref x, .ref y, .null, .null, .null, .int (nI 0), .null, .int (nI 0)]) ++ R)) : MT G MX6_init (d + 1) 4 160 [.ref q, .ref x, .ref y] ((q, .inr (5, [.null, .null, .null, .null, .null, .int 0, .null, .int 0])) :: R) Q := by
  refine mt_start (L := [some (.ref q), some (.ref x), some (.ref y)]) rfl (Nat.le_of_ble_eq_true rfl) rfl ?_
  refine aw_aload_n (pc := 0) (i := 0) dX6_init_0 rfl rfl ?_
  refine aw_obj0 (pc := 1) dX6_init_1 rfl (gtbl_in (List.mem_of_getElem? (i := 1174) (by decide +kernel)) rfl) (gtbl_in (List.mem_of_getElem? (i := 139) (by decide +kernel)) rfl) (gtbl_in (List.mem_of_getElem? (i := 140) (by decide +kernel)) rfl) (Nat.le_of_ble_eq_true rfl) ?_
  refine aw_aload_n (pc := 4) (i := 0) dX6_init_4 rfl rfl ?_
  refine aw_bipush (pc := 5) dX6_init_5 bipush_40 ?_
  refine aw_newQ (j := 5) (pc := 7) dX6_init_7 rfl (gtbl_in (List.mem_of_getElem? (i := 1175) (by decide +kernel)) rfl) (fun A U h => (hAO A U h).2) rfl (by decide) (by decide) (by decide) (fun q7 => ?_)
  refine aw_putF (pc := 10) (ci := 5) (q0 := 1) (f := 2) (CN := RX6) (T := TX6) (N := 8) (ty0 := tyX6) (w9 := ((q7, .inl (G.2.2.1 5, 40, .inr (.inr (.inr (.inr (fun _ => none)))))) :: ((q, .inr (5, [.null, .null, .ref q7, .null, .null, .int 0, .null, .int 0])) :: R))) dX6_init_10 inGX6 tyX6_ok nmX6 tw_1178 rfl (by decide) rfl rfl rfl rfl rfl rfl (Nat.le_of_ble_eq_true rfl) rfl ?_
  refine aw_aload_n (pc := 13) (i := 0) dX6_init_13 rfl rfl ?_
  refine aw_bipush (pc := 14) dX6_init_14 bipush_40 ?_
  refine aw_newI (pc := 16) dX6_init_16 (by decide) (by decide) (by decide) (fun q16 => ?_)
  refine aw_putF (pc := 18) (ci := 5) (q0 := 2) (f := 3) (CN := RX6) (T := TX6) (N := 8) (ty0 := tyX6) (w9 := ((q16, .inl (G.2.2.1 1, 40, .inl (fun _ => 0))) :: ((q7, .inl (G.2.2.1 5, 40, .inr (.inr (.inr (.inr (fun _ => none)))))) :: ((q, .inr (5, [.null, .null, .ref q7, .ref q16, .null, .int 0, .null, .int 0])) :: R)))) dX6_init_18 inGX6 tyX6_ok nmX6 tw_1179 rfl (by decide) rfl rfl rfl rfl rfl rfl (Nat.le_of_ble_eq_true rfl) rfl ?_
  refine aw_aload_n (pc := 21) (i := 0) dX6_init_21 rfl rfl ?_
  refine aw_bipush (pc := 22) dX6_init_22 bipush_40 ?_
  refine aw_newI (pc := 24) dX6_init_24 (by decide) (by decide) (by decide) (fun q24 => ?_)
  refine aw_putF (pc := 26) (ci := 5) (q0 := 3) (f := 4) (CN := RX6) (T := TX6) (N := 8) (ty0 := tyX6) (w9 := ((q24, .inl (G.2.2.1 1, 40, .inl (fun _ => 0))) :: ((q16, .inl (G.2.2.1 1, 40, .inl (fun _ => 0))) :: ((q7, .inl (G.2.2.1 5, 40, .inr (.inr (.inr (.inr (fun _ => none)))))) :: ((q, .inr (5, [.null, .null, .ref q7, .ref q16, .ref q24, .int 0, .null, .int 0])) :: R))))) dX6_init_26 inGX6 tyX6_ok nmX6 tw_1180 rfl (by decide) rfl rfl rfl rfl rfl rfl (Nat.le_of_ble_eq_true rfl) rfl ?_
  refine aw_aload_n (pc := 29) (i := 0) dX6_init_29 rfl rfl ?_
  refine aw_iconst (pc := 30) dX6_init_30 iconst_0 ?_
  refine aw_put (pc := 31) (ci := 5) (q0 := 3) (f := 5) (CN := RX6) (T := TX6) (N := 8) (ty0 := tyX6) (w9 := ((q24, .inl (G.2.2.1 1, 40, .inl (fun _ => 0))) :: ((q16, .inl (G.2.2.1 1, 40, .inl (fun _ => 0))) :: ((q7, .inl (G.2.2.1 5, 40, .inr (.inr (.inr (.inr (fun _ => none)))))) :: ((q, .inr (5, [.null, .null, .ref q7, .ref q16, .ref q24, .int (nI 0), .null, .int 0])) :: R))))) dX6_init_31 inGX6 tyX6_ok nmX6 tw_1181 rfl (by decide) rfl rfl rfl rfl (Nat.le_of_ble_eq_true rfl) rfl ?_
  refine aw_aload_n (pc := 34) (i := 0) dX6_init_34 rfl rfl ?_
  refine aw_bipush (pc := 35) dX6_init_35 bipush_40 ?_
  refine aw_newI (pc := 37) dX6_init_37 (by decide) (by decide) (by decide) (fun q37 => ?_)
  refine aw_putF (pc := 39) (ci := 5) (q0 := 4) (f := 6) (CN := RX6) (T := TX6) (N := 8) (ty0 := tyX6) (w9 := ((q37, .inl (G.2.2.1 1, 40, .inl (fun _ => 0))) :: ((q24, .inl (G.2.2.1 1, 40, .inl (fun _ => 0))) :: ((q16, .inl (G.2.2.1 1, 40, .inl (fun _ => 0))) :: ((q7, .inl (G.2.2.1 5, 40, .inr (.inr (.inr (.inr (fun _ => none)))))) :: ((q, .inr (5, [.null, .null, .ref q7, .ref q16, .ref q24, .int (nI 0), .ref q37, .int 0])) :: R)))))) dX6_init_39 inGX6 tyX6_ok nmX6 tw_1182 rfl (by decide) rfl rfl rfl rfl rfl rfl (Nat.le_of_ble_eq_true rfl) rfl ?_
  refine aw_aload_n (pc := 42) (i := 0) dX6_init_42 rfl rfl ?_
  refine aw_iconst (pc := 43) dX6_init_43 iconst_0 ?_
  refine aw_put (pc := 44) (ci := 5) (q0 := 4) (f := 7) (CN := RX6) (T := TX6) (N := 8) (ty0 := tyX6) (w9 := ((q37, .inl (G.2.2.1 1, 40, .inl (fun _ => 0))) :: ((q24, .inl (G.2.2.1 1, 40, .inl (fun _ => 0))) :: ((q16, .inl (G.2.2.1 1, 40, .inl (fun _ => 0))) :: ((q7, .inl (G.2.2.1 5, 40, .inr (.inr (.inr (.inr (fun _ => none)))))) :: ((q, .inr (5, [.null, .null, .ref q7, .ref q16, .ref q24, .int (nI 0), .ref q37, .int (nI 0)])) :: R)))))) dX6_init_44 inGX6 tyX6_ok nmX6 tw_1183 rfl (by decide) rfl rfl rfl rfl (Nat.le_of_ble_eq_true rfl) rfl ?_
  refine aw_aload_n (pc := 47) (i := 0) dX6_init_47 rfl rfl ?_
  refine aw_aload_n (pc := 48) (i := 1) dX6_init_48 rfl rfl ?_
  refine aw_putF (pc := 49) (ci := 5) (q0 := 4) (f := 0) (CN := RX6) (T := TX6) (N := 8) (ty0 := tyX6) (w9 := ((q37, .inl (G.2.2.1 1, 40, .inl (fun _ => 0))) :: ((q24, .inl (G.2.2.1 1, 40, .inl (fun _ => 0))) :: ((q16, .inl (G.2.2.1 1, 40, .inl (fun _ => 0))) :: ((q7, .inl (G.2.2.1 5, 40, .inr (.inr (.inr (.inr (fun _ => none)))))) :: ((q, .inr (5, [.ref x, .null, .ref q7, .ref q16, .ref q24, .int (nI 0), .ref q37, .int (nI 0)])) :: R)))))) dX6_init_49 inGX6 tyX6_ok nmX6 tw_1176 rfl (by decide) rfl rfl rfl rfl rfl rfl (Nat.le_of_ble_eq_true rfl) rfl ?_
  refine aw_aload_n (pc := 52) (i := 0) dX6_init_52 rfl rfl ?_
  refine aw_aload_n (pc := 53) (i := 2) dX6_init_53 rfl rfl ?_
  refine aw_putF (pc := 54) (ci := 5) (q0 := 4) (f := 1) (CN := RX6) (T := TX6) (N := 8) (ty0 := tyX6) (w9 := ((q37, .inl (G.2.2.1 1, 40, .inl (fun _ => 0))) :: ((q24, .inl (G.2.2.1 1, 40, .inl (fun _ => 0))) :: ((q16, .inl (G.2.2.1 1, 40, .inl (fun _ => 0))) :: ((q7, .inl (G.2.2.1 5, 40, .inr (.inr (.inr (.inr (fun _ => none)))))) :: ((q, .inr (5, [.ref x, .ref y, .ref q7, .ref q16, .ref q24, .int (nI 0), .ref q37, .int (nI 0)])) :: R)))))) dX6_init_54 inGX6 tyX6_ok nmX6 tw_1177 rfl (by decide) rfl rfl rfl rfl rfl rfl (Nat.le_of_ble_eq_true rfl) rfl ?_
  refine aw_perm (w9 := wSe G.2.2.1 (aL [0, 0, q7, q16, q24, 0, q37, 0, q]) (kZ [.ref x, .ref y, .null, .null, .null, .int (nI 0), .null, .int (nI 0)]) ++ R) (List.Perm.append_right R (List.reverse_perm (wSe G.2.2.1 (aL [0, 0, q7, q16, q24, 0, q37, 0, q]) (kZ [.ref x, .ref y, .null, .null, .null, .int (nI 0), .null, .int (nI 0)])))) ?_
  exact aw_vret (pc := 57) dX6_init_57 rfl (by decide) (by decide) (kk _ rfl)
theorem oi_X9_48 : xIok "InchBorders$Walk" MX5_init 48 1 := ⟨(gtbl_in (List.mem_of_getElem? (i := 206) (by decide +kernel)) rfl), (gtbl_in (List.mem_of_getElem? (i := 420) (by decide +kernel)) rfl), (gtbl_in (List.mem_of_getElem? (i := 205) (by decide +kernel)) rfl), tw_111, by decide +kernel, by decide, rfl, rfl⟩
theorem oi_X2_30 : xIok "InchBorders$Caravan" MX5_init 30 1 := ⟨(gtbl_in (List.mem_of_getElem? (i := 206) (by decide +kernel)) rfl), (gtbl_in (List.mem_of_getElem? (i := 469) (by decide +kernel)) rfl), (gtbl_in (List.mem_of_getElem? (i := 205) (by decide +kernel)) rfl), tw_111, by decide +kernel, by decide, rfl, rfl⟩
set_option maxHeartbeats 1000000 in
set_option maxRecDepth 20000 in
theorem i_X9 {G : xG} {d : Nat} {Q : xQ} {q : Nat} {R : va_W} {x : Nat} (kk : ∀ a e : Nat → Nat, a 13 = q → Q none (wWk G.2.2.1 a (kZ [.ref x, .int (nI 0), .int (nI 0), .int (nI 0), .int (nI 0), .int (nI 0), .int (nI 0), .int (nI 0), .null, .null, .int (nI 0), .int ((-1)), .ref (e 2)]) ++ (wRw G.2.2.1 e 5 (kZ [.null, .int (nI 0)]) ++ R))) : MT G MX9_init (d + 2) 4 19 [.ref q, .ref x] ((q, .inr (8, [.null, .int 0, .int 0, .int 0, .int 0, .int 0, .int 0, .int 0, .null, .null, .int 0, .int 0, .null])) :: R) Q := by
  refine mt_start (L := [some (.ref q), some (.ref x)]) rfl (Nat.le_of_ble_eq_true rfl) rfl ?_
  refine aw_aload_n (pc := 0) (i := 0) dX9_init_0 rfl rfl ?_
  refine aw_obj0 (pc := 1) dX9_init_1 rfl (gtbl_in (List.mem_of_getElem? (i := 418) (by decide +kernel)) rfl) (gtbl_in (List.mem_of_getElem? (i := 139) (by decide +kernel)) rfl) (gtbl_in (List.mem_of_getElem? (i := 140) (by decide +kernel)) rfl) (Nat.le_of_ble_eq_true rfl) ?_
  refine aw_aload_n (pc := 4) (i := 0) dX9_init_4 rfl rfl ?_
  refine aw_iconst (pc := 5) dX9_init_5 iconst_0 ?_
  refine aw_put (pc := 6) (ci := 8) (q0 := 0) (f := 1) (CN := RX9) (T := TX9) (N := 13) (ty0 := tyX9) (w9 := ((q, .inr (8, [.null, .int (nI 0), .int 0, .int 0, .int 0, .int 0, .int 0, .int 0, .null, .null, .int 0, .int 0, .null])) :: R)) dX9_init_6 inGX9 tyX9_ok nmX9 tw_422 rfl (by decide) rfl rfl rfl rfl (Nat.le_of_ble_eq_true rfl) rfl ?_
  refine aw_aload_n (pc := 9) (i := 0) dX9_init_9 rfl rfl ?_
  refine aw_iconst (pc := 10) dX9_init_10 iconst_0 ?_
  refine aw_put (pc := 11) (ci := 8) (q0 := 0) (f := 2) (CN := RX9) (T := TX9) (N := 13) (ty0 := tyX9) (w9 := ((q, .inr (8, [.null, .int (nI 0), .int (nI 0), .int 0, .int 0, .int 0, .int 0, .int 0, .null, .null, .int 0, .int 0, .null])) :: R)) dX9_init_11 inGX9 tyX9_ok nmX9 tw_423 rfl (by decide) rfl rfl rfl rfl (Nat.le_of_ble_eq_true rfl) rfl ?_
  refine aw_aload_n (pc := 14) (i := 0) dX9_init_14 rfl rfl ?_
  refine aw_iconst (pc := 15) dX9_init_15 iconst_0 ?_
  refine aw_put (pc := 16) (ci := 8) (q0 := 0) (f := 3) (CN := RX9) (T := TX9) (N := 13) (ty0 := tyX9) (w9 := ((q, .inr (8, [.null, .int (nI 0), .int (nI 0), .int (nI 0), .int 0, .int 0, .int 0, .int 0, .null, .null, .int 0, .int 0, .null])) :: R)) dX9_init_16 inGX9 tyX9_ok nmX9 tw_424 rfl (by decide) rfl rfl rfl rfl (Nat.le_of_ble_eq_true rfl) rfl ?_
  refine aw_aload_n (pc := 19) (i := 0) dX9_init_19 rfl rfl ?_
  refine aw_iconst (pc := 20) dX9_init_20 iconst_0 ?_
  refine aw_put (pc := 21) (ci := 8) (q0 := 0) (f := 4) (CN := RX9) (T := TX9) (N := 13) (ty0 := tyX9) (w9 := ((q, .inr (8, [.null, .int (nI 0), .int (nI 0), .int (nI 0), .int (nI 0), .int 0, .int 0, .int 0, .null, .null, .int 0, .int 0, .null])) :: R)) dX9_init_21 inGX9 tyX9_ok nmX9 tw_425 rfl (by decide) rfl rfl rfl rfl (Nat.le_of_ble_eq_true rfl) rfl ?_
  refine aw_aload_n (pc := 24) (i := 0) dX9_init_24 rfl rfl ?_
  refine aw_iconst (pc := 25) dX9_init_25 iconst_0 ?_
  refine aw_put (pc := 26) (ci := 8) (q0 := 0) (f := 5) (CN := RX9) (T := TX9) (N := 13) (ty0 := tyX9) (w9 := ((q, .inr (8, [.null, .int (nI 0), .int (nI 0), .int (nI 0), .int (nI 0), .int (nI 0), .int 0, .int 0, .null, .null, .int 0, .int 0, .null])) :: R)) dX9_init_26 inGX9 tyX9_ok nmX9 tw_426 rfl (by decide) rfl rfl rfl rfl (Nat.le_of_ble_eq_true rfl) rfl ?_
  refine aw_aload_n (pc := 29) (i := 0) dX9_init_29 rfl rfl ?_
  refine aw_iconst (pc := 30) dX9_init_30 iconst_0 ?_
  refine aw_put (pc := 31) (ci := 8) (q0 := 0) (f := 6) (CN := RX9) (T := TX9) (N := 13) (ty0 := tyX9) (w9 := ((q, .inr (8, [.null, .int (nI 0), .int (nI 0), .int (nI 0), .int (nI 0), .int (nI 0), .int (nI 0), .int 0, .null, .null, .int 0, .int 0, .null])) :: R)) dX9_init_31 inGX9 tyX9_ok nmX9 tw_427 rfl (by decide) rfl rfl rfl rfl (Nat.le_of_ble_eq_true rfl) rfl ?_
  refine aw_aload_n (pc := 34) (i := 0) dX9_init_34 rfl rfl ?_
  refine aw_iconst (pc := 35) dX9_init_35 iconst_0 ?_
  refine aw_put (pc := 36) (ci := 8) (q0 := 0) (f := 7) (CN := RX9) (T := TX9) (N := 13) (ty0 := tyX9) (w9 := ((q, .inr (8, [.null, .int (nI 0), .int (nI 0), .int (nI 0), .int (nI 0), .int (nI 0), .int (nI 0), .int (nI 0), .null, .null, .int 0, .int 0, .null])) :: R)) dX9_init_36 inGX9 tyX9_ok nmX9 tw_428 rfl (by decide) rfl rfl rfl rfl (Nat.le_of_ble_eq_true rfl) rfl ?_
  refine aw_aload_n (pc := 39) (i := 0) dX9_init_39 rfl rfl ?_
  refine aw_iconst (pc := 40) dX9_init_40 iconst_5 ?_
  refine aw_newI (pc := 41) dX9_init_41 (by decide) (by decide) (by decide) (fun q41 => ?_)
  refine aw_putF (pc := 43) (ci := 8) (q0 := 1) (f := 8) (CN := RX9) (T := TX9) (N := 13) (ty0 := tyX9) (w9 := ((q41, .inl (G.2.2.1 1, 5, .inl (fun _ => 0))) :: ((q, .inr (8, [.null, .int (nI 0), .int (nI 0), .int (nI 0), .int (nI 0), .int (nI 0), .int (nI 0), .int (nI 0), .ref q41, .null, .int 0, .int 0, .null])) :: R))) dX9_init_43 inGX9 tyX9_ok nmX9 tw_429 rfl (by decide) rfl rfl rfl rfl rfl rfl (Nat.le_of_ble_eq_true rfl) rfl ?_
  refine aw_aload_n (pc := 46) (i := 0) dX9_init_46 rfl rfl ?_
  refine aw_bipush (pc := 47) dX9_init_47 bipush_7 ?_
  refine aw_newI (pc := 49) dX9_init_49 (by decide) (by decide) (by decide) (fun q49 => ?_)
  refine aw_putF (pc := 51) (ci := 8) (q0 := 2) (f := 9) (CN := RX9) (T := TX9) (N := 13) (ty0 := tyX9) (w9 := ((q49, .inl (G.2.2.1 1, 7, .inl (fun _ => 0))) :: ((q41, .inl (G.2.2.1 1, 5, .inl (fun _ => 0))) :: ((q, .inr (8, [.null, .int (nI 0), .int (nI 0), .int (nI 0), .int (nI 0), .int (nI 0), .int (nI 0), .int (nI 0), .ref q41, .ref q49, .int 0, .int 0, .null])) :: R)))) dX9_init_51 inGX9 tyX9_ok nmX9 tw_430 rfl (by decide) rfl rfl rfl rfl rfl rfl (Nat.le_of_ble_eq_true rfl) rfl ?_
  refine aw_aload_n (pc := 54) (i := 0) dX9_init_54 rfl rfl ?_
  refine aw_iconst (pc := 55) dX9_init_55 iconst_0 ?_
  refine aw_put (pc := 56) (ci := 8) (q0 := 2) (f := 10) (CN := RX9) (T := TX9) (N := 13) (ty0 := tyX9) (w9 := ((q49, .inl (G.2.2.1 1, 7, .inl (fun _ => 0))) :: ((q41, .inl (G.2.2.1 1, 5, .inl (fun _ => 0))) :: ((q, .inr (8, [.null, .int (nI 0), .int (nI 0), .int (nI 0), .int (nI 0), .int (nI 0), .int (nI 0), .int (nI 0), .ref q41, .ref q49, .int (nI 0), .int 0, .null])) :: R)))) dX9_init_56 inGX9 tyX9_ok nmX9 tw_431 rfl (by decide) rfl rfl rfl rfl (Nat.le_of_ble_eq_true rfl) rfl ?_
  refine aw_aload_n (pc := 59) (i := 0) dX9_init_59 rfl rfl ?_
  refine aw_iconst (pc := 60) dX9_init_60 iconst_m1 ?_
  refine aw_put (pc := 61) (ci := 8) (q0 := 2) (f := 11) (CN := RX9) (T := TX9) (N := 13) (ty0 := tyX9) (w9 := ((q49, .inl (G.2.2.1 1, 7, .inl (fun _ => 0))) :: ((q41, .inl (G.2.2.1 1, 5, .inl (fun _ => 0))) :: ((q, .inr (8, [.null, .int (nI 0), .int (nI 0), .int (nI 0), .int (nI 0), .int (nI 0), .int (nI 0), .int (nI 0), .ref q41, .ref q49, .int (nI 0), .int ((-1)), .null])) :: R)))) dX9_init_61 inGX9 tyX9_ok nmX9 tw_432 rfl (by decide) rfl rfl rfl rfl (Nat.le_of_ble_eq_true rfl) rfl ?_
  refine aw_aload_n (pc := 64) (i := 0) dX9_init_64 rfl rfl ?_
  refine aw_new (pc := 65) (fs := [.null, .int 0]) (T := TX5) (ty := tyX5) dX9_init_65 rfl (gtbl_in (List.mem_of_getElem? (i := 419) (by decide +kernel)) rfl) (gtbl_in (List.mem_of_getElem? (i := 203) (by decide +kernel)) rfl) tw_111 inGX5 tyX5_ok (ci := 4) rfl (fun j hj => by have hj : j < 2 := hj; rcases (show j = 0 ∨ j = 1 by omega) with rfl | rfl <;> rfl) (by decide) (by decide) (fun q65 => ?_)
  refine aw_dup (pc := 68) dX9_init_68 rfl ?_
  refine aw_iconst (pc := 69) dX9_init_69 iconst_5 ?_
  refine aw_cI (pc := 70) (As := [.int (nI 5)]) (rest := [.ref q65, .ref q]) dX9_init_70 rfl oi_X9_48 rfl rfl (Nat.le_of_ble_eq_true rfl) (by decide) (by decide) (i_X5 (by decide) (fun e he => ⟨rfl, ?_⟩))
  subst he
  refine aw_putF (pc := 73) (ci := 8) (q0 := 4) (f := 12) (CN := RX9) (T := TX9) (N := 13) (ty0 := tyX9) (w9 := (wRw G.2.2.1 e 5 (kZ [.null, .int (nI 0)]) ++ ((q49, .inl (G.2.2.1 1, 7, .inl (fun _ => 0))) :: ((q41, .inl (G.2.2.1 1, 5, .inl (fun _ => 0))) :: ((q, .inr (8, [.null, .int (nI 0), .int (nI 0), .int (nI 0), .int (nI 0), .int (nI 0), .int (nI 0), .int (nI 0), .ref q41, .ref q49, .int (nI 0), .int ((-1)), .ref (e 2)])) :: R))))) dX9_init_73 inGX9 tyX9_ok nmX9 tw_433 rfl (by decide) rfl rfl rfl rfl rfl rfl (Nat.le_of_ble_eq_true rfl) rfl ?_
  refine aw_aload_n (pc := 76) (i := 0) dX9_init_76 rfl rfl ?_
  refine aw_aload_n (pc := 77) (i := 1) dX9_init_77 rfl rfl ?_
  refine aw_put (pc := 78) (ci := 8) (q0 := 4) (f := 0) (CN := RX9) (T := TX9) (N := 13) (ty0 := tyX9) (w9 := (wRw G.2.2.1 e 5 (kZ [.null, .int (nI 0)]) ++ ((q49, .inl (G.2.2.1 1, 7, .inl (fun _ => 0))) :: ((q41, .inl (G.2.2.1 1, 5, .inl (fun _ => 0))) :: ((q, .inr (8, [.ref x, .int (nI 0), .int (nI 0), .int (nI 0), .int (nI 0), .int (nI 0), .int (nI 0), .int (nI 0), .ref q41, .ref q49, .int (nI 0), .int ((-1)), .ref (e 2)])) :: R))))) dX9_init_78 inGX9 tyX9_ok nmX9 tw_421 rfl (by decide) rfl rfl rfl rfl (Nat.le_of_ble_eq_true rfl) rfl ?_
  refine aw_perm (w9 := wWk G.2.2.1 (aL [0, 0, 0, 0, 0, 0, 0, 0, q41, q49, 0, 0, 0, q]) (kZ [.ref x, .int (nI 0), .int (nI 0), .int (nI 0), .int (nI 0), .int (nI 0), .int (nI 0), .int (nI 0), .null, .null, .int (nI 0), .int ((-1)), .ref (e 2)]) ++ (wRw G.2.2.1 e 5 (kZ [.null, .int (nI 0)]) ++ R)) (List.Perm.trans (List.Perm.append_left _ (List.Perm.append_right R (List.reverse_perm (wWk G.2.2.1 (aL [0, 0, 0, 0, 0, 0, 0, 0, q41, q49, 0, 0, 0, q]) (kZ [.ref x, .int (nI 0), .int (nI 0), .int (nI 0), .int (nI 0), .int (nI 0), .int (nI 0), .int (nI 0), .null, .null, .int (nI 0), .int ((-1)), .ref (e 2)]))))) (by rw [← List.append_assoc, ← List.append_assoc]; exact List.Perm.append_right R List.perm_append_comm)) ?_
  exact aw_vret (pc := 81) dX9_init_81 rfl (by decide) (by decide) (kk _ e rfl)
