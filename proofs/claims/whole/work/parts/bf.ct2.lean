set_option maxHeartbeats 1000000 in
set_option maxRecDepth 20000 in
theorem i_X2 {G : xG} {d : Nat} {Q : xQ} {q : Nat} {R : va_W} {x y : Nat} {vv : Nat → Value} (hO : OV G R 6 x vv) (hv : vv 0 = .ref y) (kk : ∀ a e : Nat → Nat, a 8 = q → Q none (wCv G.2.2.1 a (kZ [.ref x, .ref y, .int (nI 0), .int (nI 0), .int (nI 0), .null, .int ((-1)), .ref (e 2)]) ++ (wRw G.2.2.1 e 6 (kZ [.null, .int (nI 0)]) ++ R))) : MT G MX2_init (d + 2) 3 14 [.ref q, .ref x] ((q, .inr (1, [.null, .null, .int 0, .int 0, .int 0, .null, .int 0, .null])) :: R) Q := by
  refine mt_start (L := [some (.ref q), some (.ref x)]) rfl (Nat.le_of_ble_eq_true rfl) rfl ?_
  refine aw_aload_n (pc := 0) (i := 0) dX2_init_0 rfl rfl ?_
  refine aw_obj0 (pc := 1) dX2_init_1 rfl (gtbl_in (List.mem_of_getElem? (i := 467) (by decide +kernel)) rfl) (gtbl_in (List.mem_of_getElem? (i := 139) (by decide +kernel)) rfl) (gtbl_in (List.mem_of_getElem? (i := 140) (by decide +kernel)) rfl) (Nat.le_of_ble_eq_true rfl) ?_
  refine aw_aload_n (pc := 4) (i := 0) dX2_init_4 rfl rfl ?_
  refine aw_iconst (pc := 5) dX2_init_5 iconst_0 ?_
  refine aw_put (pc := 6) (ci := 1) (q0 := 0) (f := 2) (CN := RX2) (T := TX2) (N := 8) (ty0 := tyX2) (w9 := ((q, .inr (1, [.null, .null, .int (nI 0), .int 0, .int 0, .null, .int 0, .null])) :: R)) dX2_init_6 inGX2 tyX2_ok nmX2 tw_472 rfl (by decide) rfl rfl rfl rfl (Nat.le_of_ble_eq_true rfl) rfl ?_
  refine aw_aload_n (pc := 9) (i := 0) dX2_init_9 rfl rfl ?_
  refine aw_iconst (pc := 10) dX2_init_10 iconst_0 ?_
  refine aw_put (pc := 11) (ci := 1) (q0 := 0) (f := 3) (CN := RX2) (T := TX2) (N := 8) (ty0 := tyX2) (w9 := ((q, .inr (1, [.null, .null, .int (nI 0), .int (nI 0), .int 0, .null, .int 0, .null])) :: R)) dX2_init_11 inGX2 tyX2_ok nmX2 tw_473 rfl (by decide) rfl rfl rfl rfl (Nat.le_of_ble_eq_true rfl) rfl ?_
  refine aw_aload_n (pc := 14) (i := 0) dX2_init_14 rfl rfl ?_
  refine aw_iconst (pc := 15) dX2_init_15 iconst_0 ?_
  refine aw_put (pc := 16) (ci := 1) (q0 := 0) (f := 4) (CN := RX2) (T := TX2) (N := 8) (ty0 := tyX2) (w9 := ((q, .inr (1, [.null, .null, .int (nI 0), .int (nI 0), .int (nI 0), .null, .int 0, .null])) :: R)) dX2_init_16 inGX2 tyX2_ok nmX2 tw_474 rfl (by decide) rfl rfl rfl rfl (Nat.le_of_ble_eq_true rfl) rfl ?_
  refine aw_aload_n (pc := 19) (i := 0) dX2_init_19 rfl rfl ?_
  refine aw_bipush (pc := 20) dX2_init_20 bipush_6 ?_
  refine aw_newI (pc := 22) dX2_init_22 (by decide) (by decide) (by decide) (fun q22 => ?_)
  refine aw_putF (pc := 24) (ci := 1) (q0 := 1) (f := 5) (CN := RX2) (T := TX2) (N := 8) (ty0 := tyX2) (w9 := ((q22, .inl (G.2.2.1 1, 6, .inl (fun _ => 0))) :: ((q, .inr (1, [.null, .null, .int (nI 0), .int (nI 0), .int (nI 0), .ref q22, .int 0, .null])) :: R))) dX2_init_24 inGX2 tyX2_ok nmX2 tw_475 rfl (by decide) rfl rfl rfl rfl rfl rfl (Nat.le_of_ble_eq_true rfl) rfl ?_
  refine aw_aload_n (pc := 27) (i := 0) dX2_init_27 rfl rfl ?_
  refine aw_iconst (pc := 28) dX2_init_28 iconst_m1 ?_
  refine aw_put (pc := 29) (ci := 1) (q0 := 1) (f := 6) (CN := RX2) (T := TX2) (N := 8) (ty0 := tyX2) (w9 := ((q22, .inl (G.2.2.1 1, 6, .inl (fun _ => 0))) :: ((q, .inr (1, [.null, .null, .int (nI 0), .int (nI 0), .int (nI 0), .ref q22, .int ((-1)), .null])) :: R))) dX2_init_29 inGX2 tyX2_ok nmX2 tw_476 rfl (by decide) rfl rfl rfl rfl (Nat.le_of_ble_eq_true rfl) rfl ?_
  refine aw_aload_n (pc := 32) (i := 0) dX2_init_32 rfl rfl ?_
  refine aw_new (pc := 33) (fs := [.null, .int 0]) (T := TX5) (ty := tyX5) dX2_init_33 rfl (gtbl_in (List.mem_of_getElem? (i := 468) (by decide +kernel)) rfl) (gtbl_in (List.mem_of_getElem? (i := 203) (by decide +kernel)) rfl) tw_111 inGX5 tyX5_ok (ci := 4) rfl (fun j hj => by have hj : j < 2 := hj; rcases (show j = 0 ∨ j = 1 by omega) with rfl | rfl <;> rfl) (by decide) (by decide) (fun q33 => ?_)
  refine aw_dup (pc := 36) dX2_init_36 rfl ?_
  refine aw_bipush (pc := 37) dX2_init_37 bipush_6 ?_
  refine aw_cI (pc := 39) (As := [.int (nI 6)]) (rest := [.ref q33, .ref q]) dX2_init_39 rfl oi_X2_30 rfl rfl (Nat.le_of_ble_eq_true rfl) (by decide) (by decide) (i_X5 (by decide) (fun e he => ⟨rfl, ?_⟩))
  subst he
  refine aw_putF (pc := 42) (ci := 1) (q0 := 3) (f := 7) (CN := RX2) (T := TX2) (N := 8) (ty0 := tyX2) (w9 := (wRw G.2.2.1 e 6 (kZ [.null, .int (nI 0)]) ++ ((q22, .inl (G.2.2.1 1, 6, .inl (fun _ => 0))) :: ((q, .inr (1, [.null, .null, .int (nI 0), .int (nI 0), .int (nI 0), .ref q22, .int ((-1)), .ref (e 2)])) :: R)))) dX2_init_42 inGX2 tyX2_ok nmX2 tw_477 rfl (by decide) rfl rfl rfl rfl rfl rfl (Nat.le_of_ble_eq_true rfl) rfl ?_
  refine aw_aload_n (pc := 45) (i := 0) dX2_init_45 rfl rfl ?_
  refine aw_aload_n (pc := 46) (i := 1) dX2_init_46 rfl rfl ?_
  refine aw_put (pc := 47) (ci := 1) (q0 := 3) (f := 0) (CN := RX2) (T := TX2) (N := 8) (ty0 := tyX2) (w9 := (wRw G.2.2.1 e 6 (kZ [.null, .int (nI 0)]) ++ ((q22, .inl (G.2.2.1 1, 6, .inl (fun _ => 0))) :: ((q, .inr (1, [.ref x, .null, .int (nI 0), .int (nI 0), .int (nI 0), .ref q22, .int ((-1)), .ref (e 2)])) :: R)))) dX2_init_47 inGX2 tyX2_ok nmX2 tw_470 rfl (by decide) rfl rfl rfl rfl (Nat.le_of_ble_eq_true rfl) rfl ?_
  refine aw_aload_n (pc := 50) (i := 0) dX2_init_50 rfl rfl ?_
  refine aw_aload_n (pc := 51) (i := 1) dX2_init_51 rfl rfl ?_
  refine av_get (pc := 52) (x := .ref y) dX2_init_52 rfl og_X2_41 rfl (hO.sub (fun _ h => List.mem_append_right _ (List.mem_cons_of_mem _ (List.mem_cons_of_mem _ (h))))) hv ?_
  refine aw_put (pc := 55) (ci := 1) (q0 := 3) (f := 1) (CN := RX2) (T := TX2) (N := 8) (ty0 := tyX2) (w9 := (wRw G.2.2.1 e 6 (kZ [.null, .int (nI 0)]) ++ ((q22, .inl (G.2.2.1 1, 6, .inl (fun _ => 0))) :: ((q, .inr (1, [.ref x, .ref y, .int (nI 0), .int (nI 0), .int (nI 0), .ref q22, .int ((-1)), .ref (e 2)])) :: R)))) dX2_init_55 inGX2 tyX2_ok nmX2 tw_471 rfl (by decide) rfl rfl rfl rfl (Nat.le_of_ble_eq_true rfl) rfl ?_
  refine aw_perm (w9 := wCv G.2.2.1 (aL [0, 0, 0, 0, 0, q22, 0, 0, q]) (kZ [.ref x, .ref y, .int (nI 0), .int (nI 0), .int (nI 0), .null, .int ((-1)), .ref (e 2)]) ++ (wRw G.2.2.1 e 6 (kZ [.null, .int (nI 0)]) ++ R)) (List.Perm.trans (List.Perm.append_left _ (List.Perm.append_right R (List.reverse_perm (wCv G.2.2.1 (aL [0, 0, 0, 0, 0, q22, 0, 0, q]) (kZ [.ref x, .ref y, .int (nI 0), .int (nI 0), .int (nI 0), .null, .int ((-1)), .ref (e 2)]))))) (by rw [← List.append_assoc, ← List.append_assoc]; exact List.Perm.append_right R List.perm_append_comm)) ?_
  exact aw_vret (pc := 58) dX2_init_58 rfl (by decide) (by decide) (kk _ e rfl)
