/-- a walk between two searches -/
def WKi (e : Nat → Nat) (κ κr : kS) : Prop := κ.1 12 = .ref (e 2) ∧ (∃ tg, κ.1 5 = .int (nI tg) ∧ tg < 2 ^ 31) ∧ (∃ nd, κ.1 6 = .int (nI nd) ∧ nd < 2 ^ 31) ∧ ∃ b : List Nat, RwR κr (b.map nI) ∧ b.length ≤ 5
theorem WKi.of {c e : Nat → Nat} {t : Nat → Nat} {hm sp g tg nd K : Nat} {A : wA} {κ κr : kS} (h : WKc c e t hm sp g tg nd κ) (ha : WKa A κ κr) (hb : WKb K A) (htg : tg < 2 ^ 31) (hnd : nd < 2 ^ 31) : WKi e κ κr := ⟨h.2.2.2.2.2.2.2, ⟨tg, h.2.2.2.2.2.1, htg⟩, ⟨nd, h.2.2.2.2.2.2.1, hnd⟩, A.2.1, ha.2.2.2.2, hb.2.1⟩
theorem or_sw (x y z : Nat) : x ||| y ||| z = x ||| z ||| y := by rw [Nat.or_assoc, Nat.or_comm y z, ← Nat.or_assoc]
theorem or_128 {x y : Nat} (hx : x < 128) (hy : y < 128) : x ||| y < 128 := Nat.or_lt_two_pow (n := 7) hx hy
set_option maxHeartbeats 1000000 in
set_option maxRecDepth 20000 in
theorem srch_loop {G : xG} {d : Nat} {Q : xQ} {a b c e : Nat → Nat} {κr : kS} {R : va_W} {t : Nat → Nat} {NM : Nat → Int64} {sn : Option Nat} {p : Nat} {g tg nd cr bs : Nat} {b0 : List Nat} (hN : NB G) (hS : STR G R b c sn t) (hC : CHR G R c t NM) (hw : WT t) (hp : p < t 2) (hg : g ≤ 2) (htg : tg < 2 ^ 31) (hnd : nd < 2 ^ 31) (hcr : cr ≤ 5) (hbs : bs < 128) (hb0 : b0.length ≤ 5) (hRw : RwR κr (b0.map nI)) (kk : ∀ κ9 κr9, WKc c e t (t (79 + p)) (t (101 + t (79 + p)) ||| bs) g tg nd κ9 → WKa (gW t (t (79 + p)) (sparedF t p ||| bs) g tg nd cr (nd0 t p) [] (cr + 1, b0, 0, fun _ => 0, 0)) κ9 κr9 → WKb (cr + 1) (gW t (t (79 + p)) (sparedF t p ||| bs) g tg nd cr (nd0 t p) [] (cr + 1, b0, 0, fun _ => 0, 0)) → Q none (wWk G.2.2.1 a κ9 ++ (wRw G.2.2.1 e 5 κr9 ++ R))) : ∀ (z l : Nat) (κ : kS), l + z = 7 → WKc c e t (t (79 + p)) (t (101 + t (79 + p)) ||| bs) g tg nd κ → κ.1 7 = .int (nI cr) → κ.1 10 = .int (nI 0) → κ.1 11 = .int (-1) → (∀ i, i < l → κ.2.1 9 i = nI 0) → AW G MX9_search (d + cr + 4 + 1) 0 0 Q 63 [some (.ref (a 13)), some (.ref (b 12)), some (.int (nI p)), some (.int (nI bs)), some (.int (nI cr)), some (.int (nI l))] [] (wWk G.2.2.1 a κ ++ (wRw G.2.2.1 e 5 κr ++ R)) 0 0 := by
  obtain ⟨hb, h0, h1, h2, hR, hP, hD, hCl, hT⟩ := id hw
  obtain ⟨hq1, hq2, hq3, hq4⟩ := hP p hp
  have hsp7 := hT (t (79 + p)) (by omega)
  intro z
  induction z with
  | zero =>
    intro l κ hl hWc h7 h10 h11 hz
    obtain ⟨sd, hSo, hS2, hS3, hS6, hS7, hS8, hS9, hS10⟩ := id hS
    refine aw_iload (pc := 63) dX9_search_63 rfl ?_
    refine aw_bipush (pc := 65) dX9_search_65 bipush_7 ?_
    refine an_icmp_ge (pc := 67) (tgt := 84) dX9_search_67 rfl (by omega) (by decide) (fun h67 => ?_) (fun h67 => ?_)
    · -- 84
      refine aw_aload_n (pc := 84) (i := 0) dX9_search_84 rfl rfl ?_
      refine aw_aload_n (pc := 85) (i := 1) dX9_search_85 rfl rfl ?_
      refine av_get (pc := 86) (x := .ref (b 6)) dX9_search_86 rfl og_X9_63 rfl (hSo.sub mem_ap2) rfl ?_
      refine aw_iload_n (pc := 89) (i := 2) dX9_search_89 rfl rfl ?_
      refine av_iald (pc := 90) (x := (nI (t (108 + p)))) dX9_search_90 (hS6.sub mem_ap2) (by omega) (by decide) rfl ?_
      refine aw_aload_n (pc := 91) (i := 1) dX9_search_91 rfl rfl ?_
      refine av_get (pc := 92) (x := .ref (b 7)) dX9_search_92 rfl og_X9_77 rfl (hSo.sub mem_ap2) rfl ?_
      refine aw_iload_n (pc := 95) (i := 2) dX9_search_95 rfl rfl ?_
      refine av_iald (pc := 96) (x := (nI (t (114 + p)))) dX9_search_96 (hS7.sub mem_ap2) (by omega) (by decide) rfl ?_
      refine aw_aload_n (pc := 97) (i := 1) dX9_search_97 rfl rfl ?_
      refine av_get (pc := 98) (x := .ref (b 2)) dX9_search_98 rfl og_X9_80 rfl (hSo.sub mem_ap2) rfl ?_
      refine aw_aload_n (pc := 101) (i := 0) dX9_search_101 rfl rfl ?_
      refine pg_X9_9 (pc := 102) (v := .int (nI (t (79 + p)))) dX9_search_102 rfl hWc.2.1 ?_
      refine av_iald (pc := 105) (x := (nI (t (94 + (t (79 + p)))))) dX9_search_105 (hS2.sub mem_ap2) (by omega) (by decide) rfl ?_
      refine aw_iconst (pc := 106) dX9_search_106 iconst_0 ?_
      refine cVv (pc := 107) (As := [.int (nI (t (108 + p))), .int (nI (t (114 + p))), .int (nI (t (94 + (t (79 + p))))), .int (nI 0)]) (rest := []) dX9_search_107 rfl oc_X9_83 rfl rfl (Nat.le_of_ble_eq_true rfl) rfl rfl ovX9 (Nat.le_refl _) (Nat.le_refl _) (c9_goOn (sp := t (101 + t (79 + p)) ||| bs) hN hC hw (by omega) (or_128 hsp7 hbs) hg htg hnd (by omega) cr _ (nd0 t p) [] (cr + 1, b0, 0, fun _ => 0, 0) _ _ 0 rfl (by omega) hWc ⟨by rw [dpI_s]; exact h7, h10, by rw [dpI_0]; exact h11, fun i hi => hz i (by omega), hRw⟩ (fun i hi => absurd hi (Nat.not_lt_zero _)) ⟨Nat.le_refl _, hb0, by show 0 ≤ 241; omega⟩ (by have : 8 ^ (cr + 1) ≤ 8 ^ 6 := Nat.pow_le_pow_right (by decide) (by omega); show 0 + _ ≤ _; omega) hq2 hq3 hq4 (hb _) ?_)
      rw [or_sw, show t (101 + t (79 + p)) ||| 2 ^ t (79 + p) ||| bs = sparedF t p ||| bs from rfl]
      intro κ1 κr1 g1 g2 g3 g4
      refine ⟨rfl, ?_⟩
      exact aw_vret (pc := 110) dX9_search_110 rfl (Nat.le_refl _) (Nat.le_refl _) (kk _ _ g1 g2 g3)
    · -- 70
      exfalso; omega
  | succ z ih =>
    intro l κ hl hWc h7 h10 h11 hz
    refine aw_iload (pc := 63) dX9_search_63 rfl ?_
    refine aw_bipush (pc := 65) dX9_search_65 bipush_7 ?_
    refine an_icmp_ge (pc := 67) (tgt := 84) dX9_search_67 rfl (by omega) (by decide) (fun h67 => ?_) (fun h67 => ?_)
    · -- 84
      exfalso; omega
    · -- 70
      refine aw_aload_n (pc := 70) (i := 0) dX9_search_70 rfl rfl ?_
      refine pg_X9_37 (pc := 71) dX9_search_71 rfl ?_
      refine aw_iload (pc := 74) dX9_search_74 rfl ?_
      refine aw_iconst (pc := 76) dX9_search_76 iconst_0 ?_
      refine ps_X9_ends (pc := 77) dX9_search_77 (by omega) ?_
      refine an_inc (pc := 78) (z := 1) dX9_search_78 rfl (Nat.le_of_ble_eq_true rfl) rfl ?_
      refine aw_goto (pc := 81) (tgt := 63) dX9_search_81 rfl ?_
      refine ih (l + 1) _ (by omega) hWc h7 h10 h11 (fun i hi => ?_)
      show upN κ.2.1 9 (upN (κ.2.1 9) l (nI 0)) 9 i = _
      rw [upN_s]
      by_cases e9 : i = l
      · subst e9; rw [upN_s]
      · rw [upN_n _ _ _ _ e9]; exact hz i (by omega)
set_option maxHeartbeats 1000000 in
set_option maxRecDepth 20000 in
theorem c9_search {G : xG} {d : Nat} {Q : xQ} {a b c e : Nat → Nat} {κ κr : kS} {R : va_W} {t : Nat → Nat} {NM : Nat → Int64} {sn : Option Nat} {p : Nat} {g tg nd cr bs : Nat} {b0 : List Nat} (hN : NB G) (hS : STR G R b c sn t) (hC : CHR G R c t NM) (hw : WT t) (hp : p < t 2) (hg : g ≤ 2) (htg : tg < 2 ^ 31) (hnd : nd < 2 ^ 31) (hcr : cr ≤ 5) (hbs : bs < 128) (hb0 : b0.length ≤ 5) (hRw : RwR κr (b0.map nI)) (hW4 : κ.1 4 = .int (nI g)) (hW5 : κ.1 5 = .int (nI tg)) (hW6 : κ.1 6 = .int (nI nd)) (hW12 : κ.1 12 = .ref (e 2)) (kk : ∀ κ9 κr9, WKc c e t (t (79 + p)) (t (101 + t (79 + p)) ||| bs) g tg nd κ9 → WKa (gW t (t (79 + p)) (sparedF t p ||| bs) g tg nd cr (nd0 t p) [] (cr + 1, b0, 0, fun _ => 0, 0)) κ9 κr9 → WKb (cr + 1) (gW t (t (79 + p)) (sparedF t p ||| bs) g tg nd cr (nd0 t p) [] (cr + 1, b0, 0, fun _ => 0, 0)) → Q none (wWk G.2.2.1 a κ9 ++ (wRw G.2.2.1 e 5 κr9 ++ R))) : MT G MX9_search (d + cr + 4 + 1) 0 0 [.ref (a 13), .ref (b 12), .int (nI p), .int (nI bs), .int (nI cr)] (wWk G.2.2.1 a κ ++ (wRw G.2.2.1 e 5 κr ++ R)) Q := by
  obtain ⟨sd, hSo, hS2, hS3, hS6, hS7, hS8, hS9, hS10⟩ := id hS
  obtain ⟨hb, h0, h1, h2, hR, hP, hD, hCl, hT⟩ := id hw
  obtain ⟨hq1, hq2, hq3, hq4⟩ := hP p hp
  have hsp7 := hT (t (79 + p)) (by omega)
  refine mt_start (L := [some (.ref (a 13)), some (.ref (b 12)), some (.int (nI p)), some (.int (nI bs)), some (.int (nI cr)), none]) rfl (Nat.le_of_ble_eq_true rfl) rfl ?_
  refine aw_aload_n (pc := 0) (i := 0) dX9_search_0 rfl rfl ?_
  refine aw_aload_n (pc := 1) (i := 1) dX9_search_1 rfl rfl ?_
  refine av_get (pc := 2) (x := .ref (c 13)) dX9_search_2 rfl og_X9_68 rfl (hSo.sub mem_ap2) rfl ?_
  refine aw_topV (y := va_rf (some (c 13))) rfl ?_
  refine pp_X9_55 (pc := 5) dX9_search_5 rfl ?_
  refine aw_aload_n (pc := 8) (i := 0) dX9_search_8 rfl rfl ?_
  refine aw_aload_n (pc := 9) (i := 0) dX9_search_9 rfl rfl ?_
  refine pg_X9_55 (pc := 10) (v := va_rf (some (c 13))) dX9_search_10 rfl rfl ?_
  refine aw_topV (y := .ref (c 13)) rfl ?_
  refine av_get (pc := 13) (x := .ref (c 12)) dX9_search_13 rfl og_X9_69 rfl (hC.sub mem_ap2).ov rfl ?_
  refine aw_iload_n (pc := 16) (i := 2) dX9_search_16 rfl rfl ?_
  refine av_iald (pc := 17) (x := (nI (t (79 + p)))) dX9_search_17 (hC.sub mem_ap2).home (by omega) (by decide) rfl ?_
  refine pp_X9_9 (pc := 18) dX9_search_18 rfl ?_
  refine aw_aload_n (pc := 21) (i := 0) dX9_search_21 rfl rfl ?_
  refine aw_aload_n (pc := 22) (i := 1) dX9_search_22 rfl rfl ?_
  refine av_get (pc := 23) (x := .ref (b 3)) dX9_search_23 rfl og_X9_73 rfl (hSo.sub mem_ap2) rfl ?_
  refine aw_aload_n (pc := 26) (i := 0) dX9_search_26 rfl rfl ?_
  refine pg_X9_9 (pc := 27) (v := .int (nI (t (79 + p)))) dX9_search_27 rfl rfl ?_
  refine av_iald (pc := 30) (x := (nI (t (101 + (t (79 + p)))))) dX9_search_30 (hS3.sub mem_ap2) (by omega) (by decide) rfl ?_
  refine aw_iload_n (pc := 31) (i := 3) dX9_search_31 rfl rfl ?_
  refine aw_ior (pc := 32) dX9_search_32 ?_
  refine aw_top (y := (nI (t (101 + t (79 + p)) ||| bs))) (nI_or _ _ (by omega) (by omega)) ?_
  refine pp_X9_15 (pc := 33) dX9_search_33 rfl ?_
  refine aw_aload_n (pc := 36) (i := 0) dX9_search_36 rfl rfl ?_
  refine aw_aload_n (pc := 37) (i := 1) dX9_search_37 rfl rfl ?_
  refine av_get (pc := 38) (x := .int (nI (t 93))) dX9_search_38 rfl og_X9_76 rfl (hSo.sub mem_ap2) rfl ?_
  refine pp_X9_18 (pc := 41) dX9_search_41 rfl ?_
  refine aw_aload_n (pc := 44) (i := 0) dX9_search_44 rfl rfl ?_
  refine aw_iload (pc := 45) dX9_search_45 rfl ?_
  refine pp_X9_30 (pc := 47) dX9_search_47 rfl ?_
  refine aw_aload_n (pc := 50) (i := 0) dX9_search_50 rfl rfl ?_
  refine aw_iconst (pc := 51) dX9_search_51 iconst_0 ?_
  refine pp_X9_40 (pc := 52) dX9_search_52 rfl ?_
  refine aw_aload_n (pc := 55) (i := 0) dX9_search_55 rfl rfl ?_
  refine aw_iconst (pc := 56) dX9_search_56 iconst_m1 ?_
  refine pp_X9_43 (pc := 57) dX9_search_57 rfl ?_
  refine aw_iconst (pc := 60) dX9_search_60 iconst_0 ?_
  refine aw_istore (pc := 61) (i := 5) dX9_search_61 (Nat.le_of_ble_eq_true rfl) rfl ?_
  exact srch_loop hN hS hC hw hp hg htg hnd hcr hbs hb0 hRw kk 7 0 _ rfl ⟨rfl, rfl, rfl, rfl, hW4, hW5, hW6, hW12⟩ rfl rfl rfl (fun i hi => absurd hi (Nat.not_lt_zero _))
set_option maxHeartbeats 1000000 in
set_option maxRecDepth 20000 in
theorem c9_findWay {G : xG} {d : Nat} {Q : xQ} {a b c e : Nat → Nat} {κ κr : kS} {R : va_W} {t : Nat → Nat} {NM : Nat → Int64} {sn : Option Nat} {p : Nat} {bs l n : Nat} (hN : NB G) (hS : STR G R b c sn t) (hC : CHR G R c t NM) (hw : WT t) (hp : p < t 2) (hI : WKi e κ κr) (hbs : bs < 128) (hl : l < 7) (hn : n ≤ 240) (k0 : fewG t p l n (sparedF t p ||| bs) 6 0 = none → ∀ κ9 κr9, WKi e κ9 κr9 → Q (some (.int (bI false))) (wWk G.2.2.1 a κ9 ++ (wRw G.2.2.1 e 5 κr9 ++ R))) (k1 : ∀ k r, fewG t p l n (sparedF t p ||| bs) 6 0 = some (k, r) → ∀ κ9 κr9, WKi e κ9 κr9 → RwR κr9 (r.map nI) → r.length = k → k ≤ 5 → Q (some (.int (bI true))) (wWk G.2.2.1 a κ9 ++ (wRw G.2.2.1 e 5 κr9 ++ R))) : MT G MX9_findWay (d + 11) 0 0 [.ref (a 13), .ref (b 12), .int (nI p), .int (nI bs), .int (nI l), .int (nI n)] (wWk G.2.2.1 a κ ++ (wRw G.2.2.1 e 5 κr ++ R)) Q := by
  obtain ⟨hW12, ⟨tg0, hW5, htg0⟩, ⟨nd0x, hW6, hnd0⟩, b0, hRw, hb0⟩ := hI
  obtain ⟨sd, hSo, hS2, hS3, hS6, hS7, hS8, hS9, hS10⟩ := id hS
  obtain ⟨hb, h0, h1, h2, hR, hP, hD, hCl, hT⟩ := id hw
  obtain ⟨hq1, hq2, hq3, hq4⟩ := hP p hp
  have hsp7 := hT (t (79 + p)) (by omega)
  refine mt_start (L := [some (.ref (a 13)), some (.ref (b 12)), some (.int (nI p)), some (.int (nI bs)), some (.int (nI l)), some (.int (nI n))]) rfl (Nat.le_of_ble_eq_true rfl) rfl ?_
  refine aw_aload_n (pc := 0) (i := 0) dX9_findWay_0 rfl rfl ?_
  refine aw_iconst (pc := 1) dX9_findWay_1 iconst_0 ?_
  refine pp_X9_21 (pc := 2) dX9_findWay_2 rfl ?_
  refine aw_aload_n (pc := 5) (i := 0) dX9_findWay_5 rfl rfl ?_
  refine aw_iload (pc := 6) dX9_findWay_6 rfl ?_
  refine pp_X9_24 (pc := 8) dX9_findWay_8 rfl ?_
  refine aw_aload_n (pc := 11) (i := 0) dX9_findWay_11 rfl rfl ?_
  refine aw_iload (pc := 12) dX9_findWay_12 rfl ?_
  refine pp_X9_27 (pc := 14) dX9_findWay_14 rfl ?_
  refine aw_aload_n (pc := 17) (i := 0) dX9_findWay_17 rfl rfl ?_
  refine aw_aload_n (pc := 18) (i := 1) dX9_findWay_18 rfl rfl ?_
  refine aw_iload_n (pc := 19) (i := 2) dX9_findWay_19 rfl rfl ?_
  refine aw_iload_n (pc := 20) (i := 3) dX9_findWay_20 rfl rfl ?_
  refine aw_iconst (pc := 21) dX9_findWay_21 iconst_5 ?_
  refine cVv (pc := 22) (As := [.ref (b 12), .int (nI p), .int (nI bs), .int (nI 5)]) (rest := []) dX9_findWay_22 rfl oc_X9_59 rfl rfl (Nat.le_of_ble_eq_true rfl) rfl rfl ovX9 (Nat.le_refl _) (Nat.le_refl _) (c9_search (g := 0) (tg := l) (nd := n) (cr := 5) (bs := bs) hN hS hC hw hp (by decide) (by omega) (by omega) (by decide) hbs hb0 hRw rfl rfl rfl hW12 ?_)
  intro κ1 κr1 g1 g2 g3
  generalize e9 : gW t (t (79 + p)) (sparedF t p ||| bs) 0 l n 5 (nd0 t p) [] (5 + 1, b0, 0, fun _ => 0, 0) = A9 at g2 g3
  have hws := way_same e9
  have hrb : A9.2.2.1 ≤ 0 + 8 ^ (5 + 1) := by rw [← e9]; exact gW_n h0 _ _ _ _
  refine ⟨rfl, ?_⟩
  refine aw_aload_n (pc := 25) (i := 0) dX9_findWay_25 rfl rfl ?_
  refine pg_X9_40 (pc := 26) (v := .int (nI A9.2.2.1)) dX9_findWay_26 rfl g2.2.1 ?_
  refine an_if_le (pc := 29) (tgt := 36) dX9_findWay_29 rfl (by omega) (fun h29 => ?_) (fun h29 => ?_)
  · -- 36
    refine aw_iconst (pc := 36) dX9_findWay_36 iconst_0 ?_
    refine ab_ret0 (pc := 37) dX9_findWay_37 rfl (Nat.le_refl _) (Nat.le_refl _) ?_
    cases e8 : fewG t p l n (sparedF t p ||| bs) 6 0 with
    | none => exact k0 e8 _ _ (WKi.of g1 g2 g3 (by omega) (by omega))
    | some x =>
      obtain ⟨k9, r9⟩ := x
      have := (hws.2 k9 r9 e8).1
      exfalso; omega
  · -- 32
    refine aw_iconst (pc := 32) dX9_findWay_32 iconst_1 ?_
    refine aw_goto (pc := 33) (tgt := 37) dX9_findWay_33 rfl ?_
    refine ab_ret1 (pc := 37) dX9_findWay_37 rfl (Nat.le_refl _) (Nat.le_refl _) ?_
    cases e8 : fewG t p l n (sparedF t p ||| bs) 6 0 with
    | none => have := hws.1 e8; omega
    | some x =>
      obtain ⟨k9, r9⟩ := x
      obtain ⟨q1, q2, q3⟩ := hws.2 k9 r9 e8
      exact k1 k9 r9 e8 _ _ (WKi.of g1 g2 g3 (by omega) (by omega)) (by rw [← q2]; exact g2.2.2.2.2) q3 (by have := g3.2.1; rw [q2] at this; omega)
set_option maxHeartbeats 1000000 in
set_option maxRecDepth 20000 in
theorem c9_round {G : xG} {d : Nat} {Q : xQ} {a b c e : Nat → Nat} {κ κr : kS} {R : va_W} {t : Nat → Nat} {NM : Nat → Int64} {sn : Option Nat} {p : Nat} (hN : NB G) (hS : STR G R b c sn t) (hC : CHR G R c t NM) (hw : WT t) (hp : p < t 2) (hI : WKi e κ κr) (kk : ∀ κ9 κr9, WKi e κ9 κr9 → Q (some (.int (dpI (rdK t p 5 1 0)))) (wWk G.2.2.1 a κ9 ++ (wRw G.2.2.1 e 5 κr9 ++ R))) : MT G MX9_longestRound (d + 11) 0 0 [.ref (a 13), .ref (b 12), .int (nI p)] (wWk G.2.2.1 a κ ++ (wRw G.2.2.1 e 5 κr ++ R)) Q := by
  obtain ⟨hW12, ⟨tg0, hW5, htg0⟩, ⟨nd0x, hW6, hnd0⟩, b0, hRw, hb0⟩ := hI
  obtain ⟨sd, hSo, hS2, hS3, hS6, hS7, hS8, hS9, hS10⟩ := id hS
  obtain ⟨hb, h0, h1, h2, hR, hP, hD, hCl, hT⟩ := id hw
  obtain ⟨hq1, hq2, hq3, hq4⟩ := hP p hp
  have hsp7 := hT (t (79 + p)) (by omega)
  refine mt_start (L := [some (.ref (a 13)), some (.ref (b 12)), some (.int (nI p))]) rfl (Nat.le_of_ble_eq_true rfl) rfl ?_
  refine aw_aload_n (pc := 0) (i := 0) dX9_longestRound_0 rfl rfl ?_
  refine aw_iconst (pc := 1) dX9_longestRound_1 iconst_1 ?_
  refine pp_X9_21 (pc := 2) dX9_longestRound_2 rfl ?_
  refine aw_aload_n (pc := 5) (i := 0) dX9_longestRound_5 rfl rfl ?_
  refine aw_aload_n (pc := 6) (i := 1) dX9_longestRound_6 rfl rfl ?_
  refine av_get (pc := 7) (x := .ref (b 6)) dX9_longestRound_7 rfl og_X9_63 rfl (hSo.sub mem_ap2) rfl ?_
  refine aw_iload_n (pc := 10) (i := 2) dX9_longestRound_10 rfl rfl ?_
  refine av_iald (pc := 11) (x := (nI (t (108 + p)))) dX9_longestRound_11 (hS6.sub mem_ap2) (by omega) (by decide) rfl ?_
  refine pp_X9_24 (pc := 12) dX9_longestRound_12 rfl ?_
  refine aw_aload_n (pc := 15) (i := 0) dX9_longestRound_15 rfl rfl ?_
  refine aw_aload_n (pc := 16) (i := 1) dX9_longestRound_16 rfl rfl ?_
  refine aw_iload_n (pc := 17) (i := 2) dX9_longestRound_17 rfl rfl ?_
  refine aw_iconst (pc := 18) dX9_longestRound_18 iconst_0 ?_
  refine aw_iconst (pc := 19) dX9_longestRound_19 iconst_5 ?_
  refine cVv (pc := 20) (As := [.ref (b 12), .int (nI p), .int (nI 0), .int (nI 5)]) (rest := []) dX9_longestRound_20 rfl oc_X9_59 rfl rfl (Nat.le_of_ble_eq_true rfl) rfl rfl ovX9 (Nat.le_refl _) (Nat.le_refl _) (c9_search (g := 1) (tg := t (108 + p)) (nd := nd0x) (cr := 5) (bs := 0) hN hS hC hw hp (by decide) (Nat.lt_trans (hb _) (by decide)) hnd0 (by decide) (by decide) hb0 hRw rfl rfl hW6 hW12 ?_)
  intro κ1 κr1 g1 g2 g3
  rw [Nat.or_zero] at g2 g3
  generalize e9 : gW t (t (79 + p)) (sparedF t p) 1 (t (108 + p)) nd0x 5 (nd0 t p) [] (5 + 1, b0, 0, fun _ => 0, 0) = A9 at g2 g3
  have hws : A9.2.2.2.2 = rdK t p 5 1 0 := by rw [← e9]; exact rnd_same
  refine ⟨rfl, ?_⟩
  refine aw_aload_n (pc := 23) (i := 0) dX9_longestRound_23 rfl rfl ?_
  refine pg_X9_43 (pc := 24) (v := .int (dpI A9.2.2.2.2)) dX9_longestRound_24 rfl g2.2.2.1 ?_
  exact aw_iret (pc := 27) dX9_longestRound_27 rfl (Nat.le_refl _) (Nat.le_refl _) (by rw [← hws] at kk; exact kk _ _ (WKi.of g1 g2 g3 (Nat.lt_trans (hb _) (by decide)) hnd0))
set_option maxHeartbeats 1000000 in
set_option maxRecDepth 20000 in
theorem c9_count {G : xG} {d : Nat} {Q : xQ} {a b c e : Nat → Nat} {κ κr : kS} {R : va_W} {t : Nat → Nat} {NM : Nat → Int64} {sn : Option Nat} {p : Nat} {n : Nat} (hN : NB G) (hS : STR G R b c sn t) (hC : CHR G R c t NM) (hw : WT t) (hp : p < t 2) (hI : WKi e κ κr) (hn : n < 2 ^ 31) (kk : ∀ κ9 κr9, WKi e κ9 κr9 → (∀ l, l < 7 → κ9.2.1 9 l = nI (cntE (mdM t p n) l)) → (∀ r, (mdM t p n).head? = some r → RwR κr9 (r.1.map nI) ∧ r.1.length ≤ 5) → (mdM t p n).length < 2 ^ 20 → Q (some (.int (nI (mdM t p n).length))) (wWk G.2.2.1 a κ9 ++ (wRw G.2.2.1 e 5 κr9 ++ R))) : MT G MX9_countRows (d + 10) 0 0 [.ref (a 13), .ref (b 12), .int (nI p), .int (nI n)] (wWk G.2.2.1 a κ ++ (wRw G.2.2.1 e 5 κr ++ R)) Q := by
  obtain ⟨hW12, ⟨tg0, hW5, htg0⟩, ⟨nd0x, hW6, hnd0⟩, b0, hRw, hb0⟩ := hI
  obtain ⟨sd, hSo, hS2, hS3, hS6, hS7, hS8, hS9, hS10⟩ := id hS
  obtain ⟨hb, h0, h1, h2, hR, hP, hD, hCl, hT⟩ := id hw
  obtain ⟨hq1, hq2, hq3, hq4⟩ := hP p hp
  have hsp7 := hT (t (79 + p)) (by omega)
  refine mt_start (L := [some (.ref (a 13)), some (.ref (b 12)), some (.int (nI p)), some (.int (nI n))]) rfl (Nat.le_of_ble_eq_true rfl) rfl ?_
  refine aw_aload_n (pc := 0) (i := 0) dX9_countRows_0 rfl rfl ?_
  refine aw_iconst (pc := 1) dX9_countRows_1 iconst_2 ?_
  refine pp_X9_21 (pc := 2) dX9_countRows_2 rfl ?_
  refine aw_aload_n (pc := 5) (i := 0) dX9_countRows_5 rfl rfl ?_
  refine aw_iload_n (pc := 6) (i := 3) dX9_countRows_6 rfl rfl ?_
  refine pp_X9_27 (pc := 7) dX9_countRows_7 rfl ?_
  refine aw_aload_n (pc := 10) (i := 0) dX9_countRows_10 rfl rfl ?_
  refine aw_aload_n (pc := 11) (i := 1) dX9_countRows_11 rfl rfl ?_
  refine aw_iload_n (pc := 12) (i := 2) dX9_countRows_12 rfl rfl ?_
  refine aw_iconst (pc := 13) dX9_countRows_13 iconst_0 ?_
  refine aw_iconst (pc := 14) dX9_countRows_14 iconst_4 ?_
  refine cVv (pc := 15) (As := [.ref (b 12), .int (nI p), .int (nI 0), .int (nI 4)]) (rest := []) dX9_countRows_15 rfl oc_X9_59 rfl rfl (Nat.le_of_ble_eq_true rfl) rfl rfl ovX9 (Nat.le_refl _) (Nat.le_refl _) (c9_search (g := 2) (tg := tg0) (nd := n) (cr := 4) (bs := 0) hN hS hC hw hp (by decide) htg0 (by omega) (by decide) (by decide) hb0 hRw rfl hW5 rfl hW12 ?_)
  intro κ1 κr1 g1 g2 g3
  rw [Nat.or_zero] at g2 g3
  generalize e9 : gW t (t (79 + p)) (sparedF t p) 2 tg0 n 4 (nd0 t p) [] (4 + 1, b0, 0, fun _ => 0, 0) = A9 at g2 g3
  have hr : A9.2.2.1 = (mdM t p n).length := by rw [← e9]; exact made_rows
  have he : ∀ l, A9.2.2.2.1 l = cntE (mdM t p n) l := fun l => by rw [← e9]; exact made_ends rfl
  have hbs9 : ∀ r, (mdM t p n).head? = some r → A9.2.1 = r.1 := fun r hr => by rw [← e9]; exact made_best hr
  refine ⟨rfl, ?_⟩
  refine aw_aload_n (pc := 18) (i := 0) dX9_countRows_18 rfl rfl ?_
  refine pg_X9_40 (pc := 19) (v := .int (nI A9.2.2.1)) dX9_countRows_19 rfl g2.2.1 ?_
  refine aw_iret (pc := 22) dX9_countRows_22 rfl (Nat.le_refl _) (Nat.le_refl _) ?_
  rw [hr]
  exact kk _ _ (WKi.of g1 g2 g3 htg0 (by omega)) (fun l hl => by rw [← he]; exact g2.2.2.2.1 l hl) (fun r hr => by rw [← hbs9 r hr]; exact ⟨g2.2.2.2.2, g3.2.1⟩) (by have hrb : A9.2.2.1 ≤ 0 + 8 ^ (4 + 1) := (by rw [← e9]; exact gW_n h0 _ _ _ _); rw [hr] at hrb; omega)
