theorem bookB_o {σ : mS} {n k : Nat} (hk : rk k = false) (h0 : ¬ k = 0) (h2 : ¬ k = 2) : (bookB σ n).1 k = σ.1 k := by
  have g : ∀ i, rk i = true → ¬ k = i := fun i hi e => by subst e; rw [hk] at hi; cases hi
  unfold bookB
  rw [mI_o _ _ _ _ (g 47 rfl), mI_o _ _ _ _ (g 15 rfl)]
  exact taken_o hk h0 h2
theorem bookR_rf {σ : mS} {n : Nat} : RF false (bookB σ n) (bookR σ n).2.1 := RF.bk _ _ _ (RF.rf _ _).nx
theorem bookR_rj {σ : mS} {n : Nat} : RJ σ (bookR σ n).2.1 := RF.rj (fun k h1 h2 h3 => bookB_o h1 h2 h3) rfl rfl rfl bookR_rf
/-- where reading goes well, no fault comes -/
def K15 (x : Int32) (p : Bool × mS) : Prop := p.1 = true → p.2.1 15 = x
theorem K15_i {x : Int32} {c : Prop} [Decidable c] {a b : Bool × mS} (ha : c → K15 x a) (hb : ¬ c → K15 x b) : K15 x (if c then a else b) := by
  by_cases h : c
  · rw [if_pos h]; exact ha h
  · rw [if_neg h]; exact hb h
theorem K15_f {x : Int32} {s : mS} : K15 x (false, s) := fun h => absurd h Bool.false_ne_true
theorem K15_t {x : Int32} {s : mS} (h : s.1 15 = x) : K15 x (true, s) := fun _ => h
section K15S
variable {x : Int32} {X : mS}
theorem k15_nx (h : X.1 15 = x) : (nx X).1 15 = x := (nx_sc X 15 (by decide)).trans h
theorem k15_mI {i : Nat} {v : Int32} (h : X.1 15 = x) (hi : ¬ 15 = i) : (mI X i v).1 15 = x := (mI_o _ _ _ _ hi).trans h
theorem K15_takes {lo hi : Nat} (h : X.1 15 = x) : K15 x (takesF X lo hi) := by
  unfold takesF
  exact K15_i (fun _ => K15_i (fun _ => K15_t (k15_nx (k15_mI h (by decide)))) (fun _ => K15_f)) (fun _ => K15_f)
theorem K15_looks {fr mn : Nat} (h : X.1 15 = x) : K15 x (looksF X fr mn) := by
  unfold looksF
  exact K15_i (fun _ => K15_i (fun _ => K15_t (k15_mI h (by decide))) (fun _ => K15_f)) (fun _ => K15_f)
theorem K15_name {fr mn : Nat} (h : X.1 15 = x) : K15 x (takesNameF X fr mn) := by
  unfold takesNameF
  exact K15_i (fun c => K15_t (k15_nx (K15_looks h c))) (fun _ => K15_f)
theorem K15_sign {c : Nat} (h : X.1 15 = x) : K15 x (signF X c) := by
  unfold signF
  exact K15_i (fun _ => K15_t (k15_nx h)) (fun _ => K15_f)
theorem K15_bl2 {to : Nat} {five : Bool} (h : X.1 15 = x) : K15 x (bl2F X to five) := by
  unfold bl2F bl2S bkT
  refine K15_i (fun c => K15_i (fun _ => K15_i (fun c2 => K15_t ?_) (fun _ => K15_f)) (fun _ => K15_t ?_)) (fun _ => K15_f)
  · exact K15_takes (X := mN (takesNameF X 0 (X.2.1 6 0)).2 8 (to + 2) (bkI X)) (K15_name h c) c2
  · exact K15_name h c
theorem K15_blN {to : Nat} {five : Bool} (h : X.1 15 = x) : K15 x (blNF X to five) := by
  unfold blNF bkT
  refine K15_i (fun c => K15_bl2 ?_) (fun _ => K15_f)
  exact K15_name h c
theorem K15_blT {to lo hi : Nat} (h : X.1 15 = x) : K15 x (blTF X to lo hi) := by
  unfold blTF
  refine K15_i (fun c => K15_t ?_) (fun _ => K15_f)
  exact K15_takes h c
theorem K15_gN {m k : Nat} {five : Bool} (h : X.1 15 = x) : K15 x (blGN X m k five) := by
  unfold blGN
  exact K15_i (fun _ => K15_f) (fun _ => K15_blN (X := blS X m k) (k15_nx h))
theorem K15_gT {m k lo hi : Nat} (h : X.1 15 = x) : K15 x (blGT X m k lo hi) := by
  unfold blGT
  exact K15_i (fun _ => K15_f) (fun _ => K15_blT (X := blS X m k) (k15_nx h))
theorem K15_blC {m : Nat} (h : X.1 15 = x) : K15 x (blCF X m) := by
  unfold blCF
  refine K15_i (fun c => K15_i (fun _ => K15_f) (fun _ => K15_i (fun _ => K15_bl2 ?_) (fun _ => K15_f))) (fun _ => K15_f)
  exact k15_nx (X := blS (blA X).2 m 0) (k15_nx (K15_looks h c))
theorem K15_line {m : Nat} (h : X.1 15 = x) : K15 x (bookLineF X m) := by
  unfold bookLineF
  exact K15_i (fun _ => K15_gN h) (fun _ => K15_i (fun _ => K15_gN h) (fun _ => K15_i (fun _ => K15_gT h) (fun _ => K15_i (fun _ => K15_gT h) (fun _ => K15_i (fun _ => K15_gN h) (fun _ => K15_i (fun _ => K15_gT h) (fun _ => K15_blC h))))))
end K15S
theorem bk_L15 {x : Int32} : ∀ (n : Nat) (X : mS) (m : Nat), X.1 15 = x → (bkL n X m).1 = true → (bkL n X m).2.1.1 15 = x := by
  intro n
  induction n with
  | zero => intro X m h; exact fun q => absurd q Bool.false_ne_true
  | succ n ih =>
    intro X m h
    rw [bkL]
    split
    · exact fun _ => h
    · split
      · rename_i c1
        split
        · rename_i c2
          exact ih _ _ (k15_mI (K15_sign (K15_line h c1) c2) (by decide))
        · exact fun q => absurd q Bool.false_ne_true
      · exact fun q => absurd q Bool.false_ne_true
theorem bk_15 {σ s9 : mS} {n1 m9 : Nat} (es : bookR σ n1 = (true, s9, m9)) : s9.1 15 = nI 0 := by
  have := bk_L15 2000 (nx (bookB σ n1)) 0 (k15_nx (bookB_s σ n1).2.2.2.2.1)
  rw [show bkL 2000 (nx (bookB σ n1)) 0 = (true, s9, m9) from es] at this
  exact this rfl
set_option maxHeartbeats 1000000 in
set_option maxRecDepth 20000 in
theorem x_book0 {G : xG} {d : Nat} {Q : xQ} {ae : Nat → Nat} {tw ts : Nat} {kd : Nat → Bool} {ad : Nat → Nat → Nat} {κ : Nat → kS} {n : Nat} {σ : mS} {B : Nat} {R : va_W} (hE : EB ae tw ts G) (hNB : NB G) (hAO : AO G) (hJ : J ae kd ad κ n σ B) (hB9 : B + 99 * 40 ≤ 2 ^ 29) (k1 : ∀ n1, σ.1 2 = nI n1 → n1 ≤ 940 → (bookR σ n1).1 = true → ∀ κ9, (∀ tf : Nat → Nat, tf 0 = (bkW (bookR σ n1).2.1 (bookR σ n1).2.2 (σ.2.1 6)).1 → tf 1 = (bkW (bookR σ n1).2.1 (bookR σ n1).2.2 (σ.2.1 6)).2.1 → tf 2 = (bkW (bookR σ n1).2.1 (bookR σ n1).2.2 (σ.2.1 6)).2.2.2 91 → tf 3 = allLongF (bkW (bookR σ n1).2.1 (bookR σ n1).2.2 (σ.2.1 6)).2.2.2 → J ae kd ad κ9 n (mI (rho (triesS (bookR σ n1).2.1) (σ.2.1 6) tf) 49 (nI 1)) (B + 99 * 40)) → Q (some (.int (bkW (bookR σ n1).2.1 (bookR σ n1).2.2 (σ.2.1 6)).2.2.1)) (WX G.2.2.1 kd ad κ9 n [] ++ R)) (k0 : ∀ n1, σ.1 2 = nI n1 → n1 ≤ 940 → (bookR σ n1).1 = false → ∀ κ9, J ae kd ad κ9 n (bookR σ n1).2.1 B → Q (some (.int (-2 - (bookR σ n1).2.1.1 16))) (WX G.2.2.1 kd ad κ9 n [] ++ R)) : MT G MX11_book (d + 6) 0 0 [.ref ((ad 0) 20), .int (nI 0)] (WX G.2.2.1 kd ad κ n [] ++ R) Q := by
  obtain ⟨hn, hMain, hSub, hTape, hR10, hR11, hR12, hR13, hMisc, hRef, hB5, jc, NM, sn, sd, m, pn, im, hCht, hSR, hSnt, hTok, hPast, hPm, hSds, hImg⟩ := id hJ
  have hw : WT (σ.2.1 6) := hTok.1.1.1
  have hI := ov_0 (G := G) (kd := kd) (ad := ad) (κ := κ) (xs := []) (R := R) (by omega : 0 < n) (by simp)
  have hTp := ov_1 (G := G) (kd := kd) (ad := ad) (κ := κ) (xs := []) (R := R) (by omega : 1 < n) (by simp)
  have hS := st_2 (G := G) (kd := kd) (ad := ad) (n := n) (xs := []) (R := R) hSR hw (by omega) (by simp)
  have hC : CHR G (WX G.2.2.1 kd ad κ n [] ++ R) (ad jc) (σ.2.1 6) NM := (hCht.chr (ad := ad) hw (fun i hi => by simp at hi)).sub mem_R1
  obtain ⟨hb, h0, h1, h2, hRd, hP, hD, hCl, hT⟩ := id hw
  obtain ⟨sd9, hSo, hS2, hS3, hS6, hS7, hS8, hS9, hS10⟩ := id hS
  obtain ⟨n1, hTB, hlen, hflt⟩ := id hTape
  have hT9 := hTB.2.1
  have hv := PV_bookB (σ := σ) hT9 hRef.2.2.1 hRef.2.2.2.1 hRef.2.2.2.2.1
  replace k1 := k1 n1 hlen hT9
  replace k0 := k0 n1 hlen hT9
  have hIx := ov_0 (G := G) (kd := kd) (ad := ad) (κ := κ) (xs := [1, 5]) (R := R) (by omega : 0 < n) (by simp)
  have hSx := st_2 (G := G) (kd := kd) (ad := ad) (n := n) (xs := [1, 5]) (R := R) hSR hw (by omega) (by simp)
  have hCx : CHR G (WX G.2.2.1 kd ad κ n [1, 5] ++ R) (ad jc) (σ.2.1 6) NM := (hCht.chr (ad := ad) hw (fun i hi => by simp at hi; omega)).sub mem_R1
  clear hSo hS2 hS3 hS6 hS7 hS8 hS9 hS10
  obtain ⟨sd8, hSo, hS2, hS3, hS6, hS7, hS8, hS9, hS10⟩ := id hSx
  refine mt_start (L := [some (.ref ((ad 0) 20)), some (.int (nI 0)), none]) rfl (Nat.le_of_ble_eq_true rfl) rfl ?_
  refine aw_pull2 (p1 := 5) (p2 := 1) (by omega) (by omega) (by decide) ?_
  refine aw_ws (w9 := (wBk G.2.2.1 (ad 5) (κ 5) ++ (wTp G.2.2.1 (ad 1) (κ 1) ++ (WX G.2.2.1 kd ad κ n [1, 5] ++ R)))) rfl ?_
  refine aw_iload_n (pc := 0) (i := 1) dX11_book_0 rfl rfl ?_
  refine an_if_eq (pc := 1) (tgt := 13) dX11_book_1 rfl (by decide) (fun h1 => ?_) (fun h1 => absurd h1 (by decide))
  refine aw_aload_n (pc := 13) (i := 0) dX11_book_13 rfl rfl ?_
  refine av_get (pc := 14) (x := .ref ((ad 5) 8)) dX11_book_14 rfl og_X11_93 rfl (hIx.sub mem_ap2) hMain.2.2.2.2.1 ?_
  refine aw_aload_n (pc := 17) (i := 0) dX11_book_17 rfl rfl ?_
  refine av_get (pc := 18) (x := .ref ((ad 2) 12)) dX11_book_18 rfl og_X11_72 rfl (hIx.sub mem_ap2) hMain.2.1 ?_
  refine av_get (pc := 21) (x := .ref ((ad jc) 13)) dX11_book_21 rfl og_X11_142 rfl (hSo.sub mem_ap2) rfl ?_
  refine cVv (pc := 24) (As := [.ref ((ad jc) 13)]) (rest := []) dX11_book_24 rfl oc_X11_325 rfl rfl (Nat.le_of_ble_eq_true rfl) rfl rfl ovX1 (Nat.le_refl _) (Nat.le_refl _) (c1_read (n := n1) (NM := NM) (c := ad jc) hE hNB hSub.2.2.1 hTB hv hCx hRef.1 h0 h2 ⟨fun k hk => by rw [Nat.zero_add]; exact hCht.2.2.2.2.1 k hk, fun k hk => hCht.2.2.2.2.2 k hk⟩ ?_ ?_)
  · -- call
    intro s9 m9 kt kb es hbr htb hk5
    refine ⟨rfl, ?_⟩
    refine aw_aload_n (pc := 27) (i := 0) dX11_book_27 rfl rfl ?_
    refine av_get (pc := 28) (x := .ref ((ad 1) 13)) dX11_book_28 rfl og_X11_10 rfl (hIx.sub mem_ap2) hMain.1 ?_
    refine aw_iconst (pc := 31) dX11_book_31 iconst_0 ?_
    refine aw_swap ?_
    refine pp_X11_113 (pc := 32) dX11_book_32 rfl ?_
    refine aw_aload_n (pc := 35) (i := 0) dX11_book_35 rfl rfl ?_
    refine av_get (pc := 36) (x := .ref ((ad 1) 13)) dX11_book_36 rfl og_X11_10 rfl (hIx.sub mem_ap2) hMain.1 ?_
    refine pg_X11_126 (pc := 39) (v := .int (nI 0)) dX11_book_39 rfl hbr.2.1 ?_
    refine an_if_eq (pc := 42) (tgt := 56) dX11_book_42 rfl (by decide) (fun h42 => ?_) (fun h42 => absurd h42 (by decide))
    refine aw_swap ?_
    refine aw_push2 (p1 := 5) (p2 := 1) (by omega) (by omega) (by decide) ?_
    have h15 : s9.1 15 = nI 0 := bk_15 es
    have hrj : RJ σ s9 := by have := bookR_rj (σ := σ) (n := n1); rw [es] at this; exact this
    have hrf : RF false (bookB σ n1) s9 := by have := bookR_rf (σ := σ) (n := n1); rw [es] at this; exact this
    have h27 : s9.1 2 = nI 0 := hrf.1 2 rfl
    have hJ1 : J ae kd ad (upN (upN κ 1 (kF kt 1 (.int (nI 0)))) 5 kb) n s9 B := J.up5 (hk5.1.trans hSub.2.2.1) (J.rj hrj (fun j => by rw [hrf.2.2.1.resolve_left (by decide)]; exact hRef.2.1 j) (hrf.2.2.2.2.2.2 hv) ⟨0, ⟨rfl, by omega, fun i hi => by rw [hrj.2.2.1]; show kt.2.1 0 i = _; rw [htb.2]; exact hTB.2.2 i hi⟩, h27, hbr.2.1.trans (congrArg _ h15.symm)⟩ hJ)
    have e6 : s9.2.1 6 = σ.2.1 6 := hrj.2.1 6 (by decide) (by decide) (by decide)
    refine bk_fin0 (σ := s9) (m5 := m9) (res := bkW s9 m9 (s9.2.1 6)) hE hNB hAO hJ1 hB9 hbr.2.2.2.1.2.2.2.1 hbr.2.2.1 hbr.2.2.2.2.2.2 hbr.2.2.2.1.2.2.2.2 rfl ?_
    intro κ9 hj
    have := k1 (by rw [es]) κ9
    rw [es, ← e6] at this
    exact this hj
  · -- call
    intro s9 m9 kt kb es hfr htb hk5
    refine ⟨rfl, ?_⟩
    obtain ⟨k9, hk1, hk2, hk3⟩ : ∃ k, 1 ≤ k ∧ k ≤ 4 ∧ s9.1 15 = nI k := by
      have := BD_bkL 2000 (nx (bookB σ n1)) 0 (mz_2k (PV_nx hv)) (BV_bookB hv)
      rw [show bkL 2000 (nx (bookB σ n1)) 0 = (false, s9, m9) from es] at this
      exact this rfl
    refine aw_aload_n (pc := 27) (i := 0) dX11_book_27 rfl rfl ?_
    refine av_get (pc := 28) (x := .ref ((ad 1) 13)) dX11_book_28 rfl og_X11_10 rfl (hIx.sub mem_ap2) hMain.1 ?_
    refine aw_iconst (pc := 31) dX11_book_31 iconst_0 ?_
    refine aw_swap ?_
    refine pp_X11_113 (pc := 32) dX11_book_32 rfl ?_
    refine aw_aload_n (pc := 35) (i := 0) dX11_book_35 rfl rfl ?_
    refine av_get (pc := 36) (x := .ref ((ad 1) 13)) dX11_book_36 rfl og_X11_10 rfl (hIx.sub mem_ap2) hMain.1 ?_
    refine pg_X11_126 (pc := 39) (v := .int (nI k9)) dX11_book_39 rfl (hfr.1.trans (congrArg _ hk3)) ?_
    refine an_if_eq (pc := 42) (tgt := 56) dX11_book_42 rfl (by omega) (fun h42 => ?_) (fun h42 => ?_)
    · -- 56
      exfalso; omega
    · -- 45
      refine aw_bipush (pc := 45) dX11_book_45 bipush_m2 ?_
      refine aw_aload_n (pc := 47) (i := 0) dX11_book_47 rfl rfl ?_
      refine av_get (pc := 48) (x := .ref ((ad 1) 13)) dX11_book_48 rfl og_X11_10 rfl (hIx.sub mem_ap2) hMain.1 ?_
      refine pg_X11_129 (pc := 51) (v := .int (s9.1 16)) dX11_book_51 rfl hfr.2 ?_
      refine aw_isub (pc := 54) dX11_book_54 ?_
      refine aw_swap ?_
      refine aw_push2 (p1 := 5) (p2 := 1) (by omega) (by omega) (by decide) ?_
      refine aw_iret (pc := 55) dX11_book_55 rfl (Nat.le_refl _) (Nat.le_refl _) ?_
      have hrj : RJ σ s9 := by have := bookR_rj (σ := σ) (n := n1); rw [es] at this; exact this
      have hrf : RF false (bookB σ n1) s9 := by have := bookR_rf (σ := σ) (n := n1); rw [es] at this; exact this
      have h27 : s9.1 2 = nI 0 := hrf.1 2 rfl
      have hJ1 : J ae kd ad (upN (upN κ 1 (kF kt 1 (.int (nI 0)))) 5 kb) n s9 B := J.up5 (hk5.1.trans hSub.2.2.1) (J.rj hrj (fun j => by rw [hrf.2.2.1.resolve_left (by decide)]; exact hRef.2.1 j) (hrf.2.2.2.2.2.2 hv) ⟨0, ⟨rfl, by omega, fun i hi => by rw [hrj.2.2.1]; show kt.2.1 0 i = _; rw [htb.2]; exact hTB.2.2 i hi⟩, h27, hfr.1⟩ hJ)
      have := k0 (by rw [es]) _ (by rw [es]; exact hJ1)
      rw [es] at this
      exact this
set_option maxHeartbeats 1000000 in
set_option maxRecDepth 20000 in
theorem x_book1 {G : xG} {d : Nat} {Q : xQ} {ae : Nat → Nat} {tw ts : Nat} {kd : Nat → Bool} {ad : Nat → Nat → Nat} {κ : Nat → kS} {n : Nat} {σ : mS} {B : Nat} {R : va_W} (hE : EB ae tw ts G) (hNB : NB G) (hAO : AO G) (hJ : J ae kd ad κ n σ B) (hB9 : B + 99 * 40 ≤ 2 ^ 29) (k1 : ∀ n1, σ.1 2 = nI n1 → n1 ≤ 940 → (bookR σ n1).1 = true → ∀ κ9 mm, σ.1 23 = nI mm → mm ≤ 8 → (∀ tf : Nat → Nat, tf 0 = (bkW (bookR σ n1).2.1 (bookR σ n1).2.2 (σ.2.1 6)).1 → tf 1 = (bkW (bookR σ n1).2.1 (bookR σ n1).2.2 (σ.2.1 6)).2.1 → tf 2 = (bkW (bookR σ n1).2.1 (bookR σ n1).2.2 (σ.2.1 6)).2.2.2 91 → tf 3 = allLongF (bkW (bookR σ n1).2.1 (bookR σ n1).2.2 (σ.2.1 6)).2.2.2 → J ae kd ad κ9 n (if 0 < (bkW (bookR σ n1).2.1 (bookR σ n1).2.2 (σ.2.1 6)).2.1 then mI (sN (mI (rho (triesS (bookR σ n1).2.1) (bkW (bookR σ n1).2.1 (bookR σ n1).2.2 (σ.2.1 6)).2.2.2 tf) 49 (nI 1)) 21 (keepU ((bookR σ n1).2.1.2.1 21) (σ.2.1 6) mm)) 23 (nI (keepM mm)) else mI (rho (triesS (bookR σ n1).2.1) (bkW (bookR σ n1).2.1 (bookR σ n1).2.2 (σ.2.1 6)).2.2.2 tf) 49 (nI 1)) (B + 99 * 40)) → Q (some (.int (bkW (bookR σ n1).2.1 (bookR σ n1).2.2 (σ.2.1 6)).2.2.1)) (WX G.2.2.1 kd ad κ9 n [] ++ R)) (k0 : ∀ n1, σ.1 2 = nI n1 → n1 ≤ 940 → (bookR σ n1).1 = false → ∀ κ9, J ae kd ad κ9 n (bookR σ n1).2.1 B → Q (some (.int (-2 - (bookR σ n1).2.1.1 16))) (WX G.2.2.1 kd ad κ9 n [] ++ R)) : MT G MX11_book (d + 6) 0 0 [.ref ((ad 0) 20), .int (nI 1)] (WX G.2.2.1 kd ad κ n [] ++ R) Q := by
  obtain ⟨hn, hMain, hSub, hTape, hR10, hR11, hR12, hR13, hMisc, hRef, hB5, jc, NM, sn, sd, m, pn, im, hCht, hSR, hSnt, hTok, hPast, hPm, hSds, hImg⟩ := id hJ
  have hw : WT (σ.2.1 6) := hTok.1.1.1
  have hI := ov_0 (G := G) (kd := kd) (ad := ad) (κ := κ) (xs := []) (R := R) (by omega : 0 < n) (by simp)
  have hTp := ov_1 (G := G) (kd := kd) (ad := ad) (κ := κ) (xs := []) (R := R) (by omega : 1 < n) (by simp)
  have hS := st_2 (G := G) (kd := kd) (ad := ad) (n := n) (xs := []) (R := R) hSR hw (by omega) (by simp)
  have hC : CHR G (WX G.2.2.1 kd ad κ n [] ++ R) (ad jc) (σ.2.1 6) NM := (hCht.chr (ad := ad) hw (fun i hi => by simp at hi)).sub mem_R1
  obtain ⟨hb, h0, h1, h2, hRd, hP, hD, hCl, hT⟩ := id hw
  obtain ⟨sd9, hSo, hS2, hS3, hS6, hS7, hS8, hS9, hS10⟩ := id hS
  obtain ⟨n1, hTB, hlen, hflt⟩ := id hTape
  have hT9 := hTB.2.1
  have hv := PV_bookB (σ := σ) hT9 hRef.2.2.1 hRef.2.2.2.1 hRef.2.2.2.2.1
  replace k1 := k1 n1 hlen hT9
  replace k0 := k0 n1 hlen hT9
  have hIx := ov_0 (G := G) (kd := kd) (ad := ad) (κ := κ) (xs := [1, 5]) (R := R) (by omega : 0 < n) (by simp)
  have hSx := st_2 (G := G) (kd := kd) (ad := ad) (n := n) (xs := [1, 5]) (R := R) hSR hw (by omega) (by simp)
  have hCx : CHR G (WX G.2.2.1 kd ad κ n [1, 5] ++ R) (ad jc) (σ.2.1 6) NM := (hCht.chr (ad := ad) hw (fun i hi => by simp at hi; omega)).sub mem_R1
  clear hSo hS2 hS3 hS6 hS7 hS8 hS9 hS10
  obtain ⟨sd8, hSo, hS2, hS3, hS6, hS7, hS8, hS9, hS10⟩ := id hSx
  refine mt_start (L := [some (.ref ((ad 0) 20)), some (.int (nI 1)), none]) rfl (Nat.le_of_ble_eq_true rfl) rfl ?_
  refine aw_pull2 (p1 := 5) (p2 := 1) (by omega) (by omega) (by decide) ?_
  refine aw_ws (w9 := (wBk G.2.2.1 (ad 5) (κ 5) ++ (wTp G.2.2.1 (ad 1) (κ 1) ++ (WX G.2.2.1 kd ad κ n [1, 5] ++ R)))) rfl ?_
  refine aw_iload_n (pc := 0) (i := 1) dX11_book_0 rfl rfl ?_
  refine an_if_eq (pc := 1) (tgt := 13) dX11_book_1 rfl (by decide) (fun h1 => absurd h1 (by decide)) (fun h1 => ?_)
  refine aw_iload_n (pc := 4) (i := 1) dX11_book_4 rfl rfl ?_
  refine aw_iconst (pc := 5) dX11_book_5 iconst_1 ?_
  refine an_icmp_eq (pc := 6) (tgt := 13) dX11_book_6 rfl (by decide) (by decide) (fun h6 => ?_) (fun h6 => absurd h6 (by decide))
  refine aw_aload_n (pc := 13) (i := 0) dX11_book_13 rfl rfl ?_
  refine av_get (pc := 14) (x := .ref ((ad 5) 8)) dX11_book_14 rfl og_X11_93 rfl (hIx.sub mem_ap2) hMain.2.2.2.2.1 ?_
  refine aw_aload_n (pc := 17) (i := 0) dX11_book_17 rfl rfl ?_
  refine av_get (pc := 18) (x := .ref ((ad 2) 12)) dX11_book_18 rfl og_X11_72 rfl (hIx.sub mem_ap2) hMain.2.1 ?_
  refine av_get (pc := 21) (x := .ref ((ad jc) 13)) dX11_book_21 rfl og_X11_142 rfl (hSo.sub mem_ap2) rfl ?_
  refine cVv (pc := 24) (As := [.ref ((ad jc) 13)]) (rest := []) dX11_book_24 rfl oc_X11_325 rfl rfl (Nat.le_of_ble_eq_true rfl) rfl rfl ovX1 (Nat.le_refl _) (Nat.le_refl _) (c1_read (n := n1) (NM := NM) (c := ad jc) hE hNB hSub.2.2.1 hTB hv hCx hRef.1 h0 h2 ⟨fun k hk => by rw [Nat.zero_add]; exact hCht.2.2.2.2.1 k hk, fun k hk => hCht.2.2.2.2.2 k hk⟩ ?_ ?_)
  · -- call
    intro s9 m9 kt kb es hbr htb hk5
    refine ⟨rfl, ?_⟩
    refine aw_aload_n (pc := 27) (i := 0) dX11_book_27 rfl rfl ?_
    refine av_get (pc := 28) (x := .ref ((ad 1) 13)) dX11_book_28 rfl og_X11_10 rfl (hIx.sub mem_ap2) hMain.1 ?_
    refine aw_iconst (pc := 31) dX11_book_31 iconst_0 ?_
    refine aw_swap ?_
    refine pp_X11_113 (pc := 32) dX11_book_32 rfl ?_
    refine aw_aload_n (pc := 35) (i := 0) dX11_book_35 rfl rfl ?_
    refine av_get (pc := 36) (x := .ref ((ad 1) 13)) dX11_book_36 rfl og_X11_10 rfl (hIx.sub mem_ap2) hMain.1 ?_
    refine pg_X11_126 (pc := 39) (v := .int (nI 0)) dX11_book_39 rfl hbr.2.1 ?_
    refine an_if_eq (pc := 42) (tgt := 56) dX11_book_42 rfl (by decide) (fun h42 => ?_) (fun h42 => absurd h42 (by decide))
    refine aw_swap ?_
    refine aw_push2 (p1 := 5) (p2 := 1) (by omega) (by omega) (by decide) ?_
    have h15 : s9.1 15 = nI 0 := bk_15 es
    have hrj : RJ σ s9 := by have := bookR_rj (σ := σ) (n := n1); rw [es] at this; exact this
    have hrf : RF false (bookB σ n1) s9 := by have := bookR_rf (σ := σ) (n := n1); rw [es] at this; exact this
    have h27 : s9.1 2 = nI 0 := hrf.1 2 rfl
    have hJ1 : J ae kd ad (upN (upN κ 1 (kF kt 1 (.int (nI 0)))) 5 kb) n s9 B := J.up5 (hk5.1.trans hSub.2.2.1) (J.rj hrj (fun j => by rw [hrf.2.2.1.resolve_left (by decide)]; exact hRef.2.1 j) (hrf.2.2.2.2.2.2 hv) ⟨0, ⟨rfl, by omega, fun i hi => by rw [hrj.2.2.1]; show kt.2.1 0 i = _; rw [htb.2]; exact hTB.2.2 i hi⟩, h27, hbr.2.1.trans (congrArg _ h15.symm)⟩ hJ)
    have e6 : s9.2.1 6 = σ.2.1 6 := hrj.2.1 6 (by decide) (by decide) (by decide)
    refine bk_fin1 (σ := s9) (m5 := m9) (res := bkW s9 m9 (s9.2.1 6)) hE hNB hAO hJ1 hB9 hbr.2.2.2.1.2.2.2.1 hbr.2.2.1 hbr.2.2.2.2.2.2 hbr.2.2.2.1.2.2.2.2 rfl ?_
    intro κ9 mm h23 hmm hj
    have := k1 (by rw [es]) κ9 mm ((hrj.1 23 rfl (by decide) (by decide)).symm.trans h23) hmm
    rw [es, ← e6] at this
    exact this hj
  · -- call
    intro s9 m9 kt kb es hfr htb hk5
    refine ⟨rfl, ?_⟩
    obtain ⟨k9, hk1, hk2, hk3⟩ : ∃ k, 1 ≤ k ∧ k ≤ 4 ∧ s9.1 15 = nI k := by
      have := BD_bkL 2000 (nx (bookB σ n1)) 0 (mz_2k (PV_nx hv)) (BV_bookB hv)
      rw [show bkL 2000 (nx (bookB σ n1)) 0 = (false, s9, m9) from es] at this
      exact this rfl
    refine aw_aload_n (pc := 27) (i := 0) dX11_book_27 rfl rfl ?_
    refine av_get (pc := 28) (x := .ref ((ad 1) 13)) dX11_book_28 rfl og_X11_10 rfl (hIx.sub mem_ap2) hMain.1 ?_
    refine aw_iconst (pc := 31) dX11_book_31 iconst_0 ?_
    refine aw_swap ?_
    refine pp_X11_113 (pc := 32) dX11_book_32 rfl ?_
    refine aw_aload_n (pc := 35) (i := 0) dX11_book_35 rfl rfl ?_
    refine av_get (pc := 36) (x := .ref ((ad 1) 13)) dX11_book_36 rfl og_X11_10 rfl (hIx.sub mem_ap2) hMain.1 ?_
    refine pg_X11_126 (pc := 39) (v := .int (nI k9)) dX11_book_39 rfl (hfr.1.trans (congrArg _ hk3)) ?_
    refine an_if_eq (pc := 42) (tgt := 56) dX11_book_42 rfl (by omega) (fun h42 => ?_) (fun h42 => ?_)
    · -- 56
      exfalso; omega
    · -- 45
      refine aw_bipush (pc := 45) dX11_book_45 bipush_m2 ?_
      refine aw_aload_n (pc := 47) (i := 0) dX11_book_47 rfl rfl ?_
      refine av_get (pc := 48) (x := .ref ((ad 1) 13)) dX11_book_48 rfl og_X11_10 rfl (hIx.sub mem_ap2) hMain.1 ?_
      refine pg_X11_129 (pc := 51) (v := .int (s9.1 16)) dX11_book_51 rfl hfr.2 ?_
      refine aw_isub (pc := 54) dX11_book_54 ?_
      refine aw_swap ?_
      refine aw_push2 (p1 := 5) (p2 := 1) (by omega) (by omega) (by decide) ?_
      refine aw_iret (pc := 55) dX11_book_55 rfl (Nat.le_refl _) (Nat.le_refl _) ?_
      have hrj : RJ σ s9 := by have := bookR_rj (σ := σ) (n := n1); rw [es] at this; exact this
      have hrf : RF false (bookB σ n1) s9 := by have := bookR_rf (σ := σ) (n := n1); rw [es] at this; exact this
      have h27 : s9.1 2 = nI 0 := hrf.1 2 rfl
      have hJ1 : J ae kd ad (upN (upN κ 1 (kF kt 1 (.int (nI 0)))) 5 kb) n s9 B := J.up5 (hk5.1.trans hSub.2.2.1) (J.rj hrj (fun j => by rw [hrf.2.2.1.resolve_left (by decide)]; exact hRef.2.1 j) (hrf.2.2.2.2.2.2 hv) ⟨0, ⟨rfl, by omega, fun i hi => by rw [hrj.2.2.1]; show kt.2.1 0 i = _; rw [htb.2]; exact hTB.2.2 i hi⟩, h27, hfr.1⟩ hJ)
      have := k0 (by rw [es]) _ (by rw [es]; exact hJ1)
      rw [es] at this
      exact this
set_option maxHeartbeats 1000000 in
set_option maxRecDepth 20000 in
theorem x_bookN {G : xG} {d : Nat} {Q : xQ} {ae : Nat → Nat} {tw ts : Nat} {kd : Nat → Bool} {ad : Nat → Nat → Nat} {κ : Nat → kS} {n : Nat} {σ : mS} {B : Nat} {R : va_W} {x : Int32} (hE : EB ae tw ts G) (hNB : NB G) (hAO : AO G) (hJ : J ae kd ad κ n σ B) (hx : inC (nI 0) (nI 1) x = false) (kk : J ae kd ad κ n (mI σ 0 (nI 0)) B → Q (some (.int (-1000))) (WX G.2.2.1 kd ad κ n [] ++ R)) : MT G MX11_book (d + 6) 0 0 [.ref ((ad 0) 20), .int x] (WX G.2.2.1 kd ad κ n [] ++ R) Q := by
  obtain ⟨hn, hMain, hSub, hTape, hR10, hR11, hR12, hR13, hMisc, hRef, hB5, jc, NM, sn, sd, m, pn, im, hCht, hSR, hSnt, hTok, hPast, hPm, hSds, hImg⟩ := id hJ
  have hw : WT (σ.2.1 6) := hTok.1.1.1
  refine mt_start (L := [some (.ref ((ad 0) 20)), some (.int x), none]) rfl (Nat.le_of_ble_eq_true rfl) rfl ?_
  refine aw_iload_n (pc := 0) (i := 1) dX11_book_0 rfl rfl ?_
  refine aw_if_eq (pc := 1) (tgt := 13) dX11_book_1 rfl (fun h1 => ?_) (fun h1 => ?_)
  · -- 13
    exact absurd hx (by rw [h1]; decide)
  · -- 4
    refine aw_iload_n (pc := 4) (i := 1) dX11_book_4 rfl rfl ?_
    refine aw_iconst (pc := 5) dX11_book_5 iconst_1 ?_
    refine aw_icmp_eq (pc := 6) (tgt := 13) dX11_book_6 rfl (fun h6 => ?_) (fun h6 => ?_)
    · -- 13
      exact absurd hx (by rw [h6]; decide)
    · -- 9
      refine aw_sipush (pc := 9) dX11_book_9 sipush_m1000 ?_
      exact aw_iret (pc := 12) dX11_book_12 rfl (Nat.le_refl _) (Nat.le_refl _) (kk hJ.th)
