def S92 (t : Nat → Nat) : Prop := t 92 = sumF (fun q => t (132 + q)) (t 2)
theorem S92_of {t u : Nat → Nat} (h : S92 t) (h2 : t 2 ≤ 6) (e2 : u 2 = t 2) (e92 : u 92 = t 92) (e : ∀ q, q < 6 → u (132 + q) = t (132 + q)) : S92 u := by
  unfold S92
  rw [e2, e92, h]
  exact sumF_cong _ (fun q hq => (e q (by omega)).symm)
theorem cross_92 {t : Nat → Nat} {q l : Nat} (hq : q < 6) (hl : l < 7) : crossF t q l 92 = t 92 + 1 := by
  unfold crossF crossG
  split
  · rw [upN_n _ _ _ _ (by omega), upN_n _ _ _ _ (by omega), upN_n _ _ _ _ (by omega), upN_s]
  · split
    · rw [upN_s]
    · rw [upN_n _ _ _ _ (by omega), upN_n _ _ _ _ (by omega), upN_n _ _ _ _ (by omega), upN_s]
theorem S92_cross {t : Nat → Nat} {q l : Nat} (h : S92 t) (h2 : t 2 ≤ 6) (hq : q < t 2) (hl : l < 7) : S92 (crossF t q l) := by
  unfold S92
  rw [cross_92 (by omega) hl, crossF_lo (by omega) hl (by omega : ¬ 2 = 92 ∧ _)]
  have := sumF_upd (f := fun p => t (132 + p)) (g := fun p => crossF t q l (132 + p)) (q := q) (t 2) hq (fun p hp hne => by show crossF t q l (132 + p) = _; rw [crossF_132 (by omega) hl (by omega), if_neg hne])
  have e : crossF t q l (132 + q) = t (132 + q) + 1 := by rw [crossF_132 (by omega) hl (by omega), if_pos rfl]
  change sumF _ _ + t (132 + q) = _ + crossF t q l (132 + q) at this
  rw [e] at this
  unfold S92 at h
  omega
theorem day_keep {t : Nat → Nat} (h2 : t 2 ≤ 6) (hh : ∀ q, q < t 2 → t (79 + q) < 7) {j : Nat} (h1 : ¬ j = 91) (hj : ¬ (114 ≤ j ∧ j < 120)) (hk : ¬ (94 ≤ j ∧ j < 101)) : dayF t j = t j := by
  unfold dayF
  rw [upN_n _ _ _ _ h1, dayG_keep _ h2 hh j hj hk]
theorem S92_day {t : Nat → Nat} (h : S92 t) (hw : WT t) : S92 (dayF t) := by
  obtain ⟨hb, h0, h1, h2, hR, hP, hD, hC, hT⟩ := hw
  have hh : ∀ q, q < t 2 → t (79 + q) < 7 := fun q hq => by have := hP q hq; omega
  exact S92_of h h2 (day_keep h2 hh (by omega) (by omega) (by omega)) (day_keep h2 hh (by omega) (by omega) (by omega)) (fun q hq => day_keep h2 hh (by omega) (by omega) (by omega))
theorem S92_goG : ∀ (n : Nat) {t : Nat → Nat} {b : Nat}, 500 ≤ b → WV t b → S92 t → S92 (goG n t).2 := by
  intro n
  induction n with
  | zero => intro t b _ _ h; exact h
  | succ n ih =>
    intro t b hb H h
    rw [goG]
    split
    · rename_i h9
      exact ih hb (WV_day H hb h9) (S92_day h H.1.1)
    · exact h
theorem S92_does {t : Nat → Nat} {b k x y n : Nat} (H : WV t b) (hb5 : 4096 ≤ b) (hok : lnOK t k x y n) (h : S92 t) : S92 (doesT t k x y n) := by
  obtain ⟨hb, h0, h1, h2, hR, hP, hD, hC, hT⟩ := id H.1.1
  obtain ⟨hk, o0, o1, o3, o5, o6⟩ := hok
  rcases (show k = 0 ∨ k = 1 ∨ k = 2 ∨ k = 3 ∨ k = 4 ∨ k = 5 ∨ k = 6 by omega) with rfl | rfl | rfl | rfl | rfl | rfl | rfl
  · exact S92_cross h h2 (o0 rfl).1 (by have := o0 rfl; omega)
  · have := o1 (by decide)
    exact S92_of h h2 (upN_n _ _ _ _ (by omega)) (upN_n _ _ _ _ (by omega)) (fun q hq => upN_n _ _ _ _ (by omega))
  · have := o1 (by decide)
    exact S92_of h h2 (upN_n _ _ _ _ (by omega)) (upN_n _ _ _ _ (by omega)) (fun q hq => upN_n _ _ _ _ (by omega))
  · change S92 (upN t 93 (t 93 ^^^ 2 ^ x))
    exact S92_of h h2 (upN_n _ _ _ _ (by omega)) (upN_n _ _ _ _ (by omega)) (fun q hq => upN_n _ _ _ _ (by omega))
  · change S92 (upN t 93 (t 93 ^^^ 2 ^ x))
    exact S92_of h h2 (upN_n _ _ _ _ (by omega)) (upN_n _ _ _ _ (by omega)) (fun q hq => upN_n _ _ _ _ (by omega))
  · have := o1 (by decide)
    exact S92_of h h2 ((upN_n _ _ _ _ (by omega)).trans (upN_n _ _ _ _ (by omega))) ((upN_n _ _ _ _ (by omega)).trans (upN_n _ _ _ _ (by omega))) (fun q hq => (upN_n _ _ _ _ (by omega)).trans (upN_n _ _ _ _ (by omega)))
  · exact S92_goG x (by omega) H h
theorem S92_per {x : Int32 × (Nat → Nat)} {b : Nat} (hb : b + 126 ≤ 2 ^ 29) (hb5 : 500 ≤ b) (H : WV x.2 b) (h0 : 0 < x.2 0) (h : S92 x.2) : ∀ n, n ≤ x.2 2 → S92 (perG x n).2 := by
  intro n
  induction n with
  | zero => intro _; exact h
  | succ n ih =>
    intro hn
    obtain ⟨a1, a2, a3, a4, a5⟩ := perG_keep hb hb5 H n (by omega)
    have i := ih (by omega)
    have hw := a1.1.1
    have hl := drN_lt (perG x n).1 (n := (perG x n).2 0) (by omega)
    show S92 (if _ then _ else _)
    split
    · exact S92_cross i hw.2.2.2.1 (by omega) (by have := hw.2.1; omega)
    · exact i
theorem S92_dayD {x : Int32 × (Nat → Nat)} {b : Nat} (hb : b + 126 ≤ 2 ^ 29) (hb5 : 4096 ≤ b) (H : WV x.2 b) (h0 : 0 < x.2 0) (h : S92 x.2) : S92 (dayD x).2 := by
  obtain ⟨h1, h2, h3, h4, h5⟩ := turD_keep hb5 H
  obtain ⟨p1, p2, p3, p4, p5⟩ := perG_keep hb (by omega) h1 _ (Nat.le_refl _)
  have ht : S92 (turD x).2 := by
    have h26 := H.1.1.2.2.2.1
    unfold turD
    split
    · split
      · show S92 (upN x.2 93 (x.2 93 ^^^ 2 ^ drN (sdF x.1) (x.2 1)))
        exact S92_of h h26 (upN_n _ _ _ _ (by omega)) (upN_n _ _ _ _ (by omega)) (fun q hq => upN_n _ _ _ _ (by omega))
      · exact h
    · exact h
  have e0 : (turD x).2 0 = x.2 0 := h5 0 (by omega)
  exact S92_day (S92_per hb (by omega) h1 (by omega) ht _ (Nat.le_refl _)) p1.1.1
theorem S92_draws : ∀ (n : Nat) {x : Int32 × (Nat → Nat)} {b : Nat}, b + 126 * n ≤ 2 ^ 29 → 4096 ≤ b → WV x.2 b → 0 < x.2 0 → S92 x.2 → S92 (drawsG n x).2.2 := by
  intro n
  induction n with
  | zero => intro x b _ _ _ _ h; exact h
  | succ n ih =>
    intro x b hb hb5 H h0 h
    rw [drawsG]
    split
    · rename_i h9
      have q := dayD_keep (by omega) hb5 H h9
      exact ih (b := b + 126) (by omega) (by omega) q.1 (by rw [q.2.2 0 (by omega)]; exact h0) (S92_dayD (by omega) hb5 H h0 h)
    · exact h
set_option maxHeartbeats 1000000 in
set_option maxRecDepth 20000 in
theorem att_do {G : xG} {d : Nat} {Q : xQ} {ae : Nat → Nat} {tw ts : Nat} {kd : Nat → Bool} {ad : Nat → Nat → Nat} {κ : Nat → kS} {n : Nat} {σ : mS} {B : Nat} {R : va_W} {k x y z : Nat} {va vb vn : Int32} (hE : EB ae tw ts G) (hNB : NB G) (hAO : AO G) (hJ : J ae kd ad κ n σ B) (hok : lnOK (σ.2.1 6) k x y z) (har : ARG k x y z va vb vn) (hB9 : B + 99 ≤ 2 ^ 29) (hy0 : doesN (σ.2.1 6) k x y z = 0) (kk : ∀ κ9, J ae kd ad κ9 n (sN σ 6 (doesT (σ.2.1 6) k x y z)) (B + 99) → Q (some (.int (nI 0))) (WX G.2.2.1 kd ad κ9 n [] ++ R)) : AW G MX11_attempt (d + 4) 0 0 Q 23 [some (.ref ((ad 0) 20)), some (.int (nI k)), some (.int va), some (.int vb), some (.int vn), some (.int (nI 0))] [] (WX G.2.2.1 kd ad κ n [] ++ R) 0 0 := by
  obtain ⟨hn, hMain, hSub, hTape, hR10, hR11, hR12, hR13, hMisc, hRef, hB5, jc, NM, sn, sd, m, pn, im, hCht, hSR, hSnt, hTok, hPast, hPm, hSds, hImg⟩ := id hJ
  have hw : WT (σ.2.1 6) := hTok.1.1.1
  have hI := ov_0 (G := G) (kd := kd) (ad := ad) (κ := κ) (xs := [2]) (R := R) (by omega : 0 < n) (by simp)
  have hC2 : CHR G (WX G.2.2.1 kd ad κ n [2] ++ R) (ad jc) (σ.2.1 6) NM := (hCht.chr (ad := ad) hw (fun i hi => by simp at hi; omega)).sub mem_R1
  have hdS : doesS (σ.2.1 6) k x y z = doesT (σ.2.1 6) k x y z := if_pos hy0
  have hdo := WV_does hTok.1 hB9 hB5 hok
  rw [hdS] at hdo
  have h92 := S92_does hTok.1 hB5 hok hTok.2.2
  refine aw_pull1 (p1 := 2) (by omega)  ?_
  refine aw_ws (w9 := (wSt G.2.2.1 (ad 2) (κ 2) ++ (WX G.2.2.1 kd ad κ n [2] ++ R))) rfl ?_
  refine aw_aload_n (pc := 23) (i := 0) dX11_attempt_23 rfl rfl ?_
  refine av_get (pc := 24) (x := .ref ((ad 2) 12)) dX11_attempt_24 rfl og_X11_72 rfl (hI.sub mem_app) hMain.2.1 ?_
  refine aw_iload_n (pc := 27) (i := 1) dX11_attempt_27 rfl rfl ?_
  refine aw_iload_n (pc := 28) (i := 2) dX11_attempt_28 rfl rfl ?_
  refine aw_iload_n (pc := 29) (i := 3) dX11_attempt_29 rfl rfl ?_
  refine aw_iload (pc := 30) dX11_attempt_30 rfl ?_
  refine cVv (pc := 32) (As := [.int (nI k), .int va, .int vb, .int vn]) (rest := []) dX11_attempt_32 rfl oc_X11_350 rfl rfl (Nat.le_of_ble_eq_true rfl) rfl rfl ovX7 (Nat.le_refl _) (Nat.le_refl _) (c7_doQ hNB hSR hC2 hw (by omega) hTok.1 hok har hy0 ?_)
  intro k1 g1
  refine ⟨rfl, ?_⟩
  refine aw_iload (pc := 35) dX11_attempt_35 rfl ?_
  refine aw_push1 (p1 := 2) (by omega)  ?_
  refine aw_iret (pc := 37) dX11_attempt_37 rfl (Nat.le_refl _) (Nat.le_refl _) ?_
  refine kk _ (hJ.act hdo.2 hdo.1 h92 (by omega) (fun c9 sn9 sd9 h9 => ?_))
  obtain ⟨e1, e2, e3, e4, e5, e6, e7⟩ := id g1
  obtain ⟨f1, f2, -⟩ := id hSR
  obtain ⟨q1, q2, -⟩ := id h9
  exact ⟨_, e1.trans (f1.symm.trans q1), e2.trans (f2.symm.trans q2), e3, e4, e5, e6, e7⟩
set_option maxHeartbeats 1000000 in
set_option maxRecDepth 20000 in
theorem c11_attempt {G : xG} {d : Nat} {Q : xQ} {ae : Nat → Nat} {tw ts : Nat} {kd : Nat → Bool} {ad : Nat → Nat → Nat} {κ : Nat → kS} {n : Nat} {σ : mS} {B : Nat} {R : va_W} {k x y z : Nat} {va vb vn : Int32}  (hE : EB ae tw ts G) (hNB : NB G) (hAO : AO G) (hJ : J ae kd ad κ n σ B) (hok : lnOK (σ.2.1 6) k x y z) (har : ARG k x y z va vb vn) (hB9 : B + 99 ≤ 2 ^ 29) (k0 : 0 < doesN (σ.2.1 6) k x y z → Q (some (.int (nI (doesN (σ.2.1 6) k x y z)))) (WX G.2.2.1 kd ad κ n [] ++ R)) (k1 : doesN (σ.2.1 6) k x y z = 0 → ∀ κ9 m, σ.1 23 = nI m → m ≤ 8 → J ae kd ad κ9 n (sN (keepS σ m) 6 (doesT (σ.2.1 6) k x y z)) (B + 99) → Q (some (.int (nI 0))) (WX G.2.2.1 kd ad κ9 n [] ++ R)) : MT G MX11_attempt (d + 4) 0 0 [.ref ((ad 0) 20), .int (nI k), .int va, .int vb, .int vn] (WX G.2.2.1 kd ad κ n [] ++ R) Q := by
  obtain ⟨hn, hMain, hSub, hTape, hR10, hR11, hR12, hR13, hMisc, hRef, hB5, jc, NM, sn, sd, m, pn, im, hCht, hSR, hSnt, hTok, hPast, hPm, hSds, hImg⟩ := id hJ
  have hw : WT (σ.2.1 6) := hTok.1.1.1
  have hI := ov_0 (G := G) (kd := kd) (ad := ad) (κ := κ) (xs := []) (R := R) (by omega : 0 < n) (by simp)
  have hTp := ov_1 (G := G) (kd := kd) (ad := ad) (κ := κ) (xs := []) (R := R) (by omega : 1 < n) (by simp)
  have hS := st_2 (G := G) (kd := kd) (ad := ad) (n := n) (xs := []) (R := R) hSR hw (by omega) (by simp)
  have hC : CHR G (WX G.2.2.1 kd ad κ n [] ++ R) (ad jc) (σ.2.1 6) NM := (hCht.chr (ad := ad) hw (fun i hi => by simp at hi)).sub mem_R1
  obtain ⟨hb, h0, h1, h2, hRd, hP, hD, hCl, hT⟩ := id hw
  obtain ⟨sd9, hSo, hS2, hS3, hS6, hS7, hS8, hS9, hS10⟩ := id hS
  obtain ⟨n1, hTB, hlen, hflt⟩ := id hTape
  refine mt_start (L := [some (.ref ((ad 0) 20)), some (.int (nI k)), some (.int va), some (.int vb), some (.int vn), none]) rfl (Nat.le_of_ble_eq_true rfl) rfl ?_
  have hdn : doesN (σ.2.1 6) k x y z < 2 ^ 31 := Nat.lt_of_le_of_lt (doesN_le _ _ _ _ _) (by decide)
  refine aw_aload_n (pc := 0) (i := 0) dX11_attempt_0 rfl rfl ?_
  refine av_get (pc := 1) (x := .ref ((ad 2) 12)) dX11_attempt_1 rfl og_X11_72 rfl hI hMain.2.1 ?_
  refine aw_iload_n (pc := 4) (i := 1) dX11_attempt_4 rfl rfl ?_
  refine aw_iload_n (pc := 5) (i := 2) dX11_attempt_5 rfl rfl ?_
  refine aw_iload_n (pc := 6) (i := 3) dX11_attempt_6 rfl rfl ?_
  refine aw_iload (pc := 7) dX11_attempt_7 rfl ?_
  refine cVi (pc := 9) (As := [.int (nI k), .int va, .int vb, .int vn]) (rest := []) dX11_attempt_9 rfl oc_X11_347 rfl rfl (Nat.le_of_ble_eq_true rfl) rfl rfl hSo (Nat.le_refl _) (Nat.le_refl _) (c7_whyQ hNB hS hC hw hok har ⟨_, rfl, ?_⟩)
  refine aw_istore (pc := 12) (i := 5) dX11_attempt_12 (Nat.le_of_ble_eq_true rfl) rfl ?_
  refine aw_iload (pc := 14) dX11_attempt_14 rfl ?_
  refine an_if_ne (pc := 16) (tgt := 35) dX11_attempt_16 rfl hdn (fun h16 => ?_) (fun h16 => ?_)
  · -- 35
    refine aw_iload (pc := 35) dX11_attempt_35 rfl ?_
    exact aw_iret (pc := 37) dX11_attempt_37 rfl (Nat.le_refl _) (Nat.le_refl _) (k0 h16)
  · -- 19
    refine aw_aload_n (pc := 19) (i := 0) dX11_attempt_19 rfl rfl ?_
    refine cVv (pc := 20) (As := []) (rest := []) dX11_attempt_20 rfl oc_X11_319 rfl rfl (Nat.le_of_ble_eq_true rfl) rfl rfl hI (Nat.le_refl _) (Nat.le_refl _) (c11_keep hE hNB hAO hJ ?_)
    · -- call
      intro κ1 m1 hm1 hm2 hJ1
      refine ⟨rfl, ?_⟩
      rw [h16]
      exact att_do hE hNB hAO hJ1 hok har hB9 h16 (fun κ9 h9 => k1 h16 κ9 m1 hm1 hm2 h9)
theorem J.mono {ae : Nat → Nat} {kd : Nat → Bool} {ad : Nat → Nat → Nat} {κ : Nat → kS} {n : Nat} {σ : mS} {B B' : Nat} (h : J ae kd ad κ n σ B) (hb : B ≤ B') : J ae kd ad κ n σ B' := by
  obtain ⟨hn, hMain, hSub, hTape, hR10, hR11, hR12, hR13, hMisc, hRef, hB5, jc, NM, sn, sd, m, pn, im, hCht, hSR, hSnt, hTok, hPast, hPm, hSds, hImg⟩ := h
  exact ⟨hn, hMain, hSub, hTape, hR10, hR11, hR12, hR13, hMisc, hRef, Nat.le_trans hB5 hb, jc, NM, sn, sd, m, pn, im, hCht, hSR, hSnt, TOK_mono hTok hb, fun i hi => ⟨(hPast i hi).1, WV_mono (hPast i hi).2.1 hb, (hPast i hi).2.2⟩, hPm, hSds, jImg_mono hImg hb⟩
set_option maxHeartbeats 1000000 in
set_option maxRecDepth 20000 in
theorem x_cross {G : xG} {d : Nat} {Q : xQ} {ae : Nat → Nat} {tw ts : Nat} {kd : Nat → Bool} {ad : Nat → Nat → Nat} {κ : Nat → kS} {n : Nat} {σ : mS} {B : Nat} {R : va_W} {x y : Int32} (hE : EB ae tw ts G) (hNB : NB G) (hAO : AO G) (hJ : J ae kd ad κ n σ B) (hB9 : B + 99 ≤ 2 ^ 29) (kk : ∀ κ9 m, σ.1 23 = nI m → m ≤ 8 → J ae kd ad κ9 n (crossS σ m x y) (B + 99) → Q (some (.int (crossA (σ.2.1 6) x y))) (WX G.2.2.1 kd ad κ9 n [] ++ R)) : MT G MX11_cross (d + 5) 0 0 [.ref ((ad 0) 20), .int x, .int y] (WX G.2.2.1 kd ad κ n [] ++ R) Q := by
  obtain ⟨hn, hMain, hSub, hTape, hR10, hR11, hR12, hR13, hMisc, hRef, hB5, jc, NM, sn, sd, m, pn, im, hCht, hSR, hSnt, hTok, hPast, hPm, hSds, hImg⟩ := id hJ
  have hw : WT (σ.2.1 6) := hTok.1.1.1
  have hI := ov_0 (G := G) (kd := kd) (ad := ad) (κ := κ) (xs := []) (R := R) (by omega : 0 < n) (by simp)
  have hTp := ov_1 (G := G) (kd := kd) (ad := ad) (κ := κ) (xs := []) (R := R) (by omega : 1 < n) (by simp)
  have hS := st_2 (G := G) (kd := kd) (ad := ad) (n := n) (xs := []) (R := R) hSR hw (by omega) (by simp)
  have hC : CHR G (WX G.2.2.1 kd ad κ n [] ++ R) (ad jc) (σ.2.1 6) NM := (hCht.chr (ad := ad) hw (fun i hi => by simp at hi)).sub mem_R1
  obtain ⟨hb, h0, h1, h2, hRd, hP, hD, hCl, hT⟩ := id hw
  obtain ⟨sd9, hSo, hS2, hS3, hS6, hS7, hS8, hS9, hS10⟩ := id hS
  obtain ⟨n1, hTB, hlen, hflt⟩ := id hTape
  refine mt_start (L := [some (.ref ((ad 0) 20)), some (.int x), some (.int y)]) rfl (Nat.le_of_ble_eq_true rfl) rfl ?_
  refine aw_aload_n (pc := 0) (i := 0) dX11_cross_0 rfl rfl ?_
  refine aw_iload_n (pc := 1) (i := 1) dX11_cross_1 rfl rfl ?_
  refine cVi (pc := 2) (As := [.int x]) (rest := []) dX11_cross_2 rfl oc_X11_135 rfl rfl (Nat.le_of_ble_eq_true rfl) rfl rfl hI (Nat.le_refl _) (Nat.le_refl _) (c11_isPerson hI hMain.2.1 hS hC (by omega) ⟨_, rfl, ?_⟩)
  refine ab_if_eq (pc := 5) (tgt := 27) dX11_cross_5 rfl (fun h5 => ?_) (fun h5 => ?_)
  · -- 27
    refine aw_iconst (pc := 27) dX11_cross_27 iconst_m1 ?_
    refine aw_iret (pc := 28) dX11_cross_28 rfl (Nat.le_refl _) (Nat.le_refl _) ?_
    have hg : ¬ (inB (σ.2.1 6 2) x && inB (σ.2.1 6 0) y) = true := by rw [h5, Bool.false_and]; decide
    have := kk κ m hPm.1 hPm.2.2.2.1 (by rw [show crossS σ m x y = mI σ 0 (nI 0) from if_neg hg]; exact (hJ.mono (by omega)).th)
    rw [show crossA (σ.2.1 6) x y = -1 from if_neg hg] at this
    exact this
  · -- 8
    obtain ⟨i, hi, rfl⟩ := inB_t (Nat.lt_of_le_of_lt h2 (by decide)) h5
    refine aw_aload_n (pc := 8) (i := 0) dX11_cross_8 rfl rfl ?_
    refine aw_iload_n (pc := 9) (i := 2) dX11_cross_9 rfl rfl ?_
    refine cVi (pc := 10) (As := [.int y]) (rest := []) dX11_cross_10 rfl oc_X11_167 rfl rfl (Nat.le_of_ble_eq_true rfl) rfl rfl hI (Nat.le_refl _) (Nat.le_refl _) (c11_isLand hI hMain.2.1 hS hC (by omega) ⟨_, rfl, ?_⟩)
    refine ab_if_eq (pc := 13) (tgt := 27) dX11_cross_13 rfl (fun h13 => ?_) (fun h13 => ?_)
    · -- 27
      refine aw_iconst (pc := 27) dX11_cross_27 iconst_m1 ?_
      refine aw_iret (pc := 28) dX11_cross_28 rfl (Nat.le_refl _) (Nat.le_refl _) ?_
      have hg : ¬ (inB (σ.2.1 6 2) (nI i) && inB (σ.2.1 6 0) y) = true := by rw [h5, h13]; decide
      have := kk κ m hPm.1 hPm.2.2.2.1 (by rw [show crossS σ m (nI i) y = mI σ 0 (nI 0) from if_neg hg]; exact (hJ.mono (by omega)).th)
      rw [show crossA (σ.2.1 6) (nI i) y = -1 from if_neg hg] at this
      exact this
    · -- 16
      obtain ⟨j, hj, rfl⟩ := inB_t (Nat.lt_of_le_of_lt h0 (by decide)) h13
      refine aw_aload_n (pc := 16) (i := 0) dX11_cross_16 rfl rfl ?_
      refine aw_iconst (pc := 17) dX11_cross_17 iconst_0 ?_
      refine aw_iload_n (pc := 18) (i := 1) dX11_cross_18 rfl rfl ?_
      refine aw_iload_n (pc := 19) (i := 2) dX11_cross_19 rfl rfl ?_
      refine aw_iconst (pc := 20) dX11_cross_20 iconst_0 ?_
      refine cVi (pc := 21) (As := [.int (nI 0), .int (nI i), .int (nI j), .int (nI 0)]) (rest := []) dX11_cross_21 rfl oc_X11_228 rfl rfl (Nat.le_of_ble_eq_true rfl) rfl rfl hI (Nat.le_refl _) (Nat.le_refl _) (c11_attempt (k := 0) (x := i) (y := j) (z := 0) hE hNB hAO hJ ⟨by decide, by omega, by omega, by omega, by omega, by omega⟩ ⟨fun _ => rfl, fun _ => rfl, fun h => absurd h (by decide), fun h => absurd h (by decide)⟩ hB9 ?_ ?_)
      · -- call
        intro hpos
        refine ⟨_, rfl, ?_⟩
        have hg : (inB (σ.2.1 6 2) (nI i) && inB (σ.2.1 6 0) (nI j)) = true := by rw [h5, h13]; rfl
        refine aw_goto (pc := 24) (tgt := 28) dX11_cross_24 rfl ?_
        exact aw_iret (pc := 28) dX11_cross_28 rfl (Nat.le_refl _) (Nat.le_refl _) (by
          have := kk κ m hPm.1 hPm.2.2.2.1 (by rw [show crossS σ m (nI i) (nI j) = mI σ 0 (nI 0) by unfold crossS; rw [if_pos hg, nI_clamp (by omega), nI_clamp (by omega), if_neg (by have : 0 < whyX (σ.2.1 6) i j := hpos; omega)]]; exact (hJ.mono (by omega)).th)
          rw [show crossA (σ.2.1 6) (nI i) (nI j) = nI (doesN (σ.2.1 6) 0 i j 0) by unfold crossA; rw [if_pos hg, nI_clamp (by omega), nI_clamp (by omega)]; rfl] at this
          exact this)
      · -- call
        intro hz κ9 m9 hm9 hm9b hJ9
        refine ⟨_, rfl, ?_⟩
        have hg : (inB (σ.2.1 6 2) (nI i) && inB (σ.2.1 6 0) (nI j)) = true := by rw [h5, h13]; rfl
        refine aw_goto (pc := 24) (tgt := 28) dX11_cross_24 rfl ?_
        exact aw_iret (pc := 28) dX11_cross_28 rfl (Nat.le_refl _) (Nat.le_refl _) (by
          have := kk κ9 m9 hm9 hm9b (by rw [show crossS σ m9 (nI i) (nI j) = sN (keepS (mI σ 0 (nI 0)) m9) 6 (doesT (σ.2.1 6) 0 i j 0) by unfold crossS; rw [if_pos hg, nI_clamp (by omega), nI_clamp (by omega), if_pos (show whyX (σ.2.1 6) i j = 0 from hz)]; rfl]; exact hJ9)
          rw [show crossA (σ.2.1 6) (nI i) (nI j) = nI 0 by unfold crossA; rw [if_pos hg, nI_clamp (by omega), nI_clamp (by omega)]; rw [show whyX (σ.2.1 6) i j = 0 from hz]] at this
          exact this)
set_option maxHeartbeats 1000000 in
set_option maxRecDepth 20000 in
theorem x_pact {G : xG} {d : Nat} {Q : xQ} {ae : Nat → Nat} {tw ts : Nat} {kd : Nat → Bool} {ad : Nat → Nat → Nat} {κ : Nat → kS} {n : Nat} {σ : mS} {B : Nat} {R : va_W} {x y : Int32} (hE : EB ae tw ts G) (hNB : NB G) (hAO : AO G) (hJ : J ae kd ad κ n σ B) (hB9 : B + 99 ≤ 2 ^ 29) (kk : ∀ κ9 m, σ.1 23 = nI m → m ≤ 8 → J ae kd ad κ9 n (pactS σ m x y) (B + 99) → Q (some (.int (pactA (σ.2.1 6) x y))) (WX G.2.2.1 kd ad κ9 n [] ++ R)) : MT G MX11_pact (d + 5) 0 0 [.ref ((ad 0) 20), .int x, .int y] (WX G.2.2.1 kd ad κ n [] ++ R) Q := by
  obtain ⟨hn, hMain, hSub, hTape, hR10, hR11, hR12, hR13, hMisc, hRef, hB5, jc, NM, sn, sd, m, pn, im, hCht, hSR, hSnt, hTok, hPast, hPm, hSds, hImg⟩ := id hJ
  have hw : WT (σ.2.1 6) := hTok.1.1.1
  have hI := ov_0 (G := G) (kd := kd) (ad := ad) (κ := κ) (xs := []) (R := R) (by omega : 0 < n) (by simp)
  have hTp := ov_1 (G := G) (kd := kd) (ad := ad) (κ := κ) (xs := []) (R := R) (by omega : 1 < n) (by simp)
  have hS := st_2 (G := G) (kd := kd) (ad := ad) (n := n) (xs := []) (R := R) hSR hw (by omega) (by simp)
  have hC : CHR G (WX G.2.2.1 kd ad κ n [] ++ R) (ad jc) (σ.2.1 6) NM := (hCht.chr (ad := ad) hw (fun i hi => by simp at hi)).sub mem_R1
  obtain ⟨hb, h0, h1, h2, hRd, hP, hD, hCl, hT⟩ := id hw
  obtain ⟨sd9, hSo, hS2, hS3, hS6, hS7, hS8, hS9, hS10⟩ := id hS
  obtain ⟨n1, hTB, hlen, hflt⟩ := id hTape
  refine mt_start (L := [some (.ref ((ad 0) 20)), some (.int x), some (.int y)]) rfl (Nat.le_of_ble_eq_true rfl) rfl ?_
  refine aw_aload_n (pc := 0) (i := 0) dX11_pact_0 rfl rfl ?_
  refine aw_iload_n (pc := 1) (i := 1) dX11_pact_1 rfl rfl ?_
  refine cVi (pc := 2) (As := [.int x]) (rest := []) dX11_pact_2 rfl oc_X11_167 rfl rfl (Nat.le_of_ble_eq_true rfl) rfl rfl hI (Nat.le_refl _) (Nat.le_refl _) (c11_isLand hI hMain.2.1 hS hC (by omega) ⟨_, rfl, ?_⟩)
  refine ab_if_eq (pc := 5) (tgt := 27) dX11_pact_5 rfl (fun h5 => ?_) (fun h5 => ?_)
  · -- 27
    refine aw_iconst (pc := 27) dX11_pact_27 iconst_m1 ?_
    refine aw_iret (pc := 28) dX11_pact_28 rfl (Nat.le_refl _) (Nat.le_refl _) ?_
    have hg : ¬ (inB (σ.2.1 6 0) x && inB (σ.2.1 6 0) y) = true := by rw [h5, Bool.false_and]; decide
    have := kk κ m hPm.1 hPm.2.2.2.1 (by rw [show pactS σ m x y = mI σ 0 (nI 0) from if_neg hg]; exact (hJ.mono (by omega)).th)
    rw [show pactA (σ.2.1 6) x y = -1 from if_neg hg] at this
    exact this
  · -- 8
    obtain ⟨i, hi, rfl⟩ := inB_t (Nat.lt_of_le_of_lt h0 (by decide)) h5
    refine aw_aload_n (pc := 8) (i := 0) dX11_pact_8 rfl rfl ?_
    refine aw_iload_n (pc := 9) (i := 2) dX11_pact_9 rfl rfl ?_
    refine cVi (pc := 10) (As := [.int y]) (rest := []) dX11_pact_10 rfl oc_X11_167 rfl rfl (Nat.le_of_ble_eq_true rfl) rfl rfl hI (Nat.le_refl _) (Nat.le_refl _) (c11_isLand hI hMain.2.1 hS hC (by omega) ⟨_, rfl, ?_⟩)
    refine ab_if_eq (pc := 13) (tgt := 27) dX11_pact_13 rfl (fun h13 => ?_) (fun h13 => ?_)
    · -- 27
      refine aw_iconst (pc := 27) dX11_pact_27 iconst_m1 ?_
      refine aw_iret (pc := 28) dX11_pact_28 rfl (Nat.le_refl _) (Nat.le_refl _) ?_
      have hg : ¬ (inB (σ.2.1 6 0) (nI i) && inB (σ.2.1 6 0) y) = true := by rw [h5, h13]; decide
      have := kk κ m hPm.1 hPm.2.2.2.1 (by rw [show pactS σ m (nI i) y = mI σ 0 (nI 0) from if_neg hg]; exact (hJ.mono (by omega)).th)
      rw [show pactA (σ.2.1 6) (nI i) y = -1 from if_neg hg] at this
      exact this
    · -- 16
      obtain ⟨j, hj, rfl⟩ := inB_t (Nat.lt_of_le_of_lt h0 (by decide)) h13
      refine aw_aload_n (pc := 16) (i := 0) dX11_pact_16 rfl rfl ?_
      refine aw_iconst (pc := 17) dX11_pact_17 iconst_1 ?_
      refine aw_iload_n (pc := 18) (i := 1) dX11_pact_18 rfl rfl ?_
      refine aw_iload_n (pc := 19) (i := 2) dX11_pact_19 rfl rfl ?_
      refine aw_iconst (pc := 20) dX11_pact_20 iconst_0 ?_
      refine cVi (pc := 21) (As := [.int (nI 1), .int (nI i), .int (nI j), .int (nI 0)]) (rest := []) dX11_pact_21 rfl oc_X11_228 rfl rfl (Nat.le_of_ble_eq_true rfl) rfl rfl hI (Nat.le_refl _) (Nat.le_refl _) (c11_attempt (k := 1) (x := i) (y := j) (z := 0) hE hNB hAO hJ ⟨by decide, by omega, by omega, by omega, by omega, by omega⟩ ⟨fun _ => rfl, fun _ => rfl, fun h => absurd h (by decide), fun h => absurd h (by decide)⟩ hB9 ?_ ?_)
      · -- call
        intro hpos
        refine ⟨_, rfl, ?_⟩
        have hg : (inB (σ.2.1 6 0) (nI i) && inB (σ.2.1 6 0) (nI j)) = true := by rw [h5, h13]; rfl
        refine aw_goto (pc := 24) (tgt := 28) dX11_pact_24 rfl ?_
        exact aw_iret (pc := 28) dX11_pact_28 rfl (Nat.le_refl _) (Nat.le_refl _) (by
          have := kk κ m hPm.1 hPm.2.2.2.1 (by rw [show pactS σ m (nI i) (nI j) = mI σ 0 (nI 0) by unfold pactS; rw [if_pos hg, nI_clamp (by omega), nI_clamp (by omega), if_neg (by have : 0 < whyPactF (σ.2.1 6) i j := hpos; omega)]]; exact (hJ.mono (by omega)).th)
          rw [show pactA (σ.2.1 6) (nI i) (nI j) = nI (doesN (σ.2.1 6) 1 i j 0) by unfold pactA; rw [if_pos hg, nI_clamp (by omega), nI_clamp (by omega)]; rfl] at this
          exact this)
      · -- call
        intro hz κ9 m9 hm9 hm9b hJ9
        refine ⟨_, rfl, ?_⟩
        have hg : (inB (σ.2.1 6 0) (nI i) && inB (σ.2.1 6 0) (nI j)) = true := by rw [h5, h13]; rfl
        refine aw_goto (pc := 24) (tgt := 28) dX11_pact_24 rfl ?_
        exact aw_iret (pc := 28) dX11_pact_28 rfl (Nat.le_refl _) (Nat.le_refl _) (by
          have := kk κ9 m9 hm9 hm9b (by rw [show pactS σ m9 (nI i) (nI j) = sN (keepS (mI σ 0 (nI 0)) m9) 6 (doesT (σ.2.1 6) 1 i j 0) by unfold pactS; rw [if_pos hg, nI_clamp (by omega), nI_clamp (by omega), if_pos (show whyPactF (σ.2.1 6) i j = 0 from hz)]; rfl]; exact hJ9)
          rw [show pactA (σ.2.1 6) (nI i) (nI j) = nI 0 by unfold pactA; rw [if_pos hg, nI_clamp (by omega), nI_clamp (by omega)]; rw [show whyPactF (σ.2.1 6) i j = 0 from hz]] at this
          exact this)
theorem brk_t {t : Nat → Nat} {i j : Nat} (h : doesN t 2 i j 0 = 0) : (t (101 + i)).testBit j = true := by
  apply Classical.byContradiction
  intro q
  have : doesN t 2 i j 0 = 1 := if_neg q
  omega
theorem brk_f {t : Nat → Nat} {i j : Nat} (h : 0 < doesN t 2 i j 0) : ¬ (t (101 + i)).testBit j = true := fun q => by
  have : doesN t 2 i j 0 = 0 := if_pos q
  omega
set_option maxHeartbeats 1000000 in
set_option maxRecDepth 20000 in
theorem x_breaks {G : xG} {d : Nat} {Q : xQ} {ae : Nat → Nat} {tw ts : Nat} {kd : Nat → Bool} {ad : Nat → Nat → Nat} {κ : Nat → kS} {n : Nat} {σ : mS} {B : Nat} {R : va_W} {x y : Int32} (hE : EB ae tw ts G) (hNB : NB G) (hAO : AO G) (hJ : J ae kd ad κ n σ B) (hB9 : B + 99 ≤ 2 ^ 29) (kk : ∀ κ9 m, σ.1 23 = nI m → m ≤ 8 → J ae kd ad κ9 n (breaksS σ m x y) (B + 99) → Q (some (.int (breaksA (σ.2.1 6) x y))) (WX G.2.2.1 kd ad κ9 n [] ++ R)) : MT G MX11_breaks (d + 5) 0 0 [.ref ((ad 0) 20), .int x, .int y] (WX G.2.2.1 kd ad κ n [] ++ R) Q := by
  obtain ⟨hn, hMain, hSub, hTape, hR10, hR11, hR12, hR13, hMisc, hRef, hB5, jc, NM, sn, sd, m, pn, im, hCht, hSR, hSnt, hTok, hPast, hPm, hSds, hImg⟩ := id hJ
  have hw : WT (σ.2.1 6) := hTok.1.1.1
  have hI := ov_0 (G := G) (kd := kd) (ad := ad) (κ := κ) (xs := []) (R := R) (by omega : 0 < n) (by simp)
  have hTp := ov_1 (G := G) (kd := kd) (ad := ad) (κ := κ) (xs := []) (R := R) (by omega : 1 < n) (by simp)
  have hS := st_2 (G := G) (kd := kd) (ad := ad) (n := n) (xs := []) (R := R) hSR hw (by omega) (by simp)
  have hC : CHR G (WX G.2.2.1 kd ad κ n [] ++ R) (ad jc) (σ.2.1 6) NM := (hCht.chr (ad := ad) hw (fun i hi => by simp at hi)).sub mem_R1
  obtain ⟨hb, h0, h1, h2, hRd, hP, hD, hCl, hT⟩ := id hw
  obtain ⟨sd9, hSo, hS2, hS3, hS6, hS7, hS8, hS9, hS10⟩ := id hS
  obtain ⟨n1, hTB, hlen, hflt⟩ := id hTape
  refine mt_start (L := [some (.ref ((ad 0) 20)), some (.int x), some (.int y)]) rfl (Nat.le_of_ble_eq_true rfl) rfl ?_
  refine aw_aload_n (pc := 0) (i := 0) dX11_breaks_0 rfl rfl ?_
  refine aw_iload_n (pc := 1) (i := 1) dX11_breaks_1 rfl rfl ?_
  refine cVi (pc := 2) (As := [.int x]) (rest := []) dX11_breaks_2 rfl oc_X11_167 rfl rfl (Nat.le_of_ble_eq_true rfl) rfl rfl hI (Nat.le_refl _) (Nat.le_refl _) (c11_isLand hI hMain.2.1 hS hC (by omega) ⟨_, rfl, ?_⟩)
  refine ab_if_eq (pc := 5) (tgt := 27) dX11_breaks_5 rfl (fun h5 => ?_) (fun h5 => ?_)
  · -- 27
    refine aw_iconst (pc := 27) dX11_breaks_27 iconst_m1 ?_
    refine aw_iret (pc := 28) dX11_breaks_28 rfl (Nat.le_refl _) (Nat.le_refl _) ?_
    have hg : ¬ (inB (σ.2.1 6 0) x && inB (σ.2.1 6 0) y) = true := by rw [h5, Bool.false_and]; decide
    have := kk κ m hPm.1 hPm.2.2.2.1 (by rw [show breaksS σ m x y = mI σ 0 (nI 0) from if_neg hg]; exact (hJ.mono (by omega)).th)
    rw [show breaksA (σ.2.1 6) x y = -1 from if_neg hg] at this
    exact this
  · -- 8
    obtain ⟨i, hi, rfl⟩ := inB_t (Nat.lt_of_le_of_lt h0 (by decide)) h5
    refine aw_aload_n (pc := 8) (i := 0) dX11_breaks_8 rfl rfl ?_
    refine aw_iload_n (pc := 9) (i := 2) dX11_breaks_9 rfl rfl ?_
    refine cVi (pc := 10) (As := [.int y]) (rest := []) dX11_breaks_10 rfl oc_X11_167 rfl rfl (Nat.le_of_ble_eq_true rfl) rfl rfl hI (Nat.le_refl _) (Nat.le_refl _) (c11_isLand hI hMain.2.1 hS hC (by omega) ⟨_, rfl, ?_⟩)
    refine ab_if_eq (pc := 13) (tgt := 27) dX11_breaks_13 rfl (fun h13 => ?_) (fun h13 => ?_)
    · -- 27
      refine aw_iconst (pc := 27) dX11_breaks_27 iconst_m1 ?_
      refine aw_iret (pc := 28) dX11_breaks_28 rfl (Nat.le_refl _) (Nat.le_refl _) ?_
      have hg : ¬ (inB (σ.2.1 6 0) (nI i) && inB (σ.2.1 6 0) y) = true := by rw [h5, h13]; decide
      have := kk κ m hPm.1 hPm.2.2.2.1 (by rw [show breaksS σ m (nI i) y = mI σ 0 (nI 0) from if_neg hg]; exact (hJ.mono (by omega)).th)
      rw [show breaksA (σ.2.1 6) (nI i) y = -1 from if_neg hg] at this
      exact this
    · -- 16
      obtain ⟨j, hj, rfl⟩ := inB_t (Nat.lt_of_le_of_lt h0 (by decide)) h13
      refine aw_aload_n (pc := 16) (i := 0) dX11_breaks_16 rfl rfl ?_
      refine aw_iconst (pc := 17) dX11_breaks_17 iconst_2 ?_
      refine aw_iload_n (pc := 18) (i := 1) dX11_breaks_18 rfl rfl ?_
      refine aw_iload_n (pc := 19) (i := 2) dX11_breaks_19 rfl rfl ?_
      refine aw_iconst (pc := 20) dX11_breaks_20 iconst_0 ?_
      refine cVi (pc := 21) (As := [.int (nI 2), .int (nI i), .int (nI j), .int (nI 0)]) (rest := []) dX11_breaks_21 rfl oc_X11_228 rfl rfl (Nat.le_of_ble_eq_true rfl) rfl rfl hI (Nat.le_refl _) (Nat.le_refl _) (c11_attempt (k := 2) (x := i) (y := j) (z := 0) hE hNB hAO hJ ⟨by decide, by omega, by omega, by omega, by omega, by omega⟩ ⟨fun _ => rfl, fun _ => rfl, fun h => absurd h (by decide), fun h => absurd h (by decide)⟩ hB9 ?_ ?_)
      · -- call
        intro hpos
        refine ⟨_, rfl, ?_⟩
        have hg : (inB (σ.2.1 6 0) (nI i) && inB (σ.2.1 6 0) (nI j)) = true := by rw [h5, h13]; rfl
        refine aw_goto (pc := 24) (tgt := 28) dX11_breaks_24 rfl ?_
        exact aw_iret (pc := 28) dX11_breaks_28 rfl (Nat.le_refl _) (Nat.le_refl _) (by
          have := kk κ m hPm.1 hPm.2.2.2.1 (by rw [show breaksS σ m (nI i) (nI j) = mI σ 0 (nI 0) by unfold breaksS; rw [if_pos hg, nI_clamp (by omega), nI_clamp (by omega), if_neg (brk_f hpos)]]; exact (hJ.mono (by omega)).th)
          rw [show breaksA (σ.2.1 6) (nI i) (nI j) = nI (doesN (σ.2.1 6) 2 i j 0) by unfold breaksA; rw [if_pos hg, nI_clamp (by omega), nI_clamp (by omega)]; rw [if_neg (brk_f hpos), show doesN (σ.2.1 6) 2 i j 0 = 1 from if_neg (brk_f hpos)]] at this
          exact this)
      · -- call
        intro hz κ9 m9 hm9 hm9b hJ9
        refine ⟨_, rfl, ?_⟩
        have hg : (inB (σ.2.1 6 0) (nI i) && inB (σ.2.1 6 0) (nI j)) = true := by rw [h5, h13]; rfl
        refine aw_goto (pc := 24) (tgt := 28) dX11_breaks_24 rfl ?_
        exact aw_iret (pc := 28) dX11_breaks_28 rfl (Nat.le_refl _) (Nat.le_refl _) (by
          have := kk κ9 m9 hm9 hm9b (by rw [show breaksS σ m9 (nI i) (nI j) = sN (keepS (mI σ 0 (nI 0)) m9) 6 (doesT (σ.2.1 6) 2 i j 0) by unfold breaksS; rw [if_pos hg, nI_clamp (by omega), nI_clamp (by omega), if_pos (brk_t hz)]; rfl]; exact hJ9)
          rw [show breaksA (σ.2.1 6) (nI i) (nI j) = nI 0 by unfold breaksA; rw [if_pos hg, nI_clamp (by omega), nI_clamp (by omega)]; rw [if_pos (brk_t hz)]] at this
          exact this)
set_option maxHeartbeats 1000000 in
set_option maxRecDepth 20000 in
theorem x_close {G : xG} {d : Nat} {Q : xQ} {ae : Nat → Nat} {tw ts : Nat} {kd : Nat → Bool} {ad : Nat → Nat → Nat} {κ : Nat → kS} {n : Nat} {σ : mS} {B : Nat} {R : va_W} {x : Int32} (hE : EB ae tw ts G) (hNB : NB G) (hAO : AO G) (hJ : J ae kd ad κ n σ B) (hB9 : B + 99 ≤ 2 ^ 29) (kk : ∀ κ9 m, σ.1 23 = nI m → m ≤ 8 → J ae kd ad κ9 n (turnsS σ m x true) (B + 99) → Q (some (.int (turnsA (σ.2.1 6) x true))) (WX G.2.2.1 kd ad κ9 n [] ++ R)) : MT G MX11_close (d + 5) 0 0 [.ref ((ad 0) 20), .int x] (WX G.2.2.1 kd ad κ n [] ++ R) Q := by
  obtain ⟨hn, hMain, hSub, hTape, hR10, hR11, hR12, hR13, hMisc, hRef, hB5, jc, NM, sn, sd, m, pn, im, hCht, hSR, hSnt, hTok, hPast, hPm, hSds, hImg⟩ := id hJ
  have hw : WT (σ.2.1 6) := hTok.1.1.1
  have hI := ov_0 (G := G) (kd := kd) (ad := ad) (κ := κ) (xs := []) (R := R) (by omega : 0 < n) (by simp)
  have hTp := ov_1 (G := G) (kd := kd) (ad := ad) (κ := κ) (xs := []) (R := R) (by omega : 1 < n) (by simp)
  have hS := st_2 (G := G) (kd := kd) (ad := ad) (n := n) (xs := []) (R := R) hSR hw (by omega) (by simp)
  have hC : CHR G (WX G.2.2.1 kd ad κ n [] ++ R) (ad jc) (σ.2.1 6) NM := (hCht.chr (ad := ad) hw (fun i hi => by simp at hi)).sub mem_R1
  obtain ⟨hb, h0, h1, h2, hRd, hP, hD, hCl, hT⟩ := id hw
  obtain ⟨sd9, hSo, hS2, hS3, hS6, hS7, hS8, hS9, hS10⟩ := id hS
  obtain ⟨n1, hTB, hlen, hflt⟩ := id hTape
  by_cases hx : x < 0
  · have hin : inB 12 x = false := inB_neg hx
    refine mt_start (L := [some (.ref ((ad 0) 20)), some (.int x)]) rfl (Nat.le_of_ble_eq_true rfl) rfl ?_
    refine aw_iload_n (pc := 0) (i := 1) dX11_close_0 rfl rfl ?_
    refine aw_if_lt (pc := 1) (tgt := 21) dX11_close_1 rfl (fun h1 => ?_) (fun h1 => ?_)
    · -- 21
      refine aw_iconst (pc := 21) dX11_close_21 iconst_m1 ?_
      refine aw_iret (pc := 22) dX11_close_22 rfl (Nat.le_refl _) (Nat.le_refl _) ?_
      have hg : ¬ inB 12 x = true := fun e => absurd (e.symm.trans hin) (by decide)
      have := kk κ m hPm.1 hPm.2.2.2.1 (by rw [show turnsS σ m x true = mI σ 0 (nI 0) from if_neg hg]; exact (hJ.mono (by omega)).th)
      rw [show turnsA (σ.2.1 6) x true = -1 from if_neg hg] at this
      exact this
    · -- 4
      exact absurd hx h1
  · obtain ⟨i, hi9, rfl⟩ : ∃ k, k < 2 ^ 31 ∧ x = nI k := ⟨_, (i32_nat hx).2, (i32_nat hx).1⟩
    have hin := inB_nI (n := 12) (by decide) hi9
    refine mt_start (L := [some (.ref ((ad 0) 20)), some (.int (nI i))]) rfl (Nat.le_of_ble_eq_true rfl) rfl ?_
    refine aw_iload_n (pc := 0) (i := 1) dX11_close_0 rfl rfl ?_
    refine an_if_lt (pc := 1) (tgt := 21) dX11_close_1 rfl (by omega) ?_
    refine aw_iload_n (pc := 4) (i := 1) dX11_close_4 rfl rfl ?_
    refine aw_bipush (pc := 5) dX11_close_5 bipush_12 ?_
    refine an_icmp_ge (pc := 7) (tgt := 21) dX11_close_7 rfl (by omega) (by decide) (fun h7 => ?_) (fun h7 => ?_)
    · -- 21
      refine aw_iconst (pc := 21) dX11_close_21 iconst_m1 ?_
      refine aw_iret (pc := 22) dX11_close_22 rfl (Nat.le_refl _) (Nat.le_refl _) ?_
      rw [decide_eq_false (by omega)] at hin
      have hg : ¬ inB 12 (nI i) = true := fun e => absurd (e.symm.trans hin) (by decide)
      have := kk κ m hPm.1 hPm.2.2.2.1 (by rw [show turnsS σ m (nI i) true = mI σ 0 (nI 0) from if_neg hg]; exact (hJ.mono (by omega)).th)
      rw [show turnsA (σ.2.1 6) (nI i) true = -1 from if_neg hg] at this
      exact this
    · -- 10
      refine aw_aload_n (pc := 10) (i := 0) dX11_close_10 rfl rfl ?_
      refine aw_iconst (pc := 11) dX11_close_11 iconst_3 ?_
      refine aw_iload_n (pc := 12) (i := 1) dX11_close_12 rfl rfl ?_
      refine aw_iconst (pc := 13) dX11_close_13 iconst_0 ?_
      refine aw_iconst (pc := 14) dX11_close_14 iconst_0 ?_
      refine cVi (pc := 15) (As := [.int (nI 3), .int (nI i), .int (nI 0), .int (nI 0)]) (rest := []) dX11_close_15 rfl oc_X11_228 rfl rfl (Nat.le_of_ble_eq_true rfl) rfl rfl hI (Nat.le_refl _) (Nat.le_refl _) (c11_attempt (k := 3) (x := i) (y := 0) (z := 0) hE hNB hAO hJ ⟨by decide, by omega, by omega, by omega, by omega, by omega⟩ ⟨fun _ => rfl, fun _ => rfl, fun h => absurd h (by decide), fun h => absurd h (by decide)⟩ hB9 ?_ ?_)
      · -- call
        intro hpos
        refine ⟨_, rfl, ?_⟩
        rw [decide_eq_true (by omega)] at hin
        refine aw_goto (pc := 18) (tgt := 22) dX11_close_18 rfl ?_
        exact aw_iret (pc := 22) dX11_close_22 rfl (Nat.le_refl _) (Nat.le_refl _) (by
          have := kk κ m hPm.1 hPm.2.2.2.1 (by rw [show turnsS σ m (nI i) true = mI σ 0 (nI 0) by unfold turnsS; rw [if_pos hin, nI_clamp (by omega), if_neg (by have : 0 < whyTurnF (σ.2.1 6) i true := hpos; omega)]]; exact (hJ.mono (by omega)).th)
          rw [show turnsA (σ.2.1 6) (nI i) true = nI (doesN (σ.2.1 6) 3 i 0 0) by unfold turnsA; rw [if_pos hin, nI_clamp (by omega)]; rfl] at this
          exact this)
      · -- call
        intro hz κ9 m9 hm9 hm9b hJ9
        refine ⟨_, rfl, ?_⟩
        rw [decide_eq_true (by omega)] at hin
        refine aw_goto (pc := 18) (tgt := 22) dX11_close_18 rfl ?_
        exact aw_iret (pc := 22) dX11_close_22 rfl (Nat.le_refl _) (Nat.le_refl _) (by
          have := kk κ9 m9 hm9 hm9b (by rw [show turnsS σ m9 (nI i) true = sN (keepS (mI σ 0 (nI 0)) m9) 6 (doesT (σ.2.1 6) 3 i 0 0) by unfold turnsS; rw [if_pos hin, nI_clamp (by omega), if_pos (show whyTurnF (σ.2.1 6) i true = 0 from hz)]; rfl]; exact hJ9)
          rw [show turnsA (σ.2.1 6) (nI i) true = nI 0 by unfold turnsA; rw [if_pos hin, nI_clamp (by omega), show whyTurnF (σ.2.1 6) i true = 0 from hz]] at this
          exact this)
set_option maxHeartbeats 1000000 in
set_option maxRecDepth 20000 in
theorem x_open {G : xG} {d : Nat} {Q : xQ} {ae : Nat → Nat} {tw ts : Nat} {kd : Nat → Bool} {ad : Nat → Nat → Nat} {κ : Nat → kS} {n : Nat} {σ : mS} {B : Nat} {R : va_W} {x : Int32} (hE : EB ae tw ts G) (hNB : NB G) (hAO : AO G) (hJ : J ae kd ad κ n σ B) (hB9 : B + 99 ≤ 2 ^ 29) (kk : ∀ κ9 m, σ.1 23 = nI m → m ≤ 8 → J ae kd ad κ9 n (turnsS σ m x false) (B + 99) → Q (some (.int (turnsA (σ.2.1 6) x false))) (WX G.2.2.1 kd ad κ9 n [] ++ R)) : MT G MX11_open (d + 5) 0 0 [.ref ((ad 0) 20), .int x] (WX G.2.2.1 kd ad κ n [] ++ R) Q := by
  obtain ⟨hn, hMain, hSub, hTape, hR10, hR11, hR12, hR13, hMisc, hRef, hB5, jc, NM, sn, sd, m, pn, im, hCht, hSR, hSnt, hTok, hPast, hPm, hSds, hImg⟩ := id hJ
  have hw : WT (σ.2.1 6) := hTok.1.1.1
  have hI := ov_0 (G := G) (kd := kd) (ad := ad) (κ := κ) (xs := []) (R := R) (by omega : 0 < n) (by simp)
  have hTp := ov_1 (G := G) (kd := kd) (ad := ad) (κ := κ) (xs := []) (R := R) (by omega : 1 < n) (by simp)
  have hS := st_2 (G := G) (kd := kd) (ad := ad) (n := n) (xs := []) (R := R) hSR hw (by omega) (by simp)
  have hC : CHR G (WX G.2.2.1 kd ad κ n [] ++ R) (ad jc) (σ.2.1 6) NM := (hCht.chr (ad := ad) hw (fun i hi => by simp at hi)).sub mem_R1
  obtain ⟨hb, h0, h1, h2, hRd, hP, hD, hCl, hT⟩ := id hw
  obtain ⟨sd9, hSo, hS2, hS3, hS6, hS7, hS8, hS9, hS10⟩ := id hS
  obtain ⟨n1, hTB, hlen, hflt⟩ := id hTape
  by_cases hx : x < 0
  · have hin : inB 12 x = false := inB_neg hx
    refine mt_start (L := [some (.ref ((ad 0) 20)), some (.int x)]) rfl (Nat.le_of_ble_eq_true rfl) rfl ?_
    refine aw_iload_n (pc := 0) (i := 1) dX11_open_0 rfl rfl ?_
    refine aw_if_lt (pc := 1) (tgt := 21) dX11_open_1 rfl (fun h1 => ?_) (fun h1 => ?_)
    · -- 21
      refine aw_iconst (pc := 21) dX11_open_21 iconst_m1 ?_
      refine aw_iret (pc := 22) dX11_open_22 rfl (Nat.le_refl _) (Nat.le_refl _) ?_
      have hg : ¬ inB 12 x = true := fun e => absurd (e.symm.trans hin) (by decide)
      have := kk κ m hPm.1 hPm.2.2.2.1 (by rw [show turnsS σ m x false = mI σ 0 (nI 0) from if_neg hg]; exact (hJ.mono (by omega)).th)
      rw [show turnsA (σ.2.1 6) x false = -1 from if_neg hg] at this
      exact this
    · -- 4
      exact absurd hx h1
  · obtain ⟨i, hi9, rfl⟩ : ∃ k, k < 2 ^ 31 ∧ x = nI k := ⟨_, (i32_nat hx).2, (i32_nat hx).1⟩
    have hin := inB_nI (n := 12) (by decide) hi9
    refine mt_start (L := [some (.ref ((ad 0) 20)), some (.int (nI i))]) rfl (Nat.le_of_ble_eq_true rfl) rfl ?_
    refine aw_iload_n (pc := 0) (i := 1) dX11_open_0 rfl rfl ?_
    refine an_if_lt (pc := 1) (tgt := 21) dX11_open_1 rfl (by omega) ?_
    refine aw_iload_n (pc := 4) (i := 1) dX11_open_4 rfl rfl ?_
    refine aw_bipush (pc := 5) dX11_open_5 bipush_12 ?_
    refine an_icmp_ge (pc := 7) (tgt := 21) dX11_open_7 rfl (by omega) (by decide) (fun h7 => ?_) (fun h7 => ?_)
    · -- 21
      refine aw_iconst (pc := 21) dX11_open_21 iconst_m1 ?_
      refine aw_iret (pc := 22) dX11_open_22 rfl (Nat.le_refl _) (Nat.le_refl _) ?_
      rw [decide_eq_false (by omega)] at hin
      have hg : ¬ inB 12 (nI i) = true := fun e => absurd (e.symm.trans hin) (by decide)
      have := kk κ m hPm.1 hPm.2.2.2.1 (by rw [show turnsS σ m (nI i) false = mI σ 0 (nI 0) from if_neg hg]; exact (hJ.mono (by omega)).th)
      rw [show turnsA (σ.2.1 6) (nI i) false = -1 from if_neg hg] at this
      exact this
    · -- 10
      refine aw_aload_n (pc := 10) (i := 0) dX11_open_10 rfl rfl ?_
      refine aw_iconst (pc := 11) dX11_open_11 iconst_4 ?_
      refine aw_iload_n (pc := 12) (i := 1) dX11_open_12 rfl rfl ?_
      refine aw_iconst (pc := 13) dX11_open_13 iconst_0 ?_
      refine aw_iconst (pc := 14) dX11_open_14 iconst_0 ?_
      refine cVi (pc := 15) (As := [.int (nI 4), .int (nI i), .int (nI 0), .int (nI 0)]) (rest := []) dX11_open_15 rfl oc_X11_228 rfl rfl (Nat.le_of_ble_eq_true rfl) rfl rfl hI (Nat.le_refl _) (Nat.le_refl _) (c11_attempt (k := 4) (x := i) (y := 0) (z := 0) hE hNB hAO hJ ⟨by decide, by omega, by omega, by omega, by omega, by omega⟩ ⟨fun _ => rfl, fun _ => rfl, fun h => absurd h (by decide), fun h => absurd h (by decide)⟩ hB9 ?_ ?_)
      · -- call
        intro hpos
        refine ⟨_, rfl, ?_⟩
        rw [decide_eq_true (by omega)] at hin
        refine aw_goto (pc := 18) (tgt := 22) dX11_open_18 rfl ?_
        exact aw_iret (pc := 22) dX11_open_22 rfl (Nat.le_refl _) (Nat.le_refl _) (by
          have := kk κ m hPm.1 hPm.2.2.2.1 (by rw [show turnsS σ m (nI i) false = mI σ 0 (nI 0) by unfold turnsS; rw [if_pos hin, nI_clamp (by omega), if_neg (by have : 0 < whyTurnF (σ.2.1 6) i false := hpos; omega)]]; exact (hJ.mono (by omega)).th)
          rw [show turnsA (σ.2.1 6) (nI i) false = nI (doesN (σ.2.1 6) 4 i 0 0) by unfold turnsA; rw [if_pos hin, nI_clamp (by omega)]; rfl] at this
          exact this)
      · -- call
        intro hz κ9 m9 hm9 hm9b hJ9
        refine ⟨_, rfl, ?_⟩
        rw [decide_eq_true (by omega)] at hin
        refine aw_goto (pc := 18) (tgt := 22) dX11_open_18 rfl ?_
        exact aw_iret (pc := 22) dX11_open_22 rfl (Nat.le_refl _) (Nat.le_refl _) (by
          have := kk κ9 m9 hm9 hm9b (by rw [show turnsS σ m9 (nI i) false = sN (keepS (mI σ 0 (nI 0)) m9) 6 (doesT (σ.2.1 6) 4 i 0 0) by unfold turnsS; rw [if_pos hin, nI_clamp (by omega), if_pos (show whyTurnF (σ.2.1 6) i false = 0 from hz)]; rfl]; exact hJ9)
          rw [show turnsA (σ.2.1 6) (nI i) false = nI 0 by unfold turnsA; rw [if_pos hin, nI_clamp (by omega), show whyTurnF (σ.2.1 6) i false = 0 from hz]] at this
          exact this)
