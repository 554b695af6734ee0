theorem pop_0 : ∀ n, pop n 0 = 0 := by
  intro n
  induction n with
  | zero => rfl
  | succ n ih => rw [pop, show 0 / 2 = 0 from rfl, ih]
theorem saL_m1 {B : Nat → Bool} : ∀ m i c v n, m ≤ n → v < 2 ^ m → c + m < 2 ^ 30 → (∀ q, q < m → v.testBit q = B (i + q)) → saL B (-1) m i c = nI (c + pop n v) := by
  intro m
  induction m with
  | zero =>
    intro i c v n hn hv hc hB
    have : v = 0 := by omega
    subst this
    rw [saL, if_pos rfl, pop_0]; rfl
  | succ m ih =>
    intro i c v n hn hv hc hB
    obtain ⟨n, rfl⟩ : ∃ n', n = n' + 1 := ⟨n - 1, by omega⟩
    have h0 := hB 0 (by omega)
    have hr : ∀ q, q < m → (v / 2).testBit q = B (i + 1 + q) := fun q hq => by
      have := hB (q + 1) (by omega)
      rw [Nat.testBit_succ] at this
      rw [this]; congr 1; omega
    have h2 : v / 2 < 2 ^ m := by rw [Nat.pow_succ] at hv; omega
    have ne : ¬ nI c = -1 := fun e => by
      have := congrArg Int32.toInt e
      rw [nI_toInt (by omega)] at this
      simp at this
    rw [saL, pop]
    rw [Nat.testBit_zero] at h0
    by_cases hb : B i = true
    · rw [if_pos hb, if_neg ne, ih (i + 1) (c + 1) (v / 2) n (by omega) h2 (by omega) hr]
      have : v % 2 = 1 := by rw [Nat.add_zero, hb] at h0; exact of_decide_eq_true h0
      rw [this]; congr 1; omega
    · rw [if_neg hb, ih (i + 1) c (v / 2) n (by omega) h2 (by omega) hr]
      have : ¬ v % 2 = 1 := fun q => hb (by rw [Nat.add_zero, decide_eq_true q] at h0; exact h0.symm)
      rw [show v % 2 = 0 by omega]; congr 1; omega
theorem cwd_inj {u v : Nat} (h1 : 12 ≤ u) (h2 : u < 24) (h3 : 12 ≤ v) (h4 : v < 24) (h : cwd u = cwd v) : u = v := by
  unfold cwd at h
  split at h <;> split at h <;> omega
/-- the same steps in two contents -/
def XS (kx ky : kS) (N : Nat) : Prop := ∀ i, i < N → ky.2.2.2 2 i = kx.2.2.2 2 i ∧ ky.2.1 3 i = kx.2.1 3 i ∧ ky.2.1 4 i = kx.2.1 4 i
theorem XS_of {ae : Nat → Nat} {kx ky : kS} {t : Nat → Nat} {N b : Nat} (h1 : ∀ i, i < N → STq ae kx t b i) (h2 : ∀ i, i < N → STq ae ky t b i) : XS kx ky N := fun i hi => by
  obtain ⟨u, a1, a2, a3, a4, a5, a6⟩ := h1 i hi
  obtain ⟨v, b1, b2, b3, b4, b5, b6⟩ := h2 i hi
  have := cwd_inj a1 a2 b1 b2 (a4.symm.trans b4)
  subst this
  exact ⟨b3.trans a3.symm, b5.trans a5.symm, b6.trans a6.symm⟩
theorem STq_x {ae : Nat → Nat} {kx ky : kS} {t : Nat → Nat} {N b i : Nat} (h : XS kx ky N) (hi : i < N) (g : STq ae kx t b i) : STq ae ky t b i := by
  obtain ⟨u, a1, a2, a3, a4, a5, a6⟩ := g
  obtain ⟨e1, e2, e3⟩ := h i hi
  exact ⟨u, a1, a2, e1.trans a3, a4, e2.trans a5, e3.trans a6⟩
section UPX
variable {ae : Nat → Nat} {kd : Nat → Bool} {ad : Nat → Nat → Nat} {κ : Nat → kS} {n : Nat} {σ : mS} {B jx N : Nat} {kx : kS}
theorem CHT.upx {jc : Nat} {t : Nat → Nat} {nm NM : Nat → Int64} (hk : kd jx = false) (h : CHT kd κ n jc t nm NM) : CHT kd (upN κ jx kx) n jc t nm NM := ⟨h.1, h.2.1, h.2.2.1, by rw [upN_n _ _ _ _ (fun e => by have := h.2.2.1; rw [e, hk] at this; cases this)]; exact h.2.2.2.1, h.2.2.2.2⟩
theorem SNT.upx {t : Nat → Nat} {sn : Option Nat} (h5 : (κ jx).1 5 = .int (nI N)) (hN : N ≤ 40) (hF : ∀ k, kx.1 k = (κ jx).1 k) (hX : XS (κ jx) kx N) (h40 : t 138 ≤ 40) (h : SNT ae kd ad κ n t sn) : SNT ae kd ad (upN κ jx kx) n t sn := by
  rcases h with h | ⟨h1, j, a1, a2, a3, a4, a5, a6⟩
  · exact Or.inl h
  · refine Or.inr ⟨h1, j, a1, a2, a3, a4, ?_⟩
    by_cases e : j = jx
    · subst e
      rw [upN_s, hF]
      have : t 138 = N := by
        rw [h5] at a5; injection a5 with a5
        have := congrArg Int32.toNatClampNeg a5
        rw [nI_clamp (by omega), nI_clamp (by omega)] at this; exact this.symm
      exact ⟨a5, fun i hi => STq_x hX (by omega) (a6 i hi)⟩
    · rw [upN_n _ _ _ _ e]; exact ⟨a5, a6⟩
theorem J.upx (hx : 24 ≤ jx) (hk : kd jx = false) (h5 : (κ jx).1 5 = .int (nI N)) (hN : N ≤ 40) (hF : ∀ k, kx.1 k = (κ jx).1 k) (hX : XS (κ jx) kx N) (h : J ae kd ad κ n σ B) : J ae kd ad (upN κ jx kx) n σ B := by
  obtain ⟨hn, hMain, hSub, hTape, hR10, hR11, hR12, hR13, hMisc, hRef, hB5, jc, NM, sn, sd, m, pn, im, hCht, hSR, hSnt, hTok, hPast, hPm, hSds, hImg⟩ := id h
  have g : ∀ i, i < 24 → upN κ jx kx i = κ i := fun i hi => upN_n _ _ _ _ (by omega)
  unfold J jSt jPast jImg
  rw [g 0 (by omega), g 1 (by omega), g 2 (by omega), g 3 (by omega), g 4 (by omega), g 5 (by omega), g 6 (by omega), g 7 (by omega), g 8 (by omega), g 9 (by omega), g 10 (by omega), g 11 (by omega), g 12 (by omega), g 13 (by omega)]
  obtain ⟨a1, a2, a3, a4, a5⟩ := hImg
  refine ⟨hn, hMain, hSub, hTape, hR10, hR11, hR12, hR13, hMisc, hRef, hB5, jc, NM, sn, sd, m, pn, im, hCht.upx hk, hSR, hSnt.upx h5 hN hF hX hTok.2.1.1, hTok, fun i hi => ?_, hPm, fun i h1 h2 => ?_, a1, a2, a3, a4, fun k hk9 hp => ?_⟩
  · rw [g _ (by unfold paI; omega)]; exact hPast i hi
  · rw [g i h2]; exact hSds i h1 h2
  · obtain ⟨⟨jc', NM', sn', sd', b1, b2, b3⟩, b4⟩ := a5 k hk9 hp
    rw [g _ (by omega)]
    exact ⟨⟨jc', NM', sn', sd', b1.upx hk, b2, b3.upx h5 hN hF hX b4.2.1.1⟩, b4⟩
theorem CHT.chrx {G : xG} {jc : Nat} {t : Nat → Nat} {nm NM : Nat → Int64} {xs : List Nat} (h : CHT kd κ n jc t nm NM) (hw : WT t) (hx : jc ∉ xs) : CHR G (WX G.2.2.1 kd ad κ n xs) (ad jc) t NM := by
  refine h.2.2.2.1.chr hw.2.1 hw.2.2.1 hw.2.2.2.1 (fun x hx9 => ?_)
  exact wx_mem h.2.1 hx x (by rw [ck_ch h.1 h.2.2.1]; exact hx9)
end UPX
theorem J.u56 {ae : Nat → Nat} {kd : Nat → Bool} {ad : Nat → Nat → Nat} {κ : Nat → kS} {n : Nat} {σ : mS} {B : Nat} {u : Nat → Nat} {x : Int32} (h : J ae kd ad κ n σ B) (hu : ∀ j, u j < 2) : J ae kd ad κ n (sN (mI σ 0 x) 56 u) B := by
  obtain ⟨hn, hMain, hSub, hTape, hR10, hR11, hR12, hR13, hMisc, hRef, hB5, hJ9⟩ := h
  exact ⟨hn, hMain, hSub, hTape, hR10, hR11, hR12, hR13, hMisc, ⟨hRef.1, hRef.2.1, hRef.2.2.1, hRef.2.2.2.1, hRef.2.2.2.2.1, fun j => by show upN σ.2.1 56 u 56 j < 2; rw [upN_s]; exact hu j⟩, hB5, hJ9⟩
set_option maxHeartbeats 1000000 in
set_option maxRecDepth 20000 in
theorem said_lp {G : xG} {d : Nat} {Q : xQ} {ae : Nat → Nat} {tw ts : Nat} {kd : Nat → Bool} {ad : Nat → Nat → Nat} {κ : Nat → kS} {n : Nat} {σ : mS} {B : Nat} {R : va_W} {x : Int32} (hE : EB ae tw ts G) (hNB : NB G) (hAO : AO G) (hJ : J ae kd ad κ n σ B) (hx : ¬ x = -1) {v : Nat} {Bf : Nat → Bool} (hv : v < 2 ^ (σ.2.1 6) 2) (hB : ∀ q, q < (σ.2.1 6) 2 → v.testBit q = Bf q) (kk : Q (some (.int (saL Bf x ((σ.2.1 6) 2) 0 0))) (WX G.2.2.1 kd ad κ n [] ++ R)) : ∀ (z i c : Nat), i + z = (σ.2.1 6) 2 → c ≤ i → saL Bf x z i c = saL Bf x ((σ.2.1 6) 2) 0 0 → AW G MX11_said (d + 1) 0 0 Q 47 [some (.ref ((ad 0) 20)), some (.int x), some (.int (nI v)), some (.int (nI c)), some (.int (nI i))] [] (WX G.2.2.1 kd ad κ n [] ++ R) 0 0 := by
  obtain ⟨hn, hMain, hSub, hTape, hR10, hR11, hR12, hR13, hMisc, hRef, hB5, jc, NM, sn, sd, m, pn, im, hCht, hSR, hSnt, hTok, hPast, hPm, hSds, hImg⟩ := id hJ
  have hw : WT (σ.2.1 6) := hTok.1.1.1
  have hI := ov_0 (G := G) (kd := kd) (ad := ad) (κ := κ) (xs := []) (R := R) (by omega : 0 < n) (by simp)
  have hTp := ov_1 (G := G) (kd := kd) (ad := ad) (κ := κ) (xs := []) (R := R) (by omega : 1 < n) (by simp)
  have hS := st_2 (G := G) (kd := kd) (ad := ad) (n := n) (xs := []) (R := R) hSR hw (by omega) (by simp)
  have hC : CHR G (WX G.2.2.1 kd ad κ n [] ++ R) (ad jc) (σ.2.1 6) NM := (hCht.chr (ad := ad) hw (fun i hi => by simp at hi)).sub mem_R1
  obtain ⟨hb, h0, h1, h2, hRd, hP, hD, hCl, hT⟩ := id hw
  obtain ⟨sd9, hSo, hS2, hS3, hS6, hS7, hS8, hS9, hS10⟩ := id hS
  obtain ⟨n1, hTB, hlen, hflt⟩ := id hTape
  have hv7 : v < 2 ^ 6 := Nat.lt_of_lt_of_le hv (Nat.pow_le_pow_right (by decide) h2)
  intro z
  induction z with
  | zero =>
    intro i c hi hc hs
    rw [saL, if_neg hx] at hs
    rw [← hs] at kk
    refine aw_iload (pc := 47) dX11_said_47 rfl ?_
    refine aw_aload_n (pc := 49) (i := 0) dX11_said_49 rfl rfl ?_
    refine av_get (pc := 50) (x := .ref ((ad 2) 12)) dX11_said_50 rfl og_X11_72 rfl hI hMain.2.1 ?_
    refine av_get (pc := 53) (x := .ref ((ad jc) 13)) dX11_said_53 rfl og_X11_142 rfl hSo rfl ?_
    refine av_get (pc := 56) (x := .int (nI ((σ.2.1 6) 2))) dX11_said_56 rfl og_X11_345 rfl hC.ov rfl ?_
    refine an_icmp_ge (pc := 59) (tgt := 88) dX11_said_59 rfl (by omega) (Nat.lt_trans (hb _) (by decide)) (fun h59 => ?_) (fun h59 => ?_)
    · -- 88
      refine aw_iconst (pc := 88) dX11_said_88 iconst_m1 ?_
      exact aw_iret (pc := 89) dX11_said_89 rfl (Nat.le_refl _) (Nat.le_refl _) (kk)
    · -- 62
      exfalso; omega
  | succ z ih =>
    intro i c hi hc hs
    rw [saL] at hs
    have hbi := hB i (by omega)
    refine aw_iload (pc := 47) dX11_said_47 rfl ?_
    refine aw_aload_n (pc := 49) (i := 0) dX11_said_49 rfl rfl ?_
    refine av_get (pc := 50) (x := .ref ((ad 2) 12)) dX11_said_50 rfl og_X11_72 rfl hI hMain.2.1 ?_
    refine av_get (pc := 53) (x := .ref ((ad jc) 13)) dX11_said_53 rfl og_X11_142 rfl hSo rfl ?_
    refine av_get (pc := 56) (x := .int (nI ((σ.2.1 6) 2))) dX11_said_56 rfl og_X11_345 rfl hC.ov rfl ?_
    refine an_icmp_ge (pc := 59) (tgt := 88) dX11_said_59 rfl (by omega) (Nat.lt_trans (hb _) (by decide)) (fun h59 => ?_) (fun h59 => ?_)
    · -- 88
      exfalso; omega
    · -- 62
      refine aw_iload_n (pc := 62) (i := 2) dX11_said_62 rfl rfl ?_
      refine aw_iload (pc := 63) dX11_said_63 rfl ?_
      refine cSi (pc := 65) (As := [.int (nI v), .int (nI i)]) (rest := []) dX11_said_65 rfl oc_X11_203 rfl rfl (Nat.le_of_ble_eq_true rfl) (Nat.le_refl _) (Nat.le_refl _) (c_hasBit (by omega) (by omega) ⟨_, rfl, ?_⟩)
      refine ab_if_eq (pc := 68) (tgt := 82) dX11_said_68 rfl (fun h68 => ?_) (fun h68 => ?_)
      · -- 82
        refine an_inc (pc := 82) (z := 1) dX11_said_82 rfl (Nat.le_of_ble_eq_true rfl) rfl ?_
        refine aw_goto (pc := 85) (tgt := 47) dX11_said_85 rfl ?_
        rw [hbi] at h68
        rw [h68, if_neg (by decide)] at hs
        exact ih (i + 1) c (by omega) (by omega) hs
      · -- 71
        refine aw_iload_n (pc := 71) (i := 3) dX11_said_71 rfl rfl ?_
        refine aw_iload_n (pc := 72) (i := 1) dX11_said_72 rfl rfl ?_
        refine aw_icmp_ne (pc := 73) (tgt := 79) dX11_said_73 rfl (fun h73 => ?_) (fun h73 => ?_)
        · -- 79
          refine an_inc (pc := 79) (z := 1) dX11_said_79 rfl (Nat.le_of_ble_eq_true rfl) rfl ?_
          refine an_inc (pc := 82) (z := 1) dX11_said_82 rfl (Nat.le_of_ble_eq_true rfl) rfl ?_
          refine aw_goto (pc := 85) (tgt := 47) dX11_said_85 rfl ?_
          rw [hbi] at h68
          rw [h68, if_pos rfl, if_neg h73] at hs
          exact ih (i + 1) (c + 1) (by omega) (by omega) hs
        · -- 76
          refine aw_iload (pc := 76) dX11_said_76 rfl ?_
          refine aw_iret (pc := 78) dX11_said_78 rfl (Nat.le_refl _) (Nat.le_refl _) ?_
          rw [hbi] at h68
          rw [h68, if_pos rfl, if_pos h73] at hs
          rw [← hs] at kk
          exact kk
set_option maxHeartbeats 1000000 in
set_option maxRecDepth 20000 in
theorem said_fn {G : xG} {d : Nat} {Q : xQ} {ae : Nat → Nat} {tw ts : Nat} {kd : Nat → Bool} {ad : Nat → Nat → Nat} {κ : Nat → kS} {n : Nat} {σ : mS} {B : Nat} {R : va_W} {x : Int32} {o3 o4 : Option Value} (hE : EB ae tw ts G) (hNB : NB G) (hAO : AO G) (hJ : J ae kd ad κ n σ B) {v : Nat} {Bf : Nat → Bool} (hv : v < 2 ^ (σ.2.1 6) 2) (hB : ∀ q, q < (σ.2.1 6) 2 → v.testBit q = Bf q) (kk : Q (some (.int (saL Bf x ((σ.2.1 6) 2) 0 0))) (WX G.2.2.1 kd ad κ n [] ++ R)) : AW G MX11_said (d + 1) 0 0 Q 32 [some (.ref ((ad 0) 20)), some (.int x), some (.int (nI v)), o3, o4] [] (WX G.2.2.1 kd ad κ n [] ++ R) 0 0 := by
  obtain ⟨hn, hMain, hSub, hTape, hR10, hR11, hR12, hR13, hMisc, hRef, hB5, jc, NM, sn, sd, m, pn, im, hCht, hSR, hSnt, hTok, hPast, hPm, hSds, hImg⟩ := id hJ
  have hw : WT (σ.2.1 6) := hTok.1.1.1
  obtain ⟨hb, h0, h1, h2, hRd, hP, hD, hCl, hT⟩ := id hw
  have hv7 : v < 2 ^ 6 := Nat.lt_of_lt_of_le hv (Nat.pow_le_pow_right (by decide) h2)
  refine aw_iload_n (pc := 32) (i := 1) dX11_said_32 rfl rfl ?_
  refine aw_iconst (pc := 33) dX11_said_33 iconst_m1 ?_
  refine aw_icmp_ne (pc := 34) (tgt := 42) dX11_said_34 rfl (fun h34 => ?_) (fun h34 => ?_)
  · -- 42
    refine aw_iconst (pc := 42) dX11_said_42 iconst_0 ?_
    refine aw_istore_n (pc := 43) (i := 3) dX11_said_43 rfl (Nat.le_of_ble_eq_true rfl) rfl ?_
    refine aw_iconst (pc := 44) dX11_said_44 iconst_0 ?_
    refine aw_istore (pc := 45) (i := 4) dX11_said_45 (Nat.le_of_ble_eq_true rfl) rfl ?_
    exact said_lp hE hNB hAO hJ h34 hv hB kk _ 0 0 (by omega) (by omega) rfl
  · -- 37
    refine aw_iload_n (pc := 37) (i := 2) dX11_said_37 rfl rfl ?_
    refine cSi (pc := 38) (As := [.int (nI v)]) (rest := []) dX11_said_38 rfl oc_X11_265 rfl rfl (Nat.le_of_ble_eq_true rfl) (Nat.le_refl _) (Nat.le_refl _) (c_bitCount (by omega) ⟨_, rfl, ?_⟩)
    refine aw_iret (pc := 41) dX11_said_41 rfl (Nat.le_refl _) (Nat.le_refl _) ?_
    rw [h34, saL_m1 ((σ.2.1 6) 2) 0 0 v 12 (by omega) hv (by omega) (fun q hq => by rw [Nat.zero_add]; exact hB q hq), Nat.zero_add] at kk
    exact kk
set_option maxHeartbeats 1000000 in
set_option maxRecDepth 20000 in
theorem x_said {G : xG} {d : Nat} {Q : xQ} {ae : Nat → Nat} {tw ts : Nat} {kd : Nat → Bool} {ad : Nat → Nat → Nat} {κ : Nat → kS} {n : Nat} {σ : mS} {B : Nat} {R : va_W} {x : Int32} (hE : EB ae tw ts G) (hNB : NB G) (hAO : AO G) (hJ : J ae kd ad κ n σ B) (kk : ∀ κ9, (∀ u, (∀ j, u j < 2) → J ae kd ad κ9 n (sN (mI σ 0 (nI 0)) 56 u) B) → Q (some (.int (saidA (σ.2.1 6) (σ.2.1 56) x))) (WX G.2.2.1 kd ad κ9 n [] ++ R)) : MT G MX11_said (d + 7) 0 0 [.ref ((ad 0) 20), .int x] (WX G.2.2.1 kd ad κ n [] ++ R) Q := by
  obtain ⟨hn, hMain, hSub, hTape, hR10, hR11, hR12, hR13, hMisc, hRef, hB5, jc, NM, sn, sd, m, pn, im, hCht, hSR, hSnt, hTok, hPast, hPm, hSds, hImg⟩ := id hJ
  have hw : WT (σ.2.1 6) := hTok.1.1.1
  have hI := ov_0 (G := G) (kd := kd) (ad := ad) (κ := κ) (xs := []) (R := R) (by omega : 0 < n) (by simp)
  have hTp := ov_1 (G := G) (kd := kd) (ad := ad) (κ := κ) (xs := []) (R := R) (by omega : 1 < n) (by simp)
  have hS := st_2 (G := G) (kd := kd) (ad := ad) (n := n) (xs := []) (R := R) hSR hw (by omega) (by simp)
  have hC : CHR G (WX G.2.2.1 kd ad κ n [] ++ R) (ad jc) (σ.2.1 6) NM := (hCht.chr (ad := ad) hw (fun i hi => by simp at hi)).sub mem_R1
  obtain ⟨hb, h0, h1, h2, hRd, hP, hD, hCl, hT⟩ := id hw
  obtain ⟨sd9, hSo, hS2, hS3, hS6, hS7, hS8, hS9, hS10⟩ := id hS
  obtain ⟨n1, hTB, hlen, hflt⟩ := id hTape
  refine mt_start (L := [some (.ref ((ad 0) 20)), some (.int x), none, none, none]) rfl (Nat.le_of_ble_eq_true rfl) rfl ?_
  refine aw_aload_n (pc := 0) (i := 0) dX11_said_0 rfl rfl ?_
  refine av_get (pc := 1) (x := .ref ((ad 2) 12)) dX11_said_1 rfl og_X11_72 rfl hI hMain.2.1 ?_
  refine av_get (pc := 4) (x := va_rf sn) dX11_said_4 rfl og_X11_238 rfl hSo rfl ?_
  refine aw_ifnull (pc := 7) (tgt := 15) dX11_said_7 rfl (fun h7 => ?_) (fun x7 h7 => ?_)
  · -- 15
    refine aw_iconst (pc := 15) dX11_said_15 iconst_m1 ?_
    refine aw_iret (pc := 16) dX11_said_16 rfl (Nat.le_refl _) (Nat.le_refl _) ?_
    have z138 : σ.2.1 6 138 = 0 := by
      rcases hSnt with q | ⟨q1, jx, q2, q3, q4, q5, q6⟩
      · exact q.1
      · rw [h7] at q5; cases q5
    have := kk κ (fun u hu => hJ.u56 hu)
    rw [show saidA (σ.2.1 6) (σ.2.1 56) x = -1 by unfold saidA; rw [if_pos z138]] at this
    exact this
  · -- 10
    refine aw_iload_n (pc := 10) (i := 1) dX11_said_10 rfl rfl ?_
    refine aw_iconst (pc := 11) dX11_said_11 iconst_m1 ?_
    refine aw_icmp_ge (pc := 12) (tgt := 17) dX11_said_12 rfl (fun h12 => ?_) (fun h12 => ?_)
    · -- 17
      have hs12 : ¬ x < -1 := fun q => absurd h12 (Int32.not_le.mpr q)
      obtain ⟨z1, jx, q2, q3, q4, q5, q6, q7⟩ : 1 ≤ σ.2.1 6 138 ∧ ∃ jx, 24 ≤ jx ∧ jx < n ∧ kd jx = false ∧ sn = some (ad jx 8) ∧ (κ jx).1 5 = .int (nI (σ.2.1 6 138)) ∧ ∀ i, i < σ.2.1 6 138 → STq ae (κ jx) (σ.2.1 6) 139 i := by
        rcases hSnt with q | q
        · rw [h7] at q; cases q.2
        · exact q
      have hne : ¬ jc = jx := fun e => by have := hCht.2.2.1; rw [e, q4] at this; cases this
      have hIx := ov_0 (G := G) (kd := kd) (ad := ad) (κ := κ) (xs := [jx]) (R := R) (by omega : 0 < n) (by simp; omega)
      have hSx := st_2 (G := G) (kd := kd) (ad := ad) (n := n) (xs := [jx]) (R := R) hSR hw (by omega) (by simp; omega)
      have hCx : CHR G (WX G.2.2.1 kd ad κ n [jx] ++ R) (ad jc) (σ.2.1 6) NM := (hCht.chrx (ad := ad) hw (by simp; exact hne)).sub mem_R1
      clear hSo hS2 hS3 hS6 hS7 hS8 hS9 hS10
      obtain ⟨sd8, hSo, hS2, hS3, hS6, hS7, hS8, hS9, hS10⟩ := id hSx
      refine aw_pull1 (p1 := jx) q3 ?_
      rw [ck_se q2 q4]
      refine aw_aload_n (pc := 17) (i := 0) dX11_said_17 rfl rfl ?_
      refine av_get (pc := 18) (x := .ref ((ad 2) 12)) dX11_said_18 rfl og_X11_72 rfl (hIx.sub mem_app) hMain.2.1 ?_
      refine av_get (pc := 21) (x := .ref ((ad jx) 8)) dX11_said_21 rfl og_X11_238 rfl (hSo.sub mem_app) (by rw [q5]; rfl) ?_
      refine aw_aload_n (pc := 24) (i := 0) dX11_said_24 rfl rfl ?_
      refine av_get (pc := 25) (x := .ref ((ad 2) 12)) dX11_said_25 rfl og_X11_72 rfl (hIx.sub mem_app) hMain.2.1 ?_
      refine cVi (pc := 28) (As := [.ref ((ad 2) 12)]) (rest := []) dX11_said_28 rfl oc_X11_342 rfl rfl (Nat.le_of_ble_eq_true rfl) rfl rfl ovX6 (Nat.le_refl _) (Nat.le_refl _) (c6_persons (U := saU (σ.2.1 6) (σ.2.1 56)) hE hNB hSx hCx hw hTok.2.1 (saU_lt hRef.2.2.2.2.2) z1 q6 q7 ?_)
      intro v9 k9 hv9 hB9 hF9 hS9
      refine ⟨_, rfl, ?_⟩
      refine aw_istore_n (pc := 31) (i := 2) dX11_said_31 rfl (Nat.le_of_ble_eq_true rfl) rfl ?_
      rw [← ck_se (kd := kd) q2 q4]
      refine aw_push1 q3 ?_
      have hJ9 := J.upx (kx := k9) q2 q4 q6 hTok.2.1.1 hF9 (XS_of q7 hS9) hJ
      refine said_fn hE hNB hAO hJ9 (Bf := saB (σ.2.1 6) (σ.2.1 56)) hv9 (fun q hq => hB9 q hq) ?_
      have := kk (upN κ jx k9) (fun u hu => hJ9.u56 hu)
      rw [show saidA (σ.2.1 6) (σ.2.1 56) x = saL (saB (σ.2.1 6) (σ.2.1 56)) x ((σ.2.1 6) 2) 0 0 by unfold saidA; rw [if_neg (by omega), if_neg hs12]] at this
      exact this
    · -- 15
      refine aw_iconst (pc := 15) dX11_said_15 iconst_m1 ?_
      refine aw_iret (pc := 16) dX11_said_16 rfl (Nat.le_refl _) (Nat.le_refl _) ?_
      have := kk κ (fun u hu => hJ.u56 hu)
      rw [show saidA (σ.2.1 6) (σ.2.1 56) x = -1 by unfold saidA; rw [if_pos (Int32.not_le.mp h12)]; split <;> rfl] at this
      exact this
