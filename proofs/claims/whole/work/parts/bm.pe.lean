abbrev nsee : String := "java/util/NoSuchElementException"
def thA : List Cond := vx_at0 "InchBorders" 141 nsee ["java/lang/RuntimeException", "java/lang/Exception"]
def thB : List Cond := [.castable nsee nsee, .declares ⟨"java/lang/RuntimeException", "<init>", "()V"⟩, .declares ⟨"java/lang/Exception", "<init>", "()V"⟩, .declares ⟨"java/lang/Throwable", "<init>", "()V"⟩]
/-- 'throw new NoSuchElementException()' can be done -/
def TH (G : xG) : Prop := G.1.stackTraces = false ∧ ∀ (A : Nat → Prop) (U : State), G.2.2.2 A U → vx_Zq Bundle.tN "UNASSIGNED_STACK" Bundle.steD A U U.heap ∧ vx_Zq Bundle.tN "SUPPRESSED_SENTINEL" Bundle.listD A U U.heap ∧ va_Nw (.castable nsee nsee) U ∧ va_Nw (.declares ⟨"java/lang/RuntimeException", "<init>", "()V"⟩) U ∧ va_Nw (.declares ⟨"java/lang/Exception", "<init>", "()V"⟩) U ∧ va_Nw (.declares ⟨"java/lang/Throwable", "<init>", "()V"⟩) U
set_option maxRecDepth 100000 in
theorem thA_good : ∀ w ∈ thA.filter goodWord, w ∈ lw_tbl := by decide +kernel
set_option maxRecDepth 100000 in
theorem thA_bad : ∀ w ∈ thA.filter (fun w => !goodWord w), w ∈ thB := by decide +kernel
set_option maxRecDepth 100000 in
theorem thA_ot : ∀ w ∈ Cond.classLink "InchBorders" 139 nsee :: Cond.initialized nsee :: thA, vx_ot w = true := by decide +kernel
set_option maxRecDepth 100000 in
theorem th_cl : Cond.classLink "InchBorders" 139 nsee ∈ gtbl := by decide +kernel
set_option maxRecDepth 100000 in
theorem th_ini : Cond.initialized nsee ∈ gtbl := by decide +kernel
theorem TH.hat {G : xG} {A : Nat → Prop} {s : State} {args : Array Value} (hT : TH G) (hts : ∀ w ∈ gtbl, w.before args s = true) (hF : G.2.2.2 A s) : ∀ w ∈ thA, w.before args s = true := by
  obtain ⟨-, -, h1, h2, h3, h4⟩ := hT.2 A s hF
  exact vx_hat (fun w hw => hts w (gtbl_in (thA_good w hw) (List.mem_filter.mp hw).2)) thA_bad (vx_c (va_Nw.use rfl h1) (vx_c (va_Nw.use rfl h2) (vx_c (va_Nw.use rfl h3) (vx_c (va_Nw.use rfl h4) vx_n))))
/-- what is thrown, and that nothing was written -/
def vxP (G : xG) (ok : Bool) (ws : va_W) (A : Nat → Prop) : String → State → State → Prop := fun E st t => E = nsee ∧ ok = false ∧ va_P G.2.1 vwCl ws t.heap ∧ va_F A st t
def MTX (G : xG) (μ : xM) (d mc ms : Nat) (av : List Value) (ws : va_W) (Q : xQ) (ok : Bool) : Prop := ∀ sz : Nat, vx_Met G.1 μ.1 (xW μ) (xR d mc ms) (xP G av ws sz) (aQ G Q (va_A ws sz)) (vxP G ok ws (va_A ws sz)) mc ms (va_A ws sz)
section PEW
variable {G : xG} {μ μ' : xM} {d mc ms mc' ms' : Nat} {Q9 : xQ} {pc : Nat} {L : List (Option Value)} {rest : List Value} {ws : va_W} {n k idx np : Nat}
variable {p : Program} {e : Env} {s : State} {m : MethodId} {args : Array Value} {below : List Frame} {meth : Method} {c : Code} {H : Heap} {locs : List Loc} {A : Nat → Prop} {ls : Array Slot} {Z : State → Prop}
/-- a call, whatever the caller owes at its end -/
theorem wz_cV {As : List Value} {b ci : Nat} {CR : vw_C} {vv : Nat → Value} {st9 : List Value} {own : String} (C : xC G μ p s m args meth c A) (hS : va_S A s.heap H locs) (hP : va_P G.2.1 vwCl ws H) (hD : va_D A ws) (hl : lh ls μ.2.2.1 L)
    (hd : decode μ.2.1 pc = .ok (.invokevirtual idx, 3)) (hown9 : μ.1.cls = own) (ok : xVok own μ' idx np)
    (hn : As.length = np) (hst : As.reverse ++ .ref b :: rest = st9) (hcat : (rest.map fun v => v.category).sum ≤ 8) (hcl : vwCl[ci]? = some CR) (hCR : CR.1 = μ'.1.cls) (hq : OV G ws ci b vv)
    (hM : MT G μ' d mc' ms' (.ref b :: As) ws Q9) (hf1 : n + mc' ≤ mc) (hf2 : k + ms' ≤ ms)
    (kk : ∀ (v : Option Value) (w : va_W) (H1 : Heap) (locs1 : List Loc), Q9 v w → va_P G.2.1 vwCl w H1 → va_D A w → va_S A s.heap H1 locs1 → W p G.1 e (xR (d + 1) mc ms) s m args below meth c H1 locs1 (n + mc') (k + ms') Z (F0 m (pc + 3) ls (v.toList ++ rest))) : W p G.1 e (xR (d + 1) mc ms) s m args below meth c H locs n k Z (F0 m pc ls st9) := by
  obtain ⟨hx, hb, hr, hml, hown, hts, hlocks, hname, hA, hK, hCl, hF⟩ := id C
  obtain ⟨hcode, hlk, him, hse, hini, hdd, hL9⟩ := ok
  subst hown9
  obtain ⟨fs, hq1, -⟩ := hq
  have hFc := aw_free hD hS hA
  refine aw_run (va_runV (C := μ'.1.cls) (As := As) (rest := rest) (Ts := gtbl) (nL := μ.2.2.1) ⟨hx, hb, hml, hown, hts⟩ (hM H.size) ⟨callB_of np hts (xW_good hcode) rfl rfl rfl (hts _ hini) (hts _ hlk) hdd ⟨Nat.le_refl _, by simp only [xR]; omega⟩, hts _ him, hts _ hse⟩ ⟨xP_blind, by have h8 := va_recv (q0 := 0) hK (rd_at C hS hP hq1) hcl rfl; rw [hCR] at h8; exact h8, fun U hU hW => ⟨rfl, by rw [hU], by rw [hU]; exact hP, va_K.moved hW.alike hK, hD.weaken (fun _ _ _ _ => trivial), hCl, hCl A _ s U hW hFc (fun q h1 h2 => by rw [hU]; exact hS.2.1 q h1 h2) hF⟩⟩ rfl hn hl.1 hst.symm (lv_room hcat) hd ⟨hf1, hf2⟩) hS (fun q _ h => hFc q h) hFc ?_
  intro v w1 t H1 locs1 ht hvm hQ hP1 hD1 hz hk1 hS1
  exact kk v w1 H1 locs1 hQ hP1 (hD1.weaken (fun _ q _ h => hFc q.1 h)) hS1
/-- 'throw new NoSuchElementException()' out of the class -/
theorem wz_thr {Qc : Array Value → State → Outcome → State → Prop} (hT : TH G) (C : xC G μ p s m args meth c A) (ho : μ.1.cls = "InchBorders") (hS : va_S A s.heap H locs) (hP : va_P G.2.1 vwCl ws H) (hl : lh ls μ.2.2.1 L) (ht : ∀ x ∈ c.exceptionTable.toList, False)
    (d0 : decode μ.2.1 pc = .ok (.new 139, 3)) (d3 : decode μ.2.1 (pc + 3) = .ok (.dup, 1)) (d4 : decode μ.2.1 (pc + 4) = .ok (.invokespecial 141, 3)) (d7 : decode μ.2.1 (pc + 7) = .ok (.athrow, 1)) (hc : n + 1 ≤ mc) (hs : k + 6 ≤ ms) :
    W p G.1 e (xR (d + 6) mc ms) s m args below meth c H locs n k (vx_MQ below Qc (vxP G false ws A) args s mc ms A) (F0 m pc ls []) := by
  obtain ⟨hx, hb, hr, hml, hown, hts, hlocks, hname, hA, hK, hCl, hF⟩ := id C
  rw [ho] at hown
  obtain ⟨hU, hN, -⟩ := hT.2 A s hF
  refine vx_throw0 hx hb hT.1 (own := "InchBorders") (cls := nsee) (names := ["java/lang/RuntimeException", "java/lang/Exception"]) (ik := 139) (ic := 141) (A := A) hown (by decide) (by decide) (hts _ th_cl) (hts _ th_ini) (hT.hat hts hF) thA_ot hU hN hS (hl.1.trans hml.symm) d0 d3 d4 d7 (fun x h => (ht x h).elim) (by simp only [xR, List.length_cons, List.length_nil]; omega) (by simp only [xR, List.length_cons, List.length_nil, List.map_nil, List.sum_nil]; omega) (by simp only [xR]; omega) (by simp only [xR]; omega) hlocks ?_ hS.2.2 hc hs
  intro t hvm hz hk
  exact ⟨rfl, rfl, hP.kept (fun k q hq => hk q.1 (hP k q hq).lt), Nat.le_trans hS.1 hz, fun q h1 h2 => by rw [hk q (Nat.lt_of_lt_of_le h1 hS.1)]; exact hS.2.1 q h1 h2⟩
end PEW
set_option maxHeartbeats 1000000 in
set_option maxRecDepth 20000 in
theorem pe_good {G : xG} {d : Nat} {Q : xQ} {ae : Nat → Nat} {tw ts : Nat} {kd : Nat → Bool} {ad : Nat → Nat → Nat} {κ : Nat → kS} {n : Nat} {σ : mS} {B : Nat} {R : va_W} {x y : Int32} (hE : EB ae tw ts G) (hNB : NB G) (hAO : AO G) (hJ : J ae kd ad κ n σ B) (hok : personOK (σ.2.1 6) x y = true) (kk : Q (some (.int (personA (σ.2.1 6) x y))) (WX G.2.2.1 kd ad κ n [] ++ R)) : AW G MX11_person (d + 40) 1 6 Q 0 [some (.ref ((ad 0) 20)), some (.int x), some (.int y)] [] (WX G.2.2.1 kd ad κ n [] ++ R) 0 0 := by
  obtain ⟨hn, hMain, hSub, hTape, hR10, hR11, hR12, hR13, hMisc, hRef, hB5, jc, NM, sn, sd, m, pn, im, hCht, hSR, hSnt, hTok, hPast, hPm, hSds, hImg⟩ := id hJ
  have hw : WT (σ.2.1 6) := hTok.1.1.1
  have hI := ov_0 (G := G) (kd := kd) (ad := ad) (κ := κ) (xs := []) (R := R) (by omega : 0 < n) (by simp)
  have hTp := ov_1 (G := G) (kd := kd) (ad := ad) (κ := κ) (xs := []) (R := R) (by omega : 1 < n) (by simp)
  have hS := st_2 (G := G) (kd := kd) (ad := ad) (n := n) (xs := []) (R := R) hSR hw (by omega) (by simp)
  have hC : CHR G (WX G.2.2.1 kd ad κ n [] ++ R) (ad jc) (σ.2.1 6) NM := (hCht.chr (ad := ad) hw (fun i hi => by simp at hi)).sub mem_R1
  obtain ⟨hb, h0, h1, h2, hRd, hP, hD, hCl, hT⟩ := id hw
  obtain ⟨sd9, hSo, hS2, hS3, hS6, hS7, hS8, hS9, hS10⟩ := id hS
  obtain ⟨n1, hTB, hlen, hflt⟩ := id hTape
  have hok2 := Bool.and_eq_true_iff.mp hok
  refine aw_aload_n (pc := 0) (i := 0) dX11_person_0 rfl rfl ?_
  refine aw_iload_n (pc := 1) (i := 1) dX11_person_1 rfl rfl ?_
  refine cVi (pc := 2) (As := [.int x]) (rest := []) dX11_person_2 rfl oc_X11_135 rfl rfl (Nat.le_of_ble_eq_true rfl) rfl rfl hI (Nat.zero_le _) (Nat.zero_le _) (c11_isPerson hI hMain.2.1 hS hC (by omega) ⟨_, rfl, ?_⟩)
  refine ab_if_ne (pc := 5) (tgt := 16) dX11_person_5 rfl (fun h5 => ?_) (fun h5 => ?_)
  · -- 16
    obtain ⟨k, hk, rfl⟩ := inB_t (Nat.lt_of_le_of_lt h2 (by decide)) h5
    refine aw_iload_n (pc := 16) (i := 2) dX11_person_16 rfl rfl ?_
    rcases sw_in (n := 6) (by decide) y with ⟨hne17, hsw17⟩ | ⟨k17, hk17, rfl⟩
    · refine aw_tabOut (pc := 17) (tgt := 132) dX11_person_17 hsw17 rfl ?_
      exfalso
      obtain ⟨j, hj, rfl⟩ := inC_t (by decide) (by decide) hok2.2
      exact hne17 j (by omega) rfl
    · rcases (show k17 = 0 ∨ k17 = 1 ∨ k17 = 2 ∨ k17 = 3 ∨ k17 = 4 ∨ k17 = 5 ∨ k17 = 6 by omega) with rfl | rfl | rfl | rfl | rfl | rfl | rfl
      · -- case 0
        refine aw_tabIn (pc := 17) (tgt := 60) dX11_person_17 (by decide) (by decide) rfl rfl ?_
        refine aw_aload_n (pc := 60) (i := 0) dX11_person_60 rfl rfl ?_
        refine av_get (pc := 61) (x := .ref ((ad 2) 12)) dX11_person_61 rfl og_X11_72 rfl hI hMain.2.1 ?_
        refine av_get (pc := 64) (x := .ref ((ad jc) 13)) dX11_person_64 rfl og_X11_142 rfl hSo rfl ?_
        refine av_get (pc := 67) (x := .ref ((ad jc) 12)) dX11_person_67 rfl og_X11_146 rfl hC.ov rfl ?_
        refine aw_iload_n (pc := 70) (i := 1) dX11_person_70 rfl rfl ?_
        refine av_iald (pc := 71) (x := (nI ((σ.2.1 6) (79 + k)))) dX11_person_71 hC.home (by omega) (by decide) rfl ?_
        refine aw_iret (pc := 72) dX11_person_72 rfl (Nat.zero_le _) (Nat.zero_le _) ?_
        rw [show personA (σ.2.1 6) (nI k) (nI 0) = nI (σ.2.1 6 (79 + k)) by unfold personA; rw [if_pos hok, nI_clamp (by omega)]; unfold personF; rw [if_pos rfl]] at kk
        exact kk
      · -- case 1
        refine aw_tabIn (pc := 17) (tgt := 73) dX11_person_17 (by decide) (by decide) rfl rfl ?_
        refine aw_aload_n (pc := 73) (i := 0) dX11_person_73 rfl rfl ?_
        refine av_get (pc := 74) (x := .ref ((ad 2) 12)) dX11_person_74 rfl og_X11_72 rfl hI hMain.2.1 ?_
        refine av_get (pc := 77) (x := .ref ((ad 2) 6)) dX11_person_77 rfl og_X11_149 rfl hSo rfl ?_
        refine aw_iload_n (pc := 80) (i := 1) dX11_person_80 rfl rfl ?_
        refine av_iald (pc := 81) (x := (nI ((σ.2.1 6) (108 + k)))) dX11_person_81 hS6 (by omega) (by decide) rfl ?_
        refine aw_iret (pc := 82) dX11_person_82 rfl (Nat.zero_le _) (Nat.zero_le _) ?_
        rw [show personA (σ.2.1 6) (nI k) (nI 1) = nI (σ.2.1 6 (108 + k)) by unfold personA; rw [if_pos hok, nI_clamp (by omega)]; unfold personF; rw [if_neg (by decide), if_pos rfl]] at kk
        exact kk
      · -- case 2
        refine aw_tabIn (pc := 17) (tgt := 83) dX11_person_17 (by decide) (by decide) rfl rfl ?_
        refine aw_aload_n (pc := 83) (i := 0) dX11_person_83 rfl rfl ?_
        refine av_get (pc := 84) (x := .ref ((ad 2) 12)) dX11_person_84 rfl og_X11_72 rfl hI hMain.2.1 ?_
        refine av_get (pc := 87) (x := .ref ((ad 2) 7)) dX11_person_87 rfl og_X11_152 rfl hSo rfl ?_
        refine aw_iload_n (pc := 90) (i := 1) dX11_person_90 rfl rfl ?_
        refine av_iald (pc := 91) (x := (nI ((σ.2.1 6) (114 + k)))) dX11_person_91 hS7 (by omega) (by decide) rfl ?_
        refine aw_iret (pc := 92) dX11_person_92 rfl (Nat.zero_le _) (Nat.zero_le _) ?_
        rw [show personA (σ.2.1 6) (nI k) (nI 2) = nI (σ.2.1 6 (114 + k)) by unfold personA; rw [if_pos hok, nI_clamp (by omega)]; unfold personF; rw [if_neg (by decide), if_neg (by decide), if_pos rfl]] at kk
        exact kk
      · -- case 3
        refine aw_tabIn (pc := 17) (tgt := 93) dX11_person_17 (by decide) (by decide) rfl rfl ?_
        refine aw_aload_n (pc := 93) (i := 0) dX11_person_93 rfl rfl ?_
        refine av_get (pc := 94) (x := .ref ((ad 2) 12)) dX11_person_94 rfl og_X11_72 rfl hI hMain.2.1 ?_
        refine av_get (pc := 97) (x := .ref ((ad 2) 8)) dX11_person_97 rfl og_X11_154 rfl hSo rfl ?_
        refine aw_iload_n (pc := 100) (i := 1) dX11_person_100 rfl rfl ?_
        refine av_iald (pc := 101) (x := (nI ((σ.2.1 6) (120 + k)))) dX11_person_101 hS8 (by omega) (by decide) rfl ?_
        refine aw_iret (pc := 102) dX11_person_102 rfl (Nat.zero_le _) (Nat.zero_le _) ?_
        rw [show personA (σ.2.1 6) (nI k) (nI 3) = nI (σ.2.1 6 (120 + k)) by unfold personA; rw [if_pos hok, nI_clamp (by omega)]; unfold personF; rw [if_neg (by decide), if_neg (by decide), if_neg (by decide), if_pos rfl]] at kk
        exact kk
      · -- case 4
        refine aw_tabIn (pc := 17) (tgt := 103) dX11_person_17 (by decide) (by decide) rfl rfl ?_
        refine aw_aload_n (pc := 103) (i := 0) dX11_person_103 rfl rfl ?_
        refine av_get (pc := 104) (x := .ref ((ad 2) 12)) dX11_person_104 rfl og_X11_72 rfl hI hMain.2.1 ?_
        refine av_get (pc := 107) (x := .ref ((ad 2) 9)) dX11_person_107 rfl og_X11_157 rfl hSo rfl ?_
        refine aw_iload_n (pc := 110) (i := 1) dX11_person_110 rfl rfl ?_
        refine av_iald (pc := 111) (x := (nI ((σ.2.1 6) (126 + k)))) dX11_person_111 hS9 (by omega) (by decide) rfl ?_
        refine aw_iret (pc := 112) dX11_person_112 rfl (Nat.zero_le _) (Nat.zero_le _) ?_
        rw [show personA (σ.2.1 6) (nI k) (nI 4) = nI (σ.2.1 6 (126 + k)) by unfold personA; rw [if_pos hok, nI_clamp (by omega)]; unfold personF; rw [if_neg (by decide), if_neg (by decide), if_neg (by decide), if_neg (by decide), if_pos rfl]] at kk
        exact kk
      · -- case 5
        refine aw_tabIn (pc := 17) (tgt := 113) dX11_person_17 (by decide) (by decide) rfl rfl ?_
        refine aw_aload_n (pc := 113) (i := 0) dX11_person_113 rfl rfl ?_
        refine av_get (pc := 114) (x := .ref ((ad 2) 12)) dX11_person_114 rfl og_X11_72 rfl hI hMain.2.1 ?_
        refine av_get (pc := 117) (x := .ref ((ad 2) 10)) dX11_person_117 rfl og_X11_160 rfl hSo rfl ?_
        refine aw_iload_n (pc := 120) (i := 1) dX11_person_120 rfl rfl ?_
        refine av_iald (pc := 121) (x := (nI ((σ.2.1 6) (132 + k)))) dX11_person_121 hS10 (by omega) (by decide) rfl ?_
        refine aw_iret (pc := 122) dX11_person_122 rfl (Nat.zero_le _) (Nat.zero_le _) ?_
        rw [show personA (σ.2.1 6) (nI k) (nI 5) = nI (σ.2.1 6 (132 + k)) by unfold personA; rw [if_pos hok, nI_clamp (by omega)]; unfold personF; rw [if_neg (by decide), if_neg (by decide), if_neg (by decide), if_neg (by decide), if_neg (by decide), if_pos rfl]] at kk
        exact kk
      · -- case 6
        refine aw_tabIn (pc := 17) (tgt := 123) dX11_person_17 (by decide) (by decide) rfl rfl ?_
        refine aw_aload_n (pc := 123) (i := 0) dX11_person_123 rfl rfl ?_
        refine av_get (pc := 124) (x := .ref ((ad 2) 12)) dX11_person_124 rfl og_X11_72 rfl hI hMain.2.1 ?_
        refine aw_iload_n (pc := 127) (i := 1) dX11_person_127 rfl rfl ?_
        refine cVi (pc := 128) (As := [.int (nI k)]) (rest := []) dX11_person_128 rfl oc_X11_163 rfl rfl (Nat.le_of_ble_eq_true rfl) rfl rfl hSo (Nat.zero_le _) (Nat.zero_le _) (c7_whither hNB hS hC hw (by omega) ⟨_, rfl, ?_⟩)
        refine aw_iret (pc := 131) dX11_person_131 rfl (Nat.zero_le _) (Nat.zero_le _) ?_
        rw [show personA (σ.2.1 6) (nI k) (nI 6) = nI (couldF (σ.2.1 6) k) by unfold personA; rw [if_pos hok, nI_clamp (by omega)]; unfold personF; rw [if_neg (by decide), if_neg (by decide), if_neg (by decide), if_neg (by decide), if_neg (by decide), if_neg (by decide)]] at kk
        exact kk
  · -- 8
    exact absurd (h5.symm.trans hok2.1) (by decide)
set_option maxHeartbeats 1000000 in
set_option maxRecDepth 20000 in
theorem x_person {G : xG} {d : Nat} {Q : xQ} {ae : Nat → Nat} {tw ts : Nat} {kd : Nat → Bool} {ad : Nat → Nat → Nat} {κ : Nat → kS} {n : Nat} {σ : mS} {B : Nat} {R : va_W} {x y : Int32} (hE : EB ae tw ts G) (hNB : NB G) (hAO : AO G) (hJ : J ae kd ad κ n σ B) (hTH : TH G) (kk : personOK (σ.2.1 6) x y = true → Q (some (.int (personA (σ.2.1 6) x y))) (WX G.2.2.1 kd ad κ n [] ++ R)) : MTX G MX11_person (d + 40) 1 6 [.ref ((ad 0) 20), .int x, .int y] (WX G.2.2.1 kd ad κ n [] ++ R) Q (personOK (σ.2.1 6) x y) := by
  intro sz
  refine vx_ofW (cc := cX11_person) (maxL := 3) (ret := some .int) rfl rfl ?_
  intro p e s m args below meth c s₁ B9 hml ht hv
  obtain ⟨rfl, hsz, hPw, hK, hD0, hCl0, hF⟩ := hv
  have hts := atoms_spec (ws := xW MX11_person) B9.pre
  have hown : s.vm.findClass MX11_person.1.cls = some m.cls := findClass_of_methodNamed B9.named
  have hin : meth.name = MX11_person.1.name := (name_of_methodNamed B9.named B9.method).1
  subst hsz
  have hDw := hD0.self (sz := s.heap.size)
  have hl0 := lv_entry [.ref ((ad 0) 20), .int x, .int y] (n := 3) (Nat.le_of_ble_eq_true rfl)
  have hl : lh _ 3 [some (.ref ((ad 0) 20)), some (.int x), some (.int y)] := lh_of hl0 rfl
  rw [lg_entry_eq]
  have C : xC G MX11_person p s m _ meth c _ := ⟨B9.exec, B9.bytes, B9.returns, hml, hown, fun w h => hts w (List.mem_cons_of_mem _ h), B9.notSynchronized, hin, fun q h => Or.inr h, hK, hCl0, hF⟩
  have hS0 : va_S (va_A (WX G.2.2.1 kd ad κ n [] ++ R) s.heap.size) s.heap s.heap [] := va_S.rf
  by_cases hok : personOK (σ.2.1 6) x y = true
  · exact vx_ret (pe_good (d := d) hE hNB hAO hJ hok (kk hok) p e s m _ below meth c _ _ _ _ C hS0 hPw hDw hl)
  · have hok' : personOK (σ.2.1 6) x y = false := by simpa using hok
    obtain ⟨hn, hMain, hSub, hTape, hR10, hR11, hR12, hR13, hMisc, hRef, hB5, jc, NM, sn, sd, m, pn, im, hCht, hSR, hSnt, hTok, hPast, hPm, hSds, hImg⟩ := id hJ
    have hw : WT (σ.2.1 6) := hTok.1.1.1
    have hI := ov_0 (G := G) (kd := kd) (ad := ad) (κ := κ) (xs := []) (R := R) (by omega : 0 < n) (by simp)
    have hTp := ov_1 (G := G) (kd := kd) (ad := ad) (κ := κ) (xs := []) (R := R) (by omega : 1 < n) (by simp)
    have hS := st_2 (G := G) (kd := kd) (ad := ad) (n := n) (xs := []) (R := R) hSR hw (by omega) (by simp)
    have hC : CHR G (WX G.2.2.1 kd ad κ n [] ++ R) (ad jc) (σ.2.1 6) NM := (hCht.chr (ad := ad) hw (fun i hi => by simp at hi)).sub mem_R1
    obtain ⟨hb, h0, h1, h2, hRd, hP, hD, hCl, hT⟩ := id hw
    obtain ⟨sd9, hSo, hS2, hS3, hS6, hS7, hS8, hS9, hS10⟩ := id hS
    obtain ⟨n1, hTB, hlen, hflt⟩ := id hTape
    rw [hok']
    refine lv_aload_n C.1 C.2.1 dX11_person_0 rfl (hl.2.2 0 _ rfl) ?_
    refine lv_iload_n C.1 C.2.1 dX11_person_1 rfl (hl.2.2 1 _ rfl) ?_
    refine wz_cV (As := [.int x]) (rest := []) C hS0 hPw hDw hl dX11_person_2 rfl oc_X11_135 rfl rfl (Nat.le_of_ble_eq_true rfl) rfl rfl hI (c11_isPerson (Q := fun v w => v = some (.int (bI (inB (σ.2.1 6 2) x))) ∧ w = WX G.2.2.1 kd ad κ n [] ++ R) hI hMain.2.1 hS hC (by omega) ⟨rfl, rfl⟩) (Nat.zero_le _) (Nat.zero_le _) ?_
    rintro v w9 H1 locs1 ⟨rfl, rfl⟩ hP1 hD1 hS1
    refine lv_if_ne C.1 C.2.1 (tgt := 16) dX11_person_5 rfl (fun h9 => ?_) (fun h9 => ?_)
    · refine lv_iload_n C.1 C.2.1 dX11_person_16 rfl (hl.2.2 2 _ rfl) ?_
      rcases sw_in (n := 6) (by decide) y with ⟨hne, hsw⟩ | ⟨k, hk, rfl⟩
      · refine lv_tableOut C.1 C.2.1 (tgt := 132) dX11_person_17 hsw rfl ?_
        exact wz_thr (d := d + 34) hTH C rfl hS1 hP1 hl ht dX11_person_132 dX11_person_135 dX11_person_136 dX11_person_139 (Nat.le_refl _) (Nat.le_refl _)
      · exfalso
        apply hok
        unfold personOK
        have e1 : inB (σ.2.1 6 2) x = true := by
          cases e : inB (σ.2.1 6 2) x with
          | true => rfl
          | false => rw [e] at h9; exact absurd rfl h9
        rw [e1, inC_nat (by decide) (by decide) (by omega), decide_eq_true (Nat.zero_le _), decide_eq_true hk]; rfl
    · exact wz_thr (d := d + 34) hTH C rfl hS1 hP1 hl ht dX11_person_8 dX11_person_11 dX11_person_12 dX11_person_15 (Nat.le_refl _) (Nat.le_refl _)
