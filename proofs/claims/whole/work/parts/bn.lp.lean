abbrev ML_person : xM := (yL_person, cL_person, 5, some .int)
abbrev hhP : List (Nat × Nat × Nat × Nat) := [(0, 10, 13, 13)]
def xWp : List Cond := Cond.codeWith yL_person cL_person 5 (some .int) hhP :: gtbl
set_option maxRecDepth 100000 in
theorem lp_code : Cond.codeWith yL_person cL_person 5 (some .int) hhP ∈ gtbl := by decide +kernel
set_option maxRecDepth 100000 in
theorem lp_cl : Cond.classLink "InchBordersLaw" 13 nsee ∈ gtbl := by decide +kernel
set_option maxRecDepth 100000 in
theorem lp_st : ∀ w ∈ ([.static yL_person, .initialized yL_person.cls] : List Cond), w ∈ gtbl := by decide +kernel
theorem Met_ofWH {l : Launch} {y : MethodName} {ws ws' : List Cond} {rm : Room} {Pc : Array Value → State → Prop} {Qc : Array Value → State → Outcome → State → Prop} {mc ms : Nat} {free : Addr → Prop} {cc : ByteArray} {maxL : Nat} {ret : Option FieldType} {hh : List (Nat × Nat × Nat × Nat)}
    (hy : plainName y.cls = true) (hw : ws = Cond.codeWith y cc maxL ret hh :: ws')
    (body : ∀ p e s m args below meth c s₁, BodyLoose p l y (headSpec ws rm) cc maxL ret e s m args below meth c s₁ → c.maxLocals = maxL → c.exceptionTable.toList = tableOf hh → Pc args s →
      W p l e (headSpec ws rm).room s m args below meth c s.heap [] 0 0 (MQ below Qc args s mc ms free) (entryFrame m args maxL)) : Met l y ws rm Pc Qc mc ms free := by
  refine MetFree.of_bodyS (code := cc) (maxLocals := maxL) (ret := ret) hy ?_ ?_
  · intro args s m h hn
    obtain ⟨m9, meth, c, hn9, h1, h2, h3, h4, -, h5, h6, -⟩ := Cond.codeWith_spec (atoms_spec (ws := ws) h _ (by rw [hw]; exact List.mem_cons_self))
    cases hn.symm.trans hn9
    exact ⟨meth, c, h1, h2, h3, h4, h5, h6⟩
  · intro p e s m args below meth c s₁ B hml hP _
    have hh0 : s₁.heap = s.heap := by rw [B.state]; rfl
    have ht : c.exceptionTable.toList = tableOf hh := vx_table (x := y) B (atoms_spec (ws := ws) B.pre _ (by rw [hw]; exact List.mem_cons_self))
    obtain ⟨t, a1, o, b1, b2, b3⟩ := body p e s m args below meth c s₁ B hml ht hP s₁ hh0 (Stand.of_body B)
    exact ⟨t, o, a1, b1, b2, ⟨b3.1, b3.2⟩⟩
section PEX
variable {G : xG} {μ μ' : xM} {d mc ms mc' ms' : Nat} {Q9 : xQ} {pc : Nat} {L : List (Option Value)} {rest : List Value} {ws : va_W} {n k idx np : Nat}
variable {p : Program} {e : Env} {s : State} {m : MethodId} {args : Array Value} {below : List Frame} {meth : Method} {c : Code} {H : Heap} {locs : List Loc} {A : Nat → Prop} {ls : Array Slot} {Z : State → Prop}
/-- a call of a method that may throw -/
theorem wz_cX {As : List Value} {b ci : Nat} {CR : vw_C} {vv : Nat → Value} {st9 : List Value} {own : String} {okb : Bool} (C : xC G μ p s m args meth c A) (hS : va_S A s.heap H locs) (hP : va_P G.2.1 vwCl ws H) (hD : va_D A ws) (hl : lh ls μ.2.2.1 L)
    (hd : decode μ.2.1 pc = .ok (.invokevirtual idx, 3)) (hown9 : μ.1.cls = own) (ok : xVok own μ' idx np)
    (hn : As.length = np) (hst : As.reverse ++ .ref b :: rest = st9) (hcat : (rest.map fun v => v.category).sum ≤ 8) (hcl : vwCl[ci]? = some CR) (hCR : CR.1 = μ'.1.cls) (hq : OV G ws ci b vv)
    (hM : MTX G μ' d mc' ms' (.ref b :: As) ws Q9 okb) (hf1 : n + mc' ≤ mc) (hf2 : k + ms' ≤ ms)
    (kk : ∀ (v : Option Value) (w : va_W) (H1 : Heap) (locs1 : List Loc), Q9 v w → va_P G.2.1 vwCl w H1 → va_D A w → va_S A s.heap H1 locs1 → W p G.1 e (xR (d + 1) mc ms) s m args below meth c H1 locs1 (n + mc') (k + ms') Z (F0 m (pc + 3) ls (v.toList ++ rest)))
    (kx : okb = false → ∀ (q : Addr) (ce : Cell) (H1 : Heap) (locs1 : List Loc), va_P G.2.1 vwCl ws H1 → va_S A s.heap H1 locs1 → H1[q]? = some ce → ce.vm = .none → s.vm.findClass nsee = some ce.cls → vx_W p G.1 e (xR (d + 1) mc ms) s m args below meth c H1 locs1 (n + mc') (k + ms') Z (F0 m pc ls rest) q) : W p G.1 e (xR (d + 1) mc ms) s m args below meth c H locs n k Z (F0 m pc ls st9) := by
  obtain ⟨hx, hb, hr, hml, hown, hts, hlocks, hname, hA, hK, hCl, hF⟩ := id C
  obtain ⟨hcode, hlk, him, hse, hini, hdd, hL9⟩ := ok
  subst hown9
  obtain ⟨fs, hq1, -⟩ := hq
  have hFc := aw_free hD hS hA
  have hr9 := vx_runV (p := p) (e := e) (below := below) (meth := meth) (locs := locs) (cells := n) (slots := k) (g := F0 m pc ls st9) (R := xR (d + 1) mc ms) (C := μ'.1.cls) (As := As) (rest := rest) (Ts := gtbl) (nL := μ.2.2.1) ⟨hx, hb, hml, hown, hts⟩ (hM H.size) ⟨callB_of np hts (xW_good hcode) rfl rfl rfl (hts _ hini) (hts _ hlk) hdd ⟨Nat.le_refl _, by simp only [xR]; omega⟩, hts _ him, hts _ hse⟩ ⟨xP_blind, by have h8 := va_recv (q0 := 0) hK (rd_at C hS hP hq1) hcl rfl; rw [hCR] at h8; exact h8, fun U hU hW => ⟨rfl, by rw [hU], by rw [hU]; exact hP, va_K.moved hW.alike hK, hD.weaken (fun _ _ _ _ => trivial), hCl, hCl A _ s U hW hFc (fun q h1 h2 => by rw [hU]; exact hS.2.1 q h1 h2) hF⟩⟩ rfl hn hl.1 hst.symm (lv_room hcat) hd ⟨hf1, hf2⟩
  intro T hT X
  rcases hr9 T hT X with ⟨v, st₀, t, T', L9, h0, X', hL, e1, e2, ⟨⟨v2, w1, hv, hq9, hP1, -, hD1⟩, hFF⟩, st⟩ | ⟨q, st₀, t, T', L9, E, ce, h0, X', hL, e1, e2, ⟨hE9, hok, hPx, hFx⟩, hce, hcv, hcl9, st⟩
  · cases hv
    obtain ⟨k1, k2, k3⟩ := vx_keep h0 e1 hS (fun q _ h => hFc q h) hFc hL hFF
    obtain ⟨t2, a1, b1⟩ := kk v w1 T'.heap (locs ++ L9) hq9 (by rw [e1]; exact hP1) (hD1.weaken (fun _ q _ h => hFc q.1 h)) k3 T' rfl X'
    exact ⟨t2, st t2 a1, b1⟩
  · subst hE9
    obtain ⟨k1, k2, k3⟩ := vx_keep h0 e1 hS (fun q _ h => hFc q h) hFc hL hFx
    obtain ⟨t2, a1, b1⟩ := kx hok q ce T'.heap (locs ++ L9) (by rw [e1]; exact hPx) k3 (by rw [e1]; exact hce) hcv hcl9 T' rfl X'
    exact ⟨t2, st.trans a1, b1⟩
end PEX
def MTP (G : xG) (d mc ms : Nat) (av : List Value) (ws : va_W) (Q : xQ) : Prop := ∀ sz : Nat, Met G.1 yL_person xWp (xR d mc ms) (xP G av ws sz) (aQ G Q (va_A ws sz)) mc ms (va_A ws sz)
/-- the law's row of one long -/
abbrev oW (G : xG) (ao : Nat) (f : Nat → Int64) : va_W := [(ao, .inl (G.2.2.1 2, 1, .inr (.inl f)))]
theorem perm_o {X Y O : va_W} : List.Perm (X ++ (Y ++ O)) (O ++ (X ++ Y)) := by
  rw [← List.append_assoc]
  exact List.perm_append_comm

set_option maxHeartbeats 4000000 in
set_option maxRecDepth 20000 in
theorem l_person {G : xG} {d : Nat} {Q : xQ} {ae : Nat → Nat} {tw ts : Nat} {kd : Nat → Bool} {ad : Nat → Nat → Nat} {κ : Nat → kS} {n : Nat} {σ : mS} {B : Nat} {X : va_W} {ao : Nat} {f : Nat → Int64} {x y : Int32} (hE : EB ae tw ts G) (hNB : NB G) (hAO : AO G) (hJ : J ae kd ad κ n σ B) (hT : TH G)
    (k0 : personOK (σ.2.1 6) x y = true → ∀ f9 : Nat → Int64, f9 0 = (personA (σ.2.1 6) x y).toInt64 → Q (some (.int (nI 0))) (WX G.2.2.1 kd ad κ n [] ++ (X ++ oW G ao f9)))
    (k1 : personOK (σ.2.1 6) x y = false → Q (some (.int (nI 1))) (WX G.2.2.1 kd ad κ n [] ++ (X ++ oW G ao f))) : MTP G (d + 41) 1 6 [.ref ((ad 0) 20), .int x, .int y, .ref ao] (WX G.2.2.1 kd ad κ n [] ++ (X ++ oW G ao f)) Q := by
  intro sz
  refine Met_ofWH (cc := cL_person) (maxL := 5) (ret := some .int) (hh := hhP) rfl rfl ?_
  intro p e s m args below meth c s₁ B9 hml ht hv
  obtain ⟨rfl, hsz, hP, hK, hD0, hCl, hF⟩ := hv
  have hts := atoms_spec (ws := xWp) B9.pre
  have hown : s.vm.findClass ML_person.1.cls = some m.cls := findClass_of_methodNamed B9.named
  have hin : meth.name = ML_person.1.name := (name_of_methodNamed B9.named B9.method).1
  subst hsz
  have hD := hD0.self (sz := s.heap.size)
  have hl0 := lv_entry [.ref ((ad 0) 20), .int x, .int y, .ref ao] (n := 5) (Nat.le_of_ble_eq_true rfl)
  have hl : lh _ 5 [some (.ref ((ad 0) 20)), some (.int x), some (.int y), some (.ref ao), none] := lh_of hl0 rfl
  rw [lg_entry_eq]
  have C : xC G ML_person p s m _ meth c _ := ⟨B9.exec, B9.bytes, B9.returns, hml, hown, fun w h => hts w (List.mem_cons_of_mem _ h), B9.notSynchronized, hin, fun q h => Or.inr h, hK, hCl, hF⟩
  have hS0 : va_S (va_A (WX G.2.2.1 kd ad κ n [] ++ (X ++ oW G ao f)) s.heap.size) s.heap s.heap [] := va_S.rf
  have hn24 : 24 ≤ n := hJ.1
  refine lv_aload_n C.1 C.2.1 dL_person_0 rfl (hl.2.2 3 _ rfl) ?_
  refine lv_iconst C.1 C.2.1 dL_person_1 iconst_0 ?_
  refine lv_aload_n C.1 C.2.1 dL_person_2 rfl (hl.2.2 0 _ rfl) ?_
  refine lv_iload_n C.1 C.2.1 dL_person_3 rfl (hl.2.2 1 _ rfl) ?_
  refine lv_iload_n C.1 C.2.1 dL_person_4 rfl (hl.2.2 2 _ rfl) ?_
  refine wz_cX (As := [.int x, .int y]) (rest := [.int (nI 0), .ref ao]) C hS0 hP hD hl dL_person_5 rfl oc_L_7 rfl rfl (Nat.le_of_ble_eq_true rfl) rfl rfl (ov_0 (by omega) (by simp)) (x_person (d := d) (Q := fun v w => personOK (σ.2.1 6) x y = true ∧ v = some (.int (personA (σ.2.1 6) x y)) ∧ w = WX G.2.2.1 kd ad κ n [] ++ (X ++ oW G ao f)) hE hNB hAO hJ hT (fun h => ⟨h, rfl, rfl⟩)) (Nat.le_refl _) (Nat.le_refl _) ?_ ?_
  · rintro v w9 H1 locs1 ⟨hok, rfl, rfl⟩ hP1 hD1 hS1
    have hA : AW G ML_person (d + 41) 1 6 Q 8 [some (.ref ((ad 0) 20)), some (.int x), some (.int y), some (.ref ao), none] [.int (personA (σ.2.1 6) x y), .int (nI 0), .ref ao] (WX G.2.2.1 kd ad κ n [] ++ (X ++ oW G ao f)) 1 6 := by
      refine aw_i2l (pc := 8) dL_person_8 ?_
      refine aw_perm perm_o ?_
      refine aw_last (pc := 9) (q0 := 0) (w9 := oW G ao (vp_updL f (nI 0).toNatClampNeg (personA (σ.2.1 6) x y).toInt64) ++ (WX G.2.2.1 kd ad κ n [] ++ X)) dL_person_9 rfl (vp_in_nI (by decide) (by decide)) rfl ?_
      refine aw_perm perm_o.symm ?_
      refine aw_goto (pc := 10) (tgt := 17) dL_person_10 rfl ?_
      refine aw_iconst (pc := 17) dL_person_17 iconst_0 ?_
      exact aw_iret (pc := 18) dL_person_18 rfl (Nat.le_refl _) (Nat.le_refl _) (k0 hok _ rfl)
    exact hA p e s m _ below meth c H1 locs1 _ _ C hS1 hP1 hD1 hl
  · intro hok q ce H1 locs1 hP1 hS1 hce hcv hcl
    have hA : AW G ML_person (d + 41) 1 6 Q 13 [some (.ref ((ad 0) 20)), some (.int x), some (.int y), some (.ref ao), none] [.ref q] (WX G.2.2.1 kd ad κ n [] ++ (X ++ oW G ao f)) 1 6 := by
      refine aw_astore (pc := 13) dL_person_13 (by decide) rfl ?_
      refine aw_iconst (pc := 15) dL_person_15 iconst_1 ?_
      exact aw_iret (pc := 16) dL_person_16 rfl (Nat.le_refl _) (Nat.le_refl _) (k1 hok)
    refine vx_catch (own := "InchBordersLaw") (name := nsee) (E := nsee) (ce := ce) C.2.2.2.2.1 [] ⟨0, 10, 13, 13⟩ [] (by rw [ht]; rfl) (fun z hz => nomatch hz) rfl (by decide) (C.2.2.2.2.2.1 _ lp_cl) (va_Nw.use rfl (hT.2 _ s hF).2.2.1) hce hcv hcl ?_
    exact hA p e s m _ below meth c H1 locs1 _ _ C hS1 hP1 hD hl
section PEC
variable {G : xG} {μ : xM} {d mc ms : Nat} {Q Q9 : xQ} {pc : Nat} {L : List (Option Value)} {rest : List Value} {ws : va_W} {n k idx : Nat}
/-- its call -/
theorem aw_cP {As : List Value} {st9 : List Value} {own : String} (hd : decode μ.2.1 pc = .ok (.invokestatic idx, 3)) (hown9 : μ.1.cls = own) (hlk : Cond.methodLink own idx yL_person ∈ gtbl)
    (hn : As.length = 4) (hst : As.reverse ++ rest = st9) (hcat : (rest.map fun v => v.category).sum ≤ 8) (hM : MTP G d 1 6 As ws Q9) (hk9 : ∀ v w, Q9 v w → AW G μ (d + 1) mc ms Q (pc + 3) L (v.toList ++ rest) w (n + 1) (k + 6)) (hf1 : n + 1 ≤ mc) (hf2 : k + 6 ≤ ms) : AW G μ (d + 1) mc ms Q pc L st9 ws n k := by
  intro p e s m args below meth c H locs A ls C hS hP hD hl
  obtain ⟨hx, hb, hr, hml, hown, hts, hlocks, hname, hA, hK, hCl, hF⟩ := id C
  subst hown9
  have hFc := aw_free hD hS hA
  refine aw_run (vx_runSW (hh := hhP) (As := As) (rest := rest) (Ts := gtbl) (nL := μ.2.2.1) ⟨hx, hb, hml, hown, hts⟩ (hM H.size) (vx_cwSW 4 hts (fun w hw => ?_) rfl rfl rfl (by decide +kernel) ⟨Nat.le_refl _, by simp only [xR]; omega⟩) ⟨xP_blind, fun U hU hW => ⟨rfl, by rw [hU], by rw [hU]; exact hP, va_K.moved hW.alike hK, hD.weaken (fun _ _ _ _ => trivial), hCl, hCl A _ s U hW hFc (fun q h1 h2 => by rw [hU]; exact hS.2.1 q h1 h2) hF⟩⟩ rfl hn hl.1 hst.symm (lv_room hcat) hd ⟨hf1, hf2⟩) hS (fun q _ h => hFc q h) hFc ?_
  · have hg : w ∈ gtbl := by
      rcases List.mem_append.mp hw with h | h
      · rcases List.mem_cons.mp h with h | h
        · rw [h]; exact hlk
        · exact lp_st w h
      · rcases List.mem_cons.mp h with h | h
        · rw [h]; exact lp_code
        · exact h
    exact ⟨hg, good_of_word (List.mem_filter.mp hg).2⟩
  · intro v w1 t H1 locs1 ht hvm hQ hP1 hD1 hz hk1 hS1
    exact hk9 v w1 hQ p e s m args below meth c H1 locs1 A ls C hS1 hP1 (hD1.weaken (fun _ q _ h => hFc q.1 h)) hl
end PEC
