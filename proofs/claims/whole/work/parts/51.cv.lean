/-! Calls in the class: the receiver may be read, the callee runs in the caller's world. -/
section ACV
variable {G : xG} {μ μ' : xM} {d mc ms mc' ms' : Nat} {Q : xQ} {pc : Nat} {L : List (Option Value)} {rest : List Value} {ws : va_W} {n k idx np : Nat}
theorem aw_cV {As : List Value} {b ci : Nat} {CR : vw_C} {vv : Nat → Value} {st9 : List Value} {Q9 : xQ} {own : String} (hd : decode μ.2.1 pc = .ok (.invokevirtual idx, 3)) (hown9 : μ.1.cls = own) (ok : xVok own μ' idx np)
    (hn : As.length = np) (hst : As.reverse ++ .ref b :: rest = st9) (hcat : (rest.map fun v => v.category).sum ≤ 8) (hcl : vwCl[ci]? = some CR) (hCR : CR.1 = μ'.1.cls) (hq : OV G ws ci b vv)
    (hM : MT G μ' d mc' ms' (.ref b :: As) ws Q9) (hk9 : ∀ v w, Q9 v w → AW G μ (d + 1) mc ms Q (pc + 3) L (v.toList ++ rest) w (n + mc') (k + ms')) (hf1 : n + mc' ≤ mc) (hf2 : k + ms' ≤ ms) : AW G μ (d + 1) mc ms Q pc L st9 ws n k := by
  intro p e s m args below meth c H locs A ls C hS hP hD hl
  obtain ⟨hx, hb, hr, hml, hown, hts, hlocks, hname, hA, hK, hCl, hF⟩ := id C
  obtain ⟨hcode, hlk, him, hse, hini, hdd, hL9⟩ := ok
  subst hown9
  obtain ⟨fs, hq1, -⟩ := hq
  have hFc := aw_free hD hS hA
  refine aw_run (va_runV (C := μ'.1.cls) (As := As) (rest := rest) (Ts := gtbl) (nL := μ.2.2.1) ⟨hx, hb, hml, hown, hts⟩ (hM H.size) ⟨callB_of np hts (xW_good hcode) rfl rfl rfl (hts _ hini) (hts _ hlk) hdd ⟨Nat.le_refl _, by simp only [xR]; omega⟩, hts _ him, hts _ hse⟩ ⟨xP_blind, by have h8 := va_recv (q0 := 0) hK (rd_at C hS hP hq1) hcl rfl; rw [hCR] at h8; exact h8, fun U hU hW => ⟨rfl, by rw [hU], by rw [hU]; exact hP, va_K.moved hW.alike hK, hD.weaken (fun _ _ _ _ => trivial), hCl, hCl A _ s U hW hFc (fun q h1 h2 => by rw [hU]; exact hS.2.1 q h1 h2) hF⟩⟩ rfl hn hl.1 hst.symm (lv_room hcat) hd ⟨hf1, hf2⟩) hS (fun q _ h => hFc q h) hFc ?_
  intro v w1 t H1 locs1 ht hvm hQ hP1 hD1 hz hk1 hS1
  exact hk9 v w1 hQ p e s m args below meth c H1 locs1 A ls C hS1 hP1 (hD1.weaken (fun _ q _ h => hFc q.1 h)) hl
theorem cVi {As : List Value} {b ci : Nat} {CR : vw_C} {vv : Nat → Value} {st9 : List Value} {own : String} (hd : decode μ.2.1 pc = .ok (.invokevirtual idx, 3)) (hown9 : μ.1.cls = own) (ok : xVok own μ' idx np)
    (hn : As.length = np) (hst : As.reverse ++ .ref b :: rest = st9) (hcat : (rest.map fun v => v.category).sum ≤ 8) (hcl : vwCl[ci]? = some CR) (hCR : CR.1 = μ'.1.cls) (hq : OV G ws ci b vv) (hf1 : n ≤ mc) (hf2 : k ≤ ms)
    (hM : MT G μ' d 0 0 (.ref b :: As) ws (fun v w => ∃ r : Int32, v = some (.int r) ∧ AW G μ (d + 1) mc ms Q (pc + 3) L (.int r :: rest) w n k)) : AW G μ (d + 1) mc ms Q pc L st9 ws n k :=
  aw_cV hd hown9 ok hn hst hcat hcl hCR hq hM (by rintro v w ⟨r, rfl, h⟩; exact h) hf1 hf2
theorem cVv {As : List Value} {b ci : Nat} {CR : vw_C} {vv : Nat → Value} {st9 : List Value} {own : String} (hd : decode μ.2.1 pc = .ok (.invokevirtual idx, 3)) (hown9 : μ.1.cls = own) (ok : xVok own μ' idx np)
    (hn : As.length = np) (hst : As.reverse ++ .ref b :: rest = st9) (hcat : (rest.map fun v => v.category).sum ≤ 8) (hcl : vwCl[ci]? = some CR) (hCR : CR.1 = μ'.1.cls) (hq : OV G ws ci b vv) (hf1 : n ≤ mc) (hf2 : k ≤ ms)
    (hM : MT G μ' d 0 0 (.ref b :: As) ws (fun v w => v = none ∧ AW G μ (d + 1) mc ms Q (pc + 3) L rest w n k)) : AW G μ (d + 1) mc ms Q pc L st9 ws n k :=
  aw_cV hd hown9 ok hn hst hcat hcl hCR hq hM (by rintro v w ⟨rfl, h⟩; exact h) hf1 hf2
theorem cSi {As : List Value} {st9 : List Value} {own : String} (hd : decode μ.2.1 pc = .ok (.invokestatic idx, 3)) (hown9 : μ.1.cls = own) (ok : xSok own μ' idx np)
    (hn : As.length = np) (hst : As.reverse ++ rest = st9) (hcat : (rest.map fun v => v.category).sum ≤ 8) (hf1 : n ≤ mc) (hf2 : k ≤ ms)
    (hM : MT G μ' d 0 0 As ws (fun v w => ∃ r : Int32, v = some (.int r) ∧ AW G μ (d + 1) mc ms Q (pc + 3) L (.int r :: rest) w n k)) : AW G μ (d + 1) mc ms Q pc L st9 ws n k :=
  aw_callS _ hd hown9 ok hn hst hcat hM (by rintro v w ⟨r, rfl, h⟩; exact h) hf1 hf2
theorem cSr {As : List Value} {st9 : List Value} {own : String} (hd : decode μ.2.1 pc = .ok (.invokestatic idx, 3)) (hown9 : μ.1.cls = own) (ok : xSok own μ' idx np)
    (hn : As.length = np) (hst : As.reverse ++ rest = st9) (hcat : (rest.map fun v => v.category).sum ≤ 8) (hf1 : n ≤ mc) (hf2 : k ≤ ms)
    (hM : MT G μ' d 0 0 As ws (fun v w => ∃ r : Option Nat, v = some (va_rf r) ∧ AW G μ (d + 1) mc ms Q (pc + 3) L (va_rf r :: rest) w n k)) : AW G μ (d + 1) mc ms Q pc L st9 ws n k :=
  aw_callS _ hd hown9 ok hn hst hcat hM (by rintro v w ⟨r, rfl, h⟩; exact h) hf1 hf2
/-- what a nest mate's call needs of the table -/
def xNok (μ' : xM) (np : Nat) : Prop := Cond.code μ'.1 μ'.2.1 μ'.2.2.1 μ'.2.2.2 ∈ gtbl ∧ Cond.static μ'.1 ∈ gtbl ∧ Cond.initialized μ'.1.cls ∈ gtbl ∧ (μ'.1.cls ≠ "java/lang/invoke/MethodHandle" ∧ μ'.1.cls ≠ "java/lang/invoke/VarHandle" ∧ (parseMethodDescriptor μ'.1.desc).map (fun d => d.parameters.length) = some np) ∧ μ'.2.2.1 ≤ 21
theorem cNi {As : List Value} {st9 : List Value} {own host : String} (hd : decode μ.2.1 pc = .ok (.invokestatic idx, 3)) (hown9 : μ.1.cls = own) (ok : xNok μ' np) (hnw : ∀ (A : Nat → Prop) (U : State), G.2.2.2 A U → va_Nw (.methodLinkNest own idx μ'.1 host) U)
    (hn : As.length = np) (hst : As.reverse ++ rest = st9) (hcat : (rest.map fun v => v.category).sum ≤ 8) (hf1 : n ≤ mc) (hf2 : k ≤ ms)
    (hM : MT G μ' d 0 0 As ws (fun v w => ∃ r : Int32, v = some (.int r) ∧ AW G μ (d + 1) mc ms Q (pc + 3) L (.int r :: rest) w n k)) : AW G μ (d + 1) mc ms Q pc L st9 ws n k := by
  intro p e s m args below meth c H locs A ls C hS hP hD hl
  obtain ⟨hx, hb, hr, hml, hown, hts, hlocks, hname, hA, hK, hCl, hF⟩ := id C
  obtain ⟨hcode, him, hini, hdd, hL9⟩ := ok
  subst hown9
  have hFc := aw_free hD hS hA
  refine aw_run (va_runSN (host := host) (As := As) (rest := rest) (Ts := gtbl) (nL := μ.2.2.1) ⟨hx, hb, hml, hown, hts⟩ (hM H.size) ⟨va_cnB np hts (xW_good hcode) rfl rfl rfl (hnw A s hF) (hts _ hini) hdd ⟨Nat.le_refl _, by simp only [xR]; omega⟩, hts _ him, trivial⟩ ⟨xP_blind, fun U hU hW => ⟨rfl, by rw [hU], by rw [hU]; exact hP, va_K.moved hW.alike hK, hD.weaken (fun _ _ _ _ => trivial), hCl, hCl A _ s U hW hFc (fun q h1 h2 => by rw [hU]; exact hS.2.1 q h1 h2) hF⟩⟩ rfl hn hl.1 hst.symm (lv_room hcat) hd ⟨hf1, hf2⟩) hS (fun q _ h => hFc q h) hFc ?_
  intro v w1 t H1 locs1 ht hvm hQ hP1 hD1 hz hk1 hS1
  obtain ⟨r, rfl, h9⟩ := hQ
  exact h9 p e s m args below meth c H1 locs1 A ls C hS1 hP1 (hD1.weaken (fun _ q _ h => hFc q.1 h)) hl
/-- one whose name is handed on to the class above -/
theorem cUi {As : List Value} {b : Nat} {st9 : List Value} {own CC owner : String} {x : MethodName} (hd : decode μ.2.1 pc = .ok (.invokevirtual idx, 3)) (hown9 : μ.1.cls = own)
    (hcode : Cond.code μ'.1 μ'.2.1 μ'.2.2.1 μ'.2.2.2 ∈ gtbl) (hu : ∀ w ∈ ([.methodLink own idx x, .sameMethod x.cls owner x.name x.desc, .selects CC x μ'.1, .instanceMethod μ'.1, .initialized μ'.1.cls] : List Cond), w ∈ gtbl)
    (hyx : μ'.1 = ⟨owner, x.name, x.desc⟩) (hdd : owner ≠ "java/lang/invoke/MethodHandle" ∧ owner ≠ "java/lang/invoke/VarHandle" ∧ (parseMethodDescriptor x.desc).map (fun d => d.parameters.length) = some np) (hL9 : μ'.2.2.1 ≤ 21)
    (hn : As.length = np) (hst : As.reverse ++ .ref b :: rest = st9) (hcat : (rest.map fun v => v.category).sum ≤ 8)
    (hrv : ∀ (A : Nat → Prop) (U : State) (H : Heap) (locs : List Loc), G.2.2.2 A U → va_S A U.heap H locs → ∃ cell : Cell, H[b]? = some cell ∧ cell.vm.isStatics = false ∧ U.vm.findClass CC = some cell.cls) (hf1 : n ≤ mc) (hf2 : k ≤ ms)
    (hM : MT G μ' d 0 0 (.ref b :: As) ws (fun v w => ∃ r : Int32, v = some (.int r) ∧ AW G μ (d + 1) mc ms Q (pc + 3) L (.int r :: rest) w n k)) : AW G μ (d + 1) mc ms Q pc L st9 ws n k := by
  intro p e s m args below meth c H locs A ls C hS hP hD hl
  obtain ⟨hx, hb, hr, hml, hown, hts, hlocks, hname, hA, hK, hCl, hF⟩ := id C
  subst hown9
  have hFc := aw_free hD hS hA
  refine aw_run (va_runU (As := As) (rest := rest) (Ts := gtbl) (nL := μ.2.2.1) ⟨hx, hb, hml, hown, hts⟩ (hM H.size) (va_cwU np hts (fun w hw => (List.mem_append.mp hw).elim (fun h => ⟨hu w h, good_of_word (List.mem_filter.mp (hu w h)).2⟩) (xW_good hcode w)) rfl rfl rfl hyx hdd ⟨Nat.le_refl _, by simp only [xR]; omega⟩) ⟨xP_blind, hrv A s H locs hF hS, fun U hU hW => ⟨rfl, by rw [hU], by rw [hU]; exact hP, va_K.moved hW.alike hK, hD.weaken (fun _ _ _ _ => trivial), hCl, hCl A _ s U hW hFc (fun q h1 h2 => by rw [hU]; exact hS.2.1 q h1 h2) hF⟩⟩ rfl hn hl.1 hst.symm (lv_room hcat) hd ⟨hf1, hf2⟩) hS (fun q _ h => hFc q h) hFc ?_
  intro v w1 t H1 locs1 ht hvm hQ hP1 hD1 hz hk1 hS1
  obtain ⟨r, rfl, h9⟩ := hQ
  exact h9 p e s m args below meth c H1 locs1 A ls C hS1 hP1 (hD1.weaken (fun _ q _ h => hFc q.1 h)) hl
end ACV
