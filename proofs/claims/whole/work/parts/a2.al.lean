theorem MT_mono {G : xG} {μ : xM} {d mc ms : Nat} {av : List Value} {ws : va_W} {Q Q' : xQ} (h : MT G μ d mc ms av ws Q) (hq : ∀ v w, Q v w → Q' v w) : MT G μ d mc ms av ws Q' := by
  intro sz p e h1 h2 h3 s m args below hf ha hP hk
  obtain ⟨n, o, a1, a2, a3, ⟨⟨v, w, b1, b2, b3⟩, b4⟩, hfr⟩ := h sz p e h1 h2 h3 s m args below hf ha hP hk
  exact ⟨n, o, a1, a2, a3, ⟨⟨v, w, b1, hq v w b2, b3⟩, b4⟩, hfr⟩
theorem nd_of : ∀ l : List Nat, l.Nodup → va_nd l = true := by
  intro l
  induction l with
  | nil => intro _; rfl
  | cons a l ih =>
    intro h
    rw [List.nodup_cons] at h
    rw [va_nd, decide_eq_true h.1, ih h.2]; rfl
theorem nd_range (n : Nat) : va_nd (List.range n) = true := nd_of _ List.nodup_range
theorem nd_range' (a n : Nat) : va_nd (List.range' a n) = true := nd_of _ List.nodup_range'

theorem RA_u {U : State} {c : ClassId} {ty : FieldType} (h : va_RA U c ty) : U.vm.findClass ("[" ++ ty.toString) = some c := by
  cases ty with
  | object C => exact h.choose_spec.choose_spec.2.2.2
  | _ => exact h
theorem K_u {D : va_G} {tys : List (ClassId × FieldType)} {U : State} {c c' : ClassId} {ty : FieldType} {j : Nat} (h : va_K D vwCl (tys ++ [(c, ty)]) U) (hj : tys[j]? = some (c', ty)) : c = c' := by
  have h1 := RA_u (h.2 tys.length (c, ty) (by simp)).2
  have hlt : j < tys.length := (List.getElem?_eq_some_iff.mp hj).1
  have h2 := RA_u (h.2 j (c', ty) (by rw [List.getElem?_append_left hlt]; exact hj)).2
  rw [h1] at h2
  exact Option.some.inj h2
/-- arrays of states and of words can be made -/
def AO (G : xG) : Prop := ∀ (A : Nat → Prop) (U : State), G.2.2.2 A U → va_AO "InchBorders$State" U ∧ va_AO "InchBorders$Word" U
section ALR
variable {G : xG} {μ : xM} {d mc ms : Nat} {Q : xQ} {pc : Nat} {L : List (Option Value)} {st : List Value} {ws : va_W} {n k : Nat}
theorem aw_newP {at9 : ArrayType} {ty : FieldType} {j N : Nat} {a0 : vp_A} (hd : decode μ.2.1 pc = .ok (.newarray at9, 2)) (hty : newarray.typeOf at9 = ty) (harr : Cond.arrayClass ty ∈ gtbl) (hxT : (xT G.2.2.1)[j]? = some (G.2.2.1 j, ty)) (ha : ∀ cA : ClassId, vp_cell cA a0 = arrV cA N (fun _ => defaultValue ty)) (hN : N < 2 ^ 16) (hbt : componentBytes ty ≤ 8) (hc : n + 1 ≤ mc) (hs : k + N ≤ ms)
    (kk : ∀ q, AW G μ d mc ms Q (pc + 2) L (.ref q :: st) ((q, .inl (G.2.2.1 j, a0)) :: ws) (n + 1) (k + N)) : AW G μ d mc ms Q pc L (.int (nI N) :: st) ws n k := by
  intro p e s m args below meth c H locs A ls C hS hP hD hl
  obtain ⟨hx, hb, hr, hml, hown, hts, hlocks, hname, hA, hK, hCl, hF⟩ := id C
  refine va_newa hx hb (by rw [hty]; exact hts _ harr) hty hK hP hD hS hA ha (nI_pos (by omega)) (nI_clamp (by omega)) (by have := Nat.mul_le_mul_left N hbt; omega) hc hs hd ?_
  intro q cA H1 hK1 hP1 hD1 hS1
  have := K_u hK1 hxT
  subst this
  exact aw_perm (List.perm_append_singleton _ _).symm.symm (kk q) p e s m args below meth c H1 locs A ls C hS1 hP1 hD1 hl
theorem aw_newI {N : Nat} (hd : decode μ.2.1 pc = .ok (.newarray .int, 2)) (hN : N < 2 ^ 16) (hc : n + 1 ≤ mc) (hs : k + N ≤ ms) (kk : ∀ q, AW G μ d mc ms Q (pc + 2) L (.ref q :: st) ((q, .inl (G.2.2.1 1, N, .inl (fun _ => 0))) :: ws) (n + 1) (k + N)) : AW G μ d mc ms Q pc L (.int (nI N) :: st) ws n k :=
  aw_newP hd rfl (gtbl_in (List.mem_of_getElem? (i := 198) (by decide +kernel)) rfl) rfl (fun _ => rfl) hN (by decide) hc hs kk
theorem aw_newB {N : Nat} (hd : decode μ.2.1 pc = .ok (.newarray .byte, 2)) (hN : N < 2 ^ 16) (hc : n + 1 ≤ mc) (hs : k + N ≤ ms) (kk : ∀ q, AW G μ d mc ms Q (pc + 2) L (.ref q :: st) ((q, .inl (G.2.2.1 0, N, .inl (fun _ => 0))) :: ws) (n + 1) (k + N)) : AW G μ d mc ms Q pc L (.int (nI N) :: st) ws n k :=
  aw_newP hd rfl (gtbl_in (List.mem_of_getElem? (i := 197) (by decide +kernel)) rfl) rfl (fun _ => rfl) hN (by decide) hc hs kk
theorem aw_newJ {N : Nat} (hd : decode μ.2.1 pc = .ok (.newarray .long, 2)) (hN : N < 2 ^ 16) (hc : n + 1 ≤ mc) (hs : k + N ≤ ms) (kk : ∀ q, AW G μ d mc ms Q (pc + 2) L (.ref q :: st) ((q, .inl (G.2.2.1 2, N, .inr (.inl (fun _ => 0)))) :: ws) (n + 1) (k + N)) : AW G μ d mc ms Q pc L (.int (nI N) :: st) ws n k :=
  aw_newP hd rfl (gtbl_in (List.mem_of_getElem? (i := 199) (by decide +kernel)) rfl) rfl (fun _ => rfl) hN (by decide) hc hs kk
theorem aw_newZ {N : Nat} (hd : decode μ.2.1 pc = .ok (.newarray .boolean, 2)) (hN : N < 2 ^ 16) (hc : n + 1 ≤ mc) (hs : k + N ≤ ms) (kk : ∀ q, AW G μ d mc ms Q (pc + 2) L (.ref q :: st) ((q, .inl (G.2.2.1 3, N, .inl (fun _ => 0))) :: ws) (n + 1) (k + N)) : AW G μ d mc ms Q pc L (.int (nI N) :: st) ws n k :=
  aw_newP hd rfl (gtbl_in (List.mem_of_getElem? (i := 1590) (by decide +kernel)) rfl) rfl (fun _ => rfl) hN (by decide) hc hs kk
theorem aw_newQ {j N idx : Nat} {CN own : String} (hd : decode μ.2.1 pc = .ok (.anewarray idx, 3)) (ho : μ.1.cls = own) (hlk : Cond.classLink own idx CN ∈ gtbl) (hov : ∀ (A : Nat → Prop) (U : State), G.2.2.2 A U → va_AO CN U) (hxT : (xT G.2.2.1)[j]? = some (G.2.2.1 j, .object CN)) (hN : N < 2 ^ 16) (hc : n + 1 ≤ mc) (hs : k + N ≤ ms)
    (kk : ∀ q, AW G μ d mc ms Q (pc + 3) L (.ref q :: st) ((q, .inl (G.2.2.1 j, N, .inr (.inr (.inr (.inr (fun _ => none)))))) :: ws) (n + 1) (k + N)) : AW G μ d mc ms Q pc L (.int (nI N) :: st) ws n k := by
  intro p e s m args below meth c H locs A ls C hS hP hD hl
  obtain ⟨hx, hb, hr, hml, hown, hts, hlocks, hname, hA, hK, hCl, hF⟩ := id C
  subst ho
  refine va_newq hx hb hown (hts _ hlk) (hov A s hF) hK hP hD hS hA (nI_pos (by omega)) (nI_clamp (by omega)) (by omega) hc hs hd ?_
  intro q cA H1 hK1 hP1 hD1 hS1
  have := K_u hK1 hxT
  subst this
  exact aw_perm (List.perm_append_singleton _ _) (kk q) p e s m args below meth c H1 locs A ls C hS1 hP1 hD1 hl
theorem aw_new {own CN : String} {T : u_T} {N ci idx : Nat} {ty : Nat → FieldType} {fs : List Value} (hd : decode μ.2.1 pc = .ok (.new idx, 3)) (ho : μ.1.cls = own) (hlk : Cond.classLink own idx CN ∈ gtbl) (hinst : Cond.instantiable CN N ∈ gtbl) (hini : Cond.initialized CN ∈ gtbl) (hin : ∀ w ∈ u_ws CN T N, w ∈ gtbl) (hty : ∀ k, k < N → parseFieldDescriptor (T k).2.2.1 = some (ty k)) (hcl : vwCl[ci]? = some (CN, T, N)) (hfs : ∀ j, j < N → defaultValue (ty j) = vp_V fs j) (hc : n + 1 ≤ mc) (hs : k + N ≤ ms)
    (kk : ∀ q, AW G μ d mc ms Q (pc + 3) L (.ref q :: st) ((q, .inr (ci, fs)) :: ws) (n + 1) (k + N)) : AW G μ d mc ms Q pc L st ws n k := by
  intro p e s m args below meth c H locs A ls C hS hP hD hl
  obtain ⟨hx, hb, hr, hml, hown, hts, hlocks, hname, hA, hK, hCl, hF⟩ := id C
  subst ho
  refine va_new hx hb hts hin ty hty hown (hts _ hlk) (hts _ hinst) (hts _ hini) hK hP hD hS hA hcl hfs hc hs hd ?_
  intro q H1 hP1 hD1 hS1
  exact aw_perm (List.perm_append_singleton _ _) (kk q) p e s m args below meth c H1 locs A ls C hS1 hP1 hD1 hl
theorem aw_obj0 {own : String} {idx a : Nat} (hd : decode μ.2.1 pc = .ok (.invokespecial idx, 3)) (ho : μ.1.cls = own) (hlk : Cond.methodLink own idx Lib.objectInit ∈ gtbl) (hi : Cond.instanceMethod Lib.objectInit ∈ gtbl) (hcode : Cond.code Lib.objectInit ⟨#[0xb1]⟩ 1 none ∈ gtbl) (hcat : (st.map fun v => v.category).sum ≤ 8) (kk : AW G μ (d + 1) mc ms Q (pc + 3) L st ws n k) : AW G μ (d + 1) mc ms Q pc L (.ref a :: st) ws n k := by
  intro p e s m args below meth c H locs A ls C hS hP hD hl
  obtain ⟨hx, hb, hr, hml, hown, hts, hlocks, hname, hA, hK, hCl, hF⟩ := id C
  subst ho
  exact W.objInit hx hb hown (hts _ hlk) (hts _ hi) (hts _ hcode) rfl (by rw [hml]; exact hl.1) rfl hd (by simp only [xR]; omega) (by have h9 : 2 * (F0 m pc ls (.ref a :: st)).monitorRoom + (st.map fun v => v.category).sum ≤ 8 := lv_room hcat; show _ + 12 ≤ 40 * (d + 1); omega) (kk p e s m args below meth c H locs A ls C hS hP hD hl)
/-- what a making call needs of the table -/
def xIok (own : String) (μ' : xM) (idx np : Nat) : Prop := Cond.code μ'.1 μ'.2.1 μ'.2.2.1 μ'.2.2.2 ∈ gtbl ∧ Cond.methodLink own idx μ'.1 ∈ gtbl ∧ Cond.instanceMethod μ'.1 ∈ gtbl ∧ Cond.initialized μ'.1.cls ∈ gtbl ∧ (μ'.1.cls ≠ "java/lang/invoke/MethodHandle" ∧ μ'.1.cls ≠ "java/lang/invoke/VarHandle" ∧ (parseMethodDescriptor μ'.1.desc).map (fun d => d.parameters.length) = some np) ∧ μ'.2.2.1 ≤ 21 ∧ μ'.1.name = "<init>" ∧ μ'.2.2.2 = none
theorem aw_cI {μ' : xM} {idx np mc' ms' : Nat} {As : List Value} {b : Nat} {st9 rest : List Value} {own : String} (hd : decode μ.2.1 pc = .ok (.invokespecial idx, 3)) (hown9 : μ.1.cls = own) (ok : xIok own μ' idx np)
    (hn : As.length = np) (hst : As.reverse ++ .ref b :: rest = st9) (hcat : (rest.map fun v => v.category).sum ≤ 8)
    (hf1 : n + mc' ≤ mc) (hf2 : k + ms' ≤ ms) (hM : MT G μ' d mc' ms' (.ref b :: As) ws (fun v w => v = none ∧ AW G μ (d + 1) mc ms Q (pc + 3) L rest w (n + mc') (k + ms'))) : AW G μ (d + 1) mc ms Q pc L st9 ws n k := by
  intro p e s m args below meth c H locs A ls C hS hP hD hl
  obtain ⟨hx, hb, hr, hml, hown, hts, hlocks, hname, hA, hK, hCl, hF⟩ := id C
  obtain ⟨hcode, hlk, him, hini, hdd, hL9, hnm, hret⟩ := ok
  subst hown9
  have hFc := aw_free hD hS hA
  have hM2 := hM H.size
  unfold xW at hM2
  rw [hret] at hM2 hcode
  have hgd : GoodIn gtbl (Cond.code μ'.1 μ'.2.1 μ'.2.2.1 none :: gtbl) := fun w hw => by
    have hm9 : w ∈ gtbl := by
      rcases List.mem_cons.mp hw with h1 | h1
      · rw [h1]; exact hcode
      · exact h1
    exact ⟨hm9, good_of_word (List.mem_filter.mp hm9).2⟩
  refine aw_run (va_runI (As := As) (rest := rest) (Ts := gtbl) (nL := μ.2.2.1) ⟨hx, hb, hml, hown, hts⟩ hM2 (cwI np hts hgd rfl rfl rfl (hts _ hini) (hts _ hlk) (hts _ him) hnm hdd ⟨Nat.le_refl _, by simp only [xR]; omega⟩) ⟨xP_blind, fun U hU hW => ⟨rfl, by rw [hU], by rw [hU]; exact hP, va_K.moved hW.alike hK, hD.weaken (fun _ _ _ _ => trivial), hCl, hCl A _ s U hW hFc (fun q h1 h2 => by rw [hU]; exact hS.2.1 q h1 h2) hF⟩⟩ rfl hn hl.1 hst.symm (lv_room hcat) hd ⟨hf1, hf2⟩) hS (fun q _ h => hFc q h) hFc ?_
  intro v w1 t H1 locs1 ht hvm hQ hP1 hD1 hz hk1 hS1
  obtain ⟨rfl, h9⟩ := hQ
  exact h9 p e s m args below meth c H1 locs1 A ls C hS1 hP1 (hD1.weaken (fun _ q _ h => hFc q.1 h)) hl
/-- the same of a nest mate -/
def xINok (μ' : xM) (np : Nat) : Prop := Cond.code μ'.1 μ'.2.1 μ'.2.2.1 μ'.2.2.2 ∈ gtbl ∧ Cond.instanceMethod μ'.1 ∈ gtbl ∧ Cond.initialized μ'.1.cls ∈ gtbl ∧ (μ'.1.cls ≠ "java/lang/invoke/MethodHandle" ∧ μ'.1.cls ≠ "java/lang/invoke/VarHandle" ∧ (parseMethodDescriptor μ'.1.desc).map (fun d => d.parameters.length) = some np) ∧ μ'.2.2.1 ≤ 21 ∧ μ'.1.name = "<init>" ∧ μ'.2.2.2 = none
theorem aw_cIN {μ' : xM} {idx np mc' ms' : Nat} {As : List Value} {b : Nat} {st9 rest : List Value} {own host : String} (hd : decode μ.2.1 pc = .ok (.invokespecial idx, 3)) (hown9 : μ.1.cls = own) (ok : xINok μ' np) (hnw : ∀ (A : Nat → Prop) (U : State), G.2.2.2 A U → va_Nw (.methodLinkNest own idx μ'.1 host) U)
    (hn : As.length = np) (hst : As.reverse ++ .ref b :: rest = st9) (hcat : (rest.map fun v => v.category).sum ≤ 8)
    (hf1 : n + mc' ≤ mc) (hf2 : k + ms' ≤ ms) (hM : MT G μ' d mc' ms' (.ref b :: As) ws (fun v w => v = none ∧ AW G μ (d + 1) mc ms Q (pc + 3) L rest w (n + mc') (k + ms'))) : AW G μ (d + 1) mc ms Q pc L st9 ws n k := by
  intro p e s m args below meth c H locs A ls C hS hP hD hl
  obtain ⟨hx, hb, hr, hml, hown, hts, hlocks, hname, hA, hK, hCl, hF⟩ := id C
  obtain ⟨hcode, him, hini, hdd, hL9, hnm, hret⟩ := ok
  subst hown9
  have hFc := aw_free hD hS hA
  have hM2 := hM H.size
  unfold xW at hM2
  rw [hret] at hM2 hcode
  have hgd : GoodIn gtbl (Cond.code μ'.1 μ'.2.1 μ'.2.2.1 none :: gtbl) := fun w hw => by
    have hm9 : w ∈ gtbl := by
      rcases List.mem_cons.mp hw with h1 | h1
      · rw [h1]; exact hcode
      · exact h1
    exact ⟨hm9, good_of_word (List.mem_filter.mp hm9).2⟩
  refine aw_run (va_runIN (host := host) (As := As) (rest := rest) (Ts := gtbl) (nL := μ.2.2.1) ⟨hx, hb, hml, hown, hts⟩ hM2 ⟨va_cnB np hts hgd rfl rfl rfl (hnw A s hF) (hts _ hini) hdd ⟨Nat.le_refl _, by simp only [xR]; omega⟩, hnm, hts _ him⟩ ⟨xP_blind, fun U hU hW => ⟨rfl, by rw [hU], by rw [hU]; exact hP, va_K.moved hW.alike hK, hD.weaken (fun _ _ _ _ => trivial), hCl, hCl A _ s U hW hFc (fun q h1 h2 => by rw [hU]; exact hS.2.1 q h1 h2) hF⟩⟩ rfl hn hl.1 hst.symm (lv_room hcat) hd ⟨hf1, hf2⟩) hS (fun q _ h => hFc q h) hFc ?_
  intro v w1 t H1 locs1 ht hvm hQ hP1 hD1 hz hk1 hS1
  obtain ⟨rfl, h9⟩ := hQ
  exact h9 p e s m args below meth c H1 locs1 A ls C hS1 hP1 (hD1.weaken (fun _ q _ h => hFc q.1 h)) hl
end ALR
section FRM
variable {G : xG} {μ μ' : xM} {d mc ms mc' ms' : Nat} {Q : xQ} {pc : Nat} {L : List (Option Value)} {rest : List Value} {wc wr : va_W} {n k idx np : Nat}
/-- a call beside what it doesn't see -/
theorem aw_fV {As : List Value} {b q0 ci : Nat} {CR : vw_C} {fs : List Value} {st9 : List Value} {own : String} (hd : decode μ.2.1 pc = .ok (.invokevirtual idx, 3)) (hown9 : μ.1.cls = own) (ok : xVok own μ' idx np)
    (hn : As.length = np) (hst : As.reverse ++ .ref b :: rest = st9) (hcat : (rest.map fun v => v.category).sum ≤ 8) (hcl : vwCl[ci]? = some CR) (hCR : CR.1 = μ'.1.cls) (hq : wc[q0]? = some (b, .inr (ci, fs))) (hf1 : n + mc' ≤ mc) (hf2 : k + ms' ≤ ms)
    (hM : MT G μ' d mc' ms' (.ref b :: As) wc (fun v w => AW G μ (d + 1) mc ms Q (pc + 3) L (v.toList ++ rest) (w ++ wr) (n + mc') (k + ms'))) : AW G μ (d + 1) mc ms Q pc L st9 (wc ++ wr) n k := by
  obtain ⟨hcode, hlk, him, hse, hini, hdd, hL9⟩ := ok
  subst hown9
  refine aw_invV (wc := wc) (wr := wr) (List.range wc.length) (List.range' wc.length wr.length) hd hcode hlk him hse hini hdd hL9 hn hst hcat hcl hCR hq ?_ ?_ ?_ ?_ ?_ hf1 hf2 (fun sz => ?_)
  · apply List.ext_getElem?
    intro i
    simp only [List.getElem?_map]
    by_cases h : i < wc.length
    · rw [List.getElem?_range h]; simp [List.getElem?_append_left h, List.getElem?_eq_getElem h]
    · rw [List.getElem?_eq_none (by simp; omega), List.getElem?_eq_none (by omega)]; rfl
  · exact nd_range _
  · apply List.ext_getElem?
    intro i
    simp only [List.getElem?_map]
    by_cases h : i < wr.length
    · rw [List.getElem?_range' h]; simp [List.getElem?_append_right, List.getElem?_eq_getElem h]
    · rw [List.getElem?_eq_none (by simp; omega), List.getElem?_eq_none (by omega)]; rfl
  · exact nd_range' _ _
  · intro i hi hi2
    have := List.mem_range'_1.mp hi
    have := List.mem_range.mp hi2
    omega
  · refine MT_mono hM (fun v w h => ?_) sz
    exact aw_perm List.perm_append_comm h
end FRM
