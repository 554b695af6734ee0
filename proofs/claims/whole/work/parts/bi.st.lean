def kLn : List Nat := [4, 4, 1]
def kBy : List (List Int32) := [[32, 111, 102, 32], [32, 105, 110, 32], [32]]
def kIx : List Nat := [303, 312, 314]
def kTx : List String := [" of ", " in ", " "]
/-- the strings of the program -/
def KB (aK aV : Nat → Nat) (tf : Option Nat) (G : xG) : Prop := ∀ (A : Nat → Prop) (U : State), G.2.2.2 A U → vk_S 3 kLn kBy aK aV A U U.heap ∧ va_Z "java/lang/String" "COMPACT_STRINGS" "Z" (.int 1) A U U.heap ∧ va_Z "jdk/internal/util/Preconditions" "SIOOBE_FORMATTER" "Ljava/util/function/BiFunction;" (va_rf tf) A U U.heap ∧ ∀ i, i < 3 → vk_R "InchBorders" (kIx.getD i 0) (kTx.getD i "") (aK i) U
theorem va_ldcwT {p : Program} {l : Launch} {e : Env} {R : Room} {s : State} {m : MethodId} {args : Array Value} {below : List Frame} {meth : Method} {c : Code} {T : State} {locs : List Loc} {cells slots : Nat} (X : Stand p l e R s m args below meth c T locs cells slots) (hexec : p.tables.exec = Jvm.exec) {own text : String} {index : Nat} {a : Addr} (hown : s.vm.findClass own = some m.cls)
    (hconst : (Cond.stringRef own index text).before #[] s = true) (hev : (Term.string own index).eval #[] s none [] s = some (.ref a)) {g : JFrame} (hg : g.method = m) (hdg : decode c.code g.pc = .ok (.ldc_w index, 3)) :
    ∀ target, Steps p.tables e below (T.setTop { g with pc := g.pc + 3, stack := .ref a :: g.stack }) target → Steps p.tables e below (T.setTop g) target := by
  obtain ⟨k, cf, i, a', hk, hcf, hcp, -, hr, hev'⟩ := Cond.stringRef_spec hown hconst
  cases hev.symm.trans hev'
  obtain ⟨k', hk', he⟩ := X.warmed.alike.2.2 _ _ hk
  have hr' : k'.resolved[index]? = some (some (.string a)) := by
    rcases X.warmed.entry hk hk' index with h | ⟨h, -⟩
    · rw [h]; exact hr
    · rw [hr] at h; cases h
  intro target hrest
  subst hg
  jvm_step X.here [hexec, hdg, ldc_w.wp_string (e := e) (s := T) (f := g) X.here.top hk' (by rw [he]; exact hcf) hcp hr']
  exact hrest
section KST
variable {G : xG} {μ μ' : xM} {d mc ms : Nat} {Q : xQ} {pc : Nat} {L : List (Option Value)} {st rest : List Value} {ws : va_W} {n k np idx : Nat} {aK aV : Nat → Nat} {tf : Option Nat} {i : Nat}
theorem aw_ldcT {own : String} (hd : decode μ.2.1 pc = .ok (.ldc_w (kIx.getD i 0), 3)) (ho : μ.1.cls = "InchBorders") (hK : KB aK aV tf G) (hi : i < 3) (kk : AW G μ d mc ms Q (pc + 3) L (.ref (aK i) :: st) ws n k) : AW G μ d mc ms Q pc L st ws n k := by
  intro p e s m args below meth c H locs A ls C hS hP hD hl
  have hown := C.2.2.2.2.1
  rw [ho] at hown
  have hZ := (hK A s C.2.2.2.2.2.2.2.2.2.2.2).2.2.2 i hi
  intro T hT X
  obtain ⟨t, a1, b1⟩ := kk p e s m args below meth c H locs A ls C hS hP hD hl T hT X
  exact ⟨t, va_ldcwT X C.1 hown hZ.1 hZ.2 (g := F0 m pc ls st) rfl (by rw [C.2.1]; exact hd) t a1, b1⟩
theorem aw_kval (hd : decode μ.2.1 pc = .ok (.getfield 9, 3)) (ho : μ.1.cls = "java/lang/String") (hK : KB aK aV tf G) (hi : i < 3) (kk : AW G μ d mc ms Q (pc + 3) L (.ref (aV i) :: st) ws n k) : AW G μ d mc ms Q pc L (.ref (aK i) :: st) ws n k := by
  intro p e s m args below meth c H locs A ls C hS hP hD hl
  have hown := C.2.2.2.2.1
  rw [ho] at hown
  exact vk_getf C.1 C.2.1 ((hK A s C.2.2.2.2.2.2.2.2.2.2.2).1.1 i hi).2.2.1 hS hown (C.2.2.2.2.2.1 _ (gtbl_in (List.mem_of_getElem? (i := 2049) (by decide +kernel)) rfl)) (fun _ h9 => h9) hd (kk p e s m args below meth c H locs A ls C hS hP hD hl)
theorem aw_kcod (hd : decode μ.2.1 pc = .ok (.getfield 15, 3)) (ho : μ.1.cls = "java/lang/String") (hK : KB aK aV tf G) (hi : i < 3) (kk : AW G μ d mc ms Q (pc + 3) L (.int 0 :: st) ws n k) : AW G μ d mc ms Q pc L (.ref (aK i) :: st) ws n k := by
  intro p e s m args below meth c H locs A ls C hS hP hD hl
  have hown := C.2.2.2.2.1
  rw [ho] at hown
  exact vk_getf C.1 C.2.1 ((hK A s C.2.2.2.2.2.2.2.2.2.2.2).1.1 i hi).2.1 hS hown (C.2.2.2.2.2.1 _ (gtbl_in (List.mem_of_getElem? (i := 2050) (by decide +kernel)) rfl)) (fun _ h9 => h9) hd (kk p e s m args below meth c H locs A ls C hS hP hD hl)
theorem aw_kcmp (hd : decode μ.2.1 pc = .ok (.getstatic 38, 3)) (ho : μ.1.cls = "java/lang/String") (hK : KB aK aV tf G) (kk : AW G μ d mc ms Q (pc + 3) L (.int 1 :: st) ws n k) : AW G μ d mc ms Q pc L st ws n k := by
  intro p e s m args below meth c H locs A ls C hS hP hD hl
  have hown := C.2.2.2.2.1
  rw [ho] at hown
  exact va_gets C.1 C.2.1 (hK A s C.2.2.2.2.2.2.2.2.2.2.2).2.1 hS hown (C.2.2.2.2.2.1 _ (gtbl_in (List.mem_of_getElem? (i := 1031) (by decide +kernel)) rfl)) (fun _ h9 => h9) hd (kk p e s m args below meth c H locs A ls C hS hP hD hl)
theorem aw_kfmt (hd : decode μ.2.1 pc = .ok (.getstatic 1053, 3)) (ho : μ.1.cls = "java/lang/String") (hK : KB aK aV tf G) (kk : AW G μ d mc ms Q (pc + 3) L (va_rf tf :: st) ws n k) : AW G μ d mc ms Q pc L st ws n k := by
  intro p e s m args below meth c H locs A ls C hS hP hD hl
  have hown := C.2.2.2.2.1
  rw [ho] at hown
  exact va_gets C.1 C.2.1 (hK A s C.2.2.2.2.2.2.2.2.2.2.2).2.2.1 hS hown (C.2.2.2.2.2.1 _ (gtbl_in (List.mem_of_getElem? (i := 1047) (by decide +kernel)) rfl)) (fun _ h9 => h9) hd (kk p e s m args below meth c H locs A ls C hS hP hD hl)
theorem aw_klen (hd : decode μ.2.1 pc = .ok (.arraylength, 1)) (hK : KB aK aV tf G) (hi : i < 3) (kk : AW G μ d mc ms Q (pc + 1) L (.int (nI (kLn.getD i 0)) :: st) ws n k) : AW G μ d mc ms Q pc L (.ref (aV i) :: st) ws n k := by
  intro p e s m args below meth c H locs A ls C hS hP hD hl
  exact va_tlen C.1 C.2.1 ((hK A s C.2.2.2.2.2.2.2.2.2.2.2).1.1 i hi).2.2.2 hS rfl hd (kk p e s m args below meth c H locs A ls C hS hP hD hl)
theorem kLn_le (hi : i < 3) : kLn.getD i 0 ≤ 4 := by rcases (show i = 0 ∨ i = 1 ∨ i = 2 by omega) with rfl | rfl | rfl <;> decide
theorem aw_kb {j : Nat} (hd : decode μ.2.1 pc = .ok (.baload, 1)) (hK : KB aK aV tf G) (hi : i < 3) (hj : j < kLn.getD i 0) (kk : AW G μ d mc ms Q (pc + 1) L (.int ((kBy.getD i []).getD j 0) :: st) ws n k) : AW G μ d mc ms Q pc L (.int (nI j) :: .ref (aV i) :: st) ws n k := by
  intro p e s m args below meth c H locs A ls C hS hP hD hl
  have h4 := kLn_le hi
  exact va_tb C.1 C.2.1 ((hK A s C.2.2.2.2.2.2.2.2.2.2.2).1.1 i hi).2.2.2 hS (vp_in_nI hj (by omega)) (v := .int ((kBy.getD i []).getD j 0)) (by rw [nI_clamp (by omega)]) hd (kk p e s m args below meth c H locs A ls C hS hP hD hl)
/-- a call of a string's method -/
theorem cKi {As : List Value} {st9 : List Value} {own : String} (hd : decode μ.2.1 pc = .ok (.invokevirtual idx, 3)) (hown9 : μ.1.cls = own) (ok : xVok own μ' idx np) (hn : As.length = np) (hst : As.reverse ++ .ref (aK i) :: rest = st9) (hcat : (rest.map fun v => v.category).sum ≤ 8) (hCR : "java/lang/String" = μ'.1.cls) (hKB : KB aK aV tf G) (hi : i < 3) (hf1 : n ≤ mc) (hf2 : k ≤ ms)
    (hM : MT G μ' d 0 0 (.ref (aK i) :: As) ws (fun v w => ∃ r : Int32, v = some (.int r) ∧ AW G μ (d + 1) mc ms Q (pc + 3) L (.int r :: rest) w n k)) : AW G μ (d + 1) mc ms Q pc L st9 ws n k := by
  intro p e s m args below meth c H locs A ls C hS hP hD hl
  obtain ⟨hx, hb, hr, hml, hown, hts, hlocks, hname, hA, hK, hCl, hF⟩ := id C
  obtain ⟨hcode, hlk, him, hse, hini, hdd, hL9⟩ := ok
  subst hown9
  have hFc := aw_free hD hS hA
  refine aw_run (va_runV (C := μ'.1.cls) (As := As) (rest := rest) (Ts := gtbl) (nL := μ.2.2.1) ⟨hx, hb, hml, hown, hts⟩ (hM H.size) ⟨callB_of np hts (xW_good hcode) rfl rfl rfl (hts _ hini) (hts _ hlk) hdd ⟨Nat.le_refl _, by simp only [xR]; omega⟩, hts _ him, hts _ hse⟩ ⟨xP_blind, by have h8 := vk_recv (hKB A s hF).1 hi hS; rw [hCR] at h8; exact h8, fun U hU hW => ⟨rfl, by rw [hU], by rw [hU]; exact hP, va_K.moved hW.alike hK, hD.weaken (fun _ _ _ _ => trivial), hCl, hCl A _ s U hW hFc (fun q h1 h2 => by rw [hU]; exact hS.2.1 q h1 h2) hF⟩⟩ rfl hn hl.1 hst.symm (lv_room hcat) hd ⟨hf1, hf2⟩) hS (fun q _ h => hFc q h) hFc ?_
  intro v w1 t H1 locs1 ht hvm hQ hP1 hD1 hz hk1 hS1
  obtain ⟨r, rfl, h9⟩ := hQ
  exact h9 p e s m args below meth c H1 locs1 A ls C hS1 hP1 (hD1.weaken (fun _ q _ h => hFc q.1 h)) hl
end KST
