/-! counts and truths on the stack -/
/-- a truth as the machine has it -/
def bI (c : Bool) : Int32 := if c = true then 1 else 0
theorem bI_t : bI true = 1 := rfl
theorem bI_f : bI false = 0 := rfl
theorem bI_0 (c : Bool) : bI c = 0 ↔ c = false := by cases c <;> decide
theorem bI_n (c : Bool) : narrow .boolean (.int (bI c)) = .int (bI c) := by cases c <;> decide
theorem bI_fit (c : Bool) : fits .boolean (.int (bI c)) = true := by cases c <;> decide
theorem bI_inj {a b : Bool} : bI a = bI b ↔ a = b := by cases a <;> cases b <;> decide
def upN {α : Type} (f : Nat → α) (k : Nat) (x : α) : Nat → α := fun j => if j = k then x else f j
theorem upN_s {α : Type} (f : Nat → α) (k : Nat) (x : α) : upN f k x k = x := if_pos rfl
theorem upN_n {α : Type} (f : Nat → α) (k j : Nat) (x : α) (h : j ≠ k) : upN f k x j = f j := if_neg h
theorem upN_a {α : Type} (f : Nat → α) (k j : Nat) (x : α) : upN f k x j = if j = k then x else f j := rfl
theorem upd_nI (t : Nat → Nat) (i v : Nat) : upd (fun j => nI (t j)) i (nI v) = fun j => nI (upN t i v j) := by
  funext j
  by_cases h : j = i
  · simp [upd, upN, h]
  · simp [upd, upN, h]
theorem upd_upN (t : Nat → Int32) (i : Nat) (v : Int32) : upd t i v = upN t i v := rfl
section ANR
variable {G : xG} {μ : xM} {d mc ms : Nat} {Q : xQ} {pc : Nat} {L : List (Option Value)} {st : List Value} {ws : va_W} {n k : Nat}
theorem aw_top {x y : Int32} (h : x = y) (kk : AW G μ d mc ms Q pc L (.int y :: st) ws n k) : AW G μ d mc ms Q pc L (.int x :: st) ws n k := by
  rw [h]; exact kk
theorem aw_topJ {x y : Int64} (h : x = y) (kk : AW G μ d mc ms Q pc L (.long y :: st) ws n k) : AW G μ d mc ms Q pc L (.long x :: st) ws n k := by
  rw [h]; exact kk
theorem aw_ws {w9 : va_W} (h : ws = w9) (kk : AW G μ d mc ms Q pc L st w9 n k) : AW G μ d mc ms Q pc L st ws n k := by
  rw [h]; exact kk
theorem aw_L {L9 : List (Option Value)} (h : L = L9) (kk : AW G μ d mc ms Q pc L9 st ws n k) : AW G μ d mc ms Q pc L st ws n k := by
  rw [h]; exact kk
theorem an_add {x y : Nat} (hd : decode μ.2.1 pc = .ok (.iadd, 1)) (kk : AW G μ d mc ms Q (pc + 1) L (.int (nI (x + y)) :: st) ws n k) : AW G μ d mc ms Q pc L (.int (nI y) :: .int (nI x) :: st) ws n k := aw_iadd hd (by rw [nI_add]; exact kk)
theorem an_mul {x y : Nat} (hd : decode μ.2.1 pc = .ok (.imul, 1)) (kk : AW G μ d mc ms Q (pc + 1) L (.int (nI (x * y)) :: st) ws n k) : AW G μ d mc ms Q pc L (.int (nI y) :: .int (nI x) :: st) ws n k := aw_imul hd (by rw [pk_mul]; exact kk)
theorem an_sub {x y : Nat} (hd : decode μ.2.1 pc = .ok (.isub, 1)) (h : y ≤ x) (kk : AW G μ d mc ms Q (pc + 1) L (.int (nI (x - y)) :: st) ws n k) : AW G μ d mc ms Q pc L (.int (nI y) :: .int (nI x) :: st) ws n k := aw_isub hd (by rw [pk_sub h]; exact kk)
theorem an_div {x y : Nat} (hd : decode μ.2.1 pc = .ok (.idiv, 1)) (hx : x < 2 ^ 31) (h0 : 0 < y) (hy : y < 2 ^ 31) (kk : AW G μ d mc ms Q (pc + 1) L (.int (nI (x / y)) :: st) ws n k) : AW G μ d mc ms Q pc L (.int (nI y) :: .int (nI x) :: st) ws n k := aw_idiv hd (nI_ne0 h0 hy) (by rw [pk_div hx h0 hy]; exact kk)
theorem an_rem {x y : Nat} (hd : decode μ.2.1 pc = .ok (.irem, 1)) (hx : x < 2 ^ 31) (h0 : 0 < y) (hy : y < 2 ^ 31) (kk : AW G μ d mc ms Q (pc + 1) L (.int (nI (x % y)) :: st) ws n k) : AW G μ d mc ms Q pc L (.int (nI y) :: .int (nI x) :: st) ws n k := aw_irem hd (nI_ne0 h0 hy) (by rw [pk_rem hx h0 hy]; exact kk)
theorem an_inc {i z x : Nat} (hd : decode μ.2.1 pc = .ok (.iinc i (z : Int), 3)) (hl9 : L[i]? = some (some (.int (nI x)))) (hn : i < μ.2.2.1) (hk : lk1 L i) (kk : AW G μ d mc ms Q (pc + 3) (L.set i (some (.int (nI (x + z))))) st ws n k) : AW G μ d mc ms Q pc L st ws n k := aw_iinc (v := nI z) hd hl9 (by rfl) hn hk (by rw [nI_add]; exact kk)
theorem an_icmp_eq {x y : Nat} {off : Int} {tgt : Nat} (hd : decode μ.2.1 pc = .ok (.if_icmp .eq off, 3)) (ht : (pc : Int) + off = (tgt : Int)) (hx : x < 2 ^ 31) (hy : y < 2 ^ 31) (kt : x = y → AW G μ d mc ms Q tgt L st ws n k) (kf : ¬ x = y → AW G μ d mc ms Q (pc + 3) L st ws n k) : AW G μ d mc ms Q pc L (.int (nI y) :: .int (nI x) :: st) ws n k := aw_icmp_eq hd ht (fun h => kt ((nI_eq hx hy).mp h)) (fun h => kf (fun e => h ((nI_eq hx hy).mpr e)))
theorem an_icmp_ne {x y : Nat} {off : Int} {tgt : Nat} (hd : decode μ.2.1 pc = .ok (.if_icmp .ne off, 3)) (ht : (pc : Int) + off = (tgt : Int)) (hx : x < 2 ^ 31) (hy : y < 2 ^ 31) (kt : ¬ x = y → AW G μ d mc ms Q tgt L st ws n k) (kf : x = y → AW G μ d mc ms Q (pc + 3) L st ws n k) : AW G μ d mc ms Q pc L (.int (nI y) :: .int (nI x) :: st) ws n k := aw_icmp_ne hd ht (fun h => kt (fun e => h ((nI_eq hx hy).mpr e))) (fun h => kf ((nI_eq hx hy).mp h))
theorem an_icmp_lt {x y : Nat} {off : Int} {tgt : Nat} (hd : decode μ.2.1 pc = .ok (.if_icmp .lt off, 3)) (ht : (pc : Int) + off = (tgt : Int)) (hx : x < 2 ^ 31) (hy : y < 2 ^ 31) (kt : x < y → AW G μ d mc ms Q tgt L st ws n k) (kf : y ≤ x → AW G μ d mc ms Q (pc + 3) L st ws n k) : AW G μ d mc ms Q pc L (.int (nI y) :: .int (nI x) :: st) ws n k := aw_icmp_lt hd ht (fun h => kt ((nI_ltI hx hy).mp h)) (fun h => kf (Nat.not_lt.mp fun e => h ((nI_ltI hx hy).mpr e)))
theorem an_icmp_ge {x y : Nat} {off : Int} {tgt : Nat} (hd : decode μ.2.1 pc = .ok (.if_icmp .ge off, 3)) (ht : (pc : Int) + off = (tgt : Int)) (hx : x < 2 ^ 31) (hy : y < 2 ^ 31) (kt : y ≤ x → AW G μ d mc ms Q tgt L st ws n k) (kf : x < y → AW G μ d mc ms Q (pc + 3) L st ws n k) : AW G μ d mc ms Q pc L (.int (nI y) :: .int (nI x) :: st) ws n k := aw_icmp_ge hd ht (fun h => kt ((nI_leI hy hx).mp h)) (fun h => kf (Nat.not_le.mp fun e => h ((nI_leI hy hx).mpr e)))
theorem an_icmp_gt {x y : Nat} {off : Int} {tgt : Nat} (hd : decode μ.2.1 pc = .ok (.if_icmp .gt off, 3)) (ht : (pc : Int) + off = (tgt : Int)) (hx : x < 2 ^ 31) (hy : y < 2 ^ 31) (kt : y < x → AW G μ d mc ms Q tgt L st ws n k) (kf : x ≤ y → AW G μ d mc ms Q (pc + 3) L st ws n k) : AW G μ d mc ms Q pc L (.int (nI y) :: .int (nI x) :: st) ws n k := aw_icmp_gt hd ht (fun h => kt ((nI_ltI hy hx).mp h)) (fun h => kf (Nat.not_lt.mp fun e => h ((nI_ltI hy hx).mpr e)))
theorem an_icmp_le {x y : Nat} {off : Int} {tgt : Nat} (hd : decode μ.2.1 pc = .ok (.if_icmp .le off, 3)) (ht : (pc : Int) + off = (tgt : Int)) (hx : x < 2 ^ 31) (hy : y < 2 ^ 31) (kt : x ≤ y → AW G μ d mc ms Q tgt L st ws n k) (kf : y < x → AW G μ d mc ms Q (pc + 3) L st ws n k) : AW G μ d mc ms Q pc L (.int (nI y) :: .int (nI x) :: st) ws n k := aw_icmp_le hd ht (fun h => kt ((nI_leI hx hy).mp h)) (fun h => kf (Nat.not_le.mp fun e => h ((nI_leI hx hy).mpr e)))
theorem an_if_eq {x : Nat} {off : Int} {tgt : Nat} (hd : decode μ.2.1 pc = .ok (.ifCond .eq off, 3)) (ht : (pc : Int) + off = (tgt : Int)) (hx : x < 2 ^ 31) (kt : x = 0 → AW G μ d mc ms Q tgt L st ws n k) (kf : 0 < x → AW G μ d mc ms Q (pc + 3) L st ws n k) : AW G μ d mc ms Q pc L (.int (nI x) :: st) ws n k := by
  have e1 : nI x = 0 ↔ x = 0 := ⟨fun h => by rcases Nat.eq_zero_or_pos x with q | q; exact q; exact absurd h (nI_ne0 q hx), fun h => by rw [h]; rfl⟩
  have e2 : nI x ≤ 0 ↔ x = 0 := ⟨fun h => by rcases Nat.eq_zero_or_pos x with q | q; exact q; exact absurd h (nI_nle q hx), fun h => by rw [h]; exact nI_le (a := 0) (b := 0) (Nat.le_refl _) (by decide)⟩
  have e3 : (0 : Int32) < nI x ↔ 0 < x := (nI_ltI (a := 0) (by decide) hx)
  refine aw_if_eq hd ht (fun h => kt ?_) (fun h => kf ?_) <;> first | omega | (simp only [e1, e2, e3] at h; omega)
theorem an_if_ne {x : Nat} {off : Int} {tgt : Nat} (hd : decode μ.2.1 pc = .ok (.ifCond .ne off, 3)) (ht : (pc : Int) + off = (tgt : Int)) (hx : x < 2 ^ 31) (kt : 0 < x → AW G μ d mc ms Q tgt L st ws n k) (kf : x = 0 → AW G μ d mc ms Q (pc + 3) L st ws n k) : AW G μ d mc ms Q pc L (.int (nI x) :: st) ws n k := by
  have e1 : nI x = 0 ↔ x = 0 := ⟨fun h => by rcases Nat.eq_zero_or_pos x with q | q; exact q; exact absurd h (nI_ne0 q hx), fun h => by rw [h]; rfl⟩
  have e2 : nI x ≤ 0 ↔ x = 0 := ⟨fun h => by rcases Nat.eq_zero_or_pos x with q | q; exact q; exact absurd h (nI_nle q hx), fun h => by rw [h]; exact nI_le (a := 0) (b := 0) (Nat.le_refl _) (by decide)⟩
  have e3 : (0 : Int32) < nI x ↔ 0 < x := (nI_ltI (a := 0) (by decide) hx)
  refine aw_if_ne hd ht (fun h => kt ?_) (fun h => kf ?_) <;> first | omega | (simp only [e1, e2, e3] at h; omega)
theorem an_if_gt {x : Nat} {off : Int} {tgt : Nat} (hd : decode μ.2.1 pc = .ok (.ifCond .gt off, 3)) (ht : (pc : Int) + off = (tgt : Int)) (hx : x < 2 ^ 31) (kt : 0 < x → AW G μ d mc ms Q tgt L st ws n k) (kf : x = 0 → AW G μ d mc ms Q (pc + 3) L st ws n k) : AW G μ d mc ms Q pc L (.int (nI x) :: st) ws n k := by
  have e1 : nI x = 0 ↔ x = 0 := ⟨fun h => by rcases Nat.eq_zero_or_pos x with q | q; exact q; exact absurd h (nI_ne0 q hx), fun h => by rw [h]; rfl⟩
  have e2 : nI x ≤ 0 ↔ x = 0 := ⟨fun h => by rcases Nat.eq_zero_or_pos x with q | q; exact q; exact absurd h (nI_nle q hx), fun h => by rw [h]; exact nI_le (a := 0) (b := 0) (Nat.le_refl _) (by decide)⟩
  have e3 : (0 : Int32) < nI x ↔ 0 < x := (nI_ltI (a := 0) (by decide) hx)
  refine aw_if_gt hd ht (fun h => kt ?_) (fun h => kf ?_) <;> first | omega | (simp only [e1, e2, e3] at h; omega)
theorem an_if_le {x : Nat} {off : Int} {tgt : Nat} (hd : decode μ.2.1 pc = .ok (.ifCond .le off, 3)) (ht : (pc : Int) + off = (tgt : Int)) (hx : x < 2 ^ 31) (kt : x = 0 → AW G μ d mc ms Q tgt L st ws n k) (kf : 0 < x → AW G μ d mc ms Q (pc + 3) L st ws n k) : AW G μ d mc ms Q pc L (.int (nI x) :: st) ws n k := by
  have e1 : nI x = 0 ↔ x = 0 := ⟨fun h => by rcases Nat.eq_zero_or_pos x with q | q; exact q; exact absurd h (nI_ne0 q hx), fun h => by rw [h]; rfl⟩
  have e2 : nI x ≤ 0 ↔ x = 0 := ⟨fun h => by rcases Nat.eq_zero_or_pos x with q | q; exact q; exact absurd h (nI_nle q hx), fun h => by rw [h]; exact nI_le (a := 0) (b := 0) (Nat.le_refl _) (by decide)⟩
  have e3 : (0 : Int32) < nI x ↔ 0 < x := (nI_ltI (a := 0) (by decide) hx)
  refine aw_if_le hd ht (fun h => kt ?_) (fun h => kf ?_) <;> first | omega | (simp only [e1, e2, e3] at h; omega)
theorem an_if_ge {x : Nat} {off : Int} {tgt : Nat} (hd : decode μ.2.1 pc = .ok (.ifCond .ge off, 3)) (ht : (pc : Int) + off = (tgt : Int)) (hx : x < 2 ^ 31) (kt : AW G μ d mc ms Q tgt L st ws n k) : AW G μ d mc ms Q pc L (.int (nI x) :: st) ws n k := aw_if_ge hd ht (fun _ => kt) (fun h => absurd (nI_pos' hx) h)
theorem an_if_lt {x : Nat} {off : Int} {tgt : Nat} (hd : decode μ.2.1 pc = .ok (.ifCond .lt off, 3)) (ht : (pc : Int) + off = (tgt : Int)) (hx : x < 2 ^ 31) (kf : AW G μ d mc ms Q (pc + 3) L st ws n k) : AW G μ d mc ms Q pc L (.int (nI x) :: st) ws n k := aw_if_lt hd ht (fun h => absurd h (nI_pos hx)) (fun _ => kf)
theorem an_ifm_ge {off : Int} {tgt : Nat} (hd : decode μ.2.1 pc = .ok (.ifCond .ge off, 3)) (ht : (pc : Int) + off = (tgt : Int)) (kf : AW G μ d mc ms Q (pc + 3) L st ws n k) : AW G μ d mc ms Q pc L (.int (-1) :: st) ws n k := aw_if_ge hd ht (fun h => absurd h (by decide)) (fun _ => kf)
theorem an_ifm_lt {off : Int} {tgt : Nat} (hd : decode μ.2.1 pc = .ok (.ifCond .lt off, 3)) (ht : (pc : Int) + off = (tgt : Int)) (kt : AW G μ d mc ms Q tgt L st ws n k) : AW G μ d mc ms Q pc L (.int (-1) :: st) ws n k := aw_if_lt hd ht (fun _ => kt) (fun h => absurd (by decide) h)
theorem ab_if_eq {c : Bool} {off : Int} {tgt : Nat} (hd : decode μ.2.1 pc = .ok (.ifCond .eq off, 3)) (ht : (pc : Int) + off = (tgt : Int)) (kt : c = false → AW G μ d mc ms Q tgt L st ws n k) (kf : c = true → AW G μ d mc ms Q (pc + 3) L st ws n k) : AW G μ d mc ms Q pc L (.int (bI c) :: st) ws n k := aw_if_eq hd ht (fun h => kt ((bI_0 c).mp h)) (fun h => kf (by cases c <;> first | rfl | exact absurd rfl h))
theorem ab_if_ne {c : Bool} {off : Int} {tgt : Nat} (hd : decode μ.2.1 pc = .ok (.ifCond .ne off, 3)) (ht : (pc : Int) + off = (tgt : Int)) (kt : c = true → AW G μ d mc ms Q tgt L st ws n k) (kf : c = false → AW G μ d mc ms Q (pc + 3) L st ws n k) : AW G μ d mc ms Q pc L (.int (bI c) :: st) ws n k := aw_if_ne hd ht (fun h => kt (by cases c <;> first | rfl | exact absurd rfl h)) (fun h => kf ((bI_0 c).mp h))
theorem ab_ret {c : Bool} (hd : decode μ.2.1 pc = .ok (.ireturn, 1)) (hr : μ.2.2.2 = some .boolean) (h1 : n ≤ mc) (h2 : k ≤ ms) (hQ : Q (some (.int (bI c))) ws) : AW G μ d mc ms Q pc L [.int (bI c)] ws n k := aw_zret hd hr (bI_n c) h1 h2 hQ
theorem ab_ret1 (hd : decode μ.2.1 pc = .ok (.ireturn, 1)) (hr : μ.2.2.2 = some .boolean) (h1 : n ≤ mc) (h2 : k ≤ ms) (hQ : Q (some (.int (bI true))) ws) : AW G μ d mc ms Q pc L [.int (nI 1)] ws n k := aw_zret hd hr (bI_n true) h1 h2 hQ
theorem ab_ret0 (hd : decode μ.2.1 pc = .ok (.ireturn, 1)) (hr : μ.2.2.2 = some .boolean) (h1 : n ≤ mc) (h2 : k ≤ ms) (hQ : Q (some (.int (bI false))) ws) : AW G μ d mc ms Q pc L [.int (nI 0)] ws n k := aw_zret hd hr (bI_n false) h1 h2 hQ
end ANR
/-- what a call of μ' from the class own needs of the table -/
def xVok (own : String) (μ' : xM) (idx np : Nat) : Prop := Cond.code μ'.1 μ'.2.1 μ'.2.2.1 μ'.2.2.2 ∈ gtbl ∧ Cond.methodLink own idx μ'.1 ∈ gtbl ∧ Cond.instanceMethod μ'.1 ∈ gtbl ∧ Cond.selects μ'.1.cls μ'.1 μ'.1 ∈ gtbl ∧ Cond.initialized μ'.1.cls ∈ gtbl ∧ (μ'.1.cls ≠ "java/lang/invoke/MethodHandle" ∧ μ'.1.cls ≠ "java/lang/invoke/VarHandle" ∧ (parseMethodDescriptor μ'.1.desc).map (fun d => d.parameters.length) = some np) ∧ μ'.2.2.1 ≤ 21
def xSok (own : String) (μ' : xM) (idx np : Nat) : Prop := Cond.code μ'.1 μ'.2.1 μ'.2.2.1 μ'.2.2.2 ∈ gtbl ∧ Cond.methodLink own idx μ'.1 ∈ gtbl ∧ Cond.static μ'.1 ∈ gtbl ∧ Cond.initialized μ'.1.cls ∈ gtbl ∧ (μ'.1.cls ≠ "java/lang/invoke/MethodHandle" ∧ μ'.1.cls ≠ "java/lang/invoke/VarHandle" ∧ (parseMethodDescriptor μ'.1.desc).map (fun d => d.parameters.length) = some np) ∧ μ'.2.2.1 ≤ 21
section AINV0
variable {G : xG} {μ μ' : xM} {d mc ms : Nat} {Q : xQ} {pc : Nat} {L : List (Option Value)} {rest : List Value} {ws : va_W} {n k idx np : Nat}
theorem aw_free {ws : va_W} {A : Nat → Prop} {s : State} {H : Heap} {locs : List Loc} (hD : va_D A ws) (hS : va_S A s.heap H locs) (hA : ∀ q, s.heap.size ≤ q → A q) : ∀ q, va_A ws H.size q → A q := fun q h => by
  rcases h with ⟨k, e, hk⟩ | h
  · exact hD.2 k _ hk
  · exact hA q (Nat.le_trans hS.1 h)
/-- a call in the same world, nothing made -/
theorem aw_callV {As : List Value} {b q0 ci : Nat} {CR : vw_C} {fs : List Value} {st9 : List Value} {Q9 : xQ} (own : String) (hd : decode μ.2.1 pc = .ok (.invokevirtual idx, 3)) (hown9 : μ.1.cls = own) (ok : xVok own μ' idx np)
    (hn : As.length = np) (hst : As.reverse ++ .ref b :: rest = st9) (hcat : (rest.map fun v => v.category).sum ≤ 8) (hcl : vwCl[ci]? = some CR) (hCR : CR.1 = μ'.1.cls) (hq : ws[q0]? = some (b, .inr (ci, fs)))
    (hM : MT G μ' d 0 0 (.ref b :: As) ws Q9) (hk9 : ∀ v w, Q9 v w → AW G μ (d + 1) mc ms Q (pc + 3) L (v.toList ++ rest) w n k) (hf1 : n ≤ mc) (hf2 : k ≤ ms) : AW G μ (d + 1) mc ms Q pc L st9 ws n k := by
  intro p e s m args below meth c H locs A ls C hS hP hD hl
  obtain ⟨hx, hb, hr, hml, hown, hts, hlocks, hname, hA, hK, hCl, hF⟩ := id C
  obtain ⟨hcode, hlk, him, hse, hini, hdd, hL9⟩ := ok
  subst hown9
  have hFc := aw_free hD hS hA
  refine aw_run (va_runV (C := μ'.1.cls) (As := As) (rest := rest) (Ts := gtbl) (nL := μ.2.2.1) ⟨hx, hb, hml, hown, hts⟩ (hM H.size) ⟨callB_of np hts (xW_good hcode) rfl rfl rfl (hts _ hini) (hts _ hlk) hdd ⟨Nat.le_refl _, by simp only [xR]; omega⟩, hts _ him, hts _ hse⟩ ⟨xP_blind, by have h8 := va_recv hK hP hcl hq; rw [hCR] at h8; exact h8, fun U hU hW => ⟨rfl, by rw [hU], by rw [hU]; exact hP, va_K.moved hW.alike hK, hD.weaken (fun _ _ _ _ => trivial), hCl, hCl A _ s U hW hFc (fun q h1 h2 => by rw [hU]; exact hS.2.1 q h1 h2) hF⟩⟩ rfl hn hl.1 hst.symm (lv_room hcat) hd ⟨hf1, hf2⟩) hS (fun q _ h => hFc q h) hFc ?_
  intro v w1 t H1 locs1 ht hvm hQ hP1 hD1 hz hk1 hS1
  exact hk9 v w1 hQ p e s m args below meth c H1 locs1 A ls C hS1 hP1 (hD1.weaken (fun _ q _ h => hFc q.1 h)) hl
theorem aw_callS {As : List Value} {st9 : List Value} {Q9 : xQ} (own : String) (hd : decode μ.2.1 pc = .ok (.invokestatic idx, 3)) (hown9 : μ.1.cls = own) (ok : xSok own μ' idx np)
    (hn : As.length = np) (hst : As.reverse ++ rest = st9) (hcat : (rest.map fun v => v.category).sum ≤ 8)
    (hM : MT G μ' d 0 0 As ws Q9) (hk9 : ∀ v w, Q9 v w → AW G μ (d + 1) mc ms Q (pc + 3) L (v.toList ++ rest) w n k) (hf1 : n ≤ mc) (hf2 : k ≤ ms) : AW G μ (d + 1) mc ms Q pc L st9 ws n k := by
  intro p e s m args below meth c H locs A ls C hS hP hD hl
  obtain ⟨hx, hb, hr, hml, hown, hts, hlocks, hname, hA, hK, hCl, hF⟩ := id C
  obtain ⟨hcode, hlk, him, hini, hdd, hL9⟩ := ok
  subst hown9
  have hFc := aw_free hD hS hA
  refine aw_run (va_runS (As := As) (rest := rest) (Ts := gtbl) (nL := μ.2.2.1) ⟨hx, hb, hml, hown, hts⟩ (hM H.size) ⟨callB_of np hts (xW_good hcode) rfl rfl rfl (hts _ hini) (hts _ hlk) hdd ⟨Nat.le_refl _, by simp only [xR]; omega⟩, hts _ him⟩ ⟨xP_blind, fun U hU hW => ⟨rfl, by rw [hU], by rw [hU]; exact hP, va_K.moved hW.alike hK, hD.weaken (fun _ _ _ _ => trivial), hCl, hCl A _ s U hW hFc (fun q h1 h2 => by rw [hU]; exact hS.2.1 q h1 h2) hF⟩⟩ rfl hn hl.1 hst.symm (lv_room hcat) hd ⟨hf1, hf2⟩) hS (fun q _ h => hFc q h) hFc ?_
  intro v w1 t H1 locs1 ht hvm hQ hP1 hD1 hz hk1 hS1
  exact hk9 v w1 hQ p e s m args below meth c H1 locs1 A ls C hS1 hP1 (hD1.weaken (fun _ q _ h => hFc q.1 h)) hl
end AINV0
