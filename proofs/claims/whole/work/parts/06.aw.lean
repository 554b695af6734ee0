/-! THE WALK. AW: the machine, in method μ at pc with locals L, operand stack st and the cells ws, comes to μ's end with Q (answer) (cells behind). MT: a method's contract, said of any Q. -/
/-- the words that every state behind keeps -/
def gtbl : List Cond := lw_tbl.filter goodWord
theorem gtbl_in {w : Cond} (h : w ∈ lw_tbl) (hg : goodWord w = true) : w ∈ gtbl := List.mem_filter.mpr ⟨h, hg⟩
/-- what holds of cells that nobody writes -/
abbrev xFt : Type := (Nat → Prop) → State → Prop
def xCl (F : xFt) : Prop := ∀ (A A' : Nat → Prop) (U U' : State), U.WarmedH U'.vm → (∀ q, A' q → A q) → (∀ q : Nat, q < U.heap.size → ¬ A q → U'.heap[q]? = U.heap[q]?) → F A U → F A' U'
abbrev xG : Type := Launch × va_G × (Nat → ClassId) × xFt
/-- array classes: 0 byte, 1 int, 2 long, 3 boolean, 4 State[], 5 Word[] -/
def xT (g : Nat → ClassId) : List (ClassId × FieldType) := [(g 0, .byte), (g 1, .int), (g 2, .long), (g 3, .boolean), (g 4, .object "InchBorders$State"), (g 5, .object "InchBorders$Word")]
/-- a method: its name, bytes, locals, return type -/
abbrev xM : Type := MethodName × ByteArray × Nat × Option FieldType
abbrev xQ : Type := Option Value → va_W → Prop
def xR (d mc ms : Nat) : Room := { frames := d, cells := mc, slots := ms, locals := 40 * d }
def aQ (G : xG) (Q : xQ) (A : Nat → Prop) : Array Value → State → Outcome → State → Prop := fun _ st oc t => (∃ (v : Option Value) (w : va_W), oc = .returned v ∧ Q v w ∧ va_P G.2.1 vwCl w t.heap ∧ va_K G.2.1 vwCl (xT G.2.2.1) t ∧ va_D A w) ∧ va_F A st t
def xP (G : xG) (av : List Value) (ws : va_W) (sz : Nat) : Array Value → State → Prop := va_Pc av (fun U => U.heap.size = sz ∧ va_P G.2.1 vwCl ws U.heap ∧ va_K G.2.1 vwCl (xT G.2.2.1) U ∧ va_D (fun _ => True) ws ∧ xCl G.2.2.2 ∧ G.2.2.2 (va_A ws sz) U)
def xW (μ : xM) : List Cond := Cond.code μ.1 μ.2.1 μ.2.2.1 μ.2.2.2 :: gtbl
def MT (G : xG) (μ : xM) (d mc ms : Nat) (av : List Value) (ws : va_W) (Q : xQ) : Prop := ∀ sz : Nat, Met G.1 μ.1 (xW μ) (xR d mc ms) (xP G av ws sz) (aQ G Q (va_A ws sz)) mc ms (va_A ws sz)
/-- what stands fast in a method's body -/
def xC (G : xG) (μ : xM) (p : Program) (s : State) (m : MethodId) (args : Array Value) (meth : Method) (c : Code) (A : Nat → Prop) : Prop :=
  p.tables.exec = Jvm.exec ∧ c.code = μ.2.1 ∧ meth.sig.returnType = μ.2.2.2 ∧ c.maxLocals = μ.2.2.1 ∧ s.vm.findClass μ.1.cls = some m.cls ∧ (∀ w ∈ gtbl, w.before args s = true) ∧ meth.locks = false ∧ meth.name = μ.1.name ∧ (∀ q, s.heap.size ≤ q → A q) ∧ va_K G.2.1 vwCl (xT G.2.2.1) s ∧ xCl G.2.2.2 ∧ G.2.2.2 A s
/-- locals by their places -/
def lh (ls : Array Slot) (nL : Nat) (L : List (Option Value)) : Prop := ls.size = nL ∧ lv_wf ls ∧ ∀ (i : Nat) (v : Value), L[i]? = some (some v) → ls[i]? = some (.val v)
def AW (G : xG) (μ : xM) (d mc ms : Nat) (Q : xQ) (pc : Nat) (L : List (Option Value)) (st : List Value) (ws : va_W) (n k : Nat) : Prop :=
  ∀ (p : Program) (e : Env) (s : State) (m : MethodId) (args : Array Value) (below : List Frame) (meth : Method) (c : Code) (H : Heap) (locs : List Loc) (A : Nat → Prop) (ls : Array Slot),
    xC G μ p s m args meth c A → va_S A s.heap H locs → va_P G.2.1 vwCl ws H → va_D A ws → lh ls μ.2.2.1 L →
    W p G.1 e (xR d mc ms) s m args below meth c H locs n k (MQ below (aQ G Q A) args s mc ms A) (F0 m pc ls st)
theorem xW_good {μ : xM} (h : Cond.code μ.1 μ.2.1 μ.2.2.1 μ.2.2.2 ∈ gtbl) : GoodIn gtbl (xW μ) := fun w hw => by
  have hm : w ∈ gtbl := by
    rcases List.mem_cons.mp hw with h1 | h1
    · rw [h1]; exact h
    · exact h1
  exact ⟨hm, good_of_word (List.mem_filter.mp hm).2⟩
-- locals
def lps : Nat → List (Option Value) → List (Nat × Value)
  | _, [] => []
  | i, none :: t => lps (i + 1) t
  | i, some v :: t => (i, v) :: lps (i + 1) t
theorem lps_mem : ∀ (L : List (Option Value)) (b i : Nat) (v : Value), L[i]? = some (some v) → (b + i, v) ∈ lps b L := by
  intro L
  induction L with
  | nil => intro b i v h; simp at h
  | cons x t ih =>
    intro b i v h
    cases i with
    | zero =>
      simp at h
      subst h
      exact List.mem_cons_self
    | succ i =>
      have h2 := ih (b + 1) i v (by simpa using h)
      rw [show b + 1 + i = b + (i + 1) by omega] at h2
      cases x with
      | none => exact h2
      | some u => exact List.mem_cons_of_mem _ h2
theorem lps_sub : ∀ (L : List (Option Value)) (b : Nat) (q : Nat × Value), q ∈ lps b L → b ≤ q.1 ∧ L[q.1 - b]? = some (some q.2) := by
  intro L
  induction L with
  | nil => intro b q h; exact absurd h List.not_mem_nil
  | cons x t ih =>
    intro b q h
    cases x with
    | none =>
      obtain ⟨h1, h2⟩ := ih (b + 1) q h
      exact ⟨by omega, by rw [show q.1 - b = (q.1 - (b + 1)) + 1 by omega]; simpa using h2⟩
    | some u =>
      rcases List.mem_cons.mp h with h0 | h0
      · subst h0; exact ⟨Nat.le_refl _, by simp⟩
      · obtain ⟨h1, h2⟩ := ih (b + 1) q h0
        exact ⟨by omega, by rw [show q.1 - b = (q.1 - (b + 1)) + 1 by omega]; simpa using h2⟩
theorem lh_has {ls : Array Slot} {nL : Nat} {L : List (Option Value)} (h : lh ls nL L) : lv_has ls nL (lps 0 L) := ⟨h.1, h.2.1, fun q hq => by
  obtain ⟨_, h2⟩ := lps_sub L 0 q hq
  exact h.2.2 _ _ (by simpa using h2)⟩
theorem lh_of {ls : Array Slot} {nL : Nat} {L : List (Option Value)} {l : List (Nat × Value)} (h : lv_has ls nL l) (hl : lps 0 L = l) : lh ls nL L := ⟨h.1, h.2.1, fun i v hi => by
  have h1 := lps_mem L 0 i v hi
  rw [hl, Nat.zero_add] at h1
  exact h.2.2 _ h1⟩
/-- the place ahead of i holds no first half -/
def lk1 (L : List (Option Value)) (i : Nat) : Prop := match L[i - 1]? with
  | some (some v) => v.category = 1
  | _ => True
theorem lk1_sp {L : List (Option Value)} {i j : Nat} {v : Value} (h : lk1 L i) (hj : j + 1 = i) (hv : L[j]? = some (some v)) : v.category = 1 := by
  subst hj
  unfold lk1 at h
  rw [Nat.add_sub_cancel, hv] at h
  exact h
theorem lh_set1 {nL : Nat} {L : List (Option Value)} {i : Nat} {v : Value} {ls' : Array Slot} (h' : lv_has ls' nL ((i, v) :: (lps 0 L).filter (fun q => !(q.1 == i) && !(q.1 + 1 == i && q.2.category == 2)))) (hk : lk1 L i) : lh ls' nL (L.set i (some v)) := ⟨h'.1, h'.2.1, fun j w hj => by
  by_cases hi : j = i
  · subst hi
    have : v = w := by
      rw [List.getElem?_set] at hj
      by_cases hlt : j < L.length
      · simp [hlt] at hj; exact hj
      · simp [hlt] at hj
    subst this
    exact h'.2.2 (j, v) List.mem_cons_self
  · have hj2 : L[j]? = some (some w) := by rw [List.getElem?_set_ne (fun q => hi q.symm)] at hj; exact hj
    have hm := lps_mem L 0 j w hj2
    rw [Nat.zero_add] at hm
    refine h'.2.2 (j, w) (List.mem_cons_of_mem _ (List.mem_filter.mpr ⟨hm, ?_⟩))
    by_cases hc : j + 1 = i
    · have := lk1_sp hk hc hj2
      simp [hi, this]
    · simp [hi, hc]⟩
theorem lh_set2 {nL : Nat} {L : List (Option Value)} {i : Nat} {v : Value} {ls' : Array Slot} (h' : lv_has ls' nL ((i, v) :: (lps 0 L).filter (fun q => !(q.1 == i) && (!(q.1 == i + 1) && !(q.1 + 1 == i && q.2.category == 2))))) (hk : lk1 L i) : lh ls' nL ((L.set i (some v)).set (i + 1) none) := ⟨h'.1, h'.2.1, fun j w hj => by
  by_cases hi1 : j = i + 1
  · subst hi1
    exfalso
    rw [List.getElem?_set] at hj
    by_cases hlt : i + 1 < (L.set i (some v)).length
    · simp [hlt] at hj
    · simp [hlt] at hj
  · rw [List.getElem?_set_ne (fun q => hi1 q.symm)] at hj
    by_cases hi : j = i
    · subst hi
      have : v = w := by
        rw [List.getElem?_set] at hj
        by_cases hlt : j < L.length
        · simp [hlt] at hj; exact hj
        · simp [hlt] at hj
      subst this
      exact h'.2.2 (j, v) List.mem_cons_self
    · have hj2 : L[j]? = some (some w) := by rw [List.getElem?_set_ne (fun q => hi q.symm)] at hj; exact hj
      have hm := lps_mem L 0 j w hj2
      rw [Nat.zero_add] at hm
      refine h'.2.2 (j, w) (List.mem_cons_of_mem _ (List.mem_filter.mpr ⟨hm, ?_⟩))
      by_cases hc : j + 1 = i
      · have := lk1_sp hk hc hj2
        simp [hi, hi1, this]
      · simp [hi, hi1, hc]⟩
theorem lh_sub {ls : Array Slot} {nL : Nat} {L L' : List (Option Value)} (h : lh ls nL L) (hs : ∀ (i : Nat) (v : Value), L'[i]? = some (some v) → L[i]? = some (some v)) : lh ls nL L' := ⟨h.1, h.2.1, fun i v hi => h.2.2 i v (hs i v hi)⟩
section AWR
variable {G : xG} {μ : xM} {d mc ms : Nat} {Q : xQ} {pc : Nat} {L : List (Option Value)} {st : List Value} {ws : va_W} {n k : Nat}
theorem aw_iconst {z : Int} {v : Int32} (hd : decode μ.2.1 pc = .ok (.iconst z, 1)) (hv : Int32.ofInt z = v) (kk : AW G μ d mc ms Q (pc + 1) L (.int v :: st) ws n k) : AW G μ d mc ms Q pc L (st) ws n k := by
  intro p e s m args below meth c H locs A ls C hS hP hD hl
  exact lv_iconst C.1 C.2.1 hd hv (kk p e s m args below meth c H locs A ls C hS hP hD hl)
theorem aw_bipush {z : Int} {v : Int32} (hd : decode μ.2.1 pc = .ok (.bipush z, 2)) (hv : (Int8.ofInt z).toInt32 = v) (kk : AW G μ d mc ms Q (pc + 2) L (.int v :: st) ws n k) : AW G μ d mc ms Q pc L (st) ws n k := by
  intro p e s m args below meth c H locs A ls C hS hP hD hl
  exact lv_bipush C.1 C.2.1 hd hv (kk p e s m args below meth c H locs A ls C hS hP hD hl)
theorem aw_sipush {z : Int} {v : Int32} (hd : decode μ.2.1 pc = .ok (.sipush z, 3)) (hv : (Int16.ofInt z).toInt32 = v) (kk : AW G μ d mc ms Q (pc + 3) L (.int v :: st) ws n k) : AW G μ d mc ms Q pc L (st) ws n k := by
  intro p e s m args below meth c H locs A ls C hS hP hD hl
  exact lv_sipush C.1 C.2.1 hd hv (kk p e s m args below meth c H locs A ls C hS hP hD hl)
theorem aw_lconst {z : Fin 2} {v : Int64} (hd : decode μ.2.1 pc = .ok (.lconst z, 1)) (hv : Int64.ofNat (z : Nat) = v) (kk : AW G μ d mc ms Q (pc + 1) L (.long v :: st) ws n k) : AW G μ d mc ms Q pc L (st) ws n k := by
  intro p e s m args below meth c H locs A ls C hS hP hD hl
  exact lv_lconst C.1 C.2.1 hd hv (kk p e s m args below meth c H locs A ls C hS hP hD hl)
theorem aw_null  (hd : decode μ.2.1 pc = .ok (.aconst_null, 1)) (kk : AW G μ d mc ms Q (pc + 1) L (.null :: st) ws n k) : AW G μ d mc ms Q pc L (st) ws n k := by
  intro p e s m args below meth c H locs A ls C hS hP hD hl
  exact lv_null C.1 C.2.1 hd (kk p e s m args below meth c H locs A ls C hS hP hD hl)
theorem aw_iadd {x y : Int32} (hd : decode μ.2.1 pc = .ok (.iadd, 1)) (kk : AW G μ d mc ms Q (pc + 1) L (.int (x + y) :: st) ws n k) : AW G μ d mc ms Q pc L (.int y :: .int x :: st) ws n k := by
  intro p e s m args below meth c H locs A ls C hS hP hD hl
  exact lv_iadd C.1 C.2.1 hd (kk p e s m args below meth c H locs A ls C hS hP hD hl)
theorem aw_isub {x y : Int32} (hd : decode μ.2.1 pc = .ok (.isub, 1)) (kk : AW G μ d mc ms Q (pc + 1) L (.int (x - y) :: st) ws n k) : AW G μ d mc ms Q pc L (.int y :: .int x :: st) ws n k := by
  intro p e s m args below meth c H locs A ls C hS hP hD hl
  exact lv_isub C.1 C.2.1 hd (kk p e s m args below meth c H locs A ls C hS hP hD hl)
theorem aw_imul {x y : Int32} (hd : decode μ.2.1 pc = .ok (.imul, 1)) (kk : AW G μ d mc ms Q (pc + 1) L (.int (x * y) :: st) ws n k) : AW G μ d mc ms Q pc L (.int y :: .int x :: st) ws n k := by
  intro p e s m args below meth c H locs A ls C hS hP hD hl
  exact lv_imul C.1 C.2.1 hd (kk p e s m args below meth c H locs A ls C hS hP hD hl)
theorem aw_iand {x y : Int32} (hd : decode μ.2.1 pc = .ok (.iand, 1)) (kk : AW G μ d mc ms Q (pc + 1) L (.int (x &&& y) :: st) ws n k) : AW G μ d mc ms Q pc L (.int y :: .int x :: st) ws n k := by
  intro p e s m args below meth c H locs A ls C hS hP hD hl
  exact lv_iand C.1 C.2.1 hd (kk p e s m args below meth c H locs A ls C hS hP hD hl)
theorem aw_ior {x y : Int32} (hd : decode μ.2.1 pc = .ok (.ior, 1)) (kk : AW G μ d mc ms Q (pc + 1) L (.int (x ||| y) :: st) ws n k) : AW G μ d mc ms Q pc L (.int y :: .int x :: st) ws n k := by
  intro p e s m args below meth c H locs A ls C hS hP hD hl
  exact lv_ior C.1 C.2.1 hd (kk p e s m args below meth c H locs A ls C hS hP hD hl)
theorem aw_ixor {x y : Int32} (hd : decode μ.2.1 pc = .ok (.ixor, 1)) (kk : AW G μ d mc ms Q (pc + 1) L (.int (x ^^^ y) :: st) ws n k) : AW G μ d mc ms Q pc L (.int y :: .int x :: st) ws n k := by
  intro p e s m args below meth c H locs A ls C hS hP hD hl
  exact lv_ixor C.1 C.2.1 hd (kk p e s m args below meth c H locs A ls C hS hP hD hl)
theorem aw_ishl {x y : Int32} (hd : decode μ.2.1 pc = .ok (.ishl, 1)) (kk : AW G μ d mc ms Q (pc + 1) L (.int (x <<< (y &&& 31)) :: st) ws n k) : AW G μ d mc ms Q pc L (.int y :: .int x :: st) ws n k := by
  intro p e s m args below meth c H locs A ls C hS hP hD hl
  exact lv_ishl C.1 C.2.1 hd (kk p e s m args below meth c H locs A ls C hS hP hD hl)
theorem aw_ishr {x y : Int32} (hd : decode μ.2.1 pc = .ok (.ishr, 1)) (kk : AW G μ d mc ms Q (pc + 1) L (.int (x >>> (y &&& 31)) :: st) ws n k) : AW G μ d mc ms Q pc L (.int y :: .int x :: st) ws n k := by
  intro p e s m args below meth c H locs A ls C hS hP hD hl
  exact lv_ishr C.1 C.2.1 hd (kk p e s m args below meth c H locs A ls C hS hP hD hl)
theorem aw_idiv {x y : Int32} (hd : decode μ.2.1 pc = .ok (.idiv, 1)) (hne : ¬ y = 0) (kk : AW G μ d mc ms Q (pc + 1) L (.int (x / y) :: st) ws n k) : AW G μ d mc ms Q pc L (.int y :: .int x :: st) ws n k := by
  intro p e s m args below meth c H locs A ls C hS hP hD hl
  exact lv_idiv C.1 C.2.1 hd hne (kk p e s m args below meth c H locs A ls C hS hP hD hl)
theorem aw_irem {x y : Int32} (hd : decode μ.2.1 pc = .ok (.irem, 1)) (hne : ¬ y = 0) (kk : AW G μ d mc ms Q (pc + 1) L (.int (x - x / y * y) :: st) ws n k) : AW G μ d mc ms Q pc L (.int y :: .int x :: st) ws n k := by
  intro p e s m args below meth c H locs A ls C hS hP hD hl
  exact lv_irem C.1 C.2.1 hd hne (kk p e s m args below meth c H locs A ls C hS hP hD hl)
theorem aw_iushr {x y : Int32} (hd : decode μ.2.1 pc = .ok (.iushr, 1)) (kk : AW G μ d mc ms Q (pc + 1) L (.int ((x.toUInt32 >>> (y.toUInt32 &&& Int32.toUInt32 31)).toInt32) :: st) ws n k) : AW G μ d mc ms Q pc L (.int y :: .int x :: st) ws n k := by
  intro p e s m args below meth c H locs A ls C hS hP hD hl
  exact lv_iushr C.1 C.2.1 hd rfl (kk p e s m args below meth c H locs A ls C hS hP hD hl)
theorem aw_ladd {x y : Int64} (hd : decode μ.2.1 pc = .ok (.ladd, 1)) (kk : AW G μ d mc ms Q (pc + 1) L (.long (x + y) :: st) ws n k) : AW G μ d mc ms Q pc L (.long y :: .long x :: st) ws n k := by
  intro p e s m args below meth c H locs A ls C hS hP hD hl
  exact lv_ladd C.1 C.2.1 hd (kk p e s m args below meth c H locs A ls C hS hP hD hl)
theorem aw_lmul {x y : Int64} (hd : decode μ.2.1 pc = .ok (.lmul, 1)) (kk : AW G μ d mc ms Q (pc + 1) L (.long (x * y) :: st) ws n k) : AW G μ d mc ms Q pc L (.long y :: .long x :: st) ws n k := by
  intro p e s m args below meth c H locs A ls C hS hP hD hl
  exact lv_lmul C.1 C.2.1 hd (kk p e s m args below meth c H locs A ls C hS hP hD hl)
theorem aw_land {x y : Int64} (hd : decode μ.2.1 pc = .ok (.land, 1)) (kk : AW G μ d mc ms Q (pc + 1) L (.long (x &&& y) :: st) ws n k) : AW G μ d mc ms Q pc L (.long y :: .long x :: st) ws n k := by
  intro p e s m args below meth c H locs A ls C hS hP hD hl
  exact lv_land C.1 C.2.1 hd (kk p e s m args below meth c H locs A ls C hS hP hD hl)
theorem aw_lor {x y : Int64} (hd : decode μ.2.1 pc = .ok (.lor, 1)) (kk : AW G μ d mc ms Q (pc + 1) L (.long (x ||| y) :: st) ws n k) : AW G μ d mc ms Q pc L (.long y :: .long x :: st) ws n k := by
  intro p e s m args below meth c H locs A ls C hS hP hD hl
  exact lv_lor C.1 C.2.1 hd (kk p e s m args below meth c H locs A ls C hS hP hD hl)
theorem aw_lshl {x : Int64} {y : Int32} (hd : decode μ.2.1 pc = .ok (.lshl, 1)) (kk : AW G μ d mc ms Q (pc + 1) L (.long (x <<< (y.toInt64 &&& 63)) :: st) ws n k) : AW G μ d mc ms Q pc L (.int y :: .long x :: st) ws n k := by
  intro p e s m args below meth c H locs A ls C hS hP hD hl
  exact lv_lshl C.1 C.2.1 hd rfl (kk p e s m args below meth c H locs A ls C hS hP hD hl)
theorem aw_lshr {x : Int64} {y : Int32} (hd : decode μ.2.1 pc = .ok (.lshr, 1)) (kk : AW G μ d mc ms Q (pc + 1) L (.long (x >>> (y.toInt64 &&& 63)) :: st) ws n k) : AW G μ d mc ms Q pc L (.int y :: .long x :: st) ws n k := by
  intro p e s m args below meth c H locs A ls C hS hP hD hl
  exact lv_lshr C.1 C.2.1 hd rfl (kk p e s m args below meth c H locs A ls C hS hP hD hl)
theorem aw_lushr {x : Int64} {y : Int32} (hd : decode μ.2.1 pc = .ok (.lushr, 1)) (kk : AW G μ d mc ms Q (pc + 1) L (.long ((x.toUInt64 >>> (y.toInt64.toUInt64 &&& Int64.toUInt64 63)).toInt64) :: st) ws n k) : AW G μ d mc ms Q pc L (.int y :: .long x :: st) ws n k := by
  intro p e s m args below meth c H locs A ls C hS hP hD hl
  exact lv_lushr C.1 C.2.1 hd rfl (kk p e s m args below meth c H locs A ls C hS hP hD hl)
theorem aw_i2l {x : Int32} (hd : decode μ.2.1 pc = .ok (.i2l, 1)) (kk : AW G μ d mc ms Q (pc + 1) L (.long x.toInt64 :: st) ws n k) : AW G μ d mc ms Q pc L (.int x :: st) ws n k := by
  intro p e s m args below meth c H locs A ls C hS hP hD hl
  exact lv_i2l C.1 C.2.1 hd rfl (kk p e s m args below meth c H locs A ls C hS hP hD hl)
theorem aw_l2i {x : Int64} (hd : decode μ.2.1 pc = .ok (.l2i, 1)) (kk : AW G μ d mc ms Q (pc + 1) L (.int x.toInt32 :: st) ws n k) : AW G μ d mc ms Q pc L (.long x :: st) ws n k := by
  intro p e s m args below meth c H locs A ls C hS hP hD hl
  exact lv_l2i C.1 C.2.1 hd rfl (kk p e s m args below meth c H locs A ls C hS hP hD hl)
theorem aw_i2b {x : Int32} (hd : decode μ.2.1 pc = .ok (.i2b, 1)) (kk : AW G μ d mc ms Q (pc + 1) L (.int x.toInt8.toInt32 :: st) ws n k) : AW G μ d mc ms Q pc L (.int x :: st) ws n k := by
  intro p e s m args below meth c H locs A ls C hS hP hD hl
  exact lv_i2b C.1 C.2.1 hd rfl (kk p e s m args below meth c H locs A ls C hS hP hD hl)
theorem aw_i2c {x : Int32} (hd : decode μ.2.1 pc = .ok (.i2c, 1)) (kk : AW G μ d mc ms Q (pc + 1) L (.int (x.toUInt32 % 65536).toInt32 :: st) ws n k) : AW G μ d mc ms Q pc L (.int x :: st) ws n k := by
  intro p e s m args below meth c H locs A ls C hS hP hD hl
  exact lv_i2c C.1 C.2.1 hd rfl (kk p e s m args below meth c H locs A ls C hS hP hD hl)
theorem aw_lcmp {x y : Int64} (hd : decode μ.2.1 pc = .ok (.lcmp, 1)) (kk : AW G μ d mc ms Q (pc + 1) L (.int (lg_cmp x y) :: st) ws n k) : AW G μ d mc ms Q pc L (.long y :: .long x :: st) ws n k := by
  intro p e s m args below meth c H locs A ls C hS hP hD hl
  exact W.lcmp C.1 C.2.1 hd (kk p e s m args below meth c H locs A ls C hS hP hD hl)
theorem aw_dup {v : Value} (hd : decode μ.2.1 pc = .ok (.dup, 1)) (hv : v.category = 1) (kk : AW G μ d mc ms Q (pc + 1) L (v :: v :: st) ws n k) : AW G μ d mc ms Q pc L (v :: st) ws n k := by
  intro p e s m args below meth c H locs A ls C hS hP hD hl
  exact lv_dup C.1 C.2.1 hd hv (kk p e s m args below meth c H locs A ls C hS hP hD hl)
theorem aw_pop {v : Value} (hd : decode μ.2.1 pc = .ok (.pop, 1)) (hv : v.category = 1) (kk : AW G μ d mc ms Q (pc + 1) L (st) ws n k) : AW G μ d mc ms Q pc L (v :: st) ws n k := by
  intro p e s m args below meth c H locs A ls C hS hP hD hl
  exact lv_pop C.1 C.2.1 hd hv (kk p e s m args below meth c H locs A ls C hS hP hD hl)
theorem aw_dup2 {v u : Value} (hd : decode μ.2.1 pc = .ok (.dup2, 1)) (hv : v.category = 1) (hu : u.category = 1) (kk : AW G μ d mc ms Q (pc + 1) L (v :: u :: v :: u :: st) ws n k) : AW G μ d mc ms Q pc L (v :: u :: st) ws n k := by
  intro p e s m args below meth c H locs A ls C hS hP hD hl
  exact lv_dup2_11 C.1 C.2.1 hd hv hu (kk p e s m args below meth c H locs A ls C hS hP hD hl)
theorem aw_iload_n {z : Fin 4} {i : Nat} {x : Int32} (hd : decode μ.2.1 pc = .ok (.iload_n z, 1)) (hi : (z : Nat) = i) (hl9 : L[i]? = some (some (.int x))) (kk : AW G μ d mc ms Q (pc + 1) L (.int x :: st) ws n k) : AW G μ d mc ms Q pc L st ws n k := by
  intro p e s m args below meth c H locs A ls C hS hP hD hl
  exact lv_iload_n C.1 C.2.1 hd hi (hl.2.2 _ _ hl9) (kk p e s m args below meth c H locs A ls C hS hP hD hl)
theorem aw_iload {i : Nat} {x : Int32} (hd : decode μ.2.1 pc = .ok (.iload i, 2)) (hl9 : L[i]? = some (some (.int x))) (kk : AW G μ d mc ms Q (pc + 2) L (.int x :: st) ws n k) : AW G μ d mc ms Q pc L st ws n k := by
  intro p e s m args below meth c H locs A ls C hS hP hD hl
  exact lv_iload C.1 C.2.1 hd (hl.2.2 _ _ hl9) (kk p e s m args below meth c H locs A ls C hS hP hD hl)
theorem aw_lload_n {z : Fin 4} {i : Nat} {x : Int64} (hd : decode μ.2.1 pc = .ok (.lload_n z, 1)) (hi : (z : Nat) = i) (hl9 : L[i]? = some (some (.long x))) (kk : AW G μ d mc ms Q (pc + 1) L (.long x :: st) ws n k) : AW G μ d mc ms Q pc L st ws n k := by
  intro p e s m args below meth c H locs A ls C hS hP hD hl
  exact lv_lload_n C.1 C.2.1 hd hi (hl.2.2 _ _ hl9) (kk p e s m args below meth c H locs A ls C hS hP hD hl)
theorem aw_lload {i : Nat} {x : Int64} (hd : decode μ.2.1 pc = .ok (.lload i, 2)) (hl9 : L[i]? = some (some (.long x))) (kk : AW G μ d mc ms Q (pc + 2) L (.long x :: st) ws n k) : AW G μ d mc ms Q pc L st ws n k := by
  intro p e s m args below meth c H locs A ls C hS hP hD hl
  exact lv_lload C.1 C.2.1 hd (hl.2.2 _ _ hl9) (kk p e s m args below meth c H locs A ls C hS hP hD hl)
theorem aw_aload_n {z : Fin 4} {i : Nat} {x : Nat} (hd : decode μ.2.1 pc = .ok (.aload_n z, 1)) (hi : (z : Nat) = i) (hl9 : L[i]? = some (some (.ref x))) (kk : AW G μ d mc ms Q (pc + 1) L (.ref x :: st) ws n k) : AW G μ d mc ms Q pc L st ws n k := by
  intro p e s m args below meth c H locs A ls C hS hP hD hl
  exact lv_aload_n C.1 C.2.1 hd hi (hl.2.2 _ _ hl9) (kk p e s m args below meth c H locs A ls C hS hP hD hl)
theorem aw_aload {i : Nat} {x : Nat} (hd : decode μ.2.1 pc = .ok (.aload i, 2)) (hl9 : L[i]? = some (some (.ref x))) (kk : AW G μ d mc ms Q (pc + 2) L (.ref x :: st) ws n k) : AW G μ d mc ms Q pc L st ws n k := by
  intro p e s m args below meth c H locs A ls C hS hP hD hl
  exact lv_aload C.1 C.2.1 hd (hl.2.2 _ _ hl9) (kk p e s m args below meth c H locs A ls C hS hP hD hl)
theorem aw_istore_n {z : Fin 4} {i : Nat} {x : Int32} (hd : decode μ.2.1 pc = .ok (.istore_n z, 1)) (hi : (z : Nat) = i) (hn : i < μ.2.2.1) (hk : lk1 L i) (kk : AW G μ d mc ms Q (pc + 1) (L.set i (some (.int x))) st ws n k) : AW G μ d mc ms Q pc L (.int x :: st) ws n k := by
  intro p e s m args below meth c H locs A ls C hS hP hD hl
  exact lv_istore_n C.1 C.2.1 hd hi (lh_has hl) hn rfl (fun ls9 h9 => kk p e s m args below meth c H locs A ls9 C hS hP hD (lh_set1 h9 hk))
theorem aw_istore {i : Nat} {x : Int32} (hd : decode μ.2.1 pc = .ok (.istore i, 2)) (hn : i < μ.2.2.1) (hk : lk1 L i) (kk : AW G μ d mc ms Q (pc + 2) (L.set i (some (.int x))) st ws n k) : AW G μ d mc ms Q pc L (.int x :: st) ws n k := by
  intro p e s m args below meth c H locs A ls C hS hP hD hl
  exact lv_istore C.1 C.2.1 hd (lh_has hl) hn rfl (fun ls9 h9 => kk p e s m args below meth c H locs A ls9 C hS hP hD (lh_set1 h9 hk))
theorem aw_astore_n {z : Fin 4} {i : Nat} {x : Nat} (hd : decode μ.2.1 pc = .ok (.astore_n z, 1)) (hi : (z : Nat) = i) (hn : i < μ.2.2.1) (hk : lk1 L i) (kk : AW G μ d mc ms Q (pc + 1) (L.set i (some (.ref x))) st ws n k) : AW G μ d mc ms Q pc L (.ref x :: st) ws n k := by
  intro p e s m args below meth c H locs A ls C hS hP hD hl
  exact lv_astore_n C.1 C.2.1 hd hi (lh_has hl) hn rfl (fun ls9 h9 => kk p e s m args below meth c H locs A ls9 C hS hP hD (lh_set1 h9 hk))
theorem aw_astore {i : Nat} {x : Nat} (hd : decode μ.2.1 pc = .ok (.astore i, 2)) (hn : i < μ.2.2.1) (hk : lk1 L i) (kk : AW G μ d mc ms Q (pc + 2) (L.set i (some (.ref x))) st ws n k) : AW G μ d mc ms Q pc L (.ref x :: st) ws n k := by
  intro p e s m args below meth c H locs A ls C hS hP hD hl
  exact lv_astore C.1 C.2.1 hd (lh_has hl) hn rfl (fun ls9 h9 => kk p e s m args below meth c H locs A ls9 C hS hP hD (lh_set1 h9 hk))
theorem aw_lstore_n {z : Fin 4} {i : Nat} {x : Int64} (hd : decode μ.2.1 pc = .ok (.lstore_n z, 1)) (hi : (z : Nat) = i) (hn : i + 1 < μ.2.2.1) (hk : lk1 L i) (kk : AW G μ d mc ms Q (pc + 1) ((L.set i (some (.long x))).set (i + 1) none) st ws n k) : AW G μ d mc ms Q pc L (.long x :: st) ws n k := by
  intro p e s m args below meth c H locs A ls C hS hP hD hl
  exact lv_lstore_n C.1 C.2.1 hd hi (lh_has hl) hn rfl (fun ls9 h9 => kk p e s m args below meth c H locs A ls9 C hS hP hD (lh_set2 h9 hk))
theorem aw_lstore {i : Nat} {x : Int64} (hd : decode μ.2.1 pc = .ok (.lstore i, 2)) (hn : i + 1 < μ.2.2.1) (hk : lk1 L i) (kk : AW G μ d mc ms Q (pc + 2) ((L.set i (some (.long x))).set (i + 1) none) st ws n k) : AW G μ d mc ms Q pc L (.long x :: st) ws n k := by
  intro p e s m args below meth c H locs A ls C hS hP hD hl
  exact lv_lstore C.1 C.2.1 hd (lh_has hl) hn rfl (fun ls9 h9 => kk p e s m args below meth c H locs A ls9 C hS hP hD (lh_set2 h9 hk))
theorem aw_iinc {i : Nat} {z : Int} {x v : Int32} (hd : decode μ.2.1 pc = .ok (.iinc i z, 3)) (hl9 : L[i]? = some (some (.int x))) (hv : Int32.ofInt z = v) (hn : i < μ.2.2.1) (hk : lk1 L i) (kk : AW G μ d mc ms Q (pc + 3) (L.set i (some (.int (x + v)))) st ws n k) : AW G μ d mc ms Q pc L st ws n k := by
  intro p e s m args below meth c H locs A ls C hS hP hD hl
  have hm := lps_mem L 0 i _ hl9
  rw [Nat.zero_add] at hm
  obtain ⟨j, hj⟩ := List.getElem?_of_mem hm
  exact lv_iinc (k := j) C.1 C.2.1 hd (lh_has hl) hj (by rw [hv]) hn rfl (fun ls9 h9 => kk p e s m args below meth c H locs A ls9 C hS hP hD (lh_set1 h9 hk))
theorem aw_goto {off : Int} {tgt : Nat} (hd : decode μ.2.1 pc = .ok (.goto off, 3)) (ht : (pc : Int) + off = (tgt : Int)) (kk : AW G μ d mc ms Q tgt L st ws n k) : AW G μ d mc ms Q pc L st ws n k := by
  intro p e s m args below meth c H locs A ls C hS hP hD hl
  exact lv_goto C.1 C.2.1 hd ht (kk p e s m args below meth c H locs A ls C hS hP hD hl)
theorem aw_icmp_eq {x y : Int32} {off : Int} {tgt : Nat} (hd : decode μ.2.1 pc = .ok (.if_icmp .eq off, 3)) (ht : (pc : Int) + off = (tgt : Int)) (kt : x = y → AW G μ d mc ms Q tgt L st ws n k) (kf : ¬ x = y → AW G μ d mc ms Q (pc + 3) L st ws n k) : AW G μ d mc ms Q pc L (.int y :: .int x :: st) ws n k := by
  intro p e s m args below meth c H locs A ls C hS hP hD hl
  exact lv_icmp_eq C.1 C.2.1 hd ht (fun h9 => kt h9 p e s m args below meth c H locs A ls C hS hP hD hl) (fun h9 => kf h9 p e s m args below meth c H locs A ls C hS hP hD hl)
theorem aw_icmp_ne {x y : Int32} {off : Int} {tgt : Nat} (hd : decode μ.2.1 pc = .ok (.if_icmp .ne off, 3)) (ht : (pc : Int) + off = (tgt : Int)) (kt : ¬ x = y → AW G μ d mc ms Q tgt L st ws n k) (kf : x = y → AW G μ d mc ms Q (pc + 3) L st ws n k) : AW G μ d mc ms Q pc L (.int y :: .int x :: st) ws n k := by
  intro p e s m args below meth c H locs A ls C hS hP hD hl
  exact lv_icmp_ne C.1 C.2.1 hd ht (fun h9 => kt h9 p e s m args below meth c H locs A ls C hS hP hD hl) (fun h9 => kf h9 p e s m args below meth c H locs A ls C hS hP hD hl)
theorem aw_icmp_lt {x y : Int32} {off : Int} {tgt : Nat} (hd : decode μ.2.1 pc = .ok (.if_icmp .lt off, 3)) (ht : (pc : Int) + off = (tgt : Int)) (kt : x < y → AW G μ d mc ms Q tgt L st ws n k) (kf : ¬ x < y → AW G μ d mc ms Q (pc + 3) L st ws n k) : AW G μ d mc ms Q pc L (.int y :: .int x :: st) ws n k := by
  intro p e s m args below meth c H locs A ls C hS hP hD hl
  exact lv_icmp_lt C.1 C.2.1 hd ht (fun h9 => kt h9 p e s m args below meth c H locs A ls C hS hP hD hl) (fun h9 => kf h9 p e s m args below meth c H locs A ls C hS hP hD hl)
theorem aw_icmp_ge {x y : Int32} {off : Int} {tgt : Nat} (hd : decode μ.2.1 pc = .ok (.if_icmp .ge off, 3)) (ht : (pc : Int) + off = (tgt : Int)) (kt : y ≤ x → AW G μ d mc ms Q tgt L st ws n k) (kf : ¬ y ≤ x → AW G μ d mc ms Q (pc + 3) L st ws n k) : AW G μ d mc ms Q pc L (.int y :: .int x :: st) ws n k := by
  intro p e s m args below meth c H locs A ls C hS hP hD hl
  exact lv_icmp_ge C.1 C.2.1 hd ht (fun h9 => kt h9 p e s m args below meth c H locs A ls C hS hP hD hl) (fun h9 => kf h9 p e s m args below meth c H locs A ls C hS hP hD hl)
theorem aw_icmp_gt {x y : Int32} {off : Int} {tgt : Nat} (hd : decode μ.2.1 pc = .ok (.if_icmp .gt off, 3)) (ht : (pc : Int) + off = (tgt : Int)) (kt : y < x → AW G μ d mc ms Q tgt L st ws n k) (kf : ¬ y < x → AW G μ d mc ms Q (pc + 3) L st ws n k) : AW G μ d mc ms Q pc L (.int y :: .int x :: st) ws n k := by
  intro p e s m args below meth c H locs A ls C hS hP hD hl
  exact lv_icmp_gt C.1 C.2.1 hd ht (fun h9 => kt h9 p e s m args below meth c H locs A ls C hS hP hD hl) (fun h9 => kf h9 p e s m args below meth c H locs A ls C hS hP hD hl)
theorem aw_icmp_le {x y : Int32} {off : Int} {tgt : Nat} (hd : decode μ.2.1 pc = .ok (.if_icmp .le off, 3)) (ht : (pc : Int) + off = (tgt : Int)) (kt : x ≤ y → AW G μ d mc ms Q tgt L st ws n k) (kf : ¬ x ≤ y → AW G μ d mc ms Q (pc + 3) L st ws n k) : AW G μ d mc ms Q pc L (.int y :: .int x :: st) ws n k := by
  intro p e s m args below meth c H locs A ls C hS hP hD hl
  exact lv_icmp_le C.1 C.2.1 hd ht (fun h9 => kt h9 p e s m args below meth c H locs A ls C hS hP hD hl) (fun h9 => kf h9 p e s m args below meth c H locs A ls C hS hP hD hl)
theorem aw_if_eq {x : Int32} {off : Int} {tgt : Nat} (hd : decode μ.2.1 pc = .ok (.ifCond .eq off, 3)) (ht : (pc : Int) + off = (tgt : Int)) (kt : x = 0 → AW G μ d mc ms Q tgt L st ws n k) (kf : ¬ x = 0 → AW G μ d mc ms Q (pc + 3) L st ws n k) : AW G μ d mc ms Q pc L (.int x :: st) ws n k := by
  intro p e s m args below meth c H locs A ls C hS hP hD hl
  exact lv_if_eq C.1 C.2.1 hd ht (fun h9 => kt h9 p e s m args below meth c H locs A ls C hS hP hD hl) (fun h9 => kf h9 p e s m args below meth c H locs A ls C hS hP hD hl)
theorem aw_if_ne {x : Int32} {off : Int} {tgt : Nat} (hd : decode μ.2.1 pc = .ok (.ifCond .ne off, 3)) (ht : (pc : Int) + off = (tgt : Int)) (kt : ¬ x = 0 → AW G μ d mc ms Q tgt L st ws n k) (kf : x = 0 → AW G μ d mc ms Q (pc + 3) L st ws n k) : AW G μ d mc ms Q pc L (.int x :: st) ws n k := by
  intro p e s m args below meth c H locs A ls C hS hP hD hl
  exact lv_if_ne C.1 C.2.1 hd ht (fun h9 => kt h9 p e s m args below meth c H locs A ls C hS hP hD hl) (fun h9 => kf h9 p e s m args below meth c H locs A ls C hS hP hD hl)
theorem aw_if_lt {x : Int32} {off : Int} {tgt : Nat} (hd : decode μ.2.1 pc = .ok (.ifCond .lt off, 3)) (ht : (pc : Int) + off = (tgt : Int)) (kt : x < 0 → AW G μ d mc ms Q tgt L st ws n k) (kf : ¬ x < 0 → AW G μ d mc ms Q (pc + 3) L st ws n k) : AW G μ d mc ms Q pc L (.int x :: st) ws n k := by
  intro p e s m args below meth c H locs A ls C hS hP hD hl
  exact lv_if_lt C.1 C.2.1 hd ht (fun h9 => kt h9 p e s m args below meth c H locs A ls C hS hP hD hl) (fun h9 => kf h9 p e s m args below meth c H locs A ls C hS hP hD hl)
theorem aw_if_ge {x : Int32} {off : Int} {tgt : Nat} (hd : decode μ.2.1 pc = .ok (.ifCond .ge off, 3)) (ht : (pc : Int) + off = (tgt : Int)) (kt : 0 ≤ x → AW G μ d mc ms Q tgt L st ws n k) (kf : ¬ 0 ≤ x → AW G μ d mc ms Q (pc + 3) L st ws n k) : AW G μ d mc ms Q pc L (.int x :: st) ws n k := by
  intro p e s m args below meth c H locs A ls C hS hP hD hl
  exact lv_if_ge C.1 C.2.1 hd ht (fun h9 => kt h9 p e s m args below meth c H locs A ls C hS hP hD hl) (fun h9 => kf h9 p e s m args below meth c H locs A ls C hS hP hD hl)
theorem aw_if_gt {x : Int32} {off : Int} {tgt : Nat} (hd : decode μ.2.1 pc = .ok (.ifCond .gt off, 3)) (ht : (pc : Int) + off = (tgt : Int)) (kt : 0 < x → AW G μ d mc ms Q tgt L st ws n k) (kf : ¬ 0 < x → AW G μ d mc ms Q (pc + 3) L st ws n k) : AW G μ d mc ms Q pc L (.int x :: st) ws n k := by
  intro p e s m args below meth c H locs A ls C hS hP hD hl
  exact lv_if_gt C.1 C.2.1 hd ht (fun h9 => kt h9 p e s m args below meth c H locs A ls C hS hP hD hl) (fun h9 => kf h9 p e s m args below meth c H locs A ls C hS hP hD hl)
theorem aw_if_le {x : Int32} {off : Int} {tgt : Nat} (hd : decode μ.2.1 pc = .ok (.ifCond .le off, 3)) (ht : (pc : Int) + off = (tgt : Int)) (kt : x ≤ 0 → AW G μ d mc ms Q tgt L st ws n k) (kf : ¬ x ≤ 0 → AW G μ d mc ms Q (pc + 3) L st ws n k) : AW G μ d mc ms Q pc L (.int x :: st) ws n k := by
  intro p e s m args below meth c H locs A ls C hS hP hD hl
  exact lv_if_le C.1 C.2.1 hd ht (fun h9 => kt h9 p e s m args below meth c H locs A ls C hS hP hD hl) (fun h9 => kf h9 p e s m args below meth c H locs A ls C hS hP hD hl)
theorem aw_ldc2 {idx : Nat} {v : Int64} (hd : decode μ.2.1 pc = .ok (.ldc2_w idx, 3)) (hc : Cond.constantLong μ.1.cls idx v ∈ gtbl) (kk : AW G μ d mc ms Q (pc + 3) L (.long v :: st) ws n k) : AW G μ d mc ms Q pc L st ws n k := by
  intro p e s m args below meth c H locs A ls C hS hP hD hl
  exact lv_ldc2 C.1 C.2.1 C.2.2.2.2.1 (C.2.2.2.2.2.1 _ hc) hd (kk p e s m args below meth c H locs A ls C hS hP hD hl)
theorem aw_tabOut {dflt lo hi : Int} {offs : Array Int} {len : Nat} {x : Int32} {tgt : Nat} (hd : decode μ.2.1 pc = .ok (.tableswitch dflt lo hi offs, len)) (h : x.toInt < lo ∨ hi < x.toInt) (ht : (pc : Int) + dflt = (tgt : Int)) (kk : AW G μ d mc ms Q tgt L st ws n k) : AW G μ d mc ms Q pc L (.int x :: st) ws n k := by
  intro p e s m args below meth c H locs A ls C hS hP hD hl
  exact lv_tableOut C.1 C.2.1 hd h ht (kk p e s m args below meth c H locs A ls C hS hP hD hl)
theorem aw_tabIn {dflt lo hi : Int} {offs : Array Int} {len : Nat} {x : Int32} {off : Int} {tgt : Nat} (hd : decode μ.2.1 pc = .ok (.tableswitch dflt lo hi offs, len)) (h1 : ¬ x.toInt < lo) (h2 : ¬ hi < x.toInt) (ho : offs[(x.toInt - lo).toNat]? = some off) (ht : (pc : Int) + off = (tgt : Int)) (kk : AW G μ d mc ms Q tgt L st ws n k) : AW G μ d mc ms Q pc L (.int x :: st) ws n k := by
  intro p e s m args below meth c H locs A ls C hS hP hD hl
  exact lv_tableIn C.1 C.2.1 hd h1 h2 ho ht (kk p e s m args below meth c H locs A ls C hS hP hD hl)
theorem aw_get {ci N idx q0 f : Nat} {CN : String} {T : u_T} {fs : List Value} {v : Value} {a : Nat} (hd : decode μ.2.1 pc = .ok (.getfield idx, 3)) (hin : ∀ w ∈ u_ws CN T N, w ∈ gtbl) (hlk : Cond.fieldLink μ.1.cls idx (T f).1 (T f).2.1 (T f).2.2.1 ∈ gtbl) (hc : vwCl[ci]? = some (CN, T, N)) (hf : f < N) (he : ws[q0]? = some (a, .inr (ci, fs))) (hv : fs[f]? = some v) (kk : AW G μ d mc ms Q (pc + 3) L (v :: st) ws n k) : AW G μ d mc ms Q pc L (.ref a :: st) ws n k := by
  intro p e s m args below meth c H locs A ls C hS hP hD hl
  exact va_get C.1 C.2.1 C.2.2.2.2.2.1 hin C.2.2.2.2.1 C.2.2.2.2.2.2.2.2.2.1 hP q0 he hc f hf (C.2.2.2.2.2.1 _ hlk) (fun _ h9 => h9) hv hd (kk p e s m args below meth c H locs A ls C hS hP hD hl)
theorem aw_put {ci N idx q0 f : Nat} {CN : String} {T : u_T} {fs : List Value} {v : Value} {a : Nat} {w9 : va_W} (hd : decode μ.2.1 pc = .ok (.putfield idx, 3)) (hin : ∀ w ∈ u_ws CN T N, w ∈ gtbl) {ty0 : Nat → FieldType} (hty : ∀ k, k < N → parseFieldDescriptor (T k).2.2.1 = some (ty0 k)) (hnm : ∀ a, a < N → ∀ b, b < N → a ≠ b → (T a).2.1 ≠ (T b).2.1) (hlk : Cond.fieldLink μ.1.cls idx (T f).1 (T f).2.1 (T f).2.2.1 ∈ gtbl) (hc : vwCl[ci]? = some (CN, T, N)) (hf : f < N) (he : ws[q0]? = some (a, .inr (ci, fs))) (hfin : (T f).2.2.2 = false) (hn : narrow (ty0 f) v = v) (hfit : fits (ty0 f) v = true) (hlen : f < fs.length) (hw : ws.set q0 (a, .inr (ci, fs.set f v)) = w9) (kk : AW G μ d mc ms Q (pc + 3) L st w9 n k) : AW G μ d mc ms Q pc L (v :: .ref a :: st) ws n k := by
  intro p e s m args below meth c H locs A ls C hS hP hD hl
  subst hw
  exact va_put C.1 C.2.1 C.2.2.2.2.2.1 hin ty0 hty hnm C.2.2.2.2.1 C.2.2.2.2.2.2.2.2.2.1 hP hD hS q0 he hc f hf (C.2.2.2.2.2.1 _ hlk) (fun _ h9 => h9) hfin (hty f hf) hn hfit hlen hd (fun H1 locs1 hP1 hD1 hS1 => kk p e s m args below meth c H1 locs1 A ls C hS1 hP1 hD1 hl)
theorem aw_putF {ci N idx q0 f : Nat} {CN : String} {T : u_T} {fs : List Value} {v : Value} {a : Nat} {w9 : va_W} (hd : decode μ.2.1 pc = .ok (.putfield idx, 3)) (hin : ∀ w ∈ u_ws CN T N, w ∈ gtbl) {ty0 : Nat → FieldType} (hty : ∀ k, k < N → parseFieldDescriptor (T k).2.2.1 = some (ty0 k)) (hnm : ∀ a, a < N → ∀ b, b < N → a ≠ b → (T a).2.1 ≠ (T b).2.1) (hlk : Cond.fieldLink μ.1.cls idx (T f).1 (T f).2.1 (T f).2.2.1 ∈ gtbl) (hc : vwCl[ci]? = some (CN, T, N)) (hf : f < N) (he : ws[q0]? = some (a, .inr (ci, fs))) (hfin : (T f).2.2.2 = true) (hi9 : μ.1.name = "<init>") (hdecl : (T f).1 = μ.1.cls) (hn : narrow (ty0 f) v = v) (hfit : fits (ty0 f) v = true) (hlen : f < fs.length) (hw : ws.set q0 (a, .inr (ci, fs.set f v)) = w9) (kk : AW G μ d mc ms Q (pc + 3) L st w9 n k) : AW G μ d mc ms Q pc L (v :: .ref a :: st) ws n k := by
  intro p e s m args below meth c H locs A ls C hS hP hD hl
  subst hw
  exact va_putF C.1 C.2.1 C.2.2.2.2.2.1 hin ty0 hty hnm C.2.2.2.2.1 C.2.2.2.2.2.2.2.2.2.1 hP hD hS q0 he hc f hf (C.2.2.2.2.2.1 _ hlk) (fun _ h9 => h9) hfin (C.2.2.2.2.2.2.2.1.trans hi9) hdecl (hty f hf) hn hfit hlen hd (fun H1 locs1 hP1 hD1 hS1 => kk p e s m args below meth c H1 locs1 A ls C hS1 hP1 hD1 hl)
theorem aw_iald {q0 N a : Nat} {f : Nat → Int32} {i : Int32} (hd : decode μ.2.1 pc = .ok (.iaload, 1)) (he : ws[q0]? = some (a, .inl (G.2.2.1 1, N, .inl f))) (hi : vp_in i N) (kk : AW G μ d mc ms Q (pc + 1) L (.int (f i.toNatClampNeg) :: st) ws n k) : AW G μ d mc ms Q pc L (.int i :: .ref a :: st) ws n k := by
  intro p e s m args below meth c H locs A ls C hS hP hD hl
  exact va_iald C.1 C.2.1 C.2.2.2.2.2.2.2.2.2.1 hP q0 1 he rfl hi hd (kk p e s m args below meth c H locs A ls C hS hP hD hl)
theorem aw_bald {q0 N a : Nat} {f : Nat → Int32} {i : Int32} (hd : decode μ.2.1 pc = .ok (.baload, 1)) (he : ws[q0]? = some (a, .inl (G.2.2.1 0, N, .inl f))) (hi : vp_in i N) (kk : AW G μ d mc ms Q (pc + 1) L (.int (f i.toNatClampNeg) :: st) ws n k) : AW G μ d mc ms Q pc L (.int i :: .ref a :: st) ws n k := by
  intro p e s m args below meth c H locs A ls C hS hP hD hl
  exact va_bald C.1 C.2.1 C.2.2.2.2.2.2.2.2.2.1 hP q0 0 he rfl hi hd (kk p e s m args below meth c H locs A ls C hS hP hD hl)
theorem aw_zald {q0 N a : Nat} {f : Nat → Int32} {i : Int32} (hd : decode μ.2.1 pc = .ok (.baload, 1)) (he : ws[q0]? = some (a, .inl (G.2.2.1 3, N, .inl f))) (hi : vp_in i N) (kk : AW G μ d mc ms Q (pc + 1) L (.int (f i.toNatClampNeg) :: st) ws n k) : AW G μ d mc ms Q pc L (.int i :: .ref a :: st) ws n k := by
  intro p e s m args below meth c H locs A ls C hS hP hD hl
  exact va_zald C.1 C.2.1 C.2.2.2.2.2.2.2.2.2.1 hP q0 3 he rfl hi hd (kk p e s m args below meth c H locs A ls C hS hP hD hl)
theorem aw_lald {q0 N a : Nat} {f : Nat → Int64} {i : Int32} (hd : decode μ.2.1 pc = .ok (.laload, 1)) (he : ws[q0]? = some (a, .inl (G.2.2.1 2, N, .inr (.inl f)))) (hi : vp_in i N) (kk : AW G μ d mc ms Q (pc + 1) L (.long (f i.toNatClampNeg) :: st) ws n k) : AW G μ d mc ms Q pc L (.int i :: .ref a :: st) ws n k := by
  intro p e s m args below meth c H locs A ls C hS hP hD hl
  exact va_lald C.1 C.2.1 C.2.2.2.2.2.2.2.2.2.1 hP q0 2 he rfl hi hd (kk p e s m args below meth c H locs A ls C hS hP hD hl)
theorem aw_iast {q0 N a : Nat} {f : Nat → Int32} {i : Int32} {x : Int32} {w9 : va_W} (hd : decode μ.2.1 pc = .ok (.iastore, 1)) (he : ws[q0]? = some (a, .inl (G.2.2.1 1, N, .inl f))) (hi : vp_in i N) (hw : ws.set q0 (a, .inl (G.2.2.1 1, N, .inl (upd f i.toNatClampNeg x))) = w9) (kk : AW G μ d mc ms Q (pc + 1) L st w9 n k) : AW G μ d mc ms Q pc L (.int x :: .int i :: .ref a :: st) ws n k := by
  intro p e s m args below meth c H locs A ls C hS hP hD hl
  subst hw
  exact va_iast C.1 C.2.1 C.2.2.2.2.2.2.2.2.2.1 hP hD hS q0 1 he rfl hi hd (fun H1 locs1 hP1 hD1 hS1 => kk p e s m args below meth c H1 locs1 A ls C hS1 hP1 hD1 hl)
theorem aw_bast {q0 N a : Nat} {f : Nat → Int32} {i : Int32} {x : Int32} {w9 : va_W} (hd : decode μ.2.1 pc = .ok (.bastore, 1)) (he : ws[q0]? = some (a, .inl (G.2.2.1 0, N, .inl f))) (hi : vp_in i N) (hw : ws.set q0 (a, .inl (G.2.2.1 0, N, .inl (upd f i.toNatClampNeg (vp_nar .byte x)))) = w9) (kk : AW G μ d mc ms Q (pc + 1) L st w9 n k) : AW G μ d mc ms Q pc L (.int x :: .int i :: .ref a :: st) ws n k := by
  intro p e s m args below meth c H locs A ls C hS hP hD hl
  subst hw
  exact va_bast C.1 C.2.1 C.2.2.2.2.2.2.2.2.2.1 hP hD hS q0 0 he rfl hi hd (fun H1 locs1 hP1 hD1 hS1 => kk p e s m args below meth c H1 locs1 A ls C hS1 hP1 hD1 hl)
theorem aw_zast {q0 N a : Nat} {f : Nat → Int32} {i : Int32} {x : Int32} {w9 : va_W} (hd : decode μ.2.1 pc = .ok (.bastore, 1)) (he : ws[q0]? = some (a, .inl (G.2.2.1 3, N, .inl f))) (hi : vp_in i N) (hw : ws.set q0 (a, .inl (G.2.2.1 3, N, .inl (upd f i.toNatClampNeg (vp_nar .boolean x)))) = w9) (kk : AW G μ d mc ms Q (pc + 1) L st w9 n k) : AW G μ d mc ms Q pc L (.int x :: .int i :: .ref a :: st) ws n k := by
  intro p e s m args below meth c H locs A ls C hS hP hD hl
  subst hw
  exact va_zast C.1 C.2.1 C.2.2.2.2.2.2.2.2.2.1 hP hD hS q0 3 he rfl hi hd (fun H1 locs1 hP1 hD1 hS1 => kk p e s m args below meth c H1 locs1 A ls C hS1 hP1 hD1 hl)
theorem aw_last {q0 N a : Nat} {f : Nat → Int64} {i : Int32} {x : Int64} {w9 : va_W} (hd : decode μ.2.1 pc = .ok (.lastore, 1)) (he : ws[q0]? = some (a, .inl (G.2.2.1 2, N, .inr (.inl f)))) (hi : vp_in i N) (hw : ws.set q0 (a, .inl (G.2.2.1 2, N, .inr (.inl (vp_updL f i.toNatClampNeg x)))) = w9) (kk : AW G μ d mc ms Q (pc + 1) L st w9 n k) : AW G μ d mc ms Q pc L (.long x :: .int i :: .ref a :: st) ws n k := by
  intro p e s m args below meth c H locs A ls C hS hP hD hl
  subst hw
  exact va_last C.1 C.2.1 C.2.2.2.2.2.2.2.2.2.1 hP hD hS q0 2 he rfl hi hd (fun H1 locs1 hP1 hD1 hS1 => kk p e s m args below meth c H1 locs1 A ls C hS1 hP1 hD1 hl)
theorem aw_alenB {q0 a : Nat} {x : vp_A} {v : Int32} (hd : decode μ.2.1 pc = .ok (.arraylength, 1)) (he : ws[q0]? = some (a, .inl (G.2.2.1 0, x))) (hv : Int32.ofNat x.1 = v) (kk : AW G μ d mc ms Q (pc + 1) L (.int v :: st) ws n k) : AW G μ d mc ms Q pc L (.ref a :: st) ws n k := by
  intro p e s m args below meth c H locs A ls C hS hP hD hl
  exact va_alen C.1 C.2.1 C.2.2.2.2.2.2.2.2.2.1 hP q0 0 he rfl hv hd (kk p e s m args below meth c H locs A ls C hS hP hD hl)
theorem aw_alenI {q0 a : Nat} {x : vp_A} {v : Int32} (hd : decode μ.2.1 pc = .ok (.arraylength, 1)) (he : ws[q0]? = some (a, .inl (G.2.2.1 1, x))) (hv : Int32.ofNat x.1 = v) (kk : AW G μ d mc ms Q (pc + 1) L (.int v :: st) ws n k) : AW G μ d mc ms Q pc L (.ref a :: st) ws n k := by
  intro p e s m args below meth c H locs A ls C hS hP hD hl
  exact va_alen C.1 C.2.1 C.2.2.2.2.2.2.2.2.2.1 hP q0 1 he rfl hv hd (kk p e s m args below meth c H locs A ls C hS hP hD hl)
theorem aw_alenJ {q0 a : Nat} {x : vp_A} {v : Int32} (hd : decode μ.2.1 pc = .ok (.arraylength, 1)) (he : ws[q0]? = some (a, .inl (G.2.2.1 2, x))) (hv : Int32.ofNat x.1 = v) (kk : AW G μ d mc ms Q (pc + 1) L (.int v :: st) ws n k) : AW G μ d mc ms Q pc L (.ref a :: st) ws n k := by
  intro p e s m args below meth c H locs A ls C hS hP hD hl
  exact va_alen C.1 C.2.1 C.2.2.2.2.2.2.2.2.2.1 hP q0 2 he rfl hv hd (kk p e s m args below meth c H locs A ls C hS hP hD hl)
theorem aw_alenZ {q0 a : Nat} {x : vp_A} {v : Int32} (hd : decode μ.2.1 pc = .ok (.arraylength, 1)) (he : ws[q0]? = some (a, .inl (G.2.2.1 3, x))) (hv : Int32.ofNat x.1 = v) (kk : AW G μ d mc ms Q (pc + 1) L (.int v :: st) ws n k) : AW G μ d mc ms Q pc L (.ref a :: st) ws n k := by
  intro p e s m args below meth c H locs A ls C hS hP hD hl
  exact va_alen C.1 C.2.1 C.2.2.2.2.2.2.2.2.2.1 hP q0 3 he rfl hv hd (kk p e s m args below meth c H locs A ls C hS hP hD hl)
theorem aw_alenS {q0 a : Nat} {x : vp_A} {v : Int32} (hd : decode μ.2.1 pc = .ok (.arraylength, 1)) (he : ws[q0]? = some (a, .inl (G.2.2.1 4, x))) (hv : Int32.ofNat x.1 = v) (kk : AW G μ d mc ms Q (pc + 1) L (.int v :: st) ws n k) : AW G μ d mc ms Q pc L (.ref a :: st) ws n k := by
  intro p e s m args below meth c H locs A ls C hS hP hD hl
  exact va_alen C.1 C.2.1 C.2.2.2.2.2.2.2.2.2.1 hP q0 4 he rfl hv hd (kk p e s m args below meth c H locs A ls C hS hP hD hl)
theorem aw_alenW {q0 a : Nat} {x : vp_A} {v : Int32} (hd : decode μ.2.1 pc = .ok (.arraylength, 1)) (he : ws[q0]? = some (a, .inl (G.2.2.1 5, x))) (hv : Int32.ofNat x.1 = v) (kk : AW G μ d mc ms Q (pc + 1) L (.int v :: st) ws n k) : AW G μ d mc ms Q pc L (.ref a :: st) ws n k := by
  intro p e s m args below meth c H locs A ls C hS hP hD hl
  exact va_alen C.1 C.2.1 C.2.2.2.2.2.2.2.2.2.1 hP q0 5 he rfl hv hd (kk p e s m args below meth c H locs A ls C hS hP hD hl)
theorem aw_post {v : Option Value} {ws : va_W} {s t : State} {H : Heap} {locs : List Loc} {A : Nat → Prop} {args : Array Value} (hQ : Q v ws) (hS : va_S A s.heap H locs) (hK : va_K G.2.1 vwCl (xT G.2.2.1) s) (hP : va_P G.2.1 vwCl ws H) (hD : va_D A ws) (ht : t.heap = H) (hW : s.WarmedH t.vm) : aQ G Q A args s (.returned v) t := ⟨⟨v, ws, rfl, hQ, by rw [ht]; exact hP, va_K.moved hW.alike hK, hD⟩, hS.F ht⟩
theorem aw_iret {v : Int32} (hd : decode μ.2.1 pc = .ok (.ireturn, 1)) (hr : μ.2.2.2 = some .int) (h1 : n ≤ mc) (h2 : k ≤ ms) (hQ : Q (some (.int v)) ws) : AW G μ d mc ms Q pc L [.int v] ws n k := by
  intro p e s m args below meth c H locs A ls C hS hP hD hl
  refine W.widen h1 h2 ?_
  exact W.iret C.1 C.2.1 (C.2.2.1.trans hr) (fun t ht hW => aw_post hQ hS C.2.2.2.2.2.2.2.2.2.1 hP hD ht hW) hS.2.2 hd C.2.2.2.2.2.2.1
theorem aw_zret {v : Int32} {ty : FieldType} (hd : decode μ.2.1 pc = .ok (.ireturn, 1)) (hr : μ.2.2.2 = some ty) (hn : narrow ty (.int v) = .int v) (h1 : n ≤ mc) (h2 : k ≤ ms) (hQ : Q (some (.int v)) ws) : AW G μ d mc ms Q pc L [.int v] ws n k := by
  intro p e s m args below meth c H locs A ls C hS hP hD hl
  refine W.widen h1 h2 ?_
  exact W.zret C.1 C.2.1 (C.2.2.1.trans hr) hn (fun t ht hW => aw_post hQ hS C.2.2.2.2.2.2.2.2.2.1 hP hD ht hW) hS.2.2 hd C.2.2.2.2.2.2.1
theorem aw_lret {v : Int64} (hd : decode μ.2.1 pc = .ok (.lreturn, 1)) (hr : μ.2.2.2 = some .long) (h1 : n ≤ mc) (h2 : k ≤ ms) (hQ : Q (some (.long v)) ws) : AW G μ d mc ms Q pc L [.long v] ws n k := by
  intro p e s m args below meth c H locs A ls C hS hP hD hl
  refine W.widen h1 h2 ?_
  exact W.lret C.1 C.2.1 (C.2.2.1.trans hr) (fun t ht hW => aw_post hQ hS C.2.2.2.2.2.2.2.2.2.1 hP hD ht hW) hS.2.2 hd C.2.2.2.2.2.2.1
theorem aw_vret (hd : decode μ.2.1 pc = .ok (.return_, 1)) (hr : μ.2.2.2 = none) (h1 : n ≤ mc) (h2 : k ≤ ms) (hQ : Q none ws) : AW G μ d mc ms Q pc L [] ws n k := by
  intro p e s m args below meth c H locs A ls C hS hP hD hl
  refine W.widen h1 h2 ?_
  exact W.vret C.1 C.2.1 (C.2.2.1.trans hr) (fun t ht hW => aw_post hQ hS C.2.2.2.2.2.2.2.2.2.1 hP hD ht hW) hS.2.2 hd C.2.2.2.2.2.2.1
theorem mt_start {av : List Value} {ws : va_W} (hy : plainName μ.1.cls = true) (ha : (lg_sl av).length ≤ μ.2.2.1) (hL : lps 0 L = lv_args 0 av) (kk : AW G μ d mc ms Q 0 L [] ws 0 0) : MT G μ d mc ms av ws Q := by
  intro sz
  refine Met.ofW (cc := μ.2.1) (maxL := μ.2.2.1) (ret := μ.2.2.2) hy rfl ?_
  intro p e s m args below meth c s₁ B hml hv
  obtain ⟨rfl, hsz, hP, hK, hD0, hCl, hF⟩ := hv
  have hts := atoms_spec (ws := xW μ) B.pre
  have hown : s.vm.findClass μ.1.cls = some m.cls := findClass_of_methodNamed B.named
  have hin : meth.name = μ.1.name := (name_of_methodNamed B.named B.method).1
  subst hsz
  have hD := hD0.self (sz := s.heap.size)
  have hl := lv_entry av ha
  rw [lg_entry_eq]
  exact kk p e s m _ below meth c _ _ _ _ ⟨B.exec, B.bytes, B.returns, hml, hown, fun w h => hts w (List.mem_cons_of_mem _ h), B.notSynchronized, hin, fun q h => Or.inr h, hK, hCl, hF⟩ va_S.rf hP hD (lh_of hl hL)
theorem aw_sub {L' : List (Option Value)} (hs : ∀ (i : Nat) (v : Value), L'[i]? = some (some v) → L[i]? = some (some v)) (kk : AW G μ d mc ms Q pc L' st ws n k) : AW G μ d mc ms Q pc L st ws n k := by
  intro p e s m args below meth c H locs A ls C hS hP hD hl
  exact kk p e s m args below meth c H locs A ls C hS hP hD (lh_sub hl hs)
theorem aw_pick {w9 : va_W} (is : List Nat) (hn : va_nd is = true) (hs : is.map (fun i => ws[i]?) = w9.map some) (kk : AW G μ d mc ms Q pc L st w9 n k) : AW G μ d mc ms Q pc L st ws n k := by
  intro p e s m args below meth c H locs A ls C hS hP hD hl
  have hs2 : is.filterMap (fun i => ws[i]?) = w9 := by
    have := congrArg (List.filterMap id) hs
    simpa [List.filterMap_map, Function.comp_def] using this
  exact kk p e s m args below meth c H locs A ls C hS (hP.sub is hs2) (hD.sub is hn hs) hl
end AWR
section AWCALL
variable {p : Program} {l : Launch} {e : Env} {R : Room} {s : State} {m : MethodId} {args : Array Value} {below : List Frame} {meth : Method} {c : Code} {H : Heap} {locs : List Loc} {cells slots : Nat} {Z : State → Prop}
variable {pc : Nat} {ls : Array Slot} {rest st0 : List Value} {a : Array Value} {A0 A1 : Nat → Prop} {H0 : Heap} {mc ms : Nat} {free : Addr → Prop} {G : xG} {Q : xQ}
theorem aw_run (hr : va_Run p l e R s m args below meth c H locs cells slots mc ms (F0 m pc ls st0) rest (aQ G Q A1 a) free) (hS : va_S A0 H0 H locs) (hA : ∀ q, q < H.size → A1 q → A0 q) (hf : ∀ q, free q → A0 q)
    (kk : ∀ (v : Option Value) (w1 : va_W) (t : State) (H1 : Heap) (locs1 : List Loc), t.heap = H1 → s.vm.Alike t.vm → Q v w1 → va_P G.2.1 vwCl w1 H1 → va_D A1 w1 → H.size ≤ H1.size → (∀ q : Nat, q < H.size → ¬ A1 q → H1[q]? = H[q]?) → va_S A0 H0 H1 locs1 → W p l e R s m args below meth c H1 locs1 (cells + mc) (slots + ms) Z (F0 m (pc + 3) ls (v.toList ++ rest))) : W p l e R s m args below meth c H locs cells slots Z (F0 m pc ls st0) := by
  intro T hT X
  obtain ⟨v, st₀, t, T', L, h0, X', hL, e1, e2, ⟨⟨v2, w1, hv, hq, hP1, -, hD1⟩, hz, hk⟩, st⟩ := hr T hT X
  cases hv
  rw [h0] at hz hk
  obtain ⟨t2, a1, b1⟩ := kk v w1 t T'.heap (locs ++ L) e1.symm (by rw [← e2]; exact X'.warmed.alike) hq (by rw [e1]; exact hP1) hD1 (by rw [e1]; exact hz) (fun q h1 h2 => by rw [e1]; exact hk q h1 h2)
    ⟨Nat.le_trans hS.1 (by rw [e1]; exact hz), fun q h1 h2 => by rw [e1, hk q (Nat.lt_of_lt_of_le h1 hS.1) (fun z => h2 (hA q (Nat.lt_of_lt_of_le h1 hS.1) z))]; exact hS.2.1 q h1 h2, fun q hq => by
      rcases List.mem_append.mp hq with h | h
      · exact hS.2.2 q h
      · exact hf _ (hL q h)⟩ T' rfl X'
  exact ⟨t2, st t2 a1, b1⟩
theorem xP_blind {G : xG} {av : List Value} {ws : va_W} {sz : Nat} : FrameBlind (xP G av ws sz) := fun a U g mk q => by
  obtain ⟨q0, q1, qP, qK, qD, qC, qF⟩ := q
  exact ⟨q0, q1, qP, va_K.moved (u := U) (U := U.calling g mk a) (Vm.Alike.refl U.vm) qK, qD, qC, qC _ _ _ _ (State.WarmedH.refl U) (fun _ h => h) (fun _ _ _ => rfl) qF⟩
end AWCALL
section AWINV
variable {G : xG} {μ μ' : xM} {d mc ms mc' ms' : Nat} {Q : xQ} {pc : Nat} {L : List (Option Value)} {rest : List Value} {ws wc wr : va_W} {n k idx np : Nat}
/-- a call with the callee's cells cut out by their places; what comes back stands behind the rest -/
theorem aw_invV {As : List Value} {b q0 ci : Nat} {CR : vw_C} {fs : List Value} {st9 : List Value} (isC isR : List Nat) (hd : decode μ.2.1 pc = .ok (.invokevirtual idx, 3))
    (hcode : Cond.code μ'.1 μ'.2.1 μ'.2.2.1 μ'.2.2.2 ∈ gtbl) (hlk : Cond.methodLink μ.1.cls idx μ'.1 ∈ gtbl) (him : Cond.instanceMethod μ'.1 ∈ gtbl) (hse : Cond.selects μ'.1.cls μ'.1 μ'.1 ∈ gtbl) (hini : Cond.initialized μ'.1.cls ∈ gtbl)
    (hdd : μ'.1.cls ≠ "java/lang/invoke/MethodHandle" ∧ μ'.1.cls ≠ "java/lang/invoke/VarHandle" ∧ (parseMethodDescriptor μ'.1.desc).map (fun d => d.parameters.length) = some np) (hL9 : μ'.2.2.1 ≤ 21)
    (hn : As.length = np) (hst : As.reverse ++ .ref b :: rest = st9) (hcat : (rest.map fun v => v.category).sum ≤ 8) (hcl : vwCl[ci]? = some CR) (hCR : CR.1 = μ'.1.cls) (hq : wc[q0]? = some (b, .inr (ci, fs)))
    (hC : isC.map (fun i => ws[i]?) = wc.map some) (hCn : va_nd isC = true) (hR : isR.map (fun i => ws[i]?) = wr.map some) (hRn : va_nd isR = true) (hdis : ∀ i ∈ isR, i ∉ isC) (hf1 : n + mc' ≤ mc) (hf2 : k + ms' ≤ ms)
    (hM : MT G μ' d mc' ms' (.ref b :: As) wc (fun v w => AW G μ (d + 1) mc ms Q (pc + 3) L (v.toList ++ rest) (wr ++ w) (n + mc') (k + ms'))) : AW G μ (d + 1) mc ms Q pc L st9 ws n k := by
  intro p e s m args below meth c H locs A ls C hS hP hD hl
  obtain ⟨hx, hb, hr, hml, hown, hts, hlocks, hname, hA, hK, hCl, hF⟩ := id C
  have hC2 : isC.filterMap (fun i => ws[i]?) = wc := by
    have := congrArg (List.filterMap id) hC
    simpa [List.filterMap_map, Function.comp_def] using this
  have hPc := hP.sub isC hC2
  have hDc := hD.sub isC hCn hC
  have hFc := va_free (wc := wc) hD hS hA isC hC
  refine aw_run (va_runV (C := μ'.1.cls) (As := As) (rest := rest) (Ts := gtbl) (nL := μ.2.2.1) ⟨hx, hb, hml, hown, hts⟩ (hM H.size) ⟨callB_of np hts (xW_good hcode) rfl rfl rfl (hts _ hini) (hts _ hlk) hdd ⟨Nat.le_refl _, by simp only [xR]; omega⟩, hts _ him, hts _ hse⟩ ⟨xP_blind, by have h8 := va_recv hK hPc hcl hq; rw [hCR] at h8; exact h8, fun U hU hW => ⟨rfl, by rw [hU], by rw [hU]; exact hPc, va_K.moved hW.alike hK, hDc.weaken (fun _ _ _ _ => trivial), hCl, hCl A _ s U hW hFc (fun q h1 h2 => by rw [hU]; exact hS.2.1 q h1 h2) hF⟩⟩ rfl hn hl.1 hst.symm (lv_room hcat) hd ⟨hf1, hf2⟩) hS (fun q _ h => hFc q h) hFc ?_
  intro v w1 t H1 locs1 ht hvm hQ hP1 hD1 hz hk1 hS1
  obtain ⟨hP2, hD2⟩ := va_join (wr := wr) (w1 := w1) hP hD isC isR hC hR hRn hdis hk1 hFc hP1 hD1
  exact hQ p e s m args below meth c H1 locs1 A ls C hS1 hP2 hD2 hl
theorem aw_invS {As : List Value} {st9 : List Value} (isC isR : List Nat) (hd : decode μ.2.1 pc = .ok (.invokestatic idx, 3))
    (hcode : Cond.code μ'.1 μ'.2.1 μ'.2.2.1 μ'.2.2.2 ∈ gtbl) (hlk : Cond.methodLink μ.1.cls idx μ'.1 ∈ gtbl) (him : Cond.static μ'.1 ∈ gtbl) (hini : Cond.initialized μ'.1.cls ∈ gtbl)
    (hdd : μ'.1.cls ≠ "java/lang/invoke/MethodHandle" ∧ μ'.1.cls ≠ "java/lang/invoke/VarHandle" ∧ (parseMethodDescriptor μ'.1.desc).map (fun d => d.parameters.length) = some np) (hL9 : μ'.2.2.1 ≤ 21)
    (hn : As.length = np) (hst : As.reverse ++ rest = st9) (hcat : (rest.map fun v => v.category).sum ≤ 8)
    (hC : isC.map (fun i => ws[i]?) = wc.map some) (hCn : va_nd isC = true) (hR : isR.map (fun i => ws[i]?) = wr.map some) (hRn : va_nd isR = true) (hdis : ∀ i ∈ isR, i ∉ isC) (hf1 : n + mc' ≤ mc) (hf2 : k + ms' ≤ ms)
    (hM : MT G μ' d mc' ms' As wc (fun v w => AW G μ (d + 1) mc ms Q (pc + 3) L (v.toList ++ rest) (wr ++ w) (n + mc') (k + ms'))) : AW G μ (d + 1) mc ms Q pc L st9 ws n k := by
  intro p e s m args below meth c H locs A ls C hS hP hD hl
  obtain ⟨hx, hb, hr, hml, hown, hts, hlocks, hname, hA, hK, hCl, hF⟩ := id C
  have hC2 : isC.filterMap (fun i => ws[i]?) = wc := by
    have := congrArg (List.filterMap id) hC
    simpa [List.filterMap_map, Function.comp_def] using this
  have hPc := hP.sub isC hC2
  have hDc := hD.sub isC hCn hC
  have hFc := va_free (wc := wc) hD hS hA isC hC
  refine aw_run (va_runS (As := As) (rest := rest) (Ts := gtbl) (nL := μ.2.2.1) ⟨hx, hb, hml, hown, hts⟩ (hM H.size) ⟨callB_of np hts (xW_good hcode) rfl rfl rfl (hts _ hini) (hts _ hlk) hdd ⟨Nat.le_refl _, by simp only [xR]; omega⟩, hts _ him⟩ ⟨xP_blind, fun U hU hW => ⟨rfl, by rw [hU], by rw [hU]; exact hPc, va_K.moved hW.alike hK, hDc.weaken (fun _ _ _ _ => trivial), hCl, hCl A _ s U hW hFc (fun q h1 h2 => by rw [hU]; exact hS.2.1 q h1 h2) hF⟩⟩ rfl hn hl.1 hst.symm (lv_room hcat) hd ⟨hf1, hf2⟩) hS (fun q _ h => hFc q h) hFc ?_
  intro v w1 t H1 locs1 ht hvm hQ hP1 hD1 hz hk1 hS1
  obtain ⟨hP2, hD2⟩ := va_join (wr := wr) (w1 := w1) hP hD isC isR hC hR hRn hdis hk1 hFc hP1 hD1
  exact hQ p e s m args below meth c H1 locs1 A ls C hS1 hP2 hD2 hl
end AWINV
