/-! Words with eight bits a letter and with five. Lists of letters, the last first. -/
def er8 : List Nat → Nat
  | [] => 0
  | c :: l => er8 l * 256 + c
def er5 : List Nat → Nat
  | [] => 0
  | c :: l => er5 l * 32 + (c - 96)
def okL (l : List Nat) : Prop := l.length ≤ 7 ∧ ∀ c ∈ l, 97 ≤ c ∧ c ≤ 122
theorem okL_t {c : Nat} {l : List Nat} (h : okL (c :: l)) : okL l := ⟨by have := h.1; rw [List.length_cons] at this; omega, fun x hx => h.2 x (List.mem_cons_of_mem _ hx)⟩
theorem er8_lt : ∀ l : List Nat, (∀ c ∈ l, 97 ≤ c ∧ c ≤ 122) → er8 l < 256 ^ l.length := by
  intro l
  induction l with
  | nil => intro _; decide
  | cons c l ih =>
    intro h
    have h1 := ih (fun x hx => h x (List.mem_cons_of_mem _ hx))
    have h2 := h c List.mem_cons_self
    rw [er8, List.length_cons, Nat.pow_succ]
    omega
theorem er5_lt : ∀ l : List Nat, (∀ c ∈ l, 97 ≤ c ∧ c ≤ 122) → er5 l < 32 ^ l.length := by
  intro l
  induction l with
  | nil => intro _; decide
  | cons c l ih =>
    intro h
    have h1 := ih (fun x hx => h x (List.mem_cons_of_mem _ hx))
    have h2 := h c List.mem_cons_self
    rw [er5, List.length_cons, Nat.pow_succ]
    omega
theorem er8_inj : ∀ l m : List Nat, (∀ c ∈ l, 97 ≤ c ∧ c ≤ 122) → (∀ c ∈ m, 97 ≤ c ∧ c ≤ 122) → er8 l = er8 m → l = m := by
  intro l
  induction l with
  | nil =>
    intro m _ hm e
    cases m with
    | nil => rfl
    | cons c m => have := hm c List.mem_cons_self; rw [er8, er8] at e; omega
  | cons c l ih =>
    intro m hl hm e
    have h1 := hl c List.mem_cons_self
    cases m with
    | nil => rw [er8, er8] at e; omega
    | cons b m =>
      have h2 := hm b List.mem_cons_self
      rw [er8, er8] at e
      have e1 : c = b := by omega
      have e2 : er8 l = er8 m := by omega
      rw [e1, ih m (fun x hx => hl x (List.mem_cons_of_mem _ hx)) (fun x hx => hm x (List.mem_cons_of_mem _ hx)) e2]
theorem er5_inj : ∀ l m : List Nat, (∀ c ∈ l, 97 ≤ c ∧ c ≤ 122) → (∀ c ∈ m, 97 ≤ c ∧ c ≤ 122) → er5 l = er5 m → l = m := by
  intro l
  induction l with
  | nil =>
    intro m _ hm e
    cases m with
    | nil => rfl
    | cons c m => have := hm c List.mem_cons_self; rw [er5, er5] at e; omega
  | cons c l ih =>
    intro m hl hm e
    have h1 := hl c List.mem_cons_self
    cases m with
    | nil => rw [er5, er5] at e; omega
    | cons b m =>
      have h2 := hm b List.mem_cons_self
      rw [er5, er5] at e
      have e1 : c = b := by omega
      have e2 : er5 l = er5 m := by omega
      rw [e1, ih m (fun x hx => hl x (List.mem_cons_of_mem _ hx)) (fun x hx => hm x (List.mem_cons_of_mem _ hx)) e2]
theorem pow7 {b n : Nat} (hb : 1 ≤ b) (h : n ≤ 7) : b ^ n ≤ b ^ 7 := Nat.pow_le_pow_right hb h
theorem okL_8 {l : List Nat} (h : okL l) : er8 l < 2 ^ 56 := Nat.lt_of_lt_of_le (er8_lt l h.2) (Nat.le_trans (pow7 (by decide) h.1) (by decide))
theorem okL_5 {l : List Nat} (h : okL l) : er5 l < 2 ^ 35 := Nat.lt_of_lt_of_le (er5_lt l h.2) (Nat.le_trans (pow7 (by decide) h.1) (by decide))
theorem lN_inj {a b : Nat} (ha : a < 2 ^ 63) (hb : b < 2 ^ 63) (h : lN a = lN b) : a = b := by
  have e : ∀ z, (lN z).toBitVec = BitVec.ofNat 64 z := fun z => rfl
  have h2 := congrArg (fun z => z.toBitVec.toNat) h
  simp only [e, BitVec.toNat_ofNat] at h2
  rw [Nat.mod_eq_of_lt (by omega), Nat.mod_eq_of_lt (by omega)] at h2
  exact h2
/-- a name with eight bits a letter, and the same with five -/
def NMR (x y : Int64) : Prop := ∃ l : List Nat, okL l ∧ x = lN (er8 l) ∧ y = lN (er5 l)
theorem NMR.eq {x y x' y' : Int64} (h : NMR x y) (h' : NMR x' y') : x = x' ↔ y = y' := by
  obtain ⟨l, hl, rfl, rfl⟩ := h
  obtain ⟨m, hm, rfl, rfl⟩ := h'
  have a8 := okL_8 hl
  have b8 := okL_8 hm
  have a5 := okL_5 hl
  have b5 := okL_5 hm
  constructor
  · intro e; rw [er8_inj l m hl.2 hm.2 (lN_inj (by omega) (by omega) e)]
  · intro e; rw [er5_inj l m hl.2 hm.2 (lN_inj (by omega) (by omega) e)]
/-- the letters of a run -/
def LSr (τ : Nat → Int32) (q : Nat) : Nat → List Nat
  | 0 => []
  | i + 1 => chr τ (q + i) :: LSr τ q i
theorem LSr_len (τ : Nat → Int32) (q : Nat) : ∀ i, (LSr τ q i).length = i := by
  intro i
  induction i with
  | zero => rfl
  | succ i ih => rw [LSr, List.length_cons, ih]
theorem isL_b {c : Nat} (h : isL c = true) : 97 ≤ c ∧ c ≤ 122 := by unfold isL at h; simpa using h
theorem isD_b {c : Nat} (h : isD c = true) : 48 ≤ c ∧ c ≤ 57 := by unfold isD at h; simpa using h
/-- all are letters -/
theorem run_L (τ : Nat → Int32) (q : Nat) : ∀ r, cDs τ q r = 0 → (∀ c ∈ LSr τ q r, 97 ≤ c ∧ c ≤ 122) ∧ runA τ q true r = true ∧ cLs τ q r = r := by
  intro r
  induction r with
  | zero => intro _; exact ⟨fun c h => absurd h List.not_mem_nil, rfl, rfl⟩
  | succ r ih =>
    intro h
    rw [cDs] at h
    split at h
    · rename_i hl
      obtain ⟨h1, h2, h3⟩ := ih h
      refine ⟨fun c hc => ?_, by rw [runA, h2, hl]; rfl, by rw [cLs, if_pos hl, h3]⟩
      rcases List.mem_cons.mp hc with e | e
      · rw [e]; exact isL_b hl
      · exact h1 c e
    · omega
/-- none is one -/
theorem run_D (τ : Nat → Int32) (q : Nat) : ∀ r, cLs τ q r = 0 → runA τ q false r = true ∧ cDs τ q r = r := by
  intro r
  induction r with
  | zero => intro _; exact ⟨rfl, rfl⟩
  | succ r ih =>
    intro h
    rw [cLs] at h
    split at h
    · omega
    · rename_i hl
      obtain ⟨h1, h2⟩ := ih h
      have hl2 : isL (chr τ (q + r)) = false := by simpa using hl
      exact ⟨by rw [runA, h1, hl2]; rfl, by rw [cDs, if_neg hl, h2]⟩
theorem runA_t (τ : Nat → Int32) (q : Nat) : ∀ r, runA τ q true r = true → cDs τ q r = 0 := by
  intro r
  induction r with
  | zero => intro _; rfl
  | succ r ih =>
    intro h
    rw [runA, Bool.and_eq_true] at h
    have h2 : isL (chr τ (q + r)) = true := by simpa using h.2
    rw [cDs, if_pos h2]; exact ih h.1
theorem runA_f (τ : Nat → Int32) (q : Nat) : ∀ r, runA τ q false r = true → cLs τ q r = 0 := by
  intro r
  induction r with
  | zero => intro _; rfl
  | succ r ih =>
    intro h
    rw [runA, Bool.and_eq_true] at h
    have h2 : isL (chr τ (q + r)) = false := by simpa using h.2
    rw [cLs, if_neg (by rw [h2]; decide)]; exact ih h.1
theorem run_8 (τ : Nat → Int32) (q : Nat) : ∀ r, r ≤ 7 → runW τ q r = er8 (LSr τ q r) := by
  intro r
  induction r with
  | zero => intro _; rfl
  | succ r ih => intro h; rw [runW, if_pos (by omega), ih (by omega), LSr, er8]
theorem run_5 (τ : Nat → Int32) (q : Nat) : ∀ r, cDs τ q r = 0 → nm5 τ q r = lN (er5 (LSr τ q r)) := by
  intro r
  induction r with
  | zero => intro _; rfl
  | succ r ih =>
    intro h
    have hc := (run_L τ q (r + 1) h).1 _ List.mem_cons_self
    rw [cDs] at h
    split at h
    · rename_i hl
      rw [nm5, if_pos hl, ih h, pk_sub (by omega), nI_l (by omega), show (32 : Int64) = lN 32 from rfl, lN_mul, lN_add, LSr, er5]
    · omega
theorem run_N (τ : Nat → Int32) (q : Nat) : ∀ r, r ≤ 3 → cLs τ q r = 0 → (∀ j, j < r → isA (chr τ (q + j)) = true) → nmD τ q r = nI (runN τ q r) ∧ runN τ q r < 10 ^ r := by
  intro r
  induction r with
  | zero => intro _ _ _; exact ⟨rfl, by show 0 < 1; decide⟩
  | succ r ih =>
    intro hr h hA
    rw [cLs] at h
    split at h
    · omega
    · rename_i hl
      obtain ⟨h1, h2⟩ := ih (by omega) h (fun j hj => hA j (by omega))
      have hd : isD (chr τ (q + r)) = true := by
        have := hA r (by omega)
        unfold isA at this
        simpa [hl] using this
      have hb := isD_b hd
      rw [nmD, if_neg hl, h1, runN, if_pos (by omega), pk_sub hb.1, pk_mul, nI_add]
      refine ⟨by rw [show runN τ q r * 10 + (chr τ (q + r) - 48) = 10 * runN τ q r + chr τ (q + r) - 48 by omega], ?_⟩
      rw [Nat.pow_succ]; omega
/-- the words with eight bits a letter -/
def wC8 : Nat → Int64 := fun k => match k with
  | 0 => 1818324580
  | 1 => 495874699877
  | 2 => 1919902052
  | 3 => 128034675979385
  | 4 => 123581014175598
  | 5 => 27991845698233715
  | 6 => 1885430644
  | 7 => 422826041707
  | 8 => 427021005669
  | 9 => 1869636974
  | 10 => 1818586724
  | 11 => 6578553
  | 12 => 28530
  | 13 => 6385252
  | 14 => 7237492
  | 15 => 1752132965
  | 16 => 495875089259
  | 17 => 26990
  | 18 => 28518
  | 19 => 1718773093
  | 20 => 119182899770472
  | 21 => 499850634606
  | 22 => 27991845698233700
  | 23 => 121450625394034
  | _ => 0
def wLt : Nat → List Nat := fun k => match k with
  | 0 => [100, 110, 97, 108]
  | 1 => [101, 114, 111, 116, 115]
  | 2 => [100, 97, 111, 114]
  | 3 => [121, 116, 97, 101, 114, 116]
  | 4 => [110, 111, 115, 114, 101, 112]
  | 5 => [115, 101, 115, 115, 111, 114, 99]
  | 6 => [116, 99, 97, 112]
  | 7 => [107, 97, 101, 114, 98]
  | 8 => [101, 115, 111, 108, 99]
  | 9 => [110, 101, 112, 111]
  | 10 => [100, 110, 101, 108]
  | 11 => [121, 97, 100]
  | 12 => [114, 111]
  | 13 => [100, 110, 97]
  | 14 => [116, 111, 110]
  | 15 => [101, 109, 111, 104]
  | 16 => [107, 99, 117, 116, 115]
  | 17 => [110, 105]
  | 18 => [102, 111]
  | 19 => [101, 101, 114, 102]
  | 20 => [104, 116, 103, 110, 101, 108]
  | 21 => [110, 101, 107, 97, 116]
  | 22 => [100, 101, 115, 115, 111, 114, 99]
  | 23 => [114, 101, 98, 109, 117, 110]
  | _ => []
theorem wNMR : ∀ k, k < 24 → NMR (wC8 k) (wC5 k) := by
  intro k hk
  refine ⟨wLt k, ?_, ?_, ?_⟩
  · have : ∀ k, k < 24 → (wLt k).length ≤ 7 ∧ ∀ c ∈ wLt k, 97 ≤ c ∧ c ≤ 122 := by decide +kernel
    exact this k hk
  · have : ∀ k, k < 24 → wC8 k = lN (er8 (wLt k)) := by decide +kernel
    exact this k hk
  · have : ∀ k, k < 24 → wC5 k = lN (er5 (wLt k)) := by decide +kernel
    exact this k hk
theorem findF_none {p : Nat → Bool} : ∀ (n i : Nat), findF p n i = none → ∀ k, i ≤ k → k < i + n → p k = false := by
  intro n
  induction n with
  | zero => intro i _ k h1 h2; omega
  | succ n ih =>
    intro i h k h1 h2
    rw [findF] at h
    split at h
    · cases h
    · rename_i hp
      by_cases e : k = i
      · subst e; simpa using hp
      · exact ih (i + 1) h k (by omega) (by omega)
/-- a name's word: it has the same bits -/
theorem wOf_iff {x y : Int64} (h : NMR x y) {k : Nat} (hk : k < 24) : wOf y = some k ↔ x = wC8 k := by
  rw [(h.eq (wNMR k hk))]
  constructor
  · intro e
    have := (findF_lt _ _ _ e).2.2
    exact (of_decide_eq_true this).symm
  · intro e
    cases hf : wOf y with
    | none =>
      have := findF_none _ _ hf k (Nat.zero_le _) (by omega)
      exact absurd e.symm (of_decide_eq_false this)
    | some j =>
      have h1 := findF_lt _ _ _ hf
      have e2 : wC5 j = y := of_decide_eq_true h1.2.2
      have inj : ∀ a, a < 24 → ∀ b, b < 24 → wC5 a = wC5 b → a = b := by decide +kernel
      rw [inj j (by omega) k hk (by rw [e2, e])]
theorem wOf_no {x y : Int64} (h : NMR x y) : wOf y = none ↔ ∀ k, k < 24 → ¬ x = wC8 k := by
  constructor
  · intro e k hk e2
    rw [(wOf_iff h hk).mpr e2] at e; cases e
  · intro e
    cases hf : wOf y with
    | none => rfl
    | some j =>
      have h1 := (wOf_ok y) j hf
      exact absurd ((wOf_iff h h1).mp hf) (e j h1)
