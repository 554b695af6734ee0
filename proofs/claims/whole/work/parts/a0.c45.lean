/-- who is left to go -/
def rmL (t : Nat → Nat) (l gone : Nat) : List Nat := (List.range (t 2)).filter (fun q => decide (whyX t q l = 0) && !gone.testBit q)
def caL (F : (Nat → Nat) → Nat → List Nat → Nat × List Nat → Nat × List Nat) (t : Nat → Nat) (l : Nat) (u : Nat → Nat) (gone : Nat) (pa : List Nat) : Nat → Nat → Nat × List Nat → Nat × List Nat
  | 0, _, acc => acc
  | n + 1, p, acc => caL F t l u gone pa n (p + 1) (if (decide (whyX t p l = 0) && !gone.testBit p) = true then F (crS u l p) (gone ||| 2 ^ p) (pa ++ [p]) acc else acc)
def caD (t : Nat → Nat) (l : Nat) : Nat → (Nat → Nat) → Nat → List Nat → Nat × List Nat → Nat × List Nat
  | 0, u, _, pa, acc => if acc.1 < allLongF u + 1 then (allLongF u + 1, pa) else acc
  | f + 1, u, gone, pa, acc => caL (caD t l f) t l u gone pa (t 2) 0 acc
theorem caL_fold {F : (Nat → Nat) → Nat → List Nat → Nat × List Nat → Nat × List Nat} {t : Nat → Nat} {l gone : Nat} {u : Nat → Nat} {pa : List Nat} : ∀ n p acc, caL F t l u gone pa n p acc = ((List.range' p n).filter (fun q => decide (whyX t q l = 0) && !gone.testBit q)).foldl (fun a q => F (crS u l q) (gone ||| 2 ^ q) (pa ++ [q]) a) acc := by
  intro n
  induction n with
  | zero => intro p acc; rfl
  | succ n ih =>
    intro p acc
    rw [caL, ih, List.range'_succ, List.filter_cons]
    by_cases h : (decide (whyX t p l = 0) && !gone.testBit p) = true
    · rw [if_pos h, if_pos h, List.foldl_cons]
    · rw [if_neg h, if_neg h]
theorem rmL_erase {t : Nat → Nat} {l gone q : Nat} : rmL t l (gone ||| 2 ^ q) = (rmL t l gone).erase q := by
  have hn : (rmL t l gone).Nodup := List.Pairwise.filter _ List.nodup_range
  rw [hn.erase_eq_filter]
  unfold rmL
  rw [List.filter_filter]
  apply List.filter_congr
  intro x _
  rw [Nat.testBit_or, Nat.testBit_two_pow]
  have hq : (x != q) = !decide (q = x) := by
    by_cases e : q = x
    · subst e; simp
    · rw [decide_eq_false e]; simp; exact fun h => e h.symm
  rw [hq]
  cases decide (whyX t x l = 0) <;> cases gone.testBit x <;> cases decide (q = x) <;> rfl
theorem fold_flat {α β γ : Type} (f : γ → β → γ) (h : α → List β) : ∀ (L : List α) (c : γ), (L.flatMap h).foldl f c = L.foldl (fun a x => (h x).foldl f a) c := by
  intro L
  induction L with
  | nil => intro c; rfl
  | cons x L ih => intro c; rw [List.flatMap_cons, List.foldl_append, ih]; rfl
theorem fold_cong {α γ : Type} {f g : γ → α → γ} : ∀ (L : List α) (c : γ), (∀ x ∈ L, ∀ a, f a x = g a x) → L.foldl f c = L.foldl g c := by
  intro L
  induction L with
  | nil => intro c _; rfl
  | cons x L ih => intro c h; rw [List.foldl_cons, List.foldl_cons, h x List.mem_cons_self, ih _ (fun y hy => h y (List.mem_cons_of_mem _ hy))]
theorem crL_app {t : Nat → Nat} {l q : Nat} {pa : List Nat} : crL t l (pa ++ [q]) = crS (crL t l pa) l q := by unfold crL; rw [List.foldl_append]; rfl
theorem caD_eq {t : Nat → Nat} {l : Nat} : ∀ f gone pa acc, (rmL t l gone).length = f → caD t l f (crL t l pa) gone pa acc = (PM f (rmL t l gone)).foldl (fun a r => bsS t l a (pa ++ r)) acc := by
  intro f
  induction f with
  | zero =>
    intro gone pa acc _
    rw [caD]
    show _ = bsS t l acc (pa ++ [])
    rw [List.append_nil]
    rfl
  | succ f ih =>
    intro gone pa acc hl
    rw [caD, caL_fold, ← List.range_eq_range', PM, fold_flat]
    show (rmL t l gone).foldl _ acc = _
    apply fold_cong
    intro q hq a
    rw [← crL_app, ih (gone ||| 2 ^ q) (pa ++ [q]) a (by rw [rmL_erase, List.length_erase_of_mem hq, hl]; rfl), List.foldl_map, rmL_erase]
    apply fold_cong
    intro r _ a9
    rw [List.append_assoc]
    rfl
theorem rmL_0 {t : Nat → Nat} {l : Nat} : rmL t l 0 = caG t l := by
  unfold rmL caG goL
  apply List.filter_congr
  intro x _
  rw [Nat.zero_testBit]; simp
theorem caD_caF {t : Nat → Nat} {l : Nat} : caD t l (caG t l).length t 0 [] (0, []) = caF t l := by
  have := caD_eq (t := t) (l := l) (caG t l).length 0 [] (0, []) (by rw [rmL_0])
  rw [rmL_0] at this
  exact this
/-- lands' state behind some who went over: those left are as they were -/
def CVu (t : Nat → Nat) (l gone : Nat) (u : Nat → Nat) : Prop := (∀ j, ¬ (j = 92 ∨ (94 ≤ j ∧ j < 101) ∨ (108 ≤ j ∧ j < 138)) → u j = t j) ∧ (∀ p, p < t 2 → gone.testBit p = false → u (108 + p) = t (108 + p) ∧ u (114 + p) = t (114 + p)) ∧ ∀ p, p < t 2 → u (114 + p) ≤ 240
theorem CVu.rf {t : Nat → Nat} {l : Nat} (hw : WT t) : CVu t l 0 t := ⟨fun _ _ => rfl, fun _ _ _ => ⟨rfl, rfl⟩, fun p hp => (hw.2.2.2.2.2.1 p hp).2.2.2⟩
theorem roadF_cong {t u : Nat → Nat} (h : ∀ j, ¬ (j = 92 ∨ (94 ≤ j ∧ j < 101) ∨ (108 ≤ j ∧ j < 138)) → u j = t j) (h1 : t 1 ≤ 12) (x y : Nat) : roadF u x y = roadF t x y := by
  exact roadF_of (h 1 (by omega)) h1 (fun r hr => ⟨h _ (by omega), h _ (by omega)⟩) x y
theorem whyX_cong {t u : Nat → Nat} {l gone p : Nat} (hw : WT t) (h : CVu t l gone u) (hp : p < t 2) (hg : gone.testBit p = false) (hl : l < 7) : whyX u p l = whyX t p l := by
  obtain ⟨hb, h0, h1, h2, hR, hP, hD, hC, hT⟩ := id hw
  obtain ⟨a1, a2⟩ := h.2.1 p hp hg
  have hh := hP p hp
  have hr : ∀ r, roadF t (t (108 + p)) l = some r → r < t 1 := fun r e => by have := (findF_lt _ _ _ e).2.1; omega
  unfold whyX whyBy sparedF
  rw [a1, a2, h.1 (79 + p) (by omega), h.1 (101 + t (79 + p)) (by omega), roadF_cong h.1 h1, h.1 93 (by omega), h.1 (3 + l) (by omega)]
  cases e : roadF t (t (108 + p)) l with
  | none => rfl
  | some r =>
    have := hr r e
    dsimp only
    rw [h.1 (48 + r) (by omega), h.1 (60 + r) (by omega)]
theorem sumF_upd {f g : Nat → Nat} {q : Nat} : ∀ n, q < n → (∀ p, p < n → ¬ p = q → g p = f p) → sumF g n + f q = sumF f n + g q := by
  intro n
  induction n with
  | zero => intro h; omega
  | succ n ih =>
    intro hq h
    rw [sumF, sumF]
    by_cases e : q = n
    · subst e
      have : sumF g q = sumF f q := by
        have : ∀ m, m ≤ q → sumF g m = sumF f m := by
          intro m
          induction m with
          | zero => intro _; rfl
          | succ m ih2 => intro hm; rw [sumF, sumF, ih2 (by omega), h m (by omega) (by omega)]
        exact this q (Nat.le_refl _)
      omega
    · have := ih (by omega) (fun p hp hpq => h p (by omega) hpq)
      have := h n (by omega) (fun e9 => e e9.symm)
      omega
theorem sumF_ge {f : Nat → Nat} {q : Nat} : ∀ n, q < n → f q ≤ sumF f n := by
  intro n
  induction n with
  | zero => intro h; omega
  | succ n ih =>
    intro hq
    rw [sumF]
    by_cases e : q = n
    · subst e; omega
    · have := ih (by omega); omega
/-- one more goes over -/
theorem CVu.go {t u : Nat → Nat} {l gone p : Nat} (hw : WT t) (h : CVu t l gone u) (hp : p < t 2) (hg : gone.testBit p = false) (hl : l < t 0) (hy : whyX t p l = 0) : crS u l p = crossF u p l ∧ CVu t l (gone ||| 2 ^ p) (crossF u p l) ∧ tollF t l (t (79 + p)) (t (101 + t (79 + p))) < t (114 + p) ∧ crossF u p l (94 + l) = u (94 + l) + tollF t l (t (79 + p)) (t (101 + t (79 + p))) - giftF t l (t (79 + p)) (u (94 + l)) (t (114 + p)) ∧ tollF t l (t (79 + p)) (t (101 + t (79 + p))) ≤ allLongF u ∧ allLongF (crossF u p l) = allLongF u - tollF t l (t (79 + p)) (t (101 + t (79 + p))) + giftF t l (t (79 + p)) (u (94 + l)) (t (114 + p)) := by
  obtain ⟨hb, h0, h1, h2, hR, hP, hD, hC, hT⟩ := id hw
  obtain ⟨a1, a2⟩ := h.2.1 p hp hg
  have hh := hP p hp
  have hx := (whyX_cong hw h hp hg (by omega)).trans hy
  have e79 := h.1 (79 + p) (by omega)
  have e101 := h.1 (101 + t (79 + p)) (by omega)
  have et : tollF u l (u (79 + p)) (u (101 + u (79 + p))) = tollF t l (t (79 + p)) (t (101 + t (79 + p))) := by rw [e79, e101]; unfold tollF; rw [h.1 (3 + l) (by omega)]
  have eg : giftF u l (u (79 + p)) (u (94 + l)) (u (114 + p)) = giftF t l (t (79 + p)) (u (94 + l)) (t (114 + p)) := by rw [e79, a2]; unfold giftF givenF; rw [h.1 (10 + l) (by omega)]
  have hlt : tollF t l (t (79 + p)) (t (101 + t (79 + p))) < t (114 + p) := by
    have q : chWhy t (t (108 + p)) l (t (114 + p)) (tollF t l (t (79 + p)) (t (101 + t (79 + p)))) (t 93) = 0 := by
      rw [← whyBy_ch hh.2.2.1]; exact hy
    exact (stN_some (v := (t (108 + p), t (114 + p), 0)) hh.2.2.1 q).1
  have hgl := giftF_le (t := t) (l := l) (hm := t (79 + p)) (st := u (94 + l)) (m := t (114 + p))
  have h94 := crossF_94 (t := u) (q := p) (l := l) (by omega) (by omega) (j := l) (by omega)
  rw [if_pos rfl, et, eg] at h94
  have h114 : ∀ j, j < 6 → crossF u p l (114 + j) = if j = p then t (114 + p) + giftF t l (t (79 + p)) (u (94 + l)) (t (114 + p)) - tollF t l (t (79 + p)) (t (101 + t (79 + p))) else u (114 + j) := fun j hj => by
    have := crossF_114 (t := u) (q := p) (l := l) (by omega) (by omega) (j := j) hj
    rw [et, eg, a2] at this; exact this
  have e2 : u 2 = t 2 := h.1 2 (by omega)
  have hsum := sumF_upd (f := fun q => u (114 + q)) (g := fun q => crossF u p l (114 + q)) (q := p) (t 2) hp (fun q hq hne => by show crossF u p l (114 + q) = _; rw [h114 q (by omega), if_neg hne])
  have hpp : crossF u p l (114 + p) = t (114 + p) + giftF t l (t (79 + p)) (u (94 + l)) (t (114 + p)) - tollF t l (t (79 + p)) (t (101 + t (79 + p))) := by rw [h114 p (by omega), if_pos rfl]
  have hge := sumF_ge (f := fun q => u (114 + q)) (q := p) (t 2) hp
  change sumF _ _ + u (114 + p) = _ + crossF u p l (114 + p) at hsum
  change u (114 + p) ≤ _ at hge
  rw [a2] at hge hsum
  rw [hpp] at hsum
  have c2 : crossF u p l 2 = t 2 := (crossF_lo (t := u) (by omega) (by omega) (by omega)).trans e2
  refine ⟨if_pos hx, ⟨fun j hj => (crossF_lo (t := u) (by omega) (by omega) (by omega)).trans (h.1 j hj), fun q hq hgq => ?_, fun q hq => ?_⟩, hlt, h94, ?_, ?_⟩
  · rw [Nat.testBit_or, Nat.testBit_two_pow] at hgq
    have hne : ¬ q = p := fun e => by subst e; simp at hgq
    have hg2 : gone.testBit q = false := by cases e : gone.testBit q with | true => rw [e] at hgq; cases hgq | false => rfl
    obtain ⟨b1, b2⟩ := h.2.1 q hq hg2
    refine ⟨?_, by rw [h114 q (by omega), if_neg hne]; exact b2⟩
    have := crossF_at (t := u) (q := p) (l := l) (p := q) (by omega) (by omega) (by omega)
    rw [if_neg hne] at this
    exact this.trans b1
  · rw [h114 q (by omega)]
    split
    · omega
    · exact h.2.2 q hq
  · unfold allLongF; rw [e2]; omega
  · unfold allLongF; rw [c2, e2]; omega
theorem allLong_1440 {t u : Nat → Nat} {l gone : Nat} (h : CVu t l gone u) (h2 : t 2 ≤ 6) : allLongF u ≤ 1440 := by
  have e2 : u 2 = t 2 := h.1 2 (by omega)
  have : ∀ n, n ≤ t 2 → sumF (fun q => u (114 + q)) n ≤ 240 * n := by
    intro n
    induction n with
    | zero => intro _; exact Nat.le_refl _
    | succ n ih => intro hn; rw [sumF]; have := ih (by omega); have := h.2.2 n (by omega); omega
  have := this (t 2) (Nat.le_refl _)
  unfold allLongF; rw [e2]; omega
theorem bits_or : ∀ x, x < 64 → ∀ n, n < 6 → x < 2 ^ n → bitsN (x ||| 2 ^ n) = bitsN x + 1 := by decide +kernel
theorem bits_orF (P : Nat → Bool) : ∀ n, n ≤ 6 → bitsN (orF P n) = ((List.range n).filter P).length := by
  intro n
  induction n with
  | zero => intro _; exact (show bitsN 0 = 0 by decide)
  | succ n ih =>
    intro hn
    have hlt := orF_lt P n
    have h64 : orF P n < 64 := Nat.lt_of_lt_of_le hlt (show 2 ^ n ≤ 2 ^ 6 from Nat.pow_le_pow_right (by decide) (by omega))
    rw [List.range_succ, List.filter_append, List.length_append, ← ih (by omega), orF]
    by_cases h : P n = true
    · rw [if_pos h, bits_or _ h64 n (by omega) hlt]; simp [h]
    · rw [if_neg h]; simp [h]
