/-- all but the longest is as it was -/
def RKp (A A' : wA) : Prop := A'.1 = A.1 ∧ A'.2.1 = A.2.1 ∧ A'.2.2.1 = A.2.2.1 ∧ A'.2.2.2.1 = A.2.2.2.1
theorem RKp.tr {a b c : wA} (h : RKp a b) (g : RKp b c) : RKp a c := ⟨g.1.trans h.1, g.2.1.trans h.2.1, g.2.2.1.trans h.2.2.1, g.2.2.2.trans h.2.2.2⟩
def RUB (F : Nat → List (List Nat × nD)) (tg e k0 : Nat) (A A' : wA) : Prop := ∀ B, A'.2.2.2.2 ≤ B ↔ A.2.2.2.2 ≤ B ∧ ∀ j, k0 ≤ j → j ≤ e → ∀ r ∈ F j, r.2.1 = tg → r.2.2.1 + 1 ≤ B
theorem rnd_loop {f : nD → List Nat → wA → wA} {t : Nat → Nat} {hm sp tg e : Nat} {v : nD} {pa : List Nat} (IH : ∀ u pa' A', pa'.length = pa.length + 1 → A'.1 = 6 → RKp A' (f u pa' A') ∧ RUB (fun j => rwF t hm sp j u) tg e 0 A' (f u pa' A')) (hp : pa.length + 1 < 6) : ∀ n l A, A.1 = 6 → RKp A (gLp f t hm sp 1 tg v pa n l A) ∧ RUB (fun j => rwG (rwF t hm sp j) t hm sp v n l) tg e 0 A (gLp f t hm sp 1 tg v pa n l A) := by
  intro n
  induction n with
  | zero =>
    intro l A _
    exact ⟨⟨rfl, rfl, rfl, rfl⟩, fun B => ⟨fun h => ⟨h, fun j _ _ r hr => by cases hr⟩, fun h => h.1⟩⟩
  | succ n ih =>
    intro l A h6
    rw [gLp, if_pos (by omega), if_neg (by omega)]
    cases e1 : stN t hm sp v l with
    | none =>
      obtain ⟨a1, a2⟩ := ih (l + 1) A h6
      refine ⟨a1, fun B => (a2 B).trans ?_⟩
      have hF : ∀ j, rwG (rwF t hm sp j) t hm sp v (n + 1) l = rwG (rwF t hm sp j) t hm sp v n (l + 1) := fun j => by
        show brF (rwF t hm sp j) t hm sp v l ++ _ = _
        unfold brF; rw [e1]; rfl
      constructor
      · intro ⟨h1, h2⟩; exact ⟨h1, fun j a b r hr => h2 j a b r (by have := hF j; dsimp only at hr; rw [this] at hr; exact hr)⟩
      · intro ⟨h1, h2⟩; exact ⟨h1, fun j a b r hr => h2 j a b r (by have := hF j; dsimp only; rw [this]; exact hr)⟩
    | some u =>
      dsimp only
      obtain ⟨b1, b2⟩ := IH u (pa ++ [l]) A (by simp) h6
      generalize f u (pa ++ [l]) A = A1 at *
      obtain ⟨a1, a2⟩ := ih (l + 1) A1 (by rw [b1.1]; exact h6)
      refine ⟨b1.tr a1, fun B => (a2 B).trans ?_⟩
      have hF : ∀ j, rwG (rwF t hm sp j) t hm sp v (n + 1) l = (rwF t hm sp j u).map (fun r => (l :: r.1, r.2)) ++ rwG (rwF t hm sp j) t hm sp v n (l + 1) := fun j => by
        show brF (rwF t hm sp j) t hm sp v l ++ _ = _
        unfold brF; rw [e1]
      rw [b2 B]
      constructor
      · intro ⟨⟨h1, h2⟩, h3⟩
        refine ⟨h1, fun j a b r hr => ?_⟩
        have := hF j
        dsimp only at hr
        rw [this, List.mem_append] at hr
        rcases hr with hr | hr
        · obtain ⟨r9, c1, rfl⟩ := List.mem_map.mp hr
          exact h2 j a b r9 c1
        · exact h3 j a b r hr
      · intro ⟨h1, h2⟩
        refine ⟨⟨h1, fun j a b r hr => ?_⟩, fun j a b r hr => h2 j a b r (by have := hF j; dsimp only; rw [this]; exact List.mem_append_right _ hr)⟩
        exact h2 j a b (l :: r.1, r.2) (by have := hF j; dsimp only; rw [this]; exact List.mem_append_left _ (List.mem_map.mpr ⟨r, hr, rfl⟩))
theorem look_1 {tg nd : Nat} {v : nD} {pa : List Nat} {A : wA} : RKp A (lookA 1 tg nd v pa A) ∧ ∀ B, (lookA 1 tg nd v pa A).2.2.2.2 ≤ B ↔ A.2.2.2.2 ≤ B ∧ (0 < pa.length → v.1 = tg → v.2.1 + 1 ≤ B) := by
  unfold lookA
  rw [if_neg (by decide), if_pos rfl]
  by_cases h : 0 < pa.length ∧ v.1 = tg
  · rw [if_pos h]
    exact ⟨⟨rfl, rfl, rfl, rfl⟩, fun B => ⟨fun q => by have q : max A.2.2.2.2 (v.2.1 + 1) ≤ B := q; exact ⟨by omega, fun _ _ => by omega⟩, fun q => by show max A.2.2.2.2 (v.2.1 + 1) ≤ B; have := q.2 h.1 h.2; omega⟩⟩
  · rw [if_neg h]
    exact ⟨⟨rfl, rfl, rfl, rfl⟩, fun B => ⟨fun q => ⟨q, fun a b => absurd ⟨a, b⟩ h⟩, fun q => q.1⟩⟩
theorem rnd_node {t : Nat → Nat} {hm sp tg nd : Nat} : ∀ e v pa A, pa.length + e = 5 → A.1 = 6 → RKp A (gW t hm sp 1 tg nd e v pa A) ∧ RUB (fun j => rwF t hm sp j v) tg e (if pa.length = 0 then 1 else 0) A (gW t hm sp 1 tg nd e v pa A) := by
  intro e
  induction e with
  | zero =>
    intro v pa A h5 h6
    rw [gW]
    obtain ⟨a1, a2⟩ := look_1 (tg := tg) (nd := nd) (v := v) (pa := pa) (A := A)
    refine ⟨a1, fun B => (a2 B).trans ?_⟩
    rw [if_neg (by omega)]
    constructor
    · intro ⟨h1, h2⟩
      refine ⟨h1, fun j _ hj r hr hq => ?_⟩
      have hj0 : j = 0 := by omega
      subst hj0
      have hr : r ∈ [([], v)] := hr
      rw [List.mem_singleton] at hr
      subst hr
      exact h2 (by omega) hq
    · intro ⟨h1, h2⟩
      exact ⟨h1, fun _ hq => h2 0 (Nat.le_refl _) (Nat.le_refl _) ([], v) (List.mem_singleton.mpr rfl) hq⟩
  | succ e ih =>
    intro v pa A h5 h6
    rw [gW]
    obtain ⟨a1, a2⟩ := look_1 (tg := tg) (nd := nd) (v := v) (pa := pa) (A := A)
    generalize lookA 1 tg nd v pa A = A1 at *
    obtain ⟨b1, b2⟩ := rnd_loop (v := v) (pa := pa) (e := e) (tg := tg) (f := gW t hm sp 1 tg nd e) (t := t) (hm := hm) (sp := sp) (fun u pa' A' c1 c2 => by have q := ih u pa' A' (by omega) c2; rw [if_neg (by omega)] at q; exact q) (by omega) (t 0) 0 A1 (by rw [a1.1]; exact h6)
    refine ⟨a1.tr b1, fun B => (b2 B).trans ?_⟩
    rw [a2 B]
    constructor
    · intro ⟨⟨h1, h2⟩, h3⟩
      refine ⟨h1, fun j hj1 hj r hr hq => ?_⟩
      cases j with
      | zero =>
        have hr : r ∈ [([], v)] := hr
        rw [List.mem_singleton] at hr
        subst hr
        exact h2 (by split at hj1 <;> omega) hq
      | succ j => exact h3 j (Nat.zero_le _) (by omega) r hr hq
    · intro ⟨h1, h2⟩
      refine ⟨⟨h1, fun hp hq => h2 0 (by rw [if_neg (by omega)]; exact Nat.le_refl _) (Nat.zero_le _) ([], v) (List.mem_singleton.mpr rfl) hq⟩, fun j _ hj r hr hq => h2 (j + 1) (by split <;> omega) (by omega) r hr hq⟩
theorem fold_rd {w0 B : Nat} : ∀ (L : List (List Nat × nD)) (m : Nat), L.foldl (rdS w0) m ≤ B ↔ m ≤ B ∧ ∀ r ∈ L, r.2.1 = w0 → r.2.2.1 + 1 ≤ B := by
  intro L
  induction L with
  | nil => intro m; exact ⟨fun h => ⟨h, fun r hr => by cases hr⟩, fun h => h.1⟩
  | cons x L ih =>
    intro m
    rw [List.foldl_cons, ih]
    have e : rdS w0 m x ≤ B ↔ m ≤ B ∧ (x.2.1 = w0 → x.2.2.1 + 1 ≤ B) := by
      unfold rdS
      by_cases h : x.2.1 = w0
      · rw [if_pos h]; exact ⟨fun q => ⟨by omega, fun _ => by omega⟩, fun q => by have := q.2 h; omega⟩
      · rw [if_neg h]; exact ⟨fun q => ⟨q, fun a => absurd a h⟩, fun q => q.1⟩
    rw [e]
    constructor
    · intro ⟨⟨h1, h2⟩, h3⟩
      refine ⟨h1, fun r hr => ?_⟩
      rcases List.mem_cons.mp hr with rfl | hr
      · exact h2
      · exact h3 r hr
    · intro ⟨h1, h2⟩
      exact ⟨⟨h1, h2 x (List.mem_cons_self)⟩, fun r hr => h2 r (List.mem_cons_of_mem _ hr)⟩
theorem rdK_le {t : Nat → Nat} {q B : Nat} : ∀ n k m, rdK t q n k m ≤ B ↔ m ≤ B ∧ ∀ j, k ≤ j → j < k + n → ∀ r ∈ rwF t (t (79 + q)) (sparedF t q) j (nd0 t q), r.2.1 = t (108 + q) → r.2.2.1 + 1 ≤ B := by
  intro n
  induction n with
  | zero => intro k m; exact ⟨fun h => ⟨h, fun j a b => by omega⟩, fun h => h.1⟩
  | succ n ih =>
    intro k m
    rw [rdK, ih, fold_rd]
    constructor
    · intro ⟨⟨h1, h2⟩, h3⟩
      refine ⟨h1, fun j a b r hr hq => ?_⟩
      by_cases e : j = k
      · subst e; exact h2 r hr hq
      · exact h3 j (by omega) (by omega) r hr hq
    · intro ⟨h1, h2⟩
      exact ⟨⟨h1, fun r hr hq => h2 k (Nat.le_refl _) (by omega) r hr hq⟩, fun j a b r hr hq => h2 j (by omega) (by omega) r hr hq⟩
/-- the longest round is the same -/
theorem rnd_same {t : Nat → Nat} {q nd : Nat} {b0 : List Nat} {en : Nat → Nat} {rw0 : Nat} : (gW t (t (79 + q)) (sparedF t q) 1 (t (108 + q)) nd 5 (nd0 t q) [] (6, b0, rw0, en, 0)).2.2.2.2 = rdK t q 5 1 0 := by
  have h := (rnd_node (t := t) (hm := t (79 + q)) (sp := sparedF t q) (tg := t (108 + q)) (nd := nd) 5 (nd0 t q) [] (6, b0, rw0, en, 0) rfl rfl).2
  rw [if_pos (show ([] : List Nat).length = 0 from rfl)] at h
  have e : ∀ B, (gW t (t (79 + q)) (sparedF t q) 1 (t (108 + q)) nd 5 (nd0 t q) [] (6, b0, rw0, en, 0)).2.2.2.2 ≤ B ↔ rdK t q 5 1 0 ≤ B := fun B => by
    rw [h B, rdK_le]
    constructor
    · intro ⟨h1, h2⟩; exact ⟨h1, fun j a b r hr hq => h2 j a (by omega) r hr hq⟩
    · intro ⟨h1, h2⟩; exact ⟨h1, fun j a b r hr hq => h2 j a (by omega) r hr hq⟩
  exact Nat.le_antisymm ((e _).mpr (Nat.le_refl _)) ((e _).mp (Nat.le_refl _))
/-- a way: what the class finds is what the reference finds -/
theorem few_fsL {t : Nat → Nat} {q l n sp : Nat} : ∀ m k, fewG t q l n sp m k = fsL (fun j => rwF t (t (79 + q)) sp j (nd0 t q)) (fwB l n) m k := by
  intro m
  induction m with
  | zero => intro k; rfl
  | succ m ih =>
    intro k
    rw [fewG, fsL, ih (k + 1)]
    unfold fewK
    cases (rwF t (t (79 + q)) sp k (nd0 t q)).find? (fwB l n) <;> rfl
theorem way_same {t : Nat → Nat} {q l n sp : Nat} {b0 : List Nat} {en : Nat → Nat} {A' : wA} (hA : gW t (t (79 + q)) sp 0 l n 5 (nd0 t q) [] (6, b0, 0, en, 0) = A') : (fewG t q l n sp 6 0 = none → A'.2.2.1 = 0) ∧ ∀ k r, fewG t q l n sp 6 0 = some (k, r) → 0 < A'.2.2.1 ∧ A'.2.1 = r ∧ r.length = k := by
  have h := way_node (t := t) (hm := t (79 + q)) (sp := sp) (tg := l) (nd := n) 5 (nd0 t q) [] (6, b0, 0, en, 0) rfl (show 0 < 6 by decide) (show 6 ≤ 6 by decide) (Or.inl rfl)
  rw [hA] at h
  rw [few_fsL]
  refine ⟨fun e => by rw [FND_none h e], fun k r e => ?_⟩
  obtain ⟨h1, h2, h3, h4⟩ := FND_some h e
  have h2 : A'.2.1 = r := h2
  have h1 : A'.1 = 0 + k := h1
  refine ⟨h3, h2, ?_⟩
  rw [← h2, h4, h1, Nat.zero_add]
