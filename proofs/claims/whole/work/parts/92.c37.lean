/-- how many of the rows of k, k + 1 .. crossings are so -/
def cP (P : nD → Bool) (F : Nat → List (List Nat × nD)) : Nat → Nat → Nat
  | 0, _ => 0
  | n + 1, k => ((F k).filter (fun r => P r.2)).length + cP P F n (k + 1)
theorem cP_cong {P : nD → Bool} {F G : Nat → List (List Nat × nD)} (h : ∀ j, ((F j).filter (fun r => P r.2)).length = ((G j).filter (fun r => P r.2)).length) : ∀ n k, cP P F n k = cP P G n k := by
  intro n
  induction n with
  | zero => intro k; rfl
  | succ n ih => intro k; rw [cP, cP, h k, ih]
theorem cP_app {P : nD → Bool} {F G : Nat → List (List Nat × nD)} : ∀ n k, cP P (fun j => F j ++ G j) n k = cP P F n k + cP P G n k := by
  intro n
  induction n with
  | zero => intro k; rfl
  | succ n ih => intro k; rw [cP, cP, cP, ih, List.filter_append, List.length_append]; omega
theorem cP_nil {P : nD → Bool} : ∀ n k, cP P (fun _ => []) n k = 0 := by
  intro n
  induction n with
  | zero => intro k; rfl
  | succ n ih => intro k; rw [cP, ih]; rfl
theorem cP_shift {P : nD → Bool} {F : Nat → List (List Nat × nD)} : ∀ n k, cP P F n (k + 1) = cP P (fun j => F (j + 1)) n k := by
  intro n
  induction n with
  | zero => intro k; rfl
  | succ n ih => intro k; rw [cP, cP, ih]
theorem len_map {P : nD → Bool} {l : Nat} (L : List (List Nat × nD)) : ((L.map (fun r => (l :: r.1, r.2))).filter (fun r => P r.2)).length = (L.filter (fun r => P r.2)).length := by
  rw [List.filter_map, List.length_map]; rfl
theorem cnt_loop {f : nD → List Nat → wA → wA} {t : Nat → Nat} {hm sp tg e : Nat} {v : nD} {pa : List Nat} {μ : wA → Nat} {P : nD → Bool} (IH : ∀ u pa' A', pa'.length = pa.length + 1 → A'.1 = 5 → (f u pa' A').1 = 5 ∧ μ (f u pa' A') = μ A' + cP P (fun j => rwF t hm sp j u) (e + 1) 0) (hp : pa.length + 1 < 5) : ∀ n l A, A.1 = 5 → (gLp f t hm sp 2 tg v pa n l A).1 = 5 ∧ μ (gLp f t hm sp 2 tg v pa n l A) = μ A + cP P (fun j => rwG (rwF t hm sp j) t hm sp v n l) (e + 1) 0 := by
  intro n
  induction n with
  | zero =>
    intro l A h5
    exact ⟨h5, by show μ A = μ A + cP P (fun _ => []) (e + 1) 0; rw [cP_nil]; rfl⟩
  | succ n ih =>
    intro l A h5
    rw [gLp, if_pos (by omega), if_neg (by omega)]
    have hF : cP P (fun j => rwG (rwF t hm sp j) t hm sp v (n + 1) l) (e + 1) 0 = cP P (fun j => brF (rwF t hm sp j) t hm sp v l) (e + 1) 0 + cP P (fun j => rwG (rwF t hm sp j) t hm sp v n (l + 1)) (e + 1) 0 := cP_app (F := fun j => brF (rwF t hm sp j) t hm sp v l) (G := fun j => rwG (rwF t hm sp j) t hm sp v n (l + 1)) _ _
    rw [hF]
    cases e1 : stN t hm sp v l with
    | none =>
      obtain ⟨a1, a2⟩ := ih (l + 1) A h5
      have : cP P (fun j => brF (rwF t hm sp j) t hm sp v l) (e + 1) 0 = 0 := by
        rw [cP_cong (G := fun _ => []) (fun j => by unfold brF; rw [e1]), cP_nil]
      exact ⟨a1, by dsimp only; rw [a2, this, Nat.zero_add]⟩
    | some u =>
      dsimp only
      obtain ⟨b1, b2⟩ := IH u (pa ++ [l]) A (by simp) h5
      obtain ⟨a1, a2⟩ := ih (l + 1) _ b1
      have : cP P (fun j => brF (rwF t hm sp j) t hm sp v l) (e + 1) 0 = cP P (fun j => rwF t hm sp j u) (e + 1) 0 := cP_cong (fun j => by unfold brF; rw [e1]; exact len_map _) _ _
      exact ⟨a1, by rw [a2, b2, this]; omega⟩
theorem cnt_node {t : Nat → Nat} {hm sp tg nd : Nat} {μ : wA → Nat} {S P : nD → Bool} (hμ : ∀ v pa A, μ (noteF v pa A) = μ A + if S v = true then 1 else 0) (hP : ∀ v, P v = (decide (v.2.1 = nd) && S v)) : ∀ e v pa A, pa.length + e = 4 → A.1 = 5 → (gW t hm sp 2 tg nd e v pa A).1 = 5 ∧ μ (gW t hm sp 2 tg nd e v pa A) = μ A + cP P (fun j => rwF t hm sp j v) (if pa.length = 0 then e else e + 1) (if pa.length = 0 then 1 else 0) := by
  have hl : ∀ v pa A, A.1 = 5 → (lookA 2 tg nd v pa A).1 = 5 ∧ μ (lookA 2 tg nd v pa A) = μ A + if 0 < pa.length ∧ P v = true then 1 else 0 := by
    intro v pa A h5
    unfold lookA
    rw [if_neg (by decide), if_neg (by decide)]
    by_cases h : 0 < pa.length ∧ v.2.1 = nd
    · rw [if_pos h]
      refine ⟨h5, ?_⟩
      rw [hμ, hP, decide_eq_true h.2, Bool.true_and]
      by_cases s : S v = true
      · rw [if_pos s, if_pos ⟨h.1, s⟩]
      · rw [if_neg s, if_neg (fun q => s q.2)]
    · rw [if_neg h]
      refine ⟨h5, ?_⟩
      rw [if_neg]
      · rfl
      · intro ⟨q1, q2⟩
        rw [hP, Bool.and_eq_true, decide_eq_true_eq] at q2
        exact h ⟨q1, q2.1⟩
  have h0 : ∀ v : nD, ((rwF t hm sp 0 v).filter (fun r => P r.2)).length = if P v = true then 1 else 0 := by
    intro v
    show (([([], v)] : List (List Nat × nD)).filter (fun r => P r.2)).length = _
    by_cases q : P v = true
    · rw [List.filter_cons_of_pos (by exact q), if_pos q]; rfl
    · rw [List.filter_cons_of_neg (by exact q), if_neg q]; rfl
  intro e
  induction e with
  | zero =>
    intro v pa A h4 h5
    rw [gW]
    obtain ⟨a1, a2⟩ := hl v pa A h5
    refine ⟨a1, ?_⟩
    rw [a2, if_neg (show ¬ pa.length = 0 by omega), if_neg (show ¬ pa.length = 0 by omega), cP, cP, h0]
    have hp : 0 < pa.length := by omega
    simp only [hp, true_and, Nat.add_zero]
  | succ e ih =>
    intro v pa A h4 h5
    rw [gW]
    obtain ⟨a1, a2⟩ := hl v pa A h5
    obtain ⟨b1, b2⟩ := cnt_loop (v := v) (pa := pa) (e := e) (tg := tg) (μ := μ) (P := P) (f := gW t hm sp 2 tg nd e) (t := t) (hm := hm) (sp := sp) (fun u pa' A' c1 c2 => by have q := ih u pa' A' (by omega) c2; rw [if_neg (show ¬ pa'.length = 0 by omega), if_neg (show ¬ pa'.length = 0 by omega)] at q; exact q) (by omega) (t 0) 0 _ a1
    refine ⟨b1, ?_⟩
    rw [b2, a2]
    have hs : cP P (fun j => rwF t hm sp j v) (e + 1) 1 = cP P (fun j => rwG (rwF t hm sp j) t hm sp v (t 0) 0) (e + 1) 0 := cP_shift (F := fun j => rwF t hm sp j v) (e + 1) 0
    by_cases hp : pa.length = 0
    · rw [if_neg (show ¬ (0 < pa.length ∧ P v = true) by omega), if_pos hp, if_pos hp, hs, Nat.add_zero]
    · have hq : cP P (fun j => rwF t hm sp j v) (e + 1 + 1) 0 = ((rwF t hm sp 0 v).filter (fun r => P r.2)).length + cP P (fun j => rwF t hm sp j v) (e + 1) 1 := rfl
      rw [if_neg hp, if_neg hp, hq, h0, hs]
      have hp2 : 0 < pa.length := by omega
      simp only [hp2, true_and]
      omega
