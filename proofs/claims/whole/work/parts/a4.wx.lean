/-! THE CLASS'S WORLD: chunks by number: 0 the object, 1 tape, 2 state, 3 trial, 4 map text, 5 book, 6 walk, 7 its best row, 8 caravan, 9 its best row, 10 to 13 rows, 14 to 21 past, 22 and 23 images, then charts (kd true) and sentences. -/
def ck (g : Nat → ClassId) (kd : Nat → Bool) (i : Nat) (a : Nat → Nat) (κ : kS) : va_W := match i with
  | 0 => wIb g a κ
  | 1 => wTp g a κ
  | 2 => wSt g a κ
  | 3 => wSt g a κ
  | 4 => wMt g a κ
  | 5 => wBk g a κ
  | 6 => wWk g a κ
  | 7 => wRw g a 5 κ
  | 8 => wCv g a κ
  | 9 => wRw g a 6 κ
  | 10 => wRw g a 5 κ
  | 11 => wRw g a 5 κ
  | 12 => wRw g a 6 κ
  | 13 => wRw g a 40 κ
  | i + 14 => if i < 10 then wSt g a κ else if kd (i + 14) = true then wCh g a κ else wSe g a κ
theorem ck_st {g : Nat → ClassId} {kd : Nat → Bool} {i : Nat} {a : Nat → Nat} {κ : kS} (h1 : 14 ≤ i) (h2 : i < 24) : ck g kd i a κ = wSt g a κ := by
  obtain ⟨j, rfl⟩ : ∃ j, i = j + 14 := ⟨i - 14, by omega⟩
  show (if j < 10 then _ else _) = _
  rw [if_pos (by omega)]
theorem ck_ch {g : Nat → ClassId} {kd : Nat → Bool} {i : Nat} {a : Nat → Nat} {κ : kS} (h1 : 24 ≤ i) (h2 : kd i = true) : ck g kd i a κ = wCh g a κ := by
  obtain ⟨j, rfl⟩ : ∃ j, i = j + 14 := ⟨i - 14, by omega⟩
  show (if j < 10 then _ else if kd (j + 14) = true then _ else _) = _
  rw [if_neg (by omega), if_pos h2]
theorem ck_se {g : Nat → ClassId} {kd : Nat → Bool} {i : Nat} {a : Nat → Nat} {κ : kS} (h1 : 24 ≤ i) (h2 : kd i = false) : ck g kd i a κ = wSe g a κ := by
  obtain ⟨j, rfl⟩ : ∃ j, i = j + 14 := ⟨i - 14, by omega⟩
  show (if j < 10 then _ else if kd (j + 14) = true then _ else _) = _
  rw [if_neg (by omega), if_neg (by rw [h2]; decide)]
/-- the chunks but those of a list -/
def WX (g : Nat → ClassId) (kd : Nat → Bool) (ad : Nat → Nat → Nat) (κ : Nat → kS) (n : Nat) (xs : List Nat) : va_W := ((List.range n).filter (fun i => !xs.contains i)).flatMap (fun i => ck g kd i (ad i) (κ i))
section WXL
variable {g : Nat → ClassId} {kd : Nat → Bool} {ad : Nat → Nat → Nat} {κ : Nat → kS} {n : Nat} {xs : List Nat}
theorem wx_pull {i : Nat} (hi : i < n) (hx : i ∉ xs) : (WX g kd ad κ n xs).Perm (ck g kd i (ad i) (κ i) ++ WX g kd ad κ n (i :: xs)) := by
  have hm : i ∈ (List.range n).filter (fun i => !xs.contains i) := List.mem_filter.mpr ⟨List.mem_range.mpr hi, by simp [hx]⟩
  have hp := (List.perm_cons_erase hm).flatMap_right (fun i => ck g kd i (ad i) (κ i))
  have hnd : ((List.range n).filter (fun i => !xs.contains i)).Nodup := List.Pairwise.filter _ List.nodup_range
  rw [hnd.erase_eq_filter, List.filter_filter, List.flatMap_cons] at hp
  have e : (List.range n).filter (fun j => (j != i) && !xs.contains j) = (List.range n).filter (fun j => !(i :: xs).contains j) := by
    apply List.filter_congr
    intro j _
    by_cases hji : j = i
    · subst hji; simp
    · simp [List.contains_cons, hji]
  rw [e] at hp
  exact hp
theorem wx_cong {kd' : Nat → Bool} {ad' : Nat → Nat → Nat} {κ' : Nat → kS} (h : ∀ i, i < n → i ∉ xs → kd' i = kd i ∧ ad' i = ad i ∧ κ' i = κ i) : WX g kd' ad' κ' n xs = WX g kd ad κ n xs := by
  unfold WX
  have : ∀ L : List Nat, (∀ i ∈ L, kd' i = kd i ∧ ad' i = ad i ∧ κ' i = κ i) → L.flatMap (fun i => ck g kd' i (ad' i) (κ' i)) = L.flatMap (fun i => ck g kd i (ad i) (κ i)) := by
    intro L
    induction L with
    | nil => intro _; rfl
    | cons j L ih =>
      intro hL
      rw [List.flatMap_cons, List.flatMap_cons, ih (fun i hi => hL i (List.mem_cons_of_mem _ hi))]
      obtain ⟨a1, a2, a3⟩ := hL j List.mem_cons_self
      have : ck g kd' j (ad' j) (κ' j) = ck g kd j (ad j) (κ j) := by
        rw [a2, a3]
        unfold ck
        split <;> first | rfl | skip
        rename_i k
        rw [a1]
      rw [this]
  apply this
  intro i hi
  have := List.mem_filter.mp hi
  exact h i (List.mem_range.mp this.1) (by have := this.2; simpa using this)
theorem wx_mem {j : Nat} (hj : j < n) (hx : j ∉ xs) : ∀ x ∈ ck g kd j (ad j) (κ j), x ∈ WX g kd ad κ n xs := fun x hx9 => List.mem_flatMap.mpr ⟨j, List.mem_filter.mpr ⟨List.mem_range.mpr hj, by simp [hx]⟩, hx9⟩
theorem wx_push {i : Nat} {k1 : kS} (hi : i < n) (hx : i ∉ xs) : (ck g kd i (ad i) k1 ++ WX g kd ad κ n (i :: xs)).Perm (WX g kd ad (upN κ i k1) n xs) := by
  have h := wx_pull (g := g) (kd := kd) (ad := ad) (κ := upN κ i k1) (xs := xs) hi hx
  rw [upN_s, wx_cong (κ := κ) (κ' := upN κ i k1) (kd' := kd) (ad' := ad) (xs := i :: xs) (fun j _ hj => ⟨rfl, rfl, upN_n _ _ _ _ (fun e => hj (by rw [e]; exact List.mem_cons_self))⟩)] at h
  exact h.symm
/-- a new chunk at the end -/
theorem wx_grow {a : Nat → Nat} {k1 : kS} {b : Bool} : (ck g (upN kd n b) n a k1 ++ WX g kd ad κ n []).Perm (WX g (upN kd n b) (upN ad n a) (upN κ n k1) (n + 1) []) := by
  have h := wx_pull (g := g) (kd := upN kd n b) (ad := upN ad n a) (κ := upN κ n k1) (n := n + 1) (xs := []) (i := n) (Nat.lt_succ_self _) List.not_mem_nil
  rw [upN_s, upN_s] at h
  have e : WX g (upN kd n b) (upN ad n a) (upN κ n k1) (n + 1) [n] = WX g kd ad κ n [] := by
    have e1 : WX g (upN kd n b) (upN ad n a) (upN κ n k1) (n + 1) [n] = WX g (upN kd n b) (upN ad n a) (upN κ n k1) n [] := by
      unfold WX
      rw [List.range_succ, List.filter_append]
      congr 1
      rw [show [n].filter (fun i => ![n].contains i) = [] by simp, List.append_nil]
      apply List.filter_congr
      intro j hj
      have := List.mem_range.mp hj
      simp
      omega
    rw [e1]
    exact wx_cong (fun i hi _ => ⟨upN_n _ _ _ _ (by omega), upN_n _ _ _ _ (by omega), upN_n _ _ _ _ (by omega)⟩)
  rw [e] at h
  exact h.symm
end WXL
section WXA
variable {G : xG} {μ : xM} {d mc ms : Nat} {Q : xQ} {pc : Nat} {L : List (Option Value)} {st : List Value} {n9 k9 : Nat}
variable {kd : Nat → Bool} {ad : Nat → Nat → Nat} {κ : Nat → kS} {n : Nat} {R : va_W}
theorem aw_pull1 {p1 : Nat} (hp1 : p1 < n)  (kk : AW G μ d mc ms Q pc L st (ck G.2.2.1 kd p1 (ad p1) (κ p1) ++ (WX G.2.2.1 kd ad κ n [p1] ++ R)) n9 k9) : AW G μ d mc ms Q pc L st (WX G.2.2.1 kd ad κ n [] ++ R) n9 k9 := by
  refine aw_perm ?_ kk
  refine List.Perm.trans (List.Perm.append_right R (wx_pull hp1 List.not_mem_nil)) ?_
  rw [List.append_assoc]
theorem aw_push1 {p1 : Nat} {x1 : kS} (hp1 : p1 < n)  (kk : AW G μ d mc ms Q pc L st (WX G.2.2.1 kd ad (upN κ p1 x1) n [] ++ R) n9 k9) : AW G μ d mc ms Q pc L st (ck G.2.2.1 kd p1 (ad p1) x1 ++ (WX G.2.2.1 kd ad κ n [p1] ++ R)) n9 k9 := by
  refine aw_perm ?_ kk
  refine List.Perm.trans (List.Perm.trans (by rw [← List.append_assoc]) (List.Perm.append_right R (wx_push hp1 (by simp)))) ?_
  exact List.Perm.refl _
theorem aw_pull2 {p1 p2 : Nat} (hp1 : p1 < n) (hp2 : p2 < n) (e21 : ¬ p2 = p1) (kk : AW G μ d mc ms Q pc L st (ck G.2.2.1 kd p1 (ad p1) (κ p1) ++ (ck G.2.2.1 kd p2 (ad p2) (κ p2) ++ (WX G.2.2.1 kd ad κ n [p2, p1] ++ R))) n9 k9) : AW G μ d mc ms Q pc L st (WX G.2.2.1 kd ad κ n [] ++ R) n9 k9 := by
  refine aw_perm ?_ kk
  refine List.Perm.trans (List.Perm.append_right R (wx_pull hp1 List.not_mem_nil)) ?_
  rw [List.append_assoc]
  refine List.Perm.append_left _ ?_
  refine List.Perm.trans (List.Perm.append_right R (wx_pull hp2 (by simp [e21]))) ?_
  rw [List.append_assoc]
theorem aw_push2 {p1 p2 : Nat} {x1 x2 : kS} (hp1 : p1 < n) (hp2 : p2 < n) (e21 : ¬ p2 = p1) (kk : AW G μ d mc ms Q pc L st (WX G.2.2.1 kd ad (upN (upN κ p2 x2) p1 x1) n [] ++ R) n9 k9) : AW G μ d mc ms Q pc L st (ck G.2.2.1 kd p1 (ad p1) x1 ++ (ck G.2.2.1 kd p2 (ad p2) x2 ++ (WX G.2.2.1 kd ad κ n [p2, p1] ++ R))) n9 k9 := by
  refine aw_perm ?_ kk
  refine List.Perm.trans (List.Perm.append_left _ (List.Perm.trans (by rw [← List.append_assoc]) (List.Perm.append_right R (wx_push hp2 (by simp [e21]))))) ?_
  refine List.Perm.trans (List.Perm.trans (by rw [← List.append_assoc]) (List.Perm.append_right R (wx_push hp1 (by simp)))) ?_
  exact List.Perm.refl _
theorem aw_pull3 {p1 p2 p3 : Nat} (hp1 : p1 < n) (hp2 : p2 < n) (hp3 : p3 < n) (e21 : ¬ p2 = p1) (e31 : ¬ p3 = p1) (e32 : ¬ p3 = p2) (kk : AW G μ d mc ms Q pc L st (ck G.2.2.1 kd p1 (ad p1) (κ p1) ++ (ck G.2.2.1 kd p2 (ad p2) (κ p2) ++ (ck G.2.2.1 kd p3 (ad p3) (κ p3) ++ (WX G.2.2.1 kd ad κ n [p3, p2, p1] ++ R)))) n9 k9) : AW G μ d mc ms Q pc L st (WX G.2.2.1 kd ad κ n [] ++ R) n9 k9 := by
  refine aw_perm ?_ kk
  refine List.Perm.trans (List.Perm.append_right R (wx_pull hp1 List.not_mem_nil)) ?_
  rw [List.append_assoc]
  refine List.Perm.append_left _ ?_
  refine List.Perm.trans (List.Perm.append_right R (wx_pull hp2 (by simp [e21]))) ?_
  rw [List.append_assoc]
  refine List.Perm.append_left _ ?_
  refine List.Perm.trans (List.Perm.append_right R (wx_pull hp3 (by simp [e31, e32]))) ?_
  rw [List.append_assoc]
theorem aw_push3 {p1 p2 p3 : Nat} {x1 x2 x3 : kS} (hp1 : p1 < n) (hp2 : p2 < n) (hp3 : p3 < n) (e21 : ¬ p2 = p1) (e31 : ¬ p3 = p1) (e32 : ¬ p3 = p2) (kk : AW G μ d mc ms Q pc L st (WX G.2.2.1 kd ad (upN (upN (upN κ p3 x3) p2 x2) p1 x1) n [] ++ R) n9 k9) : AW G μ d mc ms Q pc L st (ck G.2.2.1 kd p1 (ad p1) x1 ++ (ck G.2.2.1 kd p2 (ad p2) x2 ++ (ck G.2.2.1 kd p3 (ad p3) x3 ++ (WX G.2.2.1 kd ad κ n [p3, p2, p1] ++ R)))) n9 k9 := by
  refine aw_perm ?_ kk
  refine List.Perm.trans (List.Perm.append_left _ (List.Perm.append_left _ (List.Perm.trans (by rw [← List.append_assoc]) (List.Perm.append_right R (wx_push hp3 (by simp [e31, e32])))))) ?_
  refine List.Perm.trans (List.Perm.append_left _ (List.Perm.trans (by rw [← List.append_assoc]) (List.Perm.append_right R (wx_push hp2 (by simp [e21]))))) ?_
  refine List.Perm.trans (List.Perm.trans (by rw [← List.append_assoc]) (List.Perm.append_right R (wx_push hp1 (by simp)))) ?_
  exact List.Perm.refl _
theorem aw_pull4 {p1 p2 p3 p4 : Nat} (hp1 : p1 < n) (hp2 : p2 < n) (hp3 : p3 < n) (hp4 : p4 < n) (e21 : ¬ p2 = p1) (e31 : ¬ p3 = p1) (e32 : ¬ p3 = p2) (e41 : ¬ p4 = p1) (e42 : ¬ p4 = p2) (e43 : ¬ p4 = p3) (kk : AW G μ d mc ms Q pc L st (ck G.2.2.1 kd p1 (ad p1) (κ p1) ++ (ck G.2.2.1 kd p2 (ad p2) (κ p2) ++ (ck G.2.2.1 kd p3 (ad p3) (κ p3) ++ (ck G.2.2.1 kd p4 (ad p4) (κ p4) ++ (WX G.2.2.1 kd ad κ n [p4, p3, p2, p1] ++ R))))) n9 k9) : AW G μ d mc ms Q pc L st (WX G.2.2.1 kd ad κ n [] ++ R) n9 k9 := by
  refine aw_perm ?_ kk
  refine List.Perm.trans (List.Perm.append_right R (wx_pull hp1 List.not_mem_nil)) ?_
  rw [List.append_assoc]
  refine List.Perm.append_left _ ?_
  refine List.Perm.trans (List.Perm.append_right R (wx_pull hp2 (by simp [e21]))) ?_
  rw [List.append_assoc]
  refine List.Perm.append_left _ ?_
  refine List.Perm.trans (List.Perm.append_right R (wx_pull hp3 (by simp [e31, e32]))) ?_
  rw [List.append_assoc]
  refine List.Perm.append_left _ ?_
  refine List.Perm.trans (List.Perm.append_right R (wx_pull hp4 (by simp [e41, e42, e43]))) ?_
  rw [List.append_assoc]
theorem aw_push4 {p1 p2 p3 p4 : Nat} {x1 x2 x3 x4 : kS} (hp1 : p1 < n) (hp2 : p2 < n) (hp3 : p3 < n) (hp4 : p4 < n) (e21 : ¬ p2 = p1) (e31 : ¬ p3 = p1) (e32 : ¬ p3 = p2) (e41 : ¬ p4 = p1) (e42 : ¬ p4 = p2) (e43 : ¬ p4 = p3) (kk : AW G μ d mc ms Q pc L st (WX G.2.2.1 kd ad (upN (upN (upN (upN κ p4 x4) p3 x3) p2 x2) p1 x1) n [] ++ R) n9 k9) : AW G μ d mc ms Q pc L st (ck G.2.2.1 kd p1 (ad p1) x1 ++ (ck G.2.2.1 kd p2 (ad p2) x2 ++ (ck G.2.2.1 kd p3 (ad p3) x3 ++ (ck G.2.2.1 kd p4 (ad p4) x4 ++ (WX G.2.2.1 kd ad κ n [p4, p3, p2, p1] ++ R))))) n9 k9 := by
  refine aw_perm ?_ kk
  refine List.Perm.trans (List.Perm.append_left _ (List.Perm.append_left _ (List.Perm.append_left _ (List.Perm.trans (by rw [← List.append_assoc]) (List.Perm.append_right R (wx_push hp4 (by simp [e41, e42, e43]))))))) ?_
  refine List.Perm.trans (List.Perm.append_left _ (List.Perm.append_left _ (List.Perm.trans (by rw [← List.append_assoc]) (List.Perm.append_right R (wx_push hp3 (by simp [e31, e32])))))) ?_
  refine List.Perm.trans (List.Perm.append_left _ (List.Perm.trans (by rw [← List.append_assoc]) (List.Perm.append_right R (wx_push hp2 (by simp [e21]))))) ?_
  refine List.Perm.trans (List.Perm.trans (by rw [← List.append_assoc]) (List.Perm.append_right R (wx_push hp1 (by simp)))) ?_
  exact List.Perm.refl _
theorem aw_pull5 {p1 p2 p3 p4 p5 : Nat} (hp1 : p1 < n) (hp2 : p2 < n) (hp3 : p3 < n) (hp4 : p4 < n) (hp5 : p5 < n) (e21 : ¬ p2 = p1) (e31 : ¬ p3 = p1) (e32 : ¬ p3 = p2) (e41 : ¬ p4 = p1) (e42 : ¬ p4 = p2) (e43 : ¬ p4 = p3) (e51 : ¬ p5 = p1) (e52 : ¬ p5 = p2) (e53 : ¬ p5 = p3) (e54 : ¬ p5 = p4) (kk : AW G μ d mc ms Q pc L st (ck G.2.2.1 kd p1 (ad p1) (κ p1) ++ (ck G.2.2.1 kd p2 (ad p2) (κ p2) ++ (ck G.2.2.1 kd p3 (ad p3) (κ p3) ++ (ck G.2.2.1 kd p4 (ad p4) (κ p4) ++ (ck G.2.2.1 kd p5 (ad p5) (κ p5) ++ (WX G.2.2.1 kd ad κ n [p5, p4, p3, p2, p1] ++ R)))))) n9 k9) : AW G μ d mc ms Q pc L st (WX G.2.2.1 kd ad κ n [] ++ R) n9 k9 := by
  refine aw_perm ?_ kk
  refine List.Perm.trans (List.Perm.append_right R (wx_pull hp1 List.not_mem_nil)) ?_
  rw [List.append_assoc]
  refine List.Perm.append_left _ ?_
  refine List.Perm.trans (List.Perm.append_right R (wx_pull hp2 (by simp [e21]))) ?_
  rw [List.append_assoc]
  refine List.Perm.append_left _ ?_
  refine List.Perm.trans (List.Perm.append_right R (wx_pull hp3 (by simp [e31, e32]))) ?_
  rw [List.append_assoc]
  refine List.Perm.append_left _ ?_
  refine List.Perm.trans (List.Perm.append_right R (wx_pull hp4 (by simp [e41, e42, e43]))) ?_
  rw [List.append_assoc]
  refine List.Perm.append_left _ ?_
  refine List.Perm.trans (List.Perm.append_right R (wx_pull hp5 (by simp [e51, e52, e53, e54]))) ?_
  rw [List.append_assoc]
theorem aw_push5 {p1 p2 p3 p4 p5 : Nat} {x1 x2 x3 x4 x5 : kS} (hp1 : p1 < n) (hp2 : p2 < n) (hp3 : p3 < n) (hp4 : p4 < n) (hp5 : p5 < n) (e21 : ¬ p2 = p1) (e31 : ¬ p3 = p1) (e32 : ¬ p3 = p2) (e41 : ¬ p4 = p1) (e42 : ¬ p4 = p2) (e43 : ¬ p4 = p3) (e51 : ¬ p5 = p1) (e52 : ¬ p5 = p2) (e53 : ¬ p5 = p3) (e54 : ¬ p5 = p4) (kk : AW G μ d mc ms Q pc L st (WX G.2.2.1 kd ad (upN (upN (upN (upN (upN κ p5 x5) p4 x4) p3 x3) p2 x2) p1 x1) n [] ++ R) n9 k9) : AW G μ d mc ms Q pc L st (ck G.2.2.1 kd p1 (ad p1) x1 ++ (ck G.2.2.1 kd p2 (ad p2) x2 ++ (ck G.2.2.1 kd p3 (ad p3) x3 ++ (ck G.2.2.1 kd p4 (ad p4) x4 ++ (ck G.2.2.1 kd p5 (ad p5) x5 ++ (WX G.2.2.1 kd ad κ n [p5, p4, p3, p2, p1] ++ R)))))) n9 k9 := by
  refine aw_perm ?_ kk
  refine List.Perm.trans (List.Perm.append_left _ (List.Perm.append_left _ (List.Perm.append_left _ (List.Perm.append_left _ (List.Perm.trans (by rw [← List.append_assoc]) (List.Perm.append_right R (wx_push hp5 (by simp [e51, e52, e53, e54])))))))) ?_
  refine List.Perm.trans (List.Perm.append_left _ (List.Perm.append_left _ (List.Perm.append_left _ (List.Perm.trans (by rw [← List.append_assoc]) (List.Perm.append_right R (wx_push hp4 (by simp [e41, e42, e43]))))))) ?_
  refine List.Perm.trans (List.Perm.append_left _ (List.Perm.append_left _ (List.Perm.trans (by rw [← List.append_assoc]) (List.Perm.append_right R (wx_push hp3 (by simp [e31, e32])))))) ?_
  refine List.Perm.trans (List.Perm.append_left _ (List.Perm.trans (by rw [← List.append_assoc]) (List.Perm.append_right R (wx_push hp2 (by simp [e21]))))) ?_
  refine List.Perm.trans (List.Perm.trans (by rw [← List.append_assoc]) (List.Perm.append_right R (wx_push hp1 (by simp)))) ?_
  exact List.Perm.refl _
theorem aw_pull6 {p1 p2 p3 p4 p5 p6 : Nat} (hp1 : p1 < n) (hp2 : p2 < n) (hp3 : p3 < n) (hp4 : p4 < n) (hp5 : p5 < n) (hp6 : p6 < n) (e21 : ¬ p2 = p1) (e31 : ¬ p3 = p1) (e32 : ¬ p3 = p2) (e41 : ¬ p4 = p1) (e42 : ¬ p4 = p2) (e43 : ¬ p4 = p3) (e51 : ¬ p5 = p1) (e52 : ¬ p5 = p2) (e53 : ¬ p5 = p3) (e54 : ¬ p5 = p4) (e61 : ¬ p6 = p1) (e62 : ¬ p6 = p2) (e63 : ¬ p6 = p3) (e64 : ¬ p6 = p4) (e65 : ¬ p6 = p5) (kk : AW G μ d mc ms Q pc L st (ck G.2.2.1 kd p1 (ad p1) (κ p1) ++ (ck G.2.2.1 kd p2 (ad p2) (κ p2) ++ (ck G.2.2.1 kd p3 (ad p3) (κ p3) ++ (ck G.2.2.1 kd p4 (ad p4) (κ p4) ++ (ck G.2.2.1 kd p5 (ad p5) (κ p5) ++ (ck G.2.2.1 kd p6 (ad p6) (κ p6) ++ (WX G.2.2.1 kd ad κ n [p6, p5, p4, p3, p2, p1] ++ R))))))) n9 k9) : AW G μ d mc ms Q pc L st (WX G.2.2.1 kd ad κ n [] ++ R) n9 k9 := by
  refine aw_perm ?_ kk
  refine List.Perm.trans (List.Perm.append_right R (wx_pull hp1 List.not_mem_nil)) ?_
  rw [List.append_assoc]
  refine List.Perm.append_left _ ?_
  refine List.Perm.trans (List.Perm.append_right R (wx_pull hp2 (by simp [e21]))) ?_
  rw [List.append_assoc]
  refine List.Perm.append_left _ ?_
  refine List.Perm.trans (List.Perm.append_right R (wx_pull hp3 (by simp [e31, e32]))) ?_
  rw [List.append_assoc]
  refine List.Perm.append_left _ ?_
  refine List.Perm.trans (List.Perm.append_right R (wx_pull hp4 (by simp [e41, e42, e43]))) ?_
  rw [List.append_assoc]
  refine List.Perm.append_left _ ?_
  refine List.Perm.trans (List.Perm.append_right R (wx_pull hp5 (by simp [e51, e52, e53, e54]))) ?_
  rw [List.append_assoc]
  refine List.Perm.append_left _ ?_
  refine List.Perm.trans (List.Perm.append_right R (wx_pull hp6 (by simp [e61, e62, e63, e64, e65]))) ?_
  rw [List.append_assoc]
theorem aw_push6 {p1 p2 p3 p4 p5 p6 : Nat} {x1 x2 x3 x4 x5 x6 : kS} (hp1 : p1 < n) (hp2 : p2 < n) (hp3 : p3 < n) (hp4 : p4 < n) (hp5 : p5 < n) (hp6 : p6 < n) (e21 : ¬ p2 = p1) (e31 : ¬ p3 = p1) (e32 : ¬ p3 = p2) (e41 : ¬ p4 = p1) (e42 : ¬ p4 = p2) (e43 : ¬ p4 = p3) (e51 : ¬ p5 = p1) (e52 : ¬ p5 = p2) (e53 : ¬ p5 = p3) (e54 : ¬ p5 = p4) (e61 : ¬ p6 = p1) (e62 : ¬ p6 = p2) (e63 : ¬ p6 = p3) (e64 : ¬ p6 = p4) (e65 : ¬ p6 = p5) (kk : AW G μ d mc ms Q pc L st (WX G.2.2.1 kd ad (upN (upN (upN (upN (upN (upN κ p6 x6) p5 x5) p4 x4) p3 x3) p2 x2) p1 x1) n [] ++ R) n9 k9) : AW G μ d mc ms Q pc L st (ck G.2.2.1 kd p1 (ad p1) x1 ++ (ck G.2.2.1 kd p2 (ad p2) x2 ++ (ck G.2.2.1 kd p3 (ad p3) x3 ++ (ck G.2.2.1 kd p4 (ad p4) x4 ++ (ck G.2.2.1 kd p5 (ad p5) x5 ++ (ck G.2.2.1 kd p6 (ad p6) x6 ++ (WX G.2.2.1 kd ad κ n [p6, p5, p4, p3, p2, p1] ++ R))))))) n9 k9 := by
  refine aw_perm ?_ kk
  refine List.Perm.trans (List.Perm.append_left _ (List.Perm.append_left _ (List.Perm.append_left _ (List.Perm.append_left _ (List.Perm.append_left _ (List.Perm.trans (by rw [← List.append_assoc]) (List.Perm.append_right R (wx_push hp6 (by simp [e61, e62, e63, e64, e65]))))))))) ?_
  refine List.Perm.trans (List.Perm.append_left _ (List.Perm.append_left _ (List.Perm.append_left _ (List.Perm.append_left _ (List.Perm.trans (by rw [← List.append_assoc]) (List.Perm.append_right R (wx_push hp5 (by simp [e51, e52, e53, e54])))))))) ?_
  refine List.Perm.trans (List.Perm.append_left _ (List.Perm.append_left _ (List.Perm.append_left _ (List.Perm.trans (by rw [← List.append_assoc]) (List.Perm.append_right R (wx_push hp4 (by simp [e41, e42, e43]))))))) ?_
  refine List.Perm.trans (List.Perm.append_left _ (List.Perm.append_left _ (List.Perm.trans (by rw [← List.append_assoc]) (List.Perm.append_right R (wx_push hp3 (by simp [e31, e32])))))) ?_
  refine List.Perm.trans (List.Perm.append_left _ (List.Perm.trans (by rw [← List.append_assoc]) (List.Perm.append_right R (wx_push hp2 (by simp [e21]))))) ?_
  refine List.Perm.trans (List.Perm.trans (by rw [← List.append_assoc]) (List.Perm.append_right R (wx_push hp1 (by simp)))) ?_
  exact List.Perm.refl _
end WXA
