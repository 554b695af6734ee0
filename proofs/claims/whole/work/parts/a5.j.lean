/-- a state's numbers in the reference keep to their bounds -/
def TOK (t : Nat → Nat) (B : Nat) : Prop := WV t B ∧ SK t ∧ t 92 = sumF (fun q => t (132 + q)) (t 2)
/-- the sentence of a state -/
def SNT (ae : Nat → Nat) (kd : Nat → Bool) (ad : Nat → Nat → Nat) (κ : Nat → kS) (n : Nat) (t : Nat → Nat) (sn : Option Nat) : Prop :=
  (t 138 = 0 ∧ sn = none) ∨ (1 ≤ t 138 ∧ ∃ jx, 24 ≤ jx ∧ jx < n ∧ kd jx = false ∧ sn = some (ad jx 8) ∧ (κ jx).1 5 = .int (nI (t 138)) ∧ ∀ i, i < t 138 → STq ae (κ jx) t 139 i)
/-- the chart of a state -/
def CHT (kd : Nat → Bool) (κ : Nat → kS) (n jc : Nat) (t : Nat → Nat) (nm NM : Nat → Int64) : Prop := 24 ≤ jc ∧ jc < n ∧ kd jc = true ∧ CRl t NM (κ jc) ∧ (∀ k, k < t 0 → NMR (nm k) (NM k)) ∧ ∀ k, k < t 2 → NMR (nm (7 + k)) (NM (7 + k))
def ST1 (ae : Nat → Nat) (kd : Nat → Bool) (ad : Nat → Nat → Nat) (κ : Nat → kS) (n : Nat) (t : Nat → Nat) (nm : Nat → Int64) (κs : kS) : Prop := ∃ jc NM sn sd, CHT kd κ n jc t nm NM ∧ SRl (ad jc) sn t sd κs ∧ SNT ae kd ad κ n t sn
def jMain (ad : Nat → Nat → Nat) (k0 : kS) : Prop := k0.1 0 = .ref (ad 1 13) ∧ k0.1 1 = .ref (ad 2 12) ∧ k0.1 2 = .ref (ad 3 12) ∧ k0.1 8 = .ref (ad 4 3) ∧ k0.1 9 = .ref (ad 5 8) ∧ k0.1 11 = .ref (ad 6 13) ∧ k0.1 12 = .ref (ad 8 8) ∧ k0.1 13 = .ref (ad 10 2) ∧ k0.1 14 = .ref (ad 11 2) ∧ k0.1 15 = .ref (ad 12 2) ∧ k0.1 16 = .ref (ad 13 2) ∧ (∀ i, i < 8 → k0.2.2.2 3 i = some (ad (14 + i) 12)) ∧ ∀ i, i < 2 → k0.2.2.2 6 i = some (ad (22 + i) 12)
def jSub (ad : Nat → Nat → Nat) (k3 k4 k5 k6 k7 k8 k9 : kS) : Prop := (∃ sd, k3.1 11 = .int sd) ∧ (k4.1 0 = .ref (ad 1 13) ∧ k4.1 1 = .ref (ad 3 12)) ∧ k5.1 0 = .ref (ad 1 13) ∧ WKi (ad 7) k6 k7 ∧ k8.1 7 = .ref (ad 9 2) ∧ ∃ b0 : List Nat, b0.length ≤ 6 ∧ RwR k9 (b0.map nI)
def jTape (k1 : kS) (σ : mS) : Prop := ∃ n, TB k1 (σ.2.2.1 1) n ∧ σ.1 2 = nI n ∧ k1.1 11 = .int (σ.1 15)
def jRow (k : kS) (N : Nat) (m : Int32) (row : Nat → Nat) (M : Nat) : Prop := rowM m M ∧ ∃ l : List Int32, RwR k l ∧ l.length ≤ N ∧ ∀ x, rowL l x = rowA m row x
def jMisc (k0 : kS) (σ : mS) : Prop := k0.1 17 = .int (likelyA (σ.1 35) (σ.1 36)) ∧ (∃ c, σ.1 38 = bI c ∧ k0.1 18 = .int (hasA c (σ.1 37))) ∧ (∃ c, σ.1 43 = bI c ∧ k0.1 19 = .int (hasA c (σ.1 42))) ∧ ∃ c, σ.1 49 = bI c ∧ ∀ k, k < 4 → k0.2.1 10 k = toldA c (σ.2.1 48) (nI k)
def jRef (σ : mS) : Prop := RES σ ∧ (∀ j, σ.2.1 7 j < 2 ^ 30) ∧ (∃ nm, σ.1 14 = nI nm ∧ nm < 2 ^ 30) ∧ (∃ tk, σ.1 11 = nI tk ∧ tk ≤ 4) ∧ (∃ z, σ.1 12 = nI z ∧ z ≤ 940) ∧ ∀ j, σ.2.1 56 j < 2
/-- a kept state of the reference -/
def paT (t un : Nat → Nat) (i : Nat) : Nat → Nat := cpF t un 91 (47 * i) 47
def paI (m pn i : Nat) : Nat := 14 + (pn + 8 - m + i) % 8
def jPast (ad : Nat → Nat → Nat) (κ : Nat → kS) (jc : Nat) (t un : Nat → Nat) (m pn B : Nat) : Prop := ∀ i, i < m → (∃ sn sd, SRl (ad jc) sn (paT t un i) sd (κ (paI m pn i))) ∧ WV (paT t un i) B ∧ paT t un i 92 = sumF (fun q => paT t un i (132 + q)) (t 2)
def imT (σ : mS) (k : Nat) : Nat → Nat := fun j => if j < 319 then σ.2.1 57 (319 * k + j) else 0
def imN (σ : mS) (k : Nat) : Nat → Int64 := fun j => σ.2.2.2.2 58 (13 * k + j)
def jImg (ae : Nat → Nat) (kd : Nat → Bool) (ad : Nat → Nat → Nat) (κ : Nat → kS) (n : Nat) (σ : mS) (B im : Nat) : Prop := (κ 0).1 7 = .int (nI im) ∧ im < 4 ∧ (∀ k, k < 2 → im.testBit k = decide (0 < σ.2.1 59 k)) ∧ (∀ j, σ.2.1 59 j < 2) ∧ ∀ k, k < 2 → 0 < σ.2.1 59 k → ST1 ae kd ad κ n (imT σ k) (imN σ k) (κ (22 + k)) ∧ TOK (imT σ k) B
def jSt (ae : Nat → Nat) (kd : Nat → Bool) (ad : Nat → Nat → Nat) (κ : Nat → kS) (n : Nat) (σ : mS) (B jc : Nat) (NM : Nat → Int64) (sn : Option Nat) (sd : Int32) (m pn im : Nat) : Prop := CHT kd κ n jc (σ.2.1 6) (σ.2.2.2.2 9) NM ∧ SRl (ad jc) sn (σ.2.1 6) sd (κ 2) ∧ SNT ae kd ad κ n (σ.2.1 6) sn ∧ TOK (σ.2.1 6) B ∧ jPast ad κ jc (σ.2.1 6) (σ.2.1 21) m pn B ∧ (σ.1 23 = nI m ∧ (κ 0).1 4 = .int (nI pn) ∧ (κ 0).1 5 = .int (nI m) ∧ m ≤ 8 ∧ pn < 8) ∧ (∀ i, 14 ≤ i → i < 24 → ∃ sd, (κ i).1 11 = .int sd) ∧ jImg ae kd ad κ n σ B im
def J (ae : Nat → Nat) (kd : Nat → Bool) (ad : Nat → Nat → Nat) (κ : Nat → kS) (n : Nat) (σ : mS) (B : Nat) : Prop := 24 ≤ n ∧ jMain ad (κ 0) ∧ jSub ad (κ 3) (κ 4) (κ 5) (κ 6) (κ 7) (κ 8) (κ 9) ∧ jTape (κ 1) σ ∧ jRow (κ 10) 5 (σ.1 34) (σ.2.1 31) 5 ∧ jRow (κ 11) 5 (σ.1 35) (σ.2.1 32) 4 ∧ jRow (κ 12) 6 (σ.1 41) (σ.2.1 40) 6 ∧ jRow (κ 13) 40 (σ.1 45) (σ.2.1 44) 40 ∧ jMisc (κ 0) σ ∧ jRef σ ∧ 4096 ≤ B ∧ ∃ jc NM sn sd m pn im, jSt ae kd ad κ n σ B jc NM sn sd m pn im
theorem J.th {ae : Nat → Nat} {kd : Nat → Bool} {ad : Nat → Nat → Nat} {κ : Nat → kS} {n : Nat} {σ : mS} {B : Nat} {x : Int32} (h : J ae kd ad κ n σ B) : J ae kd ad κ n (mI σ 0 x) B := h
/-- the chart may be read wherever its chunk lies -/
theorem CHT.chr {G : xG} {kd : Nat → Bool} {ad : Nat → Nat → Nat} {κ : Nat → kS} {n jc : Nat} {t : Nat → Nat} {nm NM : Nat → Int64} {xs : List Nat} (h : CHT kd κ n jc t nm NM) (hw : WT t) (hx : ∀ i ∈ xs, i < 24) : CHR G (WX G.2.2.1 kd ad κ n xs) (ad jc) t NM := by
  refine h.2.2.2.1.chr hw.2.1 hw.2.2.1 hw.2.2.2.1 (fun x hx9 => ?_)
  exact wx_mem h.2.1 (fun q => by have := hx jc q; have := h.1; omega) x (by rw [ck_ch h.1 h.2.2.1]; exact hx9)
theorem mem_R1 {X R : va_W} : ∀ x ∈ X, x ∈ X ++ R := fun _ h => List.mem_append_left _ h
theorem mem_R2 {X Y R : va_W} : ∀ x ∈ Y, x ∈ X ++ (Y ++ R) := fun _ h => List.mem_append_right _ (List.mem_append_left _ h)
theorem mem_R3 {X Y Z R : va_W} : ∀ x ∈ Z, x ∈ X ++ (Y ++ (Z ++ R)) := fun _ h => List.mem_append_right _ (List.mem_append_right _ (List.mem_append_left _ h))
theorem mem_R4 {X Y Z U R : va_W} : ∀ x ∈ U, x ∈ X ++ (Y ++ (Z ++ (U ++ R))) := fun _ h => List.mem_append_right _ (List.mem_append_right _ (List.mem_append_right _ (List.mem_append_left _ h)))
theorem mem_R5 {X Y Z U V R : va_W} : ∀ x ∈ V, x ∈ X ++ (Y ++ (Z ++ (U ++ (V ++ R)))) := fun _ h => List.mem_append_right _ (List.mem_append_right _ (List.mem_append_right _ (List.mem_append_right _ (List.mem_append_left _ h))))
