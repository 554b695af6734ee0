abbrev nX9 : mS → mS := nx
def rd3 (c : Nat) (P : Bool × mS) : Bool × mS := if P.1 = true then (true, mN P.2 7 1 (c + 1)) else (false, P.2)
def rd2 (c : Nat) (P : Bool × mS) : Bool × mS := if P.1 = true then rd3 c (putsF P.2 (60 + c) (P.2.2.1 7 (48 + c)) 240) else (false, P.2)
def rd1 (c z : Nat) (h7 : Nat → Nat) (v1 v2 : Nat) (L : Bool × mS) : Bool × mS := if L.1 = true then (if v2 = v1 then (false, badF L.2 3) else if (findF (roadP h7 v1 v2) c 0).isSome = true then (false, badF L.2 3) else rd2 c (putsF (nx (mN (mN L.2 7 (24 + c) v1) 7 (36 + c) v2)) (48 + c) 0 240)) else (false, L.2)
def rd0 (σ : mS) (c z v1 : Nat) (T : Bool × mS) : Bool × mS := if T.1 = true then rd1 c z (σ.2.1 7) v1 ((findW T.2 13 z).getD 0) (looksF T.2 13 z) else (false, T.2)
theorem road_eq (σ : mS) : readRoadF σ = if σ.2.1 7 1 = 12 then (false, badF σ 4) else rd0 σ (σ.2.1 7 1) (σ.2.1 7 0) ((findW (nx σ) 13 (σ.2.1 7 0)).getD 0) (takesNameF (nx σ) 13 (σ.2.1 7 0)) := by
  unfold readRoadF rd0 rd1 rd2 rd3; rfl
def rt1 (h7 : Nat → Nat) (v1 v2 : Nat) (L : Bool × mS) : Bool × mS := if L.1 = true then (if v2 = v1 then (false, badF L.2 3) else if (h7 (72 + v1)).testBit v2 = true then (false, badF L.2 3) else (true, nx (mN L.2 7 (72 + v1) (h7 (72 + v1) ||| 2 ^ v2)))) else (false, L.2)
def rt0 (h7 : Nat → Nat) (z v1 : Nat) (T : Bool × mS) : Bool × mS := if T.1 = true then rt1 h7 v1 ((findW T.2 13 z).getD 0) (looksF T.2 13 z) else (false, T.2)
theorem treaty_eq (σ : mS) : readTreatyF σ = rt0 (σ.2.1 7) (σ.2.1 7 0) ((findW (nx σ) 13 (σ.2.1 7 0)).getD 0) (takesNameF (nx σ) 13 (σ.2.1 7 0)) := by
  unfold readTreatyF rt0 rt1; rfl
theorem ite_2 {P : mS → Prop} {c : Prop} [Decidable c] {a b : Bool × mS} (ha : c → P a.2) (hb : ¬ c → P b.2) : P (if c then a else b).2 := by
  by_cases h : c
  · rw [if_pos h]; exact ha h
  · rw [if_neg h]; exact hb h
/-- the numbers that a reading may change -/
def rk (k : Nat) : Bool := [3, 4, 5, 11, 12, 13, 14, 15, 16, 18, 19, 20, 47, 51, 52, 53, 54, 55].contains k
/-- what a reading leaves as it was; of a map (b true) the array h is free -/
def RF (b : Bool) (σ s : mS) : Prop := (∀ k, rk k = false → s.1 k = σ.1 k) ∧ (∀ k, ¬ k = 7 → ¬ k = 8 → ¬ k = 50 → s.2.1 k = σ.2.1 k) ∧ (b = true ∨ s.2.1 7 = σ.2.1 7) ∧ s.2.2.1 = σ.2.2.1 ∧ (∀ k, ¬ k = 9 → s.2.2.2.2 k = σ.2.2.2.2 k) ∧ (∀ j, j < 13 → s.2.2.2.2 9 j = σ.2.2.2.2 9 j) ∧ (PV σ → PV s)
theorem RF.rf (b : Bool) (σ : mS) : RF b σ σ := ⟨fun _ _ => rfl, fun _ _ _ _ => rfl, Or.inr rfl, rfl, fun _ _ => rfl, fun _ _ => rfl, fun h => h⟩
section RFS
variable {b : Bool} {σ X : mS}
theorem RF.nx (h : RF b σ X) : RF b σ (nx X) := ⟨fun k hk => (nx_sc X k ⟨fun e => by subst e; exact absurd hk (by decide), fun e => by subst e; exact absurd hk (by decide), fun e => by subst e; exact absurd hk (by decide), fun e => by subst e; exact absurd hk (by decide), fun e => by subst e; exact absurd hk (by decide)⟩).trans (h.1 k hk), h.2.1, h.2.2.1, h.2.2.2.1, h.2.2.2.2.1, h.2.2.2.2.2.1, fun q => PV_nx (h.2.2.2.2.2.2 q)⟩
theorem RF.mI {i : Nat} {v : Int32} (h : RF b σ X) (hi : rk i = true) (hp : ¬ i = 3 ∧ ¬ i = 4 ∧ ¬ i = 5 ∧ ¬ i = 11 ∧ ¬ i = 12 ∧ ¬ i = 14) : RF b σ (mI X i v) := ⟨fun k hk => (mI_o _ _ _ _ (fun e => by subst e; rw [hi] at hk; cases hk)).trans (h.1 k hk), h.2.1, h.2.2.1, h.2.2.2.1, h.2.2.2.2.1, h.2.2.2.2.2.1, fun q => PV_mI (h.2.2.2.2.2.2 q) hp⟩
theorem RF.bad {k : Nat} (h : RF b σ X) : RF b σ (badF X k) := RF.mI (RF.mI h (by decide) (by decide)) (by decide) (by decide)
theorem RF.m8 {i v : Nat} (h : RF b σ X) : RF b σ (mN X 8 i v) := ⟨h.1, fun k h7 h8 h50 => (upN_n _ _ _ _ h8).trans (h.2.1 k h7 h8 h50), h.2.2.1, h.2.2.2.1, h.2.2.2.2.1, h.2.2.2.2.2.1, fun q => PV_mN (h.2.2.2.2.2.2 q)⟩
theorem RF.m50 {i v : Nat} (h : RF b σ X) : RF b σ (mN X 50 i v) := ⟨h.1, fun k h7 h8 h50 => (upN_n _ _ _ _ h50).trans (h.2.1 k h7 h8 h50), h.2.2.1, h.2.2.2.1, h.2.2.2.2.1, h.2.2.2.2.2.1, fun q => PV_mN (h.2.2.2.2.2.2 q)⟩
theorem RF.m7 {i v : Nat} (h : RF true σ X) : RF true σ (mN X 7 i v) := ⟨h.1, fun k h7 h8 h50 => (upN_n _ _ _ _ h7).trans (h.2.1 k h7 h8 h50), Or.inl rfl, h.2.2.2.1, h.2.2.2.2.1, h.2.2.2.2.2.1, fun q => PV_mN (h.2.2.2.2.2.2 q)⟩
theorem RF.mL9 {i : Nat} {v : Int64} (h : RF b σ X) (hi : 13 ≤ i) : RF b σ (mL X 9 i v) := ⟨h.1, h.2.1, h.2.2.1, h.2.2.2.1, fun k hk => (upN_n _ _ _ _ hk).trans (h.2.2.2.2.1 k hk), fun j hj => by show upN X.2.2.2.2 9 (upN (X.2.2.2.2 9) i v) 9 j = _; rw [upN_s, upN_n _ _ _ _ (by omega)]; exact h.2.2.2.2.2.1 j hj, fun q => PV_mL (h.2.2.2.2.2.2 q)⟩
theorem RF.takes {lo hi : Nat} (h : RF b σ X) : RF b σ (takesF X lo hi).2 := by
  unfold takesF
  refine ite_2 (fun _ => ?_) (fun _ => ?_)
  · refine ite_2 (fun _ => ?_) (fun _ => ?_)
    · exact (h.mI (by decide) (by decide)).nx
    · exact h.bad
  · exact h.bad
theorem RF.looks {fr mn : Nat} (h : RF b σ X) : RF b σ (looksF X fr mn).2 := by
  unfold looksF
  refine ite_2 (fun _ => ?_) (fun _ => ?_)
  · refine ite_2 (fun _ => ?_) (fun _ => ?_)
    · exact h.mI (by decide) (by decide)
    · exact (h.mI (by decide) (by decide)).bad
  · exact h.bad
theorem RF.takesName {fr mn : Nat} (h : RF b σ X) : RF b σ (takesNameF X fr mn).2 := by
  unfold takesNameF
  refine ite_2 (fun _ => ?_) (fun _ => ?_)
  · exact h.looks.nx
  · exact h.looks
theorem RF.sign {c : Nat} (h : RF b σ X) : RF b σ (signF X c).2 := by
  unfold signF
  refine ite_2 (fun _ => ?_) (fun _ => ?_)
  · exact h.nx
  · exact h.bad
theorem RF.puts {to lo hi : Nat} (h : RF true σ X) : RF true σ (putsF X to lo hi).2 := by
  unfold putsF
  refine ite_2 (fun _ => ?_) (fun _ => ?_)
  · exact h.takes.m7
  · exact h.takes
theorem RF.fresh {to : Nat} (h : RF b σ X) (ht : 13 ≤ to) : RF b σ (freshF X to).2 := by
  unfold freshF
  refine ite_2 (fun _ => ?_) (fun _ => ?_)
  · refine ite_2 (fun _ => ?_) (fun _ => ?_)
    · exact h.bad
    · refine ite_2 (fun _ => ?_) (fun _ => ?_)
      · exact h.bad
      · exact (h.mL9 ht).nx
  · exact h.bad
theorem RF.land (h : RF true σ X) : RF true σ (readLandF X).2 := by
  unfold readLandF
  refine ite_2 (fun _ => ?_) (fun _ => ?_)
  · exact h.bad
  · refine ite_2 (fun _ => ?_) (fun _ => ?_)
    · refine ite_2 (fun _ => ?_) (fun _ => ?_)
      · refine ite_2 (fun _ => ?_) (fun _ => ?_)
        · exact ((h.nx.fresh (by omega)).puts.puts).m7
        · exact (h.nx.fresh (by omega)).puts.puts
      · exact (h.nx.fresh (by omega)).puts
    · exact h.nx.fresh (by omega)
theorem RF.store (h : RF true σ X) : RF true σ (readStoreF X).2 := by
  unfold readStoreF
  refine ite_2 (fun _ => ?_) (fun _ => ?_)
  · refine ite_2 (fun _ => ?_) (fun _ => ?_)
    · exact h.nx.looks.bad
    · exact ((h.nx.looks.mI (by decide) (by decide)).nx).puts
  · exact h.nx.looks
theorem RF.treaty (h : RF true σ X) : RF true σ (readTreatyF X).2 := by
  unfold readTreatyF
  refine ite_2 (fun _ => ?_) (fun _ => ?_)
  · refine ite_2 (fun _ => ?_) (fun _ => ?_)
    · refine ite_2 (fun _ => ?_) (fun _ => ?_)
      · exact h.nx.takesName.looks.bad
      · refine ite_2 (fun _ => ?_) (fun _ => ?_)
        · exact h.nx.takesName.looks.bad
        · exact h.nx.takesName.looks.m7.nx
    · exact h.nx.takesName.looks
  · exact h.nx.takesName
theorem RF.Qrd3 {c : Nat} {P : Bool × mS} (h : RF true σ P.2) : RF true σ (rd3 c P).2 := by
  unfold rd3
  refine ite_2 (fun _ => ?_) (fun _ => ?_)
  · exact h.m7
  · exact h
theorem RF.Qrd2 {c : Nat} {P : Bool × mS} (h : RF true σ P.2) : RF true σ (rd2 c P).2 := by
  unfold rd2
  refine ite_2 (fun _ => ?_) (fun _ => ?_)
  · exact RF.Qrd3 h.puts
  · exact h
theorem RF.Qrd1 {c z v1 v2 : Nat} {h7 : Nat → Nat} {L : Bool × mS} (h : RF true σ L.2) : RF true σ (rd1 c z h7 v1 v2 L).2 := by
  unfold rd1
  refine ite_2 (fun _ => ?_) (fun _ => ?_)
  · refine ite_2 (fun _ => ?_) (fun _ => ?_)
    · exact h.bad
    · refine ite_2 (fun _ => ?_) (fun _ => ?_)
      · exact h.bad
      · exact RF.Qrd2 h.m7.m7.nx.puts
  · exact h
theorem RF.Qrd0 {ρ : mS} {c z v1 : Nat} {T : Bool × mS} (h : RF true σ T.2) : RF true σ (rd0 ρ c z v1 T).2 := by
  unfold rd0
  refine ite_2 (fun _ => ?_) (fun _ => ?_)
  · exact RF.Qrd1 h.looks
  · exact h
theorem RF.road (h : RF true σ X) : RF true σ (readRoadF X).2 := by
  rw [road_eq]
  refine ite_2 (fun _ => ?_) (fun _ => ?_)
  · exact h.bad
  · exact RF.Qrd0 h.nx.takesName
theorem RF.person (h : RF true σ X) : RF true σ (readPersonF X).2 := by
  unfold readPersonF
  refine ite_2 (fun _ => ?_) (fun _ => ?_)
  · exact h.bad
  · refine ite_2 (fun _ => ?_) (fun _ => ?_)
    · refine ite_2 (fun _ => ?_) (fun _ => ?_)
      · refine ite_2 (fun _ => ?_) (fun _ => ?_)
        · exact ((h.nx.fresh (by omega)).takesName.m7.puts).m7
        · exact (h.nx.fresh (by omega)).takesName.m7.puts
      · exact (h.nx.fresh (by omega)).takesName
    · exact h.nx.fresh (by omega)
theorem RF.line (h : RF true σ X) : RF true σ (lineF X).2 := by
  unfold lineF
  refine ite_2 (fun _ => ?_) (fun _ => ?_)
  · exact h.land
  · refine ite_2 (fun _ => ?_) (fun _ => ?_)
    · exact h.store
    · refine ite_2 (fun _ => ?_) (fun _ => ?_)
      · exact h.road
      · refine ite_2 (fun _ => ?_) (fun _ => ?_)
        · exact h.treaty
        · refine ite_2 (fun _ => ?_) (fun _ => ?_)
          · exact h.person
          · exact h.bad
end RFS
theorem RF.map {σ : mS} : ∀ n X, RF true σ X → RF true σ (mapL n X).2 := by
  intro n
  induction n with
  | zero => intro X h; exact h
  | succ n ih =>
    intro X h
    rw [mapL]
    refine ite_2 (fun _ => ?_) (fun _ => ?_)
    · exact h
    · refine ite_2 (fun _ => ?_) (fun _ => ?_)
      · refine ite_2 (fun _ => ?_) (fun _ => ?_)
        · exact ih _ (h.line.sign.mI (by decide) (by decide))
        · exact h.line.sign
      · exact h.line
section RFB
variable {b : Bool} {σ X : mS}
theorem RF.lS {m k : Nat} (h : RF b σ X) : RF b σ (blS X m k) := h.nx.m8
theorem RF.bl2 {to : Nat} {five : Bool} (h : RF b σ X) : RF b σ (bl2F X to five).2 := by
  unfold bl2F bl2S bkT
  refine ite_2 (fun _ => ?_) (fun _ => ?_)
  · refine ite_2 (fun _ => ?_) (fun _ => ?_)
    · refine ite_2 (fun _ => ?_) (fun _ => ?_)
      · exact (h.takesName.m8.takes).m8
      · exact h.takesName.m8.takes
    · exact h.takesName.m8
  · exact h.takesName
theorem RF.blN {to : Nat} {five : Bool} (h : RF b σ X) : RF b σ (blNF X to five).2 := by
  unfold blNF bkT
  refine ite_2 (fun _ => ?_) (fun _ => ?_)
  · exact h.takesName.m8.bl2
  · exact h.takesName
theorem RF.blT {to lo hi : Nat} (h : RF b σ X) : RF b σ (blTF X to lo hi).2 := by
  unfold blTF
  refine ite_2 (fun _ => ?_) (fun _ => ?_)
  · exact h.takes.m8
  · exact h.takes
theorem RF.gN {m k : Nat} {five : Bool} (h : RF b σ X) : RF b σ (blGN X m k five).2 := by
  unfold blGN
  refine ite_2 (fun _ => ?_) (fun _ => ?_)
  · exact h.bad
  · exact h.lS.blN
theorem RF.gT {m k lo hi : Nat} (h : RF b σ X) : RF b σ (blGT X m k lo hi).2 := by
  unfold blGT
  refine ite_2 (fun _ => ?_) (fun _ => ?_)
  · exact h.bad
  · exact h.lS.blT
theorem RF.lA (h : RF b σ X) : RF b σ (blA X).2 := h.looks
theorem RF.blC {m : Nat} (h : RF b σ X) : RF b σ (blCF X m).2 := by
  unfold blCF
  refine ite_2 (fun _ => ?_) (fun _ => ?_)
  · refine ite_2 (fun _ => ?_) (fun _ => ?_)
    · exact h.lA.bad
    · refine ite_2 (fun _ => ?_) (fun _ => ?_)
      · exact (h.lA.lS.nx.m8).bl2
      · exact h.lA.lS.bad
  · exact h.lA
theorem RF.bookLine {m : Nat} (h : RF b σ X) : RF b σ (bookLineF X m).2 := by
  unfold bookLineF
  refine ite_2 (fun _ => ?_) (fun _ => ?_)
  · exact h.gN
  · refine ite_2 (fun _ => ?_) (fun _ => ?_)
    · exact h.gN
    · refine ite_2 (fun _ => ?_) (fun _ => ?_)
      · exact h.gT
      · refine ite_2 (fun _ => ?_) (fun _ => ?_)
        · exact h.gT
        · refine ite_2 (fun _ => ?_) (fun _ => ?_)
          · exact h.gN
          · refine ite_2 (fun _ => ?_) (fun _ => ?_)
            · exact h.gT
            · exact h.blC
theorem RF.code {x y z : Nat} (h : RF b σ X) : RF b σ (codeF X x y z) := h.m8.m8.m8.mI (by decide) (by decide)
theorem RF.pN (h : RF b σ X) : RF b σ (opN X) := (h.mI (by decide) (by decide)).nx
theorem RF.pW (h : RF b σ X) : RF b σ (opW X) := h.pN.mI (by decide) (by decide)
theorem RF.pG {x : Nat} (h : RF b σ X) : RF b σ (opG X x).2 := by
  unfold opG
  refine ite_2 (fun _ => ?_) (fun _ => ?_)
  · exact h.bad
  · refine ite_2 (fun _ => ?_) (fun _ => ?_)
    · exact h.bad
    · exact (h.pN.m50.mI (by decide) (by decide)).mI (by decide) (by decide)
theorem RF.pM (h : RF b σ X) : RF b σ (opM X).2 := by
  unfold opM
  refine ite_2 (fun _ => ?_) (fun _ => ?_)
  · exact h.pW.nx.code.nx
  · exact h.pW.nx.bad
theorem RF.pB (h : RF b σ X) : RF b σ (opB X).2 := by
  unfold opB opA
  refine ite_2 (fun _ => ?_) (fun _ => ?_)
  · exact h.pW.code
  · refine ite_2 (fun _ => ?_) (fun _ => ?_)
    · refine ite_2 (fun _ => ?_) (fun _ => ?_)
      · exact h.pW.looks.code.nx
      · exact h.pW.looks
    · refine ite_2 (fun _ => ?_) (fun _ => ?_)
      · refine ite_2 (fun _ => ?_) (fun _ => ?_)
        · exact h.pW.bad
        · refine ite_2 (fun _ => ?_) (fun _ => ?_)
          · exact h.pW.bad
          · exact h.pM
      · exact h.pW.bad
theorem RF.pL (h : RF b σ X) : RF b σ (opL X).2 := by
  unfold opL
  refine ite_2 (fun _ => ?_) (fun _ => ?_)
  · exact h.bad
  · refine ite_2 (fun _ => ?_) (fun _ => ?_)
    · exact h.bad
    · exact h.pB
theorem RF.operand (h : RF b σ X) : RF b σ (operandF X).2 := by
  unfold operandF
  refine ite_2 (fun _ => ?_) (fun _ => ?_)
  · exact h.pG
  · refine ite_2 (fun _ => ?_) (fun _ => ?_)
    · exact h.pG
    · refine ite_2 (fun _ => ?_) (fun _ => ?_)
      · exact h.bad
      · exact h.pL
end RFB
theorem RF.bk {b : Bool} {σ : mS} : ∀ n X m, RF b σ X → RF b σ (bkL n X m).2.1 := by
  intro n
  induction n with
  | zero => intro X m h; exact h
  | succ n ih =>
    intro X m h
    rw [bkL]
    split
    · exact h
    · split
      · split
        · exact ih _ _ (h.bookLine.sign.mI (by decide) (by decide))
        · exact h.bookLine.sign
      · exact h.bookLine
theorem RF.nots {b : Bool} {σ : mS} : ∀ n X, RF b σ X → RF b σ (notsF n X) := by
  intro n
  induction n with
  | zero => intro X h; exact h
  | succ n ih =>
    intro X h
    rw [notsF]
    split
    · exact ih _ (((h.mI (by decide) (by decide)).mI (by decide) (by decide)).code)
    · exact h
theorem RF.joins {b : Bool} {σ : mS} : ∀ n o X, RF b σ X → RF b σ (joinsF n o X) := by
  intro n
  induction n with
  | zero => intro o X h; exact h
  | succ n ih =>
    intro o X h
    rw [joinsF]
    split
    · exact ih _ _ ((h.mI (by decide) (by decide)).code)
    · split
      · split
        · exact ih _ _ ((h.mI (by decide) (by decide)).code)
        · exact h
      · exact h
theorem RF.hJ {b o : Bool} {σ X : mS} (h : RF b σ X) : RF b σ (bhJ X o) := RF.joins _ _ _ (RF.nots _ _ h)
theorem RF.hP {b : Bool} {σ X : mS} {x : Nat} (h : RF b σ X) : RF b σ (bhP X x) := ((h.m50.mI (by decide) (by decide)).mI (by decide) (by decide)).nx
theorem RF.behind {b : Bool} {σ X : mS} (h : RF b σ X) : RF b σ (behindF X).2 := by
  unfold behindF
  refine ite_2 (fun _ => ?_) (fun _ => ?_)
  · exact h.hJ.hP
  · refine ite_2 (fun _ => ?_) (fun _ => ?_)
    · exact h.hJ.hP
    · refine ite_2 (fun _ => ?_) (fun _ => ?_)
      · refine ite_2 (fun _ => ?_) (fun _ => ?_)
        · exact h.hJ.bad
        · exact ((h.hJ.mI (by decide) (by decide)).mI (by decide) (by decide)).nx
      · exact h.hJ.bad
theorem RF.sen {b : Bool} {σ : mS} : ∀ n X, RF b σ X → RF b σ (senL n X).2 := by
  intro n
  induction n with
  | zero => intro X h; exact h
  | succ n ih =>
    intro X h
    rw [senL]
    refine ite_2 (fun _ => ?_) (fun _ => ?_)
    · refine ite_2 (fun _ => ?_) (fun _ => ?_)
      · refine ite_2 (fun _ => ?_) (fun _ => ?_)
        · exact h.hJ
        · exact h.hJ.bad
      · refine ite_2 (fun _ => ?_) (fun _ => ?_)
        · exact ih _ h.behind
        · exact h.behind
    · refine ite_2 (fun _ => ?_) (fun _ => ?_)
      · exact ih _ h.operand
      · exact h.operand
/-- the array h within its bounds -/
def PH (σ : mS) : Prop := PV σ ∧ (∀ j, σ.2.1 7 j < 2 ^ 30) ∧ σ.2.1 7 0 ≤ 7 ∧ σ.2.1 7 1 ≤ 12 ∧ σ.2.1 7 2 ≤ 6
section PHS
variable {X : mS}
theorem PH.sc {Y : mS} (h : PH X) (hv : PV Y) (e : Y.2.1 7 = X.2.1 7) : PH Y := by
  refine ⟨hv, ?_⟩
  rw [e]; exact h.2
theorem PH.nx (h : PH X) : PH (nx X) := h.sc (PV_nx h.1) rfl
theorem PH.bad {k : Nat} (h : PH X) : PH (badF X k) := h.sc (PV_bad h.1) rfl
theorem PH.mI {i : Nat} {v : Int32} (h : PH X) (hp : ¬ i = 3 ∧ ¬ i = 4 ∧ ¬ i = 5 ∧ ¬ i = 11 ∧ ¬ i = 12 ∧ ¬ i = 14) : PH (mI X i v) := h.sc (PV_mI h.1 hp) rfl
theorem PH.takes {lo hi : Nat} (h : PH X) : PH (takesF X lo hi).2 := h.sc (PV_takes h.1) (by unfold takesF; split; split; rfl; rfl; rfl)
theorem PH.looks {fr mn : Nat} (h : PH X) : PH (looksF X fr mn).2 := h.sc (PV_looks h.1) (by unfold looksF; split; split; rfl; rfl; rfl)
theorem PH.takesName {fr mn : Nat} (h : PH X) : PH (takesNameF X fr mn).2 := by
  unfold takesNameF
  refine ite_2 (fun _ => ?_) (fun _ => ?_)
  · exact h.looks.nx
  · exact h.looks
theorem PH.sign {c : Nat} (h : PH X) : PH (signF X c).2 := h.sc (PV_sign h.1) (by unfold signF; split; rfl; rfl)
theorem PH.fresh {to : Nat} (h : PH X) : PH (freshF X to).2 := h.sc (PV_fresh h.1) (by unfold freshF; split; split; rfl; split; rfl; rfl; rfl)
theorem PH.h {i v : Nat} (h : PH X) (hv : v < 2 ^ 30) (h0 : i = 0 → v ≤ 7) (h1 : i = 1 → v ≤ 12) (h2 : i = 2 → v ≤ 6) : PH (mN X 7 i v) := by
  have e : ∀ j, (mN X 7 i v).2.1 7 j = if j = i then v else X.2.1 7 j := fun j => by show upN X.2.1 7 (upN (X.2.1 7) i v) 7 j = _; rw [upN_s, upN_a]
  refine ⟨PV_mN h.1, fun j => ?_, ?_, ?_, ?_⟩
  · rw [e]; split; exact hv; exact h.2.1 j
  · rw [e]; split; rename_i q; exact h0 q.symm; exact h.2.2.1
  · rw [e]; split; rename_i q; exact h1 q.symm; exact h.2.2.2.1
  · rw [e]; split; rename_i q; exact h2 q.symm; exact h.2.2.2.2
theorem PH.num (h : PH X) : numN X < 2 ^ 30 := by
  obtain ⟨s, lim, p, nm, tk, at', -, -, -, -, -, -, h14, h15, -⟩ := h.1
  unfold numN
  rw [h14, nI_clamp (by omega)]; exact h15
theorem PH.puts {to lo hi : Nat} (h : PH X) (ht : 3 ≤ to) : PH (putsF X to lo hi).2 := by
  unfold putsF
  refine ite_2 (fun _ => ?_) (fun _ => ?_)
  · exact h.takes.h h.num (fun e => by omega) (fun e => by omega) (fun e => by omega)
  · exact h.takes
theorem fw_lt {Y : mS} {fr mn : Nat} : (findW Y fr mn).getD 0 ≤ mn := by
  unfold findW
  cases e : findF _ mn 0 with
  | none => exact Nat.zero_le _
  | some r => have := (findF_lt _ _ _ e).2.1; show r ≤ mn; omega
theorem PH.land (h : PH X) : PH (readLandF X).2 := by
  unfold readLandF
  refine ite_2 (fun _ => ?_) (fun h7 => ?_)
  · exact h.bad
  · have h0 := h.2.2.1
    refine ite_2 (fun _ => ?_) (fun _ => ?_)
    · refine ite_2 (fun _ => ?_) (fun _ => ?_)
      · refine ite_2 (fun _ => ?_) (fun _ => ?_)
        · exact ((h.nx.fresh.puts (by omega)).puts (by omega)).h (by omega) (fun _ => by omega) (fun e => by omega) (fun e => by omega)
        · exact (h.nx.fresh.puts (by omega)).puts (by omega)
      · exact h.nx.fresh.puts (by omega)
    · exact h.nx.fresh
theorem PH.store (h : PH X) : PH (readStoreF X).2 := by
  unfold readStoreF
  refine ite_2 (fun _ => ?_) (fun _ => ?_)
  · refine ite_2 (fun _ => ?_) (fun _ => ?_)
    · exact h.nx.looks.bad
    · exact ((h.nx.looks.mI (by decide)).nx).puts (by omega)
  · exact h.nx.looks
theorem PH.Qrt1 {h7 : Nat → Nat} {v1 v2 : Nat} {L : Bool × mS} (h : PH L.2) (hb : ∀ j, h7 j < 2 ^ 30) (hv : v2 ≤ 7) : PH (rt1 h7 v1 v2 L).2 := by
  unfold rt1
  refine ite_2 (fun _ => ?_) (fun _ => ?_)
  · refine ite_2 (fun _ => ?_) (fun _ => ?_)
    · exact h.bad
    · refine ite_2 (fun _ => ?_) (fun _ => ?_)
      · exact h.bad
      · exact (h.h (Nat.or_lt_two_pow (hb _) (Nat.pow_lt_pow_right (by decide) (by omega))) (fun e => by omega) (fun e => by omega) (fun e => by omega)).nx
  · exact h
theorem PH.treaty (h : PH X) : PH (readTreatyF X).2 := by
  rw [treaty_eq]
  unfold rt0
  refine ite_2 (fun _ => ?_) (fun _ => ?_)
  · exact PH.Qrt1 h.nx.takesName.looks h.2.1 (Nat.le_trans fw_lt h.2.2.1)
  · exact h.nx.takesName
theorem PH.Qrd3 {c : Nat} {P : Bool × mS} (h : PH P.2) (hc : c < 12) : PH (rd3 c P).2 := by
  unfold rd3
  refine ite_2 (fun _ => ?_) (fun _ => ?_)
  · exact h.h (by omega) (fun e => by omega) (fun _ => by omega) (fun e => by omega)
  · exact h
theorem PH.Qrd2 {c : Nat} {P : Bool × mS} (h : PH P.2) (hc : c < 12) : PH (rd2 c P).2 := by
  unfold rd2
  refine ite_2 (fun _ => ?_) (fun _ => ?_)
  · exact PH.Qrd3 (h.puts (by omega)) hc
  · exact h
theorem PH.Qrd1 {c z v1 v2 : Nat} {h7 : Nat → Nat} {L : Bool × mS} (h : PH L.2) (hc : c < 12) (h1 : v1 ≤ 7) (h2 : v2 ≤ 7) : PH (rd1 c z h7 v1 v2 L).2 := by
  unfold rd1
  refine ite_2 (fun _ => ?_) (fun _ => ?_)
  · refine ite_2 (fun _ => ?_) (fun _ => ?_)
    · exact h.bad
    · refine ite_2 (fun _ => ?_) (fun _ => ?_)
      · exact h.bad
      · exact PH.Qrd2 ((((h.h (by omega) (fun e => by omega) (fun e => by omega) (fun e => by omega)).h (by omega) (fun e => by omega) (fun e => by omega) (fun e => by omega)).nx).puts (by omega)) hc
  · exact h
theorem PH.road (h : PH X) : PH (readRoadF X).2 := by
  rw [road_eq]
  refine ite_2 (fun _ => ?_) (fun h12 => ?_)
  · exact h.bad
  · have h1 := h.2.2.2.1
    unfold rd0
    refine ite_2 (fun _ => ?_) (fun _ => ?_)
    · exact PH.Qrd1 h.nx.takesName.looks (by omega) (Nat.le_trans fw_lt h.2.2.1) (Nat.le_trans fw_lt h.2.2.1)
    · exact h.nx.takesName
theorem PH.person (h : PH X) : PH (readPersonF X).2 := by
  unfold readPersonF
  refine ite_2 (fun _ => ?_) (fun h6 => ?_)
  · exact h.bad
  · skip
    have h2 := h.2.2.2.2
    have h0 := h.2.2.1
    refine ite_2 (fun _ => ?_) (fun _ => ?_)
    · have f1 := fw_lt (Y := (freshF (nX9 X) (20 + X.2.1 7 2)).2) (fr := 13) (mn := X.2.1 7 0)
      have g := ((h.nx.fresh (to := 20 + X.2.1 7 2)).takesName (fr := 13) (mn := X.2.1 7 0)).h (i := 79 + X.2.1 7 2) (v := (findW (freshF (nX9 X) (20 + X.2.1 7 2)).2 13 (X.2.1 7 0)).getD 0) (by omega) (fun e => by omega) (fun e => by omega) (fun e => by omega)
      refine ite_2 (fun _ => ?_) (fun _ => ?_)
      · refine ite_2 (fun _ => ?_) (fun _ => ?_)
        · exact (g.puts (by omega)).h (by omega) (fun e => by omega) (fun e => by omega) (fun _ => by omega)
        · exact g.puts (by omega)
      · exact h.nx.fresh.takesName
    · exact h.nx.fresh
theorem PH.line (h : PH X) : PH (lineF X).2 := by
  unfold lineF
  refine ite_2 (fun _ => ?_) (fun _ => ?_)
  · exact h.land
  · refine ite_2 (fun _ => ?_) (fun _ => ?_)
    · exact h.store
    · refine ite_2 (fun _ => ?_) (fun _ => ?_)
      · exact h.road
      · refine ite_2 (fun _ => ?_) (fun _ => ?_)
        · exact h.treaty
        · refine ite_2 (fun _ => ?_) (fun _ => ?_)
          · exact h.person
          · exact h.bad
end PHS
theorem PH.map : ∀ n X, PH X → PH (mapL n X).2 := by
  intro n
  induction n with
  | zero => intro X h; exact h
  | succ n ih =>
    intro X h
    rw [mapL]
    refine ite_2 (fun _ => ?_) (fun _ => ?_)
    · exact h
    · refine ite_2 (fun _ => ?_) (fun _ => ?_)
      · refine ite_2 (fun _ => ?_) (fun _ => ?_)
        · exact ih _ (h.line.sign.mI (by decide))
        · exact h.line.sign
      · exact h.line
