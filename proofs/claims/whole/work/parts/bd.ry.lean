def hbd (j : Nat) : Nat := if 3 ≤ j ∧ j < 17 then 20 else if 85 ≤ j ∧ j < 91 then 240 else 1023
/-- the array h within its narrower bounds -/
def PB (σ : mS) : Prop := PH σ ∧ ∀ j, j < 91 → σ.2.1 7 j ≤ hbd j
section PBS
variable {X : mS}
theorem PB.sc {Y : mS} (h : PB X) (hv : PH Y) (e : Y.2.1 7 = X.2.1 7) : PB Y := by
  refine ⟨hv, ?_⟩
  rw [e]; exact h.2
theorem PB.nx (h : PB X) : PB (nx X) := h.sc h.1.nx rfl
theorem PB.bad {k : Nat} (h : PB X) : PB (badF X k) := h.sc h.1.bad rfl
theorem PB.mI {i : Nat} {v : Int32} (h : PB X) (hp : ¬ i = 3 ∧ ¬ i = 4 ∧ ¬ i = 5 ∧ ¬ i = 11 ∧ ¬ i = 12 ∧ ¬ i = 14) : PB (mI X i v) := h.sc (h.1.mI hp) rfl
theorem PB.takes {lo hi : Nat} (h : PB X) : PB (takesF X lo hi).2 := h.sc h.1.takes (by unfold takesF; split; split; rfl; rfl; rfl)
theorem PB.looks {fr mn : Nat} (h : PB X) : PB (looksF X fr mn).2 := h.sc h.1.looks (by unfold looksF; split; split; rfl; rfl; rfl)
theorem PB.takesName {fr mn : Nat} (h : PB X) : PB (takesNameF X fr mn).2 := by
  unfold takesNameF
  refine ite_2 (fun _ => ?_) (fun _ => ?_)
  · exact h.looks.nx
  · exact h.looks
theorem PB.sign {c : Nat} (h : PB X) : PB (signF X c).2 := h.sc h.1.sign (by unfold signF; split; rfl; rfl)
theorem PB.fresh {to : Nat} (h : PB X) : PB (freshF X to).2 := h.sc h.1.fresh (by unfold freshF; split; split; rfl; split; rfl; rfl; rfl)
theorem PB.h {i v : Nat} (h : PB X) (hv : v < 2 ^ 30) (h0 : i = 0 → v ≤ 7) (h1 : i = 1 → v ≤ 12) (h2 : i = 2 → v ≤ 6) (hb : i < 91 → v ≤ hbd i) : PB (mN X 7 i v) := by
  have e : ∀ j, (mN X 7 i v).2.1 7 j = if j = i then v else X.2.1 7 j := fun j => by show upN X.2.1 7 (upN (X.2.1 7) i v) 7 j = _; rw [upN_s, upN_a]
  refine ⟨h.1.h hv h0 h1 h2, fun j hj => ?_⟩
  rw [e]
  split
  · rename_i q; subst q; exact hb hj
  · exact h.2 j hj
theorem take_le {lo hi : Nat} (hhi : hi < 2 ^ 31) (hlo : lo < 2 ^ 31) (h : (takesF X lo hi).1 = true) : numN X ≤ hi := by
  unfold takesF at h
  split at h
  · split at h
    · rename_i q
      obtain ⟨k, h1, h2, h3⟩ := inC_b hlo hhi q
      unfold numN
      rw [h3, nI_clamp (by omega)]; exact h2
    · exact absurd h Bool.false_ne_true
  · exact absurd h Bool.false_ne_true
theorem PB.puts {to lo hi : Nat} (h : PB X) (ht : 3 ≤ to) (hhi : hi ≤ 240) (hlo : lo ≤ 1023) (hb : to < 91 → hi ≤ hbd to) : PB (putsF X to lo hi).2 := by
  unfold putsF
  refine ite_2 (fun c => ?_) (fun _ => ?_)
  · exact h.takes.h h.1.num (fun e => by omega) (fun e => by omega) (fun e => by omega) (fun e => Nat.le_trans (take_le (by omega) (by omega) c) (hb e))
  · exact h.takes
theorem hbd_t {c : Nat} (h : c < 14) : hbd (3 + c) = 20 := if_pos (by omega)
theorem hbd_t3 {c : Nat} (h : c < 7) : hbd (10 + c) = 20 := if_pos (by omega)
theorem hbd_p {c : Nat} (h : c < 6) : hbd (85 + c) = 240 := by unfold hbd; rw [if_neg (by omega), if_pos (by omega)]
theorem hbd_o {j : Nat} (h1 : ¬ (3 ≤ j ∧ j < 17)) (h2 : ¬ (85 ≤ j ∧ j < 91)) : hbd j = 1023 := by unfold hbd; rw [if_neg h1, if_neg h2]
theorem hbd_q {j : Nat} (h1 : ¬ (3 ≤ j ∧ j < 17)) : 240 ≤ hbd j := by unfold hbd; rw [if_neg h1]; split <;> omega
theorem PB.land (h : PB X) : PB (readLandF X).2 := by
  unfold readLandF
  refine ite_2 (fun _ => ?_) (fun h7 => ?_)
  · exact h.bad
  · have h0 := h.1.2.2.1
    have h9 : X.2.1 7 0 < 7 := by omega
    refine ite_2 (fun _ => ?_) (fun _ => ?_)
    · have g1 := (h.nx.fresh (to := 13 + X.2.1 7 0)).puts (to := 3 + X.2.1 7 0) (lo := 0) (hi := 20) (by omega) (by omega) (by omega) (fun _ => by rw [hbd_t (by omega)]; omega)
      have g2 := g1.puts (to := 10 + X.2.1 7 0) (lo := 0) (hi := 20) (by omega) (by omega) (by omega) (fun _ => by rw [hbd_t3 (by omega)]; omega)
      refine ite_2 (fun _ => ?_) (fun _ => ?_)
      · refine ite_2 (fun _ => ?_) (fun _ => ?_)
        · exact g2.h (by omega) (fun _ => by omega) (fun e => by omega) (fun e => by omega) (fun _ => by rw [hbd_o (by omega) (by omega)]; omega)
        · exact g2
      · exact g1
    · exact h.nx.fresh
theorem PB.store (h : PB X) : PB (readStoreF X).2 := by
  unfold readStoreF
  refine ite_2 (fun _ => ?_) (fun _ => ?_)
  · refine ite_2 (fun _ => ?_) (fun _ => ?_)
    · exact h.nx.looks.bad
    · exact ((h.nx.looks.mI (by decide)).nx).puts (by omega) (by omega) (by omega) (fun _ => Nat.le_trans (by omega) (hbd_q (by omega)))
  · exact h.nx.looks
theorem PB.Qrt1 {h7 : Nat → Nat} {v1 v2 : Nat} {L : Bool × mS} (h : PB L.2) (hb : ∀ j, j < 91 → h7 j ≤ hbd j) (h1 : v1 ≤ 7) (hv : v2 ≤ 7) : PB (rt1 h7 v1 v2 L).2 := by
  unfold rt1
  refine ite_2 (fun _ => ?_) (fun _ => ?_)
  · refine ite_2 (fun _ => ?_) (fun _ => ?_)
    · exact h.bad
    · refine ite_2 (fun _ => ?_) (fun _ => ?_)
      · exact h.bad
      · have e := hb (72 + v1) (by omega)
        rw [hbd_o (by omega) (by omega)] at e
        have h10 : h7 (72 + v1) ||| 2 ^ v2 < 2 ^ 10 := Nat.or_lt_two_pow (by omega) (Nat.pow_lt_pow_right (by decide) (by omega))
        exact (h.h (by omega) (fun e => by omega) (fun e => by omega) (fun e => by omega) (fun _ => by rw [hbd_o (by omega) (by omega)]; omega)).nx
  · exact h
theorem PB.treaty (h : PB X) : PB (readTreatyF X).2 := by
  rw [treaty_eq]
  unfold rt0
  refine ite_2 (fun _ => ?_) (fun _ => ?_)
  · exact PB.Qrt1 h.nx.takesName.looks h.2 (Nat.le_trans fw_lt h.1.2.2.1) (Nat.le_trans fw_lt h.1.2.2.1)
  · exact h.nx.takesName
theorem PB.Qrd3 {c : Nat} {P : Bool × mS} (h : PB P.2) (hc : c < 12) : PB (rd3 c P).2 := by
  unfold rd3
  refine ite_2 (fun _ => ?_) (fun _ => ?_)
  · exact h.h (by omega) (fun e => by omega) (fun _ => by omega) (fun e => by omega) (fun _ => by rw [hbd_o (by omega) (by omega)]; omega)
  · exact h
theorem PB.Qrd2 {c : Nat} {P : Bool × mS} (h : PB P.2) (hc : c < 12) : PB (rd2 c P).2 := by
  unfold rd2
  refine ite_2 (fun _ => ?_) (fun _ => ?_)
  · exact PB.Qrd3 (h.puts (by omega) (by omega) (by have := h.2 (48 + c) (by omega); rw [hbd_o (by omega) (by omega)] at this; exact this) (fun _ => hbd_q (by omega))) hc
  · exact h
theorem PB.Qrd1 {c z v1 v2 : Nat} {h7 : Nat → Nat} {L : Bool × mS} (h : PB L.2) (hc : c < 12) (h1 : v1 ≤ 7) (h2 : v2 ≤ 7) : PB (rd1 c z h7 v1 v2 L).2 := by
  unfold rd1
  refine ite_2 (fun _ => ?_) (fun _ => ?_)
  · refine ite_2 (fun _ => ?_) (fun _ => ?_)
    · exact h.bad
    · refine ite_2 (fun _ => ?_) (fun _ => ?_)
      · exact h.bad
      · exact PB.Qrd2 ((((h.h (by omega) (fun e => by omega) (fun e => by omega) (fun e => by omega) (fun _ => by rw [hbd_o (by omega) (by omega)]; omega)).h (by omega) (fun e => by omega) (fun e => by omega) (fun e => by omega) (fun _ => by rw [hbd_o (by omega) (by omega)]; omega)).nx).puts (by omega) (by omega) (by omega) (fun _ => hbd_q (by omega))) hc
  · exact h
theorem PB.road (h : PB X) : PB (readRoadF X).2 := by
  rw [road_eq]
  refine ite_2 (fun _ => ?_) (fun h12 => ?_)
  · exact h.bad
  · have h1 := h.1.2.2.2.1
    unfold rd0
    refine ite_2 (fun _ => ?_) (fun _ => ?_)
    · exact PB.Qrd1 h.nx.takesName.looks (by omega) (Nat.le_trans fw_lt h.1.2.2.1) (Nat.le_trans fw_lt h.1.2.2.1)
    · exact h.nx.takesName
theorem PB.person (h : PB X) : PB (readPersonF X).2 := by
  unfold readPersonF
  refine ite_2 (fun _ => ?_) (fun h6 => ?_)
  · exact h.bad
  · skip
    have h2 := h.1.2.2.2.2
    have h0 := h.1.2.2.1
    refine ite_2 (fun _ => ?_) (fun _ => ?_)
    · have f1 := fw_lt (Y := (freshF (nX9 X) (20 + X.2.1 7 2)).2) (fr := 13) (mn := X.2.1 7 0)
      have g := ((h.nx.fresh (to := 20 + X.2.1 7 2)).takesName (fr := 13) (mn := X.2.1 7 0)).h (i := 79 + X.2.1 7 2) (v := (findW (freshF (nX9 X) (20 + X.2.1 7 2)).2 13 (X.2.1 7 0)).getD 0) (by omega) (fun e => by omega) (fun e => by omega) (fun e => by omega) (fun _ => by rw [hbd_o (by omega) (by omega)]; omega)
      have g2 := g.puts (to := 85 + X.2.1 7 2) (lo := 1) (hi := 240) (by omega) (by omega) (by omega) (fun _ => hbd_q (by omega))
      refine ite_2 (fun _ => ?_) (fun _ => ?_)
      · refine ite_2 (fun _ => ?_) (fun _ => ?_)
        · exact g2.h (by omega) (fun e => by omega) (fun e => by omega) (fun _ => by omega) (fun _ => by rw [hbd_o (by omega) (by omega)]; omega)
        · exact g2
      · exact h.nx.fresh.takesName
    · exact h.nx.fresh
theorem PB.line (h : PB X) : PB (lineF X).2 := by
  unfold lineF
  refine ite_2 (fun _ => ?_) (fun _ => ?_)
  · exact h.land
  · refine ite_2 (fun _ => ?_) (fun _ => ?_)
    · exact h.store
    · refine ite_2 (fun _ => ?_) (fun _ => ?_)
      · exact h.road
      · refine ite_2 (fun _ => ?_) (fun _ => ?_)
        · exact h.treaty
        · refine ite_2 (fun _ => ?_) (fun _ => ?_)
          · exact h.person
          · exact h.bad
end PBS
theorem PB.map : ∀ n X, PB X → PB (mapL n X).2 := by
  intro n
  induction n with
  | zero => intro X h; exact h
  | succ n ih =>
    intro X h
    rw [mapL]
    refine ite_2 (fun _ => ?_) (fun _ => ?_)
    · exact h
    · refine ite_2 (fun _ => ?_) (fun _ => ?_)
      · refine ite_2 (fun _ => ?_) (fun _ => ?_)
        · exact ih _ (h.line.sign.mI (by decide))
        · exact h.line.sign
      · exact h.line
