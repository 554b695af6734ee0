theorem b8_lo : ∀ c, c < 128 → (nI c).toInt8.toInt32 = nI c := by decide +kernel
theorem n8_lo : ∀ c, c < 128 → vp_nar .byte (nI c) = nI c := by decide +kernel
def byW (W n : Nat) : Nat := W / 256 ^ n % 256
/-- a word whose bytes are small -/
def okW (W : Nat) : Prop := W < 2 ^ 62 ∧ ∀ n, byW W n < 128
theorem lN_shr {W k : Nat} (hW : W < 2 ^ 62) (hk : k < 64) : (lN W >>> ((nI k).toInt64 &&& 63)) &&& (255 : Int64) = lN (W / 2 ^ k % 256) := by
  have e63 : ∀ k, k < 64 → (nI k).toInt64 &&& 63 = lN k := by decide +kernel
  rw [e63 k hk]
  apply Int64.toBitVec_inj.mp
  apply BitVec.eq_of_toNat_eq
  have e : ∀ z, (lN z).toBitVec = BitVec.ofNat 64 z := fun z => rfl
  rw [Int64.toBitVec_and, Int64.toBitVec_shiftRight, e, e, e, BitVec.toNat_and]
  have hs : ∀ k, k < 64 → ((BitVec.ofNat 64 k).smod 64).toNat = k := by decide +kernel
  have hm : (BitVec.ofNat 64 W).msb = false := by
    rw [BitVec.msb_eq_false_iff_two_mul_lt, BitVec.toNat_ofNat, Nat.mod_eq_of_lt (by omega)]
    omega
  rw [BitVec.sshiftRight', hs k hk, BitVec.sshiftRight_eq_of_msb_false hm, BitVec.toNat_ushiftRight]
  simp only [BitVec.toNat_ofNat]
  rw [Nat.mod_eq_of_lt (show W < 2 ^ 64 by omega), Nat.shiftRight_eq_div_pow, show (Int64.toBitVec 255).toNat = 2 ^ 8 - 1 from rfl, Nat.and_two_pow_sub_one_eq_mod]
  rw [Nat.mod_eq_of_lt (show W / 2 ^ k % 256 < 2 ^ 64 from Nat.lt_trans (Nat.mod_lt _ (by decide)) (by decide))]
def layP (p : (Nat → Nat) × Nat) (c : Nat) : (Nat → Nat) × Nat := (upN p.1 p.2 c, p.2 + 1)
def spellG (W : Nat) : Nat → (Nat → Nat) × Nat → (Nat → Nat) × Nat
  | 0, p => p
  | n + 1, p => spellG W n (if byW W n = 0 then p else layP p (byW W n))
theorem spellG_m (W : Nat) : ∀ n p, p.2 ≤ (spellG W n p).2 ∧ (spellG W n p).2 ≤ p.2 + n := by
  intro n
  induction n with
  | zero => intro p; exact ⟨Nat.le_refl _, Nat.le_refl _⟩
  | succ n ih =>
    intro p
    unfold spellG
    split
    · have := ih p; omega
    · have := ih (layP p (byW W n)); simp only [layP] at *; omega
/-- the text as it stands -/
def txS (σ : mS) (p : (Nat → Nat) × Nat) : mS := mI (sN σ 44 p.1) 45 (nI p.2)
theorem byW_0 {W k n : Nat} (hk : 2 ^ k = 256 ^ n) : W / 2 ^ k % 256 = byW W n := by rw [hk]; rfl
theorem lN_0 {n : Nat} (h : n < 2 ^ 31) : lN n = 0 ↔ n = 0 := lN_eq (a := n) (b := 0) h (by decide)
theorem lN_toI (n : Nat) : (lN n).toInt32 = nI n := lN_i n

set_option maxHeartbeats 1000000 in
set_option maxRecDepth 20000 in
theorem s_lays {G : xG} {d : Nat} {Q : xQ} {a : Nat → Nat} {σ : mS} {p : (Nat → Nat) × Nat} {c : Nat} (hp : p.2 < 40) (hc : c < 128) (kk : Q none (mW G.2.2.1 a (txS σ (layP p c)))) : MT G MX12_lays (d) 0 0 [.ref (a 60), .int (nI c)] (mW G.2.2.1 a (txS σ p)) Q := by
  refine mt_start (L := [some (.ref (a 60)), some (.int (nI c))]) rfl (Nat.le_of_ble_eq_true rfl) rfl ?_
  refine aw_aload_n (pc := 0) (i := 0) dX12_lays_0 rfl rfl ?_
  refine mg_text (pc := 1) dX12_lays_1 rfl ?_
  refine aw_aload_n (pc := 4) (i := 0) dX12_lays_4 rfl rfl ?_
  refine mg_textMany (pc := 5) dX12_lays_5 rfl ?_
  refine aw_top (y := nI p.2) rfl ?_
  refine aw_iload_n (pc := 8) (i := 1) dX12_lays_8 rfl rfl ?_
  refine aw_i2b (pc := 9) dX12_lays_9 ?_
  refine aw_top (y := (nI c)) (b8_lo c hc) ?_
  refine ms_text (pc := 10) dX12_lays_10 (by omega) (n8_lo c hc) ?_
  refine aw_aload_n (pc := 11) (i := 0) dX12_lays_11 rfl rfl ?_
  refine aw_dup (pc := 12) dX12_lays_12 rfl ?_
  refine mg_textMany (pc := 13) dX12_lays_13 rfl ?_
  refine aw_top (y := nI p.2) rfl ?_
  refine aw_iconst (pc := 16) dX12_lays_16 iconst_1 ?_
  refine an_add (pc := 17) dX12_lays_17 ?_
  refine mp_textMany (pc := 18) dX12_lays_18 rfl ?_
  exact aw_vret (pc := 21) dX12_lays_21 rfl (Nat.le_refl _) (Nat.le_refl _) (kk)
set_option maxHeartbeats 1000000 in
set_option maxRecDepth 20000 in
theorem spell_0 {G : xG} {d : Nat} {Q : xQ} {a : Nat → Nat} {σ : mS} {p : (Nat → Nat) × Nat} {W : Nat} (hW : okW W) (hp : p.2 + 1 ≤ 40) (kk : Q none (mW G.2.2.1 a (txS σ (spellG W 1 p)))) : AW G MX12_spells (d + 1) 0 0 Q 3 [some (.ref (a 60)), some (.long (lN W)), none, some (.int (nI 0))] [] (mW G.2.2.1 a (txS σ p)) 0 0 := by
  refine aw_iload_n (pc := 3) (i := 3) dX12_spells_3 rfl rfl ?_
  refine an_if_lt (pc := 4) (tgt := 37) dX12_spells_4 rfl (by decide) ?_
  refine aw_lload_n (pc := 7) (i := 1) dX12_spells_7 rfl rfl ?_
  refine aw_iload_n (pc := 8) (i := 3) dX12_spells_8 rfl rfl ?_
  refine aw_lshr (pc := 9) dX12_spells_9 ?_
  refine aw_ldc2 (pc := 10) dX12_spells_10 tw_1933 ?_
  refine aw_land (pc := 13) dX12_spells_13 ?_
  refine aw_topJ (y := lN (byW W 0)) ((lN_shr hW.1 (by decide)).trans (congrArg lN (byW_0 (by decide)))) ?_
  refine aw_lconst (pc := 14) (v := 0) dX12_spells_14 rfl ?_
  refine aw_lcmp (pc := 15) dX12_spells_15 ?_
  refine aj_if_eq (pc := 16) (tgt := 31) dX12_spells_16 rfl (fun h16 => ?_) (fun h16 => ?_)
  · -- 31
    refine an_dec (pc := 31) (v := (-8 : Int32)) (y := (-8 : Int32)) dX12_spells_31 rfl (by decide) (by decide) (Nat.le_of_ble_eq_true rfl) trivial ?_
    refine aw_goto (pc := 34) (tgt := 3) dX12_spells_34 rfl ?_
    refine aw_iload_n (pc := 3) (i := 3) dX12_spells_3 rfl rfl ?_
    refine aw_if_lt (pc := 4) (tgt := 37) dX12_spells_4 rfl (fun _ => ?_) (fun h => absurd (by decide) h)
    exact aw_vret (pc := 37) dX12_spells_37 rfl (Nat.le_refl _) (Nat.le_refl _) (by rw [spellG, if_pos ((lN_0 (Nat.lt_trans (hW.2 0) (by decide))).mp h16)] at kk; exact kk)
  · -- 19
    refine aw_aload_n (pc := 19) (i := 0) dX12_spells_19 rfl rfl ?_
    refine aw_lload_n (pc := 20) (i := 1) dX12_spells_20 rfl rfl ?_
    refine aw_iload_n (pc := 21) (i := 3) dX12_spells_21 rfl rfl ?_
    refine aw_lshr (pc := 22) dX12_spells_22 ?_
    refine aw_ldc2 (pc := 23) dX12_spells_23 tw_1933 ?_
    refine aw_land (pc := 26) dX12_spells_26 ?_
    refine aw_topJ (y := lN (byW W 0)) ((lN_shr hW.1 (by decide)).trans (congrArg lN (byW_0 (by decide)))) ?_
    refine aw_l2i (pc := 27) dX12_spells_27 ?_
    refine aw_top (y := nI (byW W 0)) (lN_i _) ?_
    refine mc_V (pc := 28) (As := [.int (nI (byW W 0))]) (rest := []) dX12_spells_28 rfl ok_X12_418 rfl rfl rfl (Nat.le_of_ble_eq_true rfl) (s_lays (c := byW W 0) (by omega) (hW.2 0) ⟨_, rfl, rfl, ?_⟩)
    refine an_dec (pc := 31) (v := (-8 : Int32)) (y := (-8 : Int32)) dX12_spells_31 rfl (by decide) (by decide) (Nat.le_of_ble_eq_true rfl) trivial ?_
    refine aw_goto (pc := 34) (tgt := 3) dX12_spells_34 rfl ?_
    refine aw_iload_n (pc := 3) (i := 3) dX12_spells_3 rfl rfl ?_
    refine aw_if_lt (pc := 4) (tgt := 37) dX12_spells_4 rfl (fun _ => ?_) (fun h => absurd (by decide) h)
    exact aw_vret (pc := 37) dX12_spells_37 rfl (Nat.le_refl _) (Nat.le_refl _) (by rw [spellG, if_neg (fun e => h16 (by rw [e]; rfl))] at kk; exact kk)
set_option maxHeartbeats 1000000 in
set_option maxRecDepth 20000 in
theorem spell_1 {G : xG} {d : Nat} {Q : xQ} {a : Nat → Nat} {σ : mS} {p : (Nat → Nat) × Nat} {W : Nat} (hW : okW W) (hp : p.2 + 2 ≤ 40) (kk : Q none (mW G.2.2.1 a (txS σ (spellG W 2 p)))) : AW G MX12_spells (d + 1) 0 0 Q 3 [some (.ref (a 60)), some (.long (lN W)), none, some (.int (nI 8))] [] (mW G.2.2.1 a (txS σ p)) 0 0 := by
  refine aw_iload_n (pc := 3) (i := 3) dX12_spells_3 rfl rfl ?_
  refine an_if_lt (pc := 4) (tgt := 37) dX12_spells_4 rfl (by decide) ?_
  refine aw_lload_n (pc := 7) (i := 1) dX12_spells_7 rfl rfl ?_
  refine aw_iload_n (pc := 8) (i := 3) dX12_spells_8 rfl rfl ?_
  refine aw_lshr (pc := 9) dX12_spells_9 ?_
  refine aw_ldc2 (pc := 10) dX12_spells_10 tw_1933 ?_
  refine aw_land (pc := 13) dX12_spells_13 ?_
  refine aw_topJ (y := lN (byW W 1)) ((lN_shr hW.1 (by decide)).trans (congrArg lN (byW_0 (by decide)))) ?_
  refine aw_lconst (pc := 14) (v := 0) dX12_spells_14 rfl ?_
  refine aw_lcmp (pc := 15) dX12_spells_15 ?_
  refine aj_if_eq (pc := 16) (tgt := 31) dX12_spells_16 rfl (fun h16 => ?_) (fun h16 => ?_)
  · -- 31
    refine an_dec (pc := 31) (v := (-8 : Int32)) (y := nI 0) dX12_spells_31 rfl (by decide) (by decide) (Nat.le_of_ble_eq_true rfl) trivial ?_
    refine aw_goto (pc := 34) (tgt := 3) dX12_spells_34 rfl ?_
    rw [spellG, if_pos ((lN_0 (Nat.lt_trans (hW.2 1) (by decide))).mp h16)] at kk
    exact spell_0 hW (by omega) kk
  · -- 19
    refine aw_aload_n (pc := 19) (i := 0) dX12_spells_19 rfl rfl ?_
    refine aw_lload_n (pc := 20) (i := 1) dX12_spells_20 rfl rfl ?_
    refine aw_iload_n (pc := 21) (i := 3) dX12_spells_21 rfl rfl ?_
    refine aw_lshr (pc := 22) dX12_spells_22 ?_
    refine aw_ldc2 (pc := 23) dX12_spells_23 tw_1933 ?_
    refine aw_land (pc := 26) dX12_spells_26 ?_
    refine aw_topJ (y := lN (byW W 1)) ((lN_shr hW.1 (by decide)).trans (congrArg lN (byW_0 (by decide)))) ?_
    refine aw_l2i (pc := 27) dX12_spells_27 ?_
    refine aw_top (y := nI (byW W 1)) (lN_i _) ?_
    refine mc_V (pc := 28) (As := [.int (nI (byW W 1))]) (rest := []) dX12_spells_28 rfl ok_X12_418 rfl rfl rfl (Nat.le_of_ble_eq_true rfl) (s_lays (c := byW W 1) (by omega) (hW.2 1) ⟨_, rfl, rfl, ?_⟩)
    refine an_dec (pc := 31) (v := (-8 : Int32)) (y := nI 0) dX12_spells_31 rfl (by decide) (by decide) (Nat.le_of_ble_eq_true rfl) trivial ?_
    refine aw_goto (pc := 34) (tgt := 3) dX12_spells_34 rfl ?_
    rw [spellG, if_neg (fun e => h16 (by rw [e]; rfl))] at kk
    exact spell_0 hW (by simp only [layP]; omega) kk
set_option maxHeartbeats 1000000 in
set_option maxRecDepth 20000 in
theorem spell_2 {G : xG} {d : Nat} {Q : xQ} {a : Nat → Nat} {σ : mS} {p : (Nat → Nat) × Nat} {W : Nat} (hW : okW W) (hp : p.2 + 3 ≤ 40) (kk : Q none (mW G.2.2.1 a (txS σ (spellG W 3 p)))) : AW G MX12_spells (d + 1) 0 0 Q 3 [some (.ref (a 60)), some (.long (lN W)), none, some (.int (nI 16))] [] (mW G.2.2.1 a (txS σ p)) 0 0 := by
  refine aw_iload_n (pc := 3) (i := 3) dX12_spells_3 rfl rfl ?_
  refine an_if_lt (pc := 4) (tgt := 37) dX12_spells_4 rfl (by decide) ?_
  refine aw_lload_n (pc := 7) (i := 1) dX12_spells_7 rfl rfl ?_
  refine aw_iload_n (pc := 8) (i := 3) dX12_spells_8 rfl rfl ?_
  refine aw_lshr (pc := 9) dX12_spells_9 ?_
  refine aw_ldc2 (pc := 10) dX12_spells_10 tw_1933 ?_
  refine aw_land (pc := 13) dX12_spells_13 ?_
  refine aw_topJ (y := lN (byW W 2)) ((lN_shr hW.1 (by decide)).trans (congrArg lN (byW_0 (by decide)))) ?_
  refine aw_lconst (pc := 14) (v := 0) dX12_spells_14 rfl ?_
  refine aw_lcmp (pc := 15) dX12_spells_15 ?_
  refine aj_if_eq (pc := 16) (tgt := 31) dX12_spells_16 rfl (fun h16 => ?_) (fun h16 => ?_)
  · -- 31
    refine an_dec (pc := 31) (v := (-8 : Int32)) (y := nI 8) dX12_spells_31 rfl (by decide) (by decide) (Nat.le_of_ble_eq_true rfl) trivial ?_
    refine aw_goto (pc := 34) (tgt := 3) dX12_spells_34 rfl ?_
    rw [spellG, if_pos ((lN_0 (Nat.lt_trans (hW.2 2) (by decide))).mp h16)] at kk
    exact spell_1 hW (by omega) kk
  · -- 19
    refine aw_aload_n (pc := 19) (i := 0) dX12_spells_19 rfl rfl ?_
    refine aw_lload_n (pc := 20) (i := 1) dX12_spells_20 rfl rfl ?_
    refine aw_iload_n (pc := 21) (i := 3) dX12_spells_21 rfl rfl ?_
    refine aw_lshr (pc := 22) dX12_spells_22 ?_
    refine aw_ldc2 (pc := 23) dX12_spells_23 tw_1933 ?_
    refine aw_land (pc := 26) dX12_spells_26 ?_
    refine aw_topJ (y := lN (byW W 2)) ((lN_shr hW.1 (by decide)).trans (congrArg lN (byW_0 (by decide)))) ?_
    refine aw_l2i (pc := 27) dX12_spells_27 ?_
    refine aw_top (y := nI (byW W 2)) (lN_i _) ?_
    refine mc_V (pc := 28) (As := [.int (nI (byW W 2))]) (rest := []) dX12_spells_28 rfl ok_X12_418 rfl rfl rfl (Nat.le_of_ble_eq_true rfl) (s_lays (c := byW W 2) (by omega) (hW.2 2) ⟨_, rfl, rfl, ?_⟩)
    refine an_dec (pc := 31) (v := (-8 : Int32)) (y := nI 8) dX12_spells_31 rfl (by decide) (by decide) (Nat.le_of_ble_eq_true rfl) trivial ?_
    refine aw_goto (pc := 34) (tgt := 3) dX12_spells_34 rfl ?_
    rw [spellG, if_neg (fun e => h16 (by rw [e]; rfl))] at kk
    exact spell_1 hW (by simp only [layP]; omega) kk
set_option maxHeartbeats 1000000 in
set_option maxRecDepth 20000 in
theorem spell_3 {G : xG} {d : Nat} {Q : xQ} {a : Nat → Nat} {σ : mS} {p : (Nat → Nat) × Nat} {W : Nat} (hW : okW W) (hp : p.2 + 4 ≤ 40) (kk : Q none (mW G.2.2.1 a (txS σ (spellG W 4 p)))) : AW G MX12_spells (d + 1) 0 0 Q 3 [some (.ref (a 60)), some (.long (lN W)), none, some (.int (nI 24))] [] (mW G.2.2.1 a (txS σ p)) 0 0 := by
  refine aw_iload_n (pc := 3) (i := 3) dX12_spells_3 rfl rfl ?_
  refine an_if_lt (pc := 4) (tgt := 37) dX12_spells_4 rfl (by decide) ?_
  refine aw_lload_n (pc := 7) (i := 1) dX12_spells_7 rfl rfl ?_
  refine aw_iload_n (pc := 8) (i := 3) dX12_spells_8 rfl rfl ?_
  refine aw_lshr (pc := 9) dX12_spells_9 ?_
  refine aw_ldc2 (pc := 10) dX12_spells_10 tw_1933 ?_
  refine aw_land (pc := 13) dX12_spells_13 ?_
  refine aw_topJ (y := lN (byW W 3)) ((lN_shr hW.1 (by decide)).trans (congrArg lN (byW_0 (by decide)))) ?_
  refine aw_lconst (pc := 14) (v := 0) dX12_spells_14 rfl ?_
  refine aw_lcmp (pc := 15) dX12_spells_15 ?_
  refine aj_if_eq (pc := 16) (tgt := 31) dX12_spells_16 rfl (fun h16 => ?_) (fun h16 => ?_)
  · -- 31
    refine an_dec (pc := 31) (v := (-8 : Int32)) (y := nI 16) dX12_spells_31 rfl (by decide) (by decide) (Nat.le_of_ble_eq_true rfl) trivial ?_
    refine aw_goto (pc := 34) (tgt := 3) dX12_spells_34 rfl ?_
    rw [spellG, if_pos ((lN_0 (Nat.lt_trans (hW.2 3) (by decide))).mp h16)] at kk
    exact spell_2 hW (by omega) kk
  · -- 19
    refine aw_aload_n (pc := 19) (i := 0) dX12_spells_19 rfl rfl ?_
    refine aw_lload_n (pc := 20) (i := 1) dX12_spells_20 rfl rfl ?_
    refine aw_iload_n (pc := 21) (i := 3) dX12_spells_21 rfl rfl ?_
    refine aw_lshr (pc := 22) dX12_spells_22 ?_
    refine aw_ldc2 (pc := 23) dX12_spells_23 tw_1933 ?_
    refine aw_land (pc := 26) dX12_spells_26 ?_
    refine aw_topJ (y := lN (byW W 3)) ((lN_shr hW.1 (by decide)).trans (congrArg lN (byW_0 (by decide)))) ?_
    refine aw_l2i (pc := 27) dX12_spells_27 ?_
    refine aw_top (y := nI (byW W 3)) (lN_i _) ?_
    refine mc_V (pc := 28) (As := [.int (nI (byW W 3))]) (rest := []) dX12_spells_28 rfl ok_X12_418 rfl rfl rfl (Nat.le_of_ble_eq_true rfl) (s_lays (c := byW W 3) (by omega) (hW.2 3) ⟨_, rfl, rfl, ?_⟩)
    refine an_dec (pc := 31) (v := (-8 : Int32)) (y := nI 16) dX12_spells_31 rfl (by decide) (by decide) (Nat.le_of_ble_eq_true rfl) trivial ?_
    refine aw_goto (pc := 34) (tgt := 3) dX12_spells_34 rfl ?_
    rw [spellG, if_neg (fun e => h16 (by rw [e]; rfl))] at kk
    exact spell_2 hW (by simp only [layP]; omega) kk
set_option maxHeartbeats 1000000 in
set_option maxRecDepth 20000 in
theorem spell_4 {G : xG} {d : Nat} {Q : xQ} {a : Nat → Nat} {σ : mS} {p : (Nat → Nat) × Nat} {W : Nat} (hW : okW W) (hp : p.2 + 5 ≤ 40) (kk : Q none (mW G.2.2.1 a (txS σ (spellG W 5 p)))) : AW G MX12_spells (d + 1) 0 0 Q 3 [some (.ref (a 60)), some (.long (lN W)), none, some (.int (nI 32))] [] (mW G.2.2.1 a (txS σ p)) 0 0 := by
  refine aw_iload_n (pc := 3) (i := 3) dX12_spells_3 rfl rfl ?_
  refine an_if_lt (pc := 4) (tgt := 37) dX12_spells_4 rfl (by decide) ?_
  refine aw_lload_n (pc := 7) (i := 1) dX12_spells_7 rfl rfl ?_
  refine aw_iload_n (pc := 8) (i := 3) dX12_spells_8 rfl rfl ?_
  refine aw_lshr (pc := 9) dX12_spells_9 ?_
  refine aw_ldc2 (pc := 10) dX12_spells_10 tw_1933 ?_
  refine aw_land (pc := 13) dX12_spells_13 ?_
  refine aw_topJ (y := lN (byW W 4)) ((lN_shr hW.1 (by decide)).trans (congrArg lN (byW_0 (by decide)))) ?_
  refine aw_lconst (pc := 14) (v := 0) dX12_spells_14 rfl ?_
  refine aw_lcmp (pc := 15) dX12_spells_15 ?_
  refine aj_if_eq (pc := 16) (tgt := 31) dX12_spells_16 rfl (fun h16 => ?_) (fun h16 => ?_)
  · -- 31
    refine an_dec (pc := 31) (v := (-8 : Int32)) (y := nI 24) dX12_spells_31 rfl (by decide) (by decide) (Nat.le_of_ble_eq_true rfl) trivial ?_
    refine aw_goto (pc := 34) (tgt := 3) dX12_spells_34 rfl ?_
    rw [spellG, if_pos ((lN_0 (Nat.lt_trans (hW.2 4) (by decide))).mp h16)] at kk
    exact spell_3 hW (by omega) kk
  · -- 19
    refine aw_aload_n (pc := 19) (i := 0) dX12_spells_19 rfl rfl ?_
    refine aw_lload_n (pc := 20) (i := 1) dX12_spells_20 rfl rfl ?_
    refine aw_iload_n (pc := 21) (i := 3) dX12_spells_21 rfl rfl ?_
    refine aw_lshr (pc := 22) dX12_spells_22 ?_
    refine aw_ldc2 (pc := 23) dX12_spells_23 tw_1933 ?_
    refine aw_land (pc := 26) dX12_spells_26 ?_
    refine aw_topJ (y := lN (byW W 4)) ((lN_shr hW.1 (by decide)).trans (congrArg lN (byW_0 (by decide)))) ?_
    refine aw_l2i (pc := 27) dX12_spells_27 ?_
    refine aw_top (y := nI (byW W 4)) (lN_i _) ?_
    refine mc_V (pc := 28) (As := [.int (nI (byW W 4))]) (rest := []) dX12_spells_28 rfl ok_X12_418 rfl rfl rfl (Nat.le_of_ble_eq_true rfl) (s_lays (c := byW W 4) (by omega) (hW.2 4) ⟨_, rfl, rfl, ?_⟩)
    refine an_dec (pc := 31) (v := (-8 : Int32)) (y := nI 24) dX12_spells_31 rfl (by decide) (by decide) (Nat.le_of_ble_eq_true rfl) trivial ?_
    refine aw_goto (pc := 34) (tgt := 3) dX12_spells_34 rfl ?_
    rw [spellG, if_neg (fun e => h16 (by rw [e]; rfl))] at kk
    exact spell_3 hW (by simp only [layP]; omega) kk
set_option maxHeartbeats 1000000 in
set_option maxRecDepth 20000 in
theorem spell_5 {G : xG} {d : Nat} {Q : xQ} {a : Nat → Nat} {σ : mS} {p : (Nat → Nat) × Nat} {W : Nat} (hW : okW W) (hp : p.2 + 6 ≤ 40) (kk : Q none (mW G.2.2.1 a (txS σ (spellG W 6 p)))) : AW G MX12_spells (d + 1) 0 0 Q 3 [some (.ref (a 60)), some (.long (lN W)), none, some (.int (nI 40))] [] (mW G.2.2.1 a (txS σ p)) 0 0 := by
  refine aw_iload_n (pc := 3) (i := 3) dX12_spells_3 rfl rfl ?_
  refine an_if_lt (pc := 4) (tgt := 37) dX12_spells_4 rfl (by decide) ?_
  refine aw_lload_n (pc := 7) (i := 1) dX12_spells_7 rfl rfl ?_
  refine aw_iload_n (pc := 8) (i := 3) dX12_spells_8 rfl rfl ?_
  refine aw_lshr (pc := 9) dX12_spells_9 ?_
  refine aw_ldc2 (pc := 10) dX12_spells_10 tw_1933 ?_
  refine aw_land (pc := 13) dX12_spells_13 ?_
  refine aw_topJ (y := lN (byW W 5)) ((lN_shr hW.1 (by decide)).trans (congrArg lN (byW_0 (by decide)))) ?_
  refine aw_lconst (pc := 14) (v := 0) dX12_spells_14 rfl ?_
  refine aw_lcmp (pc := 15) dX12_spells_15 ?_
  refine aj_if_eq (pc := 16) (tgt := 31) dX12_spells_16 rfl (fun h16 => ?_) (fun h16 => ?_)
  · -- 31
    refine an_dec (pc := 31) (v := (-8 : Int32)) (y := nI 32) dX12_spells_31 rfl (by decide) (by decide) (Nat.le_of_ble_eq_true rfl) trivial ?_
    refine aw_goto (pc := 34) (tgt := 3) dX12_spells_34 rfl ?_
    rw [spellG, if_pos ((lN_0 (Nat.lt_trans (hW.2 5) (by decide))).mp h16)] at kk
    exact spell_4 hW (by omega) kk
  · -- 19
    refine aw_aload_n (pc := 19) (i := 0) dX12_spells_19 rfl rfl ?_
    refine aw_lload_n (pc := 20) (i := 1) dX12_spells_20 rfl rfl ?_
    refine aw_iload_n (pc := 21) (i := 3) dX12_spells_21 rfl rfl ?_
    refine aw_lshr (pc := 22) dX12_spells_22 ?_
    refine aw_ldc2 (pc := 23) dX12_spells_23 tw_1933 ?_
    refine aw_land (pc := 26) dX12_spells_26 ?_
    refine aw_topJ (y := lN (byW W 5)) ((lN_shr hW.1 (by decide)).trans (congrArg lN (byW_0 (by decide)))) ?_
    refine aw_l2i (pc := 27) dX12_spells_27 ?_
    refine aw_top (y := nI (byW W 5)) (lN_i _) ?_
    refine mc_V (pc := 28) (As := [.int (nI (byW W 5))]) (rest := []) dX12_spells_28 rfl ok_X12_418 rfl rfl rfl (Nat.le_of_ble_eq_true rfl) (s_lays (c := byW W 5) (by omega) (hW.2 5) ⟨_, rfl, rfl, ?_⟩)
    refine an_dec (pc := 31) (v := (-8 : Int32)) (y := nI 32) dX12_spells_31 rfl (by decide) (by decide) (Nat.le_of_ble_eq_true rfl) trivial ?_
    refine aw_goto (pc := 34) (tgt := 3) dX12_spells_34 rfl ?_
    rw [spellG, if_neg (fun e => h16 (by rw [e]; rfl))] at kk
    exact spell_4 hW (by simp only [layP]; omega) kk
set_option maxHeartbeats 1000000 in
set_option maxRecDepth 20000 in
theorem spell_6 {G : xG} {d : Nat} {Q : xQ} {a : Nat → Nat} {σ : mS} {p : (Nat → Nat) × Nat} {W : Nat} (hW : okW W) (hp : p.2 + 7 ≤ 40) (kk : Q none (mW G.2.2.1 a (txS σ (spellG W 7 p)))) : AW G MX12_spells (d + 1) 0 0 Q 3 [some (.ref (a 60)), some (.long (lN W)), none, some (.int (nI 48))] [] (mW G.2.2.1 a (txS σ p)) 0 0 := by
  refine aw_iload_n (pc := 3) (i := 3) dX12_spells_3 rfl rfl ?_
  refine an_if_lt (pc := 4) (tgt := 37) dX12_spells_4 rfl (by decide) ?_
  refine aw_lload_n (pc := 7) (i := 1) dX12_spells_7 rfl rfl ?_
  refine aw_iload_n (pc := 8) (i := 3) dX12_spells_8 rfl rfl ?_
  refine aw_lshr (pc := 9) dX12_spells_9 ?_
  refine aw_ldc2 (pc := 10) dX12_spells_10 tw_1933 ?_
  refine aw_land (pc := 13) dX12_spells_13 ?_
  refine aw_topJ (y := lN (byW W 6)) ((lN_shr hW.1 (by decide)).trans (congrArg lN (byW_0 (by decide)))) ?_
  refine aw_lconst (pc := 14) (v := 0) dX12_spells_14 rfl ?_
  refine aw_lcmp (pc := 15) dX12_spells_15 ?_
  refine aj_if_eq (pc := 16) (tgt := 31) dX12_spells_16 rfl (fun h16 => ?_) (fun h16 => ?_)
  · -- 31
    refine an_dec (pc := 31) (v := (-8 : Int32)) (y := nI 40) dX12_spells_31 rfl (by decide) (by decide) (Nat.le_of_ble_eq_true rfl) trivial ?_
    refine aw_goto (pc := 34) (tgt := 3) dX12_spells_34 rfl ?_
    rw [spellG, if_pos ((lN_0 (Nat.lt_trans (hW.2 6) (by decide))).mp h16)] at kk
    exact spell_5 hW (by omega) kk
  · -- 19
    refine aw_aload_n (pc := 19) (i := 0) dX12_spells_19 rfl rfl ?_
    refine aw_lload_n (pc := 20) (i := 1) dX12_spells_20 rfl rfl ?_
    refine aw_iload_n (pc := 21) (i := 3) dX12_spells_21 rfl rfl ?_
    refine aw_lshr (pc := 22) dX12_spells_22 ?_
    refine aw_ldc2 (pc := 23) dX12_spells_23 tw_1933 ?_
    refine aw_land (pc := 26) dX12_spells_26 ?_
    refine aw_topJ (y := lN (byW W 6)) ((lN_shr hW.1 (by decide)).trans (congrArg lN (byW_0 (by decide)))) ?_
    refine aw_l2i (pc := 27) dX12_spells_27 ?_
    refine aw_top (y := nI (byW W 6)) (lN_i _) ?_
    refine mc_V (pc := 28) (As := [.int (nI (byW W 6))]) (rest := []) dX12_spells_28 rfl ok_X12_418 rfl rfl rfl (Nat.le_of_ble_eq_true rfl) (s_lays (c := byW W 6) (by omega) (hW.2 6) ⟨_, rfl, rfl, ?_⟩)
    refine an_dec (pc := 31) (v := (-8 : Int32)) (y := nI 40) dX12_spells_31 rfl (by decide) (by decide) (Nat.le_of_ble_eq_true rfl) trivial ?_
    refine aw_goto (pc := 34) (tgt := 3) dX12_spells_34 rfl ?_
    rw [spellG, if_neg (fun e => h16 (by rw [e]; rfl))] at kk
    exact spell_5 hW (by simp only [layP]; omega) kk
set_option maxHeartbeats 1000000 in
set_option maxRecDepth 20000 in
theorem spell_7 {G : xG} {d : Nat} {Q : xQ} {a : Nat → Nat} {σ : mS} {p : (Nat → Nat) × Nat} {W : Nat} (hW : okW W) (hp : p.2 + 8 ≤ 40) (kk : Q none (mW G.2.2.1 a (txS σ (spellG W 8 p)))) : AW G MX12_spells (d + 1) 0 0 Q 3 [some (.ref (a 60)), some (.long (lN W)), none, some (.int (nI 56))] [] (mW G.2.2.1 a (txS σ p)) 0 0 := by
  refine aw_iload_n (pc := 3) (i := 3) dX12_spells_3 rfl rfl ?_
  refine an_if_lt (pc := 4) (tgt := 37) dX12_spells_4 rfl (by decide) ?_
  refine aw_lload_n (pc := 7) (i := 1) dX12_spells_7 rfl rfl ?_
  refine aw_iload_n (pc := 8) (i := 3) dX12_spells_8 rfl rfl ?_
  refine aw_lshr (pc := 9) dX12_spells_9 ?_
  refine aw_ldc2 (pc := 10) dX12_spells_10 tw_1933 ?_
  refine aw_land (pc := 13) dX12_spells_13 ?_
  refine aw_topJ (y := lN (byW W 7)) ((lN_shr hW.1 (by decide)).trans (congrArg lN (byW_0 (by decide)))) ?_
  refine aw_lconst (pc := 14) (v := 0) dX12_spells_14 rfl ?_
  refine aw_lcmp (pc := 15) dX12_spells_15 ?_
  refine aj_if_eq (pc := 16) (tgt := 31) dX12_spells_16 rfl (fun h16 => ?_) (fun h16 => ?_)
  · -- 31
    refine an_dec (pc := 31) (v := (-8 : Int32)) (y := nI 48) dX12_spells_31 rfl (by decide) (by decide) (Nat.le_of_ble_eq_true rfl) trivial ?_
    refine aw_goto (pc := 34) (tgt := 3) dX12_spells_34 rfl ?_
    rw [spellG, if_pos ((lN_0 (Nat.lt_trans (hW.2 7) (by decide))).mp h16)] at kk
    exact spell_6 hW (by omega) kk
  · -- 19
    refine aw_aload_n (pc := 19) (i := 0) dX12_spells_19 rfl rfl ?_
    refine aw_lload_n (pc := 20) (i := 1) dX12_spells_20 rfl rfl ?_
    refine aw_iload_n (pc := 21) (i := 3) dX12_spells_21 rfl rfl ?_
    refine aw_lshr (pc := 22) dX12_spells_22 ?_
    refine aw_ldc2 (pc := 23) dX12_spells_23 tw_1933 ?_
    refine aw_land (pc := 26) dX12_spells_26 ?_
    refine aw_topJ (y := lN (byW W 7)) ((lN_shr hW.1 (by decide)).trans (congrArg lN (byW_0 (by decide)))) ?_
    refine aw_l2i (pc := 27) dX12_spells_27 ?_
    refine aw_top (y := nI (byW W 7)) (lN_i _) ?_
    refine mc_V (pc := 28) (As := [.int (nI (byW W 7))]) (rest := []) dX12_spells_28 rfl ok_X12_418 rfl rfl rfl (Nat.le_of_ble_eq_true rfl) (s_lays (c := byW W 7) (by omega) (hW.2 7) ⟨_, rfl, rfl, ?_⟩)
    refine an_dec (pc := 31) (v := (-8 : Int32)) (y := nI 48) dX12_spells_31 rfl (by decide) (by decide) (Nat.le_of_ble_eq_true rfl) trivial ?_
    refine aw_goto (pc := 34) (tgt := 3) dX12_spells_34 rfl ?_
    rw [spellG, if_neg (fun e => h16 (by rw [e]; rfl))] at kk
    exact spell_6 hW (by simp only [layP]; omega) kk
set_option maxHeartbeats 1000000 in
set_option maxRecDepth 20000 in
theorem s_spells {G : xG} {d : Nat} {Q : xQ} {a : Nat → Nat} {σ : mS} {p : (Nat → Nat) × Nat} {W : Nat} (hW : okW W) (hp : p.2 + 8 ≤ 40) (kk : Q none (mW G.2.2.1 a (txS σ (spellG W 8 p)))) : MT G MX12_spells (d + 1) 0 0 [.ref (a 60), .long (lN W)] (mW G.2.2.1 a (txS σ p)) Q := by
  refine mt_start (L := [some (.ref (a 60)), some (.long (lN W)), none, none]) rfl (Nat.le_of_ble_eq_true rfl) rfl ?_
  refine aw_bipush (pc := 0) dX12_spells_0 bipush_56 ?_
  refine aw_istore_n (pc := 2) (i := 3) dX12_spells_2 rfl (Nat.le_of_ble_eq_true rfl) trivial ?_
  exact spell_7 hW hp kk
