def chr (τ : Nat → Int32) (p : Nat) : Nat := octN (τ p)
theorem chr_lt (τ : Nat → Int32) (p : Nat) : chr τ p < 256 := octN_lt _
def isA (c : Nat) : Bool := isL c || isD c
def skipF (τ : Nat → Int32) : Nat → Nat → Nat
  | 0, p => p
  | n + 1, p => if isB (chr τ p) = true then skipF τ n (p + 1) else p
def rlen (τ : Nat → Int32) : Nat → Nat → Nat
  | 0, _ => 0
  | n + 1, p => if isA (chr τ p) = true then rlen τ n (p + 1) + 1 else 0
def runW (τ : Nat → Int32) (p : Nat) : Nat → Nat
  | 0 => 0
  | i + 1 => if i < 7 then runW τ p i * 256 + chr τ (p + i) else runW τ p i
def runN (τ : Nat → Int32) (p : Nat) : Nat → Nat
  | 0 => 0
  | i + 1 => if i < 3 then 10 * runN τ p i + chr τ (p + i) - 48 else runN τ p i
def runA (τ : Nat → Int32) (p : Nat) (sm : Bool) : Nat → Bool
  | 0 => true
  | i + 1 => runA τ p sm i && (isL (chr τ (p + i)) == sm)
def tokK (sm al : Bool) (r : Nat) : Nat := if al = false ∨ (if sm = true then 7 else 3) < r then 4 else if sm = true then 1 else 2
def sgnC (c : Nat) : Bool := decide (c = 59) || decide (c = 40) || decide (c = 41) || (decide (60 ≤ c) && decide (c ≤ 62))
def runS (σ : mS) (W nm i p : Nat) : mS := mI (mI (mI (mJ σ (lN W)) 14 (nI nm)) 13 (nI i)) 4 (nI p)
def nextB (σ : mS) (p : Nat) : mS := mI (mI (mI σ 4 (nI p)) 12 (nI p)) 13 (nI 0)
/-- the state behind next(), blanks gone, at p -/
def nextG (σ : mS) (s lim p : Nat) : mS :=
  if lim < s ∧ lim ≤ p then mI (mI (nextB σ p) 12 (nI lim)) 11 (nI 4)
  else if s ≤ p then mI (nextB σ p) 11 (nI 0)
  else if isA (chr (σ.2.2.1 1) p) = true then mI (runS (nextB σ p) (runW (σ.2.2.1 1) p (rlen (σ.2.2.1 1) (s - p) p)) (runN (σ.2.2.1 1) p (rlen (σ.2.2.1 1) (s - p) p)) (rlen (σ.2.2.1 1) (s - p) p) (p + rlen (σ.2.2.1 1) (s - p) p)) 11 (nI (tokK (isL (chr (σ.2.2.1 1) p)) (runA (σ.2.2.1 1) p (isL (chr (σ.2.2.1 1) p)) (rlen (σ.2.2.1 1) (s - p) p)) (rlen (σ.2.2.1 1) (s - p) p)))
  else mI (mI (mI (nextB σ p) 11 (nI (if sgnC (chr (σ.2.2.1 1) p) = true then 3 else 4))) 14 (nI (chr (σ.2.2.1 1) p))) 4 (nI (p + 1))
def nextS (σ : mS) (s lim p : Nat) : mS := nextG σ s lim (skipF (σ.2.2.1 1) (s - p) p)
theorem skipF_le (τ : Nat → Int32) : ∀ n p, p ≤ skipF τ n p ∧ skipF τ n p ≤ p + n := by
  intro n
  induction n with
  | zero => intro p; exact ⟨Nat.le_refl _, Nat.le_refl _⟩
  | succ n ih =>
    intro p
    unfold skipF
    split
    · have := ih (p + 1); omega
    · omega
theorem isA_48 {c : Nat} (h : isA c = true) : 48 ≤ c := by
  simp only [isA, isL, isD, Bool.or_eq_true, Bool.and_eq_true, decide_eq_true_eq] at h
  omega
theorem lN_byte {W c : Nat} (hW : W < 2 ^ 48) (hc : c < 256) : (lN W <<< ((nI 8).toInt64 &&& 63)) ||| (nI c).toInt64 = lN (W * 256 + c) := by
  have e8 : (nI 8).toInt64 &&& 63 = 8 := by decide
  rw [e8, nI_l (n := c) (by omega)]
  apply Int64.toBitVec_inj.mp
  apply BitVec.eq_of_toNat_eq
  have e : ∀ z, (lN z).toBitVec = BitVec.ofNat 64 z := fun z => rfl
  rw [Int64.toBitVec_or, Int64.toBitVec_shiftLeft, e, e, e, BitVec.toNat_or]
  have h8 : ((8 : Int64).toBitVec.smod 64) = 8#64 := by decide
  rw [h8, BitVec.shiftLeft_eq', BitVec.toNat_shiftLeft]
  simp only [BitVec.toNat_ofNat]
  rw [Nat.mod_eq_of_lt (show W < 2 ^ 64 by omega), Nat.mod_eq_of_lt (show c < 2 ^ 64 by omega), Nat.mod_eq_of_lt (show W * 256 + c < 2 ^ 64 by omega)]
  rw [show 8 % 2 ^ 64 = 8 from rfl, Nat.shiftLeft_eq, Nat.mod_eq_of_lt (by omega)]
  rw [show W * 2 ^ 8 = 2 ^ 8 * W by omega, ← Nat.two_pow_add_eq_or_of_lt (i := 8) (by omega)]
theorem runW_lt (τ : Nat → Int32) (p : Nat) : ∀ i, i ≤ 7 → runW τ p i < 2 ^ (8 * i) := by
  intro i
  induction i with
  | zero => intro _; simp [runW]
  | succ i ih =>
    intro h
    have h1 := ih (by omega)
    have h2 := chr_lt τ (p + i)
    unfold runW
    rw [if_pos (by omega), show 8 * (i + 1) = 8 * i + 8 by omega, Nat.pow_add]
    omega

set_option maxHeartbeats 1000000 in
set_option maxRecDepth 20000 in
theorem skip_loop {G : xG} {d : Nat} {Q : xQ} {a : Nat → Nat} {σ : mS} {s : Nat} (hs : σ.1 3 = nI s) (hs9 : s ≤ 940) : ∀ (n p : Nat), p + n = s → AW G MX12_next (d + 1) 0 0 Q 31 [some (.ref (a 60)), none, none, none] [] (mW G.2.2.1 a (mI σ 4 (nI (skipF (σ.2.2.1 1) n p)))) 0 0 → AW G MX12_next (d + 1) 0 0 Q 0 [some (.ref (a 60)), none, none, none] [] (mW G.2.2.1 a (mI σ 4 (nI p))) 0 0 := by
  intro n
  induction n with
  | zero =>
    intro p hp kk
    have hge : s ≤ p := by omega
    refine aw_aload_n (pc := 0) (i := 0) dX12_next_0 rfl rfl ?_
    refine mc_I (pc := 1) (As := []) (rest := []) dX12_next_1 rfl ok_X12_165 rfl rfl rfl (Nat.le_of_ble_eq_true rfl) (s_peek0 (p := p) (s := s) rfl hs hs9 hge (by omega) ⟨_, _, rfl, rfl, ?_⟩)
    refine aw_bipush (pc := 4) dX12_next_4 bipush_32 ?_
    refine aw_icmp_eq (pc := 6) (tgt := 18) dX12_next_6 rfl (fun h6 => ?_) (fun h6 => ?_)
    · -- 18
      exfalso
      first | (revert h6; decide) | (revert h15; decide)
    · -- 9
      refine aw_aload_n (pc := 9) (i := 0) dX12_next_9 rfl rfl ?_
      refine mc_I (pc := 10) (As := []) (rest := []) dX12_next_10 rfl ok_X12_165 rfl rfl rfl (Nat.le_of_ble_eq_true rfl) (s_peek0 (p := p) (s := s) rfl hs hs9 hge (by omega) ⟨_, _, rfl, rfl, ?_⟩)
      refine aw_bipush (pc := 13) dX12_next_13 bipush_10 ?_
      refine aw_icmp_ne (pc := 15) (tgt := 31) dX12_next_15 rfl (fun h15 => ?_) (fun h15 => ?_)
      · -- 31
        exact kk
      · -- 18
        exfalso
        first | (revert h6; decide) | (revert h15; decide)
  | succ n ih =>
    intro p hp kk
    have hlt : p < s := by omega
    refine aw_aload_n (pc := 0) (i := 0) dX12_next_0 rfl rfl ?_
    refine mc_I (pc := 1) (As := []) (rest := []) dX12_next_1 rfl ok_X12_165 rfl rfl rfl (Nat.le_of_ble_eq_true rfl) (s_peek1 (p := p) (s := s) rfl hs hs9 hlt ⟨_, _, rfl, rfl, ?_⟩)
    refine aw_top (y := nI (chr (σ.2.2.1 1) p)) rfl ?_
    refine aw_bipush (pc := 4) dX12_next_4 bipush_32 ?_
    refine an_icmp_eq (pc := 6) (tgt := 18) dX12_next_6 rfl (Nat.lt_trans (chr_lt _ _) (by decide)) (by decide) (fun h6 => ?_) (fun h6 => ?_)
    · -- 18
      refine aw_aload_n (pc := 18) (i := 0) dX12_next_18 rfl rfl ?_
      refine aw_dup (pc := 19) dX12_next_19 rfl ?_
      refine mg_p (pc := 20) dX12_next_20 rfl ?_
      refine aw_top (y := nI p) rfl ?_
      refine aw_iconst (pc := 23) dX12_next_23 iconst_1 ?_
      refine an_add (pc := 24) dX12_next_24 ?_
      refine mp_p (pc := 25) dX12_next_25 rfl ?_
      refine aw_goto (pc := 28) (tgt := 0) dX12_next_28 rfl ?_
      refine aw_ws (w9 := mW G.2.2.1 a (mI σ 4 (nI (p + 1)))) rfl ?_
      rw [skipF, if_pos (by simp [isB]; omega)] at kk
      exact ih (p + 1) (by omega) kk
    · -- 9
      refine aw_aload_n (pc := 9) (i := 0) dX12_next_9 rfl rfl ?_
      refine mc_I (pc := 10) (As := []) (rest := []) dX12_next_10 rfl ok_X12_165 rfl rfl rfl (Nat.le_of_ble_eq_true rfl) (s_peek1 (p := p) (s := s) rfl hs hs9 hlt ⟨_, _, rfl, rfl, ?_⟩)
      refine aw_top (y := nI (chr (σ.2.2.1 1) p)) rfl ?_
      refine aw_bipush (pc := 13) dX12_next_13 bipush_10 ?_
      refine an_icmp_ne (pc := 15) (tgt := 31) dX12_next_15 rfl (Nat.lt_trans (chr_lt _ _) (by decide)) (by decide) (fun h15 => ?_) (fun h15 => ?_)
      · -- 31
        rw [skipF, if_neg (by simp [isB]; omega)] at kk
        exact kk
      · -- 18
        refine aw_aload_n (pc := 18) (i := 0) dX12_next_18 rfl rfl ?_
        refine aw_dup (pc := 19) dX12_next_19 rfl ?_
        refine mg_p (pc := 20) dX12_next_20 rfl ?_
        refine aw_top (y := nI p) rfl ?_
        refine aw_iconst (pc := 23) dX12_next_23 iconst_1 ?_
        refine an_add (pc := 24) dX12_next_24 ?_
        refine mp_p (pc := 25) dX12_next_25 rfl ?_
        refine aw_goto (pc := 28) (tgt := 0) dX12_next_28 rfl ?_
        refine aw_ws (w9 := mW G.2.2.1 a (mI σ 4 (nI (p + 1)))) rfl ?_
        rw [skipF, if_pos (by simp [isB]; omega)] at kk
        exact ih (p + 1) (by omega) kk
set_option maxHeartbeats 1000000 in
set_option maxRecDepth 20000 in
theorem run_loop {G : xG} {d : Nat} {Q : xQ} {a : Nat → Nat} {σ : mS} {s p : Nat} {c0 : Int32} {sm : Bool} (hs : σ.1 3 = nI s) (hs9 : s ≤ 940) : ∀ (n i : Nat), p + i + n = s → Q none (mW G.2.2.1 a (mI (runS σ (runW (σ.2.2.1 1) p (i + rlen (σ.2.2.1 1) n (p + i))) (runN (σ.2.2.1 1) p (i + rlen (σ.2.2.1 1) n (p + i))) (i + rlen (σ.2.2.1 1) n (p + i)) (p + (i + rlen (σ.2.2.1 1) n (p + i)))) 11 (nI (tokK sm (runA (σ.2.2.1 1) p sm (i + rlen (σ.2.2.1 1) n (p + i))) (i + rlen (σ.2.2.1 1) n (p + i)))))) → AW G MX12_next (d + 1) 0 0 Q 181 [some (.ref (a 60)), some (.int c0), some (.int (bI sm)), some (.int (bI (runA (σ.2.2.1 1) p sm i)))] [] (mW G.2.2.1 a (runS σ (runW (σ.2.2.1 1) p i) (runN (σ.2.2.1 1) p i) i (p + i))) 0 0 := by
  intro n
  induction n with
  | zero =>
    intro i hi kk
    have hge : s ≤ p + i := by omega
    rw [rlen, Nat.add_zero] at kk
    refine aw_aload_n (pc := 181) (i := 0) dX12_next_181 rfl rfl ?_
    refine mc_I (pc := 182) (As := []) (rest := []) dX12_next_182 rfl ok_X12_165 rfl rfl rfl (Nat.le_of_ble_eq_true rfl) (s_peek0 (p := p + i) (s := s) rfl hs hs9 hge (by omega) ⟨_, _, rfl, rfl, ?_⟩)
    refine mt_I (pc := 185) (As := [.int ((-1))]) (rest := []) dX12_next_185 rfl ok_X12_178 rfl rfl rfl (Nat.le_of_ble_eq_true rfl) (s_isSmallM ⟨_, _, rfl, rfl, ?_⟩)
    refine ab_if_ne (pc := 188) (tgt := 201) dX12_next_188 rfl (fun h188 => absurd h188 (by decide)) (fun h188 => ?_)
    refine aw_aload_n (pc := 191) (i := 0) dX12_next_191 rfl rfl ?_
    refine mc_I (pc := 192) (As := []) (rest := []) dX12_next_192 rfl ok_X12_165 rfl rfl rfl (Nat.le_of_ble_eq_true rfl) (s_peek0 (p := p + i) (s := s) rfl hs hs9 hge (by omega) ⟨_, _, rfl, rfl, ?_⟩)
    refine mt_I (pc := 195) (As := [.int ((-1))]) (rest := []) dX12_next_195 rfl ok_X12_182 rfl rfl rfl (Nat.le_of_ble_eq_true rfl) (s_isDigitM ⟨_, _, rfl, rfl, ?_⟩)
    refine ab_if_eq (pc := 198) (tgt := 298) dX12_next_198 rfl (fun h198 => ?_) (fun h198 => absurd h198 (by decide))
    refine aw_aload_n (pc := 298) (i := 0) dX12_next_298 rfl rfl ?_
    refine aw_iload_n (pc := 299) (i := 3) dX12_next_299 rfl rfl ?_
    refine ab_if_eq (pc := 300) (tgt := 320) dX12_next_300 rfl (fun h300 => ?_) (fun h300 => ?_)
    · -- 320
      refine aw_iconst (pc := 320) dX12_next_320 iconst_4 ?_
      refine aw_goto (pc := 321) (tgt := 333) dX12_next_321 rfl ?_
      refine mp_token (pc := 333) dX12_next_333 rfl ?_
      exact aw_vret (pc := 336) dX12_next_336 rfl (Nat.le_refl _) (Nat.le_refl _) (by rw [show tokK sm (runA (σ.2.2.1 1) p sm i) i = 4 by unfold tokK; simp_all <;> omega] at kk; exact kk)
    · -- 303
      refine aw_aload_n (pc := 303) (i := 0) dX12_next_303 rfl rfl ?_
      refine mg_span (pc := 304) dX12_next_304 rfl ?_
      refine aw_top (y := nI i) rfl ?_
      refine aw_iload_n (pc := 307) (i := 2) dX12_next_307 rfl rfl ?_
      refine ab_if_eq (pc := 308) (tgt := 316) dX12_next_308 rfl (fun h308 => ?_) (fun h308 => ?_)
      · -- 316
        refine aw_iconst (pc := 316) dX12_next_316 iconst_3 ?_
        refine an_icmp_le (pc := 317) (tgt := 324) dX12_next_317 rfl (by omega) (by decide) (fun h317 => ?_) (fun h317 => ?_)
        · -- 324
          refine aw_iload_n (pc := 324) (i := 2) dX12_next_324 rfl rfl ?_
          refine ab_if_eq (pc := 325) (tgt := 332) dX12_next_325 rfl (fun h325 => ?_) (fun h325 => ?_)
          · -- 332
            refine aw_iconst (pc := 332) dX12_next_332 iconst_2 ?_
            refine mp_token (pc := 333) dX12_next_333 rfl ?_
            exact aw_vret (pc := 336) dX12_next_336 rfl (Nat.le_refl _) (Nat.le_refl _) (by rw [show tokK sm (runA (σ.2.2.1 1) p sm i) i = 2 by unfold tokK; simp_all <;> omega] at kk; exact kk)
          · -- 328
            refine aw_iconst (pc := 328) dX12_next_328 iconst_1 ?_
            refine aw_goto (pc := 329) (tgt := 333) dX12_next_329 rfl ?_
            refine mp_token (pc := 333) dX12_next_333 rfl ?_
            exact aw_vret (pc := 336) dX12_next_336 rfl (Nat.le_refl _) (Nat.le_refl _) (by rw [show tokK sm (runA (σ.2.2.1 1) p sm i) i = 1 by unfold tokK; simp_all <;> omega] at kk; exact kk)
        · -- 320
          refine aw_iconst (pc := 320) dX12_next_320 iconst_4 ?_
          refine aw_goto (pc := 321) (tgt := 333) dX12_next_321 rfl ?_
          refine mp_token (pc := 333) dX12_next_333 rfl ?_
          exact aw_vret (pc := 336) dX12_next_336 rfl (Nat.le_refl _) (Nat.le_refl _) (by rw [show tokK sm (runA (σ.2.2.1 1) p sm i) i = 4 by unfold tokK; simp_all <;> omega] at kk; exact kk)
      · -- 311
        refine aw_bipush (pc := 311) dX12_next_311 bipush_7 ?_
        refine aw_goto (pc := 313) (tgt := 317) dX12_next_313 rfl ?_
        refine an_icmp_le (pc := 317) (tgt := 324) dX12_next_317 rfl (by omega) (by decide) (fun h317 => ?_) (fun h317 => ?_)
        · -- 324
          refine aw_iload_n (pc := 324) (i := 2) dX12_next_324 rfl rfl ?_
          refine ab_if_eq (pc := 325) (tgt := 332) dX12_next_325 rfl (fun h325 => ?_) (fun h325 => ?_)
          · -- 332
            refine aw_iconst (pc := 332) dX12_next_332 iconst_2 ?_
            refine mp_token (pc := 333) dX12_next_333 rfl ?_
            exact aw_vret (pc := 336) dX12_next_336 rfl (Nat.le_refl _) (Nat.le_refl _) (by rw [show tokK sm (runA (σ.2.2.1 1) p sm i) i = 2 by unfold tokK; simp_all <;> omega] at kk; exact kk)
          · -- 328
            refine aw_iconst (pc := 328) dX12_next_328 iconst_1 ?_
            refine aw_goto (pc := 329) (tgt := 333) dX12_next_329 rfl ?_
            refine mp_token (pc := 333) dX12_next_333 rfl ?_
            exact aw_vret (pc := 336) dX12_next_336 rfl (Nat.le_refl _) (Nat.le_refl _) (by rw [show tokK sm (runA (σ.2.2.1 1) p sm i) i = 1 by unfold tokK; simp_all <;> omega] at kk; exact kk)
        · -- 320
          refine aw_iconst (pc := 320) dX12_next_320 iconst_4 ?_
          refine aw_goto (pc := 321) (tgt := 333) dX12_next_321 rfl ?_
          refine mp_token (pc := 333) dX12_next_333 rfl ?_
          exact aw_vret (pc := 336) dX12_next_336 rfl (Nat.le_refl _) (Nat.le_refl _) (by rw [show tokK sm (runA (σ.2.2.1 1) p sm i) i = 4 by unfold tokK; simp_all <;> omega] at kk; exact kk)
  | succ n ih =>
    intro i hi kk
    have hlt : p + i < s := by omega
    refine aw_aload_n (pc := 181) (i := 0) dX12_next_181 rfl rfl ?_
    refine mc_I (pc := 182) (As := []) (rest := []) dX12_next_182 rfl ok_X12_165 rfl rfl rfl (Nat.le_of_ble_eq_true rfl) (s_peek1 (p := p + i) (s := s) rfl hs hs9 hlt ⟨_, _, rfl, rfl, ?_⟩)
    refine aw_top (y := nI (chr (σ.2.2.1 1) (p + i))) rfl ?_
    refine mt_I (pc := 185) (As := [.int (nI (chr (σ.2.2.1 1) (p + i)))]) (rest := []) dX12_next_185 rfl ok_X12_178 rfl rfl rfl (Nat.le_of_ble_eq_true rfl) (s_isSmallN (Nat.lt_trans (chr_lt _ _) (by decide)) ⟨_, _, rfl, rfl, ?_⟩)
    refine ab_if_ne (pc := 188) (tgt := 201) dX12_next_188 rfl (fun h188 => ?_) (fun h188 => ?_)
    · -- 201
      refine aw_iload_n (pc := 201) (i := 3) dX12_next_201 rfl rfl ?_
      refine ab_if_eq (pc := 202) (tgt := 220) dX12_next_202 rfl (fun h202 => ?_) (fun h202 => ?_)
      · -- 220
        refine aw_iconst (pc := 220) dX12_next_220 iconst_0 ?_
        refine aw_istore_n (pc := 221) (i := 3) dX12_next_221 rfl (Nat.le_of_ble_eq_true rfl) rfl ?_
        refine aw_aload_n (pc := 222) (i := 0) dX12_next_222 rfl rfl ?_
        refine mg_span (pc := 223) dX12_next_223 rfl ?_
        refine aw_top (y := nI i) rfl ?_
        refine aw_bipush (pc := 226) dX12_next_226 bipush_7 ?_
        refine an_icmp_ge (pc := 228) (tgt := 248) dX12_next_228 rfl (by omega) (by decide) (fun h228 => ?_) (fun h228 => ?_)
        · -- 248
          refine aw_aload_n (pc := 248) (i := 0) dX12_next_248 rfl rfl ?_
          refine mg_span (pc := 249) dX12_next_249 rfl ?_
          refine aw_top (y := nI i) rfl ?_
          refine aw_iconst (pc := 252) dX12_next_252 iconst_3 ?_
          refine an_icmp_ge (pc := 253) (tgt := 275) dX12_next_253 rfl (by omega) (by decide) (fun h253 => ?_) (fun h253 => ?_)
          · -- 275
            refine aw_aload_n (pc := 275) (i := 0) dX12_next_275 rfl rfl ?_
            refine aw_dup (pc := 276) dX12_next_276 rfl ?_
            refine mg_span (pc := 277) dX12_next_277 rfl ?_
            refine aw_top (y := nI i) rfl ?_
            refine aw_iconst (pc := 280) dX12_next_280 iconst_1 ?_
            refine an_add (pc := 281) dX12_next_281 ?_
            refine mp_span (pc := 282) dX12_next_282 rfl ?_
            refine aw_aload_n (pc := 285) (i := 0) dX12_next_285 rfl rfl ?_
            refine aw_dup (pc := 286) dX12_next_286 rfl ?_
            refine mg_p (pc := 287) dX12_next_287 rfl ?_
            refine aw_top (y := nI (p + i)) rfl ?_
            refine aw_iconst (pc := 290) dX12_next_290 iconst_1 ?_
            refine an_add (pc := 291) dX12_next_291 ?_
            refine mp_p (pc := 292) dX12_next_292 rfl ?_
            refine aw_goto (pc := 295) (tgt := 181) dX12_next_295 rfl ?_
            have hA : isA (chr (σ.2.2.1 1) (p + i)) = true := by simp [isA, *]
            have eW : runW (σ.2.2.1 1) p (i + 1) = runW (σ.2.2.1 1) p i := by rw [runW]; first | rw [if_pos (by omega)] | rw [if_neg (by omega)]
            have eN : runN (σ.2.2.1 1) p (i + 1) = runN (σ.2.2.1 1) p i := by rw [runN]; first | rw [if_pos (by omega)] | rw [if_neg (by omega)]
            have eA : runA (σ.2.2.1 1) p sm (i + 1) = false := by rw [runA]; cases sm <;> simp_all
            rw [rlen, if_pos hA] at kk
            refine aw_L (L9 := [some (.ref (a 60)), some (.int c0), some (.int (bI sm)), some (.int (bI (runA (σ.2.2.1 1) p sm (i + 1))))]) (by rw [eA]; rfl) ?_
            refine aw_ws (w9 := mW G.2.2.1 a (runS σ (runW (σ.2.2.1 1) p (i + 1)) (runN (σ.2.2.1 1) p (i + 1)) (i + 1) (p + (i + 1)))) (by rw [eW, eN]; rfl) ?_
            exact ih (i + 1) (by omega) (by rw [show i + 1 + rlen (σ.2.2.1 1) n (p + (i + 1)) = i + (rlen (σ.2.2.1 1) n (p + i + 1) + 1) by rw [show p + (i + 1) = p + i + 1 by omega]; omega]; exact kk)
          · -- 256
            refine aw_aload_n (pc := 256) (i := 0) dX12_next_256 rfl rfl ?_
            refine aw_bipush (pc := 257) dX12_next_257 bipush_10 ?_
            refine aw_aload_n (pc := 259) (i := 0) dX12_next_259 rfl rfl ?_
            refine mg_number (pc := 260) dX12_next_260 rfl ?_
            refine aw_top (y := nI (runN (σ.2.2.1 1) p i)) rfl ?_
            refine an_mul (pc := 263) dX12_next_263 ?_
            refine aw_aload_n (pc := 264) (i := 0) dX12_next_264 rfl rfl ?_
            refine mc_I (pc := 265) (As := []) (rest := [.int (nI (10 * (runN (σ.2.2.1 1) p i))), .ref (a 60)]) dX12_next_265 rfl ok_X12_165 rfl rfl rfl (Nat.le_of_ble_eq_true rfl) (s_peek1 (p := p + i) (s := s) rfl hs hs9 hlt ⟨_, _, rfl, rfl, ?_⟩)
            refine aw_top (y := nI (chr (σ.2.2.1 1) (p + i))) rfl ?_
            refine an_add (pc := 268) dX12_next_268 ?_
            refine aw_bipush (pc := 269) dX12_next_269 bipush_48 ?_
            refine an_sub (pc := 271) dX12_next_271 (by have := isA_48 (c := chr (σ.2.2.1 1) (p + i)) (by simp [isA, *]); omega) ?_
            refine mp_number (pc := 272) dX12_next_272 rfl ?_
            refine aw_aload_n (pc := 275) (i := 0) dX12_next_275 rfl rfl ?_
            refine aw_dup (pc := 276) dX12_next_276 rfl ?_
            refine mg_span (pc := 277) dX12_next_277 rfl ?_
            refine aw_top (y := nI i) rfl ?_
            refine aw_iconst (pc := 280) dX12_next_280 iconst_1 ?_
            refine an_add (pc := 281) dX12_next_281 ?_
            refine mp_span (pc := 282) dX12_next_282 rfl ?_
            refine aw_aload_n (pc := 285) (i := 0) dX12_next_285 rfl rfl ?_
            refine aw_dup (pc := 286) dX12_next_286 rfl ?_
            refine mg_p (pc := 287) dX12_next_287 rfl ?_
            refine aw_top (y := nI (p + i)) rfl ?_
            refine aw_iconst (pc := 290) dX12_next_290 iconst_1 ?_
            refine an_add (pc := 291) dX12_next_291 ?_
            refine mp_p (pc := 292) dX12_next_292 rfl ?_
            refine aw_goto (pc := 295) (tgt := 181) dX12_next_295 rfl ?_
            exfalso; omega
        · -- 231
          refine aw_aload_n (pc := 231) (i := 0) dX12_next_231 rfl rfl ?_
          refine aw_aload_n (pc := 232) (i := 0) dX12_next_232 rfl rfl ?_
          refine mg_word (pc := 233) dX12_next_233 rfl ?_
          refine aw_topJ (y := lN (runW (σ.2.2.1 1) p i)) rfl ?_
          refine aw_bipush (pc := 236) dX12_next_236 bipush_8 ?_
          refine aw_lshl (pc := 238) dX12_next_238 ?_
          refine aw_aload_n (pc := 239) (i := 0) dX12_next_239 rfl rfl ?_
          refine mc_I (pc := 240) (As := []) (rest := [.long ((lN (runW (σ.2.2.1 1) p i)) <<< (((nI 8)).toInt64 &&& 63)), .ref (a 60)]) dX12_next_240 rfl ok_X12_165 rfl rfl rfl (Nat.le_of_ble_eq_true rfl) (s_peek1 (p := p + i) (s := s) rfl hs hs9 hlt ⟨_, _, rfl, rfl, ?_⟩)
          refine aw_top (y := nI (chr (σ.2.2.1 1) (p + i))) rfl ?_
          refine aw_i2l (pc := 243) dX12_next_243 ?_
          refine aw_lor (pc := 244) dX12_next_244 ?_
          refine mp_word (pc := 245) dX12_next_245 rfl ?_
          refine aw_aload_n (pc := 248) (i := 0) dX12_next_248 rfl rfl ?_
          refine mg_span (pc := 249) dX12_next_249 rfl ?_
          refine aw_top (y := nI i) rfl ?_
          refine aw_iconst (pc := 252) dX12_next_252 iconst_3 ?_
          refine an_icmp_ge (pc := 253) (tgt := 275) dX12_next_253 rfl (by omega) (by decide) (fun h253 => ?_) (fun h253 => ?_)
          · -- 275
            refine aw_aload_n (pc := 275) (i := 0) dX12_next_275 rfl rfl ?_
            refine aw_dup (pc := 276) dX12_next_276 rfl ?_
            refine mg_span (pc := 277) dX12_next_277 rfl ?_
            refine aw_top (y := nI i) rfl ?_
            refine aw_iconst (pc := 280) dX12_next_280 iconst_1 ?_
            refine an_add (pc := 281) dX12_next_281 ?_
            refine mp_span (pc := 282) dX12_next_282 rfl ?_
            refine aw_aload_n (pc := 285) (i := 0) dX12_next_285 rfl rfl ?_
            refine aw_dup (pc := 286) dX12_next_286 rfl ?_
            refine mg_p (pc := 287) dX12_next_287 rfl ?_
            refine aw_top (y := nI (p + i)) rfl ?_
            refine aw_iconst (pc := 290) dX12_next_290 iconst_1 ?_
            refine an_add (pc := 291) dX12_next_291 ?_
            refine mp_p (pc := 292) dX12_next_292 rfl ?_
            refine aw_goto (pc := 295) (tgt := 181) dX12_next_295 rfl ?_
            have hA : isA (chr (σ.2.2.1 1) (p + i)) = true := by simp [isA, *]
            have eW : runW (σ.2.2.1 1) p (i + 1) = runW (σ.2.2.1 1) p i * 256 + chr (σ.2.2.1 1) (p + i) := by rw [runW]; first | rw [if_pos (by omega)] | rw [if_neg (by omega)]
            have eN : runN (σ.2.2.1 1) p (i + 1) = runN (σ.2.2.1 1) p i := by rw [runN]; first | rw [if_pos (by omega)] | rw [if_neg (by omega)]
            have eA : runA (σ.2.2.1 1) p sm (i + 1) = false := by rw [runA]; cases sm <;> simp_all
            rw [rlen, if_pos hA] at kk
            refine aw_L (L9 := [some (.ref (a 60)), some (.int c0), some (.int (bI sm)), some (.int (bI (runA (σ.2.2.1 1) p sm (i + 1))))]) (by rw [eA]; rfl) ?_
            refine aw_ws (w9 := mW G.2.2.1 a (runS σ (runW (σ.2.2.1 1) p (i + 1)) (runN (σ.2.2.1 1) p (i + 1)) (i + 1) (p + (i + 1)))) (by rw [eW, eN]; rw [lN_byte (Nat.lt_of_lt_of_le (runW_lt _ _ i (by omega)) (Nat.pow_le_pow_right (by decide) (by omega))) (chr_lt _ _)]; rfl) ?_
            exact ih (i + 1) (by omega) (by rw [show i + 1 + rlen (σ.2.2.1 1) n (p + (i + 1)) = i + (rlen (σ.2.2.1 1) n (p + i + 1) + 1) by rw [show p + (i + 1) = p + i + 1 by omega]; omega]; exact kk)
          · -- 256
            refine aw_aload_n (pc := 256) (i := 0) dX12_next_256 rfl rfl ?_
            refine aw_bipush (pc := 257) dX12_next_257 bipush_10 ?_
            refine aw_aload_n (pc := 259) (i := 0) dX12_next_259 rfl rfl ?_
            refine mg_number (pc := 260) dX12_next_260 rfl ?_
            refine aw_top (y := nI (runN (σ.2.2.1 1) p i)) rfl ?_
            refine an_mul (pc := 263) dX12_next_263 ?_
            refine aw_aload_n (pc := 264) (i := 0) dX12_next_264 rfl rfl ?_
            refine mc_I (pc := 265) (As := []) (rest := [.int (nI (10 * (runN (σ.2.2.1 1) p i))), .ref (a 60)]) dX12_next_265 rfl ok_X12_165 rfl rfl rfl (Nat.le_of_ble_eq_true rfl) (s_peek1 (p := p + i) (s := s) rfl hs hs9 hlt ⟨_, _, rfl, rfl, ?_⟩)
            refine aw_top (y := nI (chr (σ.2.2.1 1) (p + i))) rfl ?_
            refine an_add (pc := 268) dX12_next_268 ?_
            refine aw_bipush (pc := 269) dX12_next_269 bipush_48 ?_
            refine an_sub (pc := 271) dX12_next_271 (by have := isA_48 (c := chr (σ.2.2.1 1) (p + i)) (by simp [isA, *]); omega) ?_
            refine mp_number (pc := 272) dX12_next_272 rfl ?_
            refine aw_aload_n (pc := 275) (i := 0) dX12_next_275 rfl rfl ?_
            refine aw_dup (pc := 276) dX12_next_276 rfl ?_
            refine mg_span (pc := 277) dX12_next_277 rfl ?_
            refine aw_top (y := nI i) rfl ?_
            refine aw_iconst (pc := 280) dX12_next_280 iconst_1 ?_
            refine an_add (pc := 281) dX12_next_281 ?_
            refine mp_span (pc := 282) dX12_next_282 rfl ?_
            refine aw_aload_n (pc := 285) (i := 0) dX12_next_285 rfl rfl ?_
            refine aw_dup (pc := 286) dX12_next_286 rfl ?_
            refine mg_p (pc := 287) dX12_next_287 rfl ?_
            refine aw_top (y := nI (p + i)) rfl ?_
            refine aw_iconst (pc := 290) dX12_next_290 iconst_1 ?_
            refine an_add (pc := 291) dX12_next_291 ?_
            refine mp_p (pc := 292) dX12_next_292 rfl ?_
            refine aw_goto (pc := 295) (tgt := 181) dX12_next_295 rfl ?_
            have hA : isA (chr (σ.2.2.1 1) (p + i)) = true := by simp [isA, *]
            have eW : runW (σ.2.2.1 1) p (i + 1) = runW (σ.2.2.1 1) p i * 256 + chr (σ.2.2.1 1) (p + i) := by rw [runW]; first | rw [if_pos (by omega)] | rw [if_neg (by omega)]
            have eN : runN (σ.2.2.1 1) p (i + 1) = 10 * runN (σ.2.2.1 1) p i + chr (σ.2.2.1 1) (p + i) - 48 := by rw [runN]; first | rw [if_pos (by omega)] | rw [if_neg (by omega)]
            have eA : runA (σ.2.2.1 1) p sm (i + 1) = false := by rw [runA]; cases sm <;> simp_all
            rw [rlen, if_pos hA] at kk
            refine aw_L (L9 := [some (.ref (a 60)), some (.int c0), some (.int (bI sm)), some (.int (bI (runA (σ.2.2.1 1) p sm (i + 1))))]) (by rw [eA]; rfl) ?_
            refine aw_ws (w9 := mW G.2.2.1 a (runS σ (runW (σ.2.2.1 1) p (i + 1)) (runN (σ.2.2.1 1) p (i + 1)) (i + 1) (p + (i + 1)))) (by rw [eW, eN]; rw [lN_byte (Nat.lt_of_lt_of_le (runW_lt _ _ i (by omega)) (Nat.pow_le_pow_right (by decide) (by omega))) (chr_lt _ _)]; rfl) ?_
            exact ih (i + 1) (by omega) (by rw [show i + 1 + rlen (σ.2.2.1 1) n (p + (i + 1)) = i + (rlen (σ.2.2.1 1) n (p + i + 1) + 1) by rw [show p + (i + 1) = p + i + 1 by omega]; omega]; exact kk)
      · -- 205
        refine aw_aload_n (pc := 205) (i := 0) dX12_next_205 rfl rfl ?_
        refine mc_I (pc := 206) (As := []) (rest := []) dX12_next_206 rfl ok_X12_165 rfl rfl rfl (Nat.le_of_ble_eq_true rfl) (s_peek1 (p := p + i) (s := s) rfl hs hs9 hlt ⟨_, _, rfl, rfl, ?_⟩)
        refine aw_top (y := nI (chr (σ.2.2.1 1) (p + i))) rfl ?_
        refine mt_I (pc := 209) (As := [.int (nI (chr (σ.2.2.1 1) (p + i)))]) (rest := []) dX12_next_209 rfl ok_X12_178 rfl rfl rfl (Nat.le_of_ble_eq_true rfl) (s_isSmallN (Nat.lt_trans (chr_lt _ _) (by decide)) ⟨_, _, rfl, rfl, ?_⟩)
        refine aw_iload_n (pc := 212) (i := 2) dX12_next_212 rfl rfl ?_
        refine ab_icmp_ne (pc := 213) (tgt := 220) dX12_next_213 rfl (fun h213 => ?_) (fun h213 => ?_)
        · -- 220
          refine aw_iconst (pc := 220) dX12_next_220 iconst_0 ?_
          refine aw_istore_n (pc := 221) (i := 3) dX12_next_221 rfl (Nat.le_of_ble_eq_true rfl) rfl ?_
          refine aw_aload_n (pc := 222) (i := 0) dX12_next_222 rfl rfl ?_
          refine mg_span (pc := 223) dX12_next_223 rfl ?_
          refine aw_top (y := nI i) rfl ?_
          refine aw_bipush (pc := 226) dX12_next_226 bipush_7 ?_
          refine an_icmp_ge (pc := 228) (tgt := 248) dX12_next_228 rfl (by omega) (by decide) (fun h228 => ?_) (fun h228 => ?_)
          · -- 248
            refine aw_aload_n (pc := 248) (i := 0) dX12_next_248 rfl rfl ?_
            refine mg_span (pc := 249) dX12_next_249 rfl ?_
            refine aw_top (y := nI i) rfl ?_
            refine aw_iconst (pc := 252) dX12_next_252 iconst_3 ?_
            refine an_icmp_ge (pc := 253) (tgt := 275) dX12_next_253 rfl (by omega) (by decide) (fun h253 => ?_) (fun h253 => ?_)
            · -- 275
              refine aw_aload_n (pc := 275) (i := 0) dX12_next_275 rfl rfl ?_
              refine aw_dup (pc := 276) dX12_next_276 rfl ?_
              refine mg_span (pc := 277) dX12_next_277 rfl ?_
              refine aw_top (y := nI i) rfl ?_
              refine aw_iconst (pc := 280) dX12_next_280 iconst_1 ?_
              refine an_add (pc := 281) dX12_next_281 ?_
              refine mp_span (pc := 282) dX12_next_282 rfl ?_
              refine aw_aload_n (pc := 285) (i := 0) dX12_next_285 rfl rfl ?_
              refine aw_dup (pc := 286) dX12_next_286 rfl ?_
              refine mg_p (pc := 287) dX12_next_287 rfl ?_
              refine aw_top (y := nI (p + i)) rfl ?_
              refine aw_iconst (pc := 290) dX12_next_290 iconst_1 ?_
              refine an_add (pc := 291) dX12_next_291 ?_
              refine mp_p (pc := 292) dX12_next_292 rfl ?_
              refine aw_goto (pc := 295) (tgt := 181) dX12_next_295 rfl ?_
              have hA : isA (chr (σ.2.2.1 1) (p + i)) = true := by simp [isA, *]
              have eW : runW (σ.2.2.1 1) p (i + 1) = runW (σ.2.2.1 1) p i := by rw [runW]; first | rw [if_pos (by omega)] | rw [if_neg (by omega)]
              have eN : runN (σ.2.2.1 1) p (i + 1) = runN (σ.2.2.1 1) p i := by rw [runN]; first | rw [if_pos (by omega)] | rw [if_neg (by omega)]
              have eA : runA (σ.2.2.1 1) p sm (i + 1) = false := by rw [runA]; cases sm <;> simp_all
              rw [rlen, if_pos hA] at kk
              refine aw_L (L9 := [some (.ref (a 60)), some (.int c0), some (.int (bI sm)), some (.int (bI (runA (σ.2.2.1 1) p sm (i + 1))))]) (by rw [eA]; rfl) ?_
              refine aw_ws (w9 := mW G.2.2.1 a (runS σ (runW (σ.2.2.1 1) p (i + 1)) (runN (σ.2.2.1 1) p (i + 1)) (i + 1) (p + (i + 1)))) (by rw [eW, eN]; rfl) ?_
              exact ih (i + 1) (by omega) (by rw [show i + 1 + rlen (σ.2.2.1 1) n (p + (i + 1)) = i + (rlen (σ.2.2.1 1) n (p + i + 1) + 1) by rw [show p + (i + 1) = p + i + 1 by omega]; omega]; exact kk)
            · -- 256
              refine aw_aload_n (pc := 256) (i := 0) dX12_next_256 rfl rfl ?_
              refine aw_bipush (pc := 257) dX12_next_257 bipush_10 ?_
              refine aw_aload_n (pc := 259) (i := 0) dX12_next_259 rfl rfl ?_
              refine mg_number (pc := 260) dX12_next_260 rfl ?_
              refine aw_top (y := nI (runN (σ.2.2.1 1) p i)) rfl ?_
              refine an_mul (pc := 263) dX12_next_263 ?_
              refine aw_aload_n (pc := 264) (i := 0) dX12_next_264 rfl rfl ?_
              refine mc_I (pc := 265) (As := []) (rest := [.int (nI (10 * (runN (σ.2.2.1 1) p i))), .ref (a 60)]) dX12_next_265 rfl ok_X12_165 rfl rfl rfl (Nat.le_of_ble_eq_true rfl) (s_peek1 (p := p + i) (s := s) rfl hs hs9 hlt ⟨_, _, rfl, rfl, ?_⟩)
              refine aw_top (y := nI (chr (σ.2.2.1 1) (p + i))) rfl ?_
              refine an_add (pc := 268) dX12_next_268 ?_
              refine aw_bipush (pc := 269) dX12_next_269 bipush_48 ?_
              refine an_sub (pc := 271) dX12_next_271 (by have := isA_48 (c := chr (σ.2.2.1 1) (p + i)) (by simp [isA, *]); omega) ?_
              refine mp_number (pc := 272) dX12_next_272 rfl ?_
              refine aw_aload_n (pc := 275) (i := 0) dX12_next_275 rfl rfl ?_
              refine aw_dup (pc := 276) dX12_next_276 rfl ?_
              refine mg_span (pc := 277) dX12_next_277 rfl ?_
              refine aw_top (y := nI i) rfl ?_
              refine aw_iconst (pc := 280) dX12_next_280 iconst_1 ?_
              refine an_add (pc := 281) dX12_next_281 ?_
              refine mp_span (pc := 282) dX12_next_282 rfl ?_
              refine aw_aload_n (pc := 285) (i := 0) dX12_next_285 rfl rfl ?_
              refine aw_dup (pc := 286) dX12_next_286 rfl ?_
              refine mg_p (pc := 287) dX12_next_287 rfl ?_
              refine aw_top (y := nI (p + i)) rfl ?_
              refine aw_iconst (pc := 290) dX12_next_290 iconst_1 ?_
              refine an_add (pc := 291) dX12_next_291 ?_
              refine mp_p (pc := 292) dX12_next_292 rfl ?_
              refine aw_goto (pc := 295) (tgt := 181) dX12_next_295 rfl ?_
              exfalso; omega
          · -- 231
            refine aw_aload_n (pc := 231) (i := 0) dX12_next_231 rfl rfl ?_
            refine aw_aload_n (pc := 232) (i := 0) dX12_next_232 rfl rfl ?_
            refine mg_word (pc := 233) dX12_next_233 rfl ?_
            refine aw_topJ (y := lN (runW (σ.2.2.1 1) p i)) rfl ?_
            refine aw_bipush (pc := 236) dX12_next_236 bipush_8 ?_
            refine aw_lshl (pc := 238) dX12_next_238 ?_
            refine aw_aload_n (pc := 239) (i := 0) dX12_next_239 rfl rfl ?_
            refine mc_I (pc := 240) (As := []) (rest := [.long ((lN (runW (σ.2.2.1 1) p i)) <<< (((nI 8)).toInt64 &&& 63)), .ref (a 60)]) dX12_next_240 rfl ok_X12_165 rfl rfl rfl (Nat.le_of_ble_eq_true rfl) (s_peek1 (p := p + i) (s := s) rfl hs hs9 hlt ⟨_, _, rfl, rfl, ?_⟩)
            refine aw_top (y := nI (chr (σ.2.2.1 1) (p + i))) rfl ?_
            refine aw_i2l (pc := 243) dX12_next_243 ?_
            refine aw_lor (pc := 244) dX12_next_244 ?_
            refine mp_word (pc := 245) dX12_next_245 rfl ?_
            refine aw_aload_n (pc := 248) (i := 0) dX12_next_248 rfl rfl ?_
            refine mg_span (pc := 249) dX12_next_249 rfl ?_
            refine aw_top (y := nI i) rfl ?_
            refine aw_iconst (pc := 252) dX12_next_252 iconst_3 ?_
            refine an_icmp_ge (pc := 253) (tgt := 275) dX12_next_253 rfl (by omega) (by decide) (fun h253 => ?_) (fun h253 => ?_)
            · -- 275
              refine aw_aload_n (pc := 275) (i := 0) dX12_next_275 rfl rfl ?_
              refine aw_dup (pc := 276) dX12_next_276 rfl ?_
              refine mg_span (pc := 277) dX12_next_277 rfl ?_
              refine aw_top (y := nI i) rfl ?_
              refine aw_iconst (pc := 280) dX12_next_280 iconst_1 ?_
              refine an_add (pc := 281) dX12_next_281 ?_
              refine mp_span (pc := 282) dX12_next_282 rfl ?_
              refine aw_aload_n (pc := 285) (i := 0) dX12_next_285 rfl rfl ?_
              refine aw_dup (pc := 286) dX12_next_286 rfl ?_
              refine mg_p (pc := 287) dX12_next_287 rfl ?_
              refine aw_top (y := nI (p + i)) rfl ?_
              refine aw_iconst (pc := 290) dX12_next_290 iconst_1 ?_
              refine an_add (pc := 291) dX12_next_291 ?_
              refine mp_p (pc := 292) dX12_next_292 rfl ?_
              refine aw_goto (pc := 295) (tgt := 181) dX12_next_295 rfl ?_
              have hA : isA (chr (σ.2.2.1 1) (p + i)) = true := by simp [isA, *]
              have eW : runW (σ.2.2.1 1) p (i + 1) = runW (σ.2.2.1 1) p i * 256 + chr (σ.2.2.1 1) (p + i) := by rw [runW]; first | rw [if_pos (by omega)] | rw [if_neg (by omega)]
              have eN : runN (σ.2.2.1 1) p (i + 1) = runN (σ.2.2.1 1) p i := by rw [runN]; first | rw [if_pos (by omega)] | rw [if_neg (by omega)]
              have eA : runA (σ.2.2.1 1) p sm (i + 1) = false := by rw [runA]; cases sm <;> simp_all
              rw [rlen, if_pos hA] at kk
              refine aw_L (L9 := [some (.ref (a 60)), some (.int c0), some (.int (bI sm)), some (.int (bI (runA (σ.2.2.1 1) p sm (i + 1))))]) (by rw [eA]; rfl) ?_
              refine aw_ws (w9 := mW G.2.2.1 a (runS σ (runW (σ.2.2.1 1) p (i + 1)) (runN (σ.2.2.1 1) p (i + 1)) (i + 1) (p + (i + 1)))) (by rw [eW, eN]; rw [lN_byte (Nat.lt_of_lt_of_le (runW_lt _ _ i (by omega)) (Nat.pow_le_pow_right (by decide) (by omega))) (chr_lt _ _)]; rfl) ?_
              exact ih (i + 1) (by omega) (by rw [show i + 1 + rlen (σ.2.2.1 1) n (p + (i + 1)) = i + (rlen (σ.2.2.1 1) n (p + i + 1) + 1) by rw [show p + (i + 1) = p + i + 1 by omega]; omega]; exact kk)
            · -- 256
              refine aw_aload_n (pc := 256) (i := 0) dX12_next_256 rfl rfl ?_
              refine aw_bipush (pc := 257) dX12_next_257 bipush_10 ?_
              refine aw_aload_n (pc := 259) (i := 0) dX12_next_259 rfl rfl ?_
              refine mg_number (pc := 260) dX12_next_260 rfl ?_
              refine aw_top (y := nI (runN (σ.2.2.1 1) p i)) rfl ?_
              refine an_mul (pc := 263) dX12_next_263 ?_
              refine aw_aload_n (pc := 264) (i := 0) dX12_next_264 rfl rfl ?_
              refine mc_I (pc := 265) (As := []) (rest := [.int (nI (10 * (runN (σ.2.2.1 1) p i))), .ref (a 60)]) dX12_next_265 rfl ok_X12_165 rfl rfl rfl (Nat.le_of_ble_eq_true rfl) (s_peek1 (p := p + i) (s := s) rfl hs hs9 hlt ⟨_, _, rfl, rfl, ?_⟩)
              refine aw_top (y := nI (chr (σ.2.2.1 1) (p + i))) rfl ?_
              refine an_add (pc := 268) dX12_next_268 ?_
              refine aw_bipush (pc := 269) dX12_next_269 bipush_48 ?_
              refine an_sub (pc := 271) dX12_next_271 (by have := isA_48 (c := chr (σ.2.2.1 1) (p + i)) (by simp [isA, *]); omega) ?_
              refine mp_number (pc := 272) dX12_next_272 rfl ?_
              refine aw_aload_n (pc := 275) (i := 0) dX12_next_275 rfl rfl ?_
              refine aw_dup (pc := 276) dX12_next_276 rfl ?_
              refine mg_span (pc := 277) dX12_next_277 rfl ?_
              refine aw_top (y := nI i) rfl ?_
              refine aw_iconst (pc := 280) dX12_next_280 iconst_1 ?_
              refine an_add (pc := 281) dX12_next_281 ?_
              refine mp_span (pc := 282) dX12_next_282 rfl ?_
              refine aw_aload_n (pc := 285) (i := 0) dX12_next_285 rfl rfl ?_
              refine aw_dup (pc := 286) dX12_next_286 rfl ?_
              refine mg_p (pc := 287) dX12_next_287 rfl ?_
              refine aw_top (y := nI (p + i)) rfl ?_
              refine aw_iconst (pc := 290) dX12_next_290 iconst_1 ?_
              refine an_add (pc := 291) dX12_next_291 ?_
              refine mp_p (pc := 292) dX12_next_292 rfl ?_
              refine aw_goto (pc := 295) (tgt := 181) dX12_next_295 rfl ?_
              have hA : isA (chr (σ.2.2.1 1) (p + i)) = true := by simp [isA, *]
              have eW : runW (σ.2.2.1 1) p (i + 1) = runW (σ.2.2.1 1) p i * 256 + chr (σ.2.2.1 1) (p + i) := by rw [runW]; first | rw [if_pos (by omega)] | rw [if_neg (by omega)]
              have eN : runN (σ.2.2.1 1) p (i + 1) = 10 * runN (σ.2.2.1 1) p i + chr (σ.2.2.1 1) (p + i) - 48 := by rw [runN]; first | rw [if_pos (by omega)] | rw [if_neg (by omega)]
              have eA : runA (σ.2.2.1 1) p sm (i + 1) = false := by rw [runA]; cases sm <;> simp_all
              rw [rlen, if_pos hA] at kk
              refine aw_L (L9 := [some (.ref (a 60)), some (.int c0), some (.int (bI sm)), some (.int (bI (runA (σ.2.2.1 1) p sm (i + 1))))]) (by rw [eA]; rfl) ?_
              refine aw_ws (w9 := mW G.2.2.1 a (runS σ (runW (σ.2.2.1 1) p (i + 1)) (runN (σ.2.2.1 1) p (i + 1)) (i + 1) (p + (i + 1)))) (by rw [eW, eN]; rw [lN_byte (Nat.lt_of_lt_of_le (runW_lt _ _ i (by omega)) (Nat.pow_le_pow_right (by decide) (by omega))) (chr_lt _ _)]; rfl) ?_
              exact ih (i + 1) (by omega) (by rw [show i + 1 + rlen (σ.2.2.1 1) n (p + (i + 1)) = i + (rlen (σ.2.2.1 1) n (p + i + 1) + 1) by rw [show p + (i + 1) = p + i + 1 by omega]; omega]; exact kk)
        · -- 216
          refine aw_iconst (pc := 216) dX12_next_216 iconst_1 ?_
          refine aw_goto (pc := 217) (tgt := 221) dX12_next_217 rfl ?_
          refine aw_istore_n (pc := 221) (i := 3) dX12_next_221 rfl (Nat.le_of_ble_eq_true rfl) rfl ?_
          refine aw_aload_n (pc := 222) (i := 0) dX12_next_222 rfl rfl ?_
          refine mg_span (pc := 223) dX12_next_223 rfl ?_
          refine aw_top (y := nI i) rfl ?_
          refine aw_bipush (pc := 226) dX12_next_226 bipush_7 ?_
          refine an_icmp_ge (pc := 228) (tgt := 248) dX12_next_228 rfl (by omega) (by decide) (fun h228 => ?_) (fun h228 => ?_)
          · -- 248
            refine aw_aload_n (pc := 248) (i := 0) dX12_next_248 rfl rfl ?_
            refine mg_span (pc := 249) dX12_next_249 rfl ?_
            refine aw_top (y := nI i) rfl ?_
            refine aw_iconst (pc := 252) dX12_next_252 iconst_3 ?_
            refine an_icmp_ge (pc := 253) (tgt := 275) dX12_next_253 rfl (by omega) (by decide) (fun h253 => ?_) (fun h253 => ?_)
            · -- 275
              refine aw_aload_n (pc := 275) (i := 0) dX12_next_275 rfl rfl ?_
              refine aw_dup (pc := 276) dX12_next_276 rfl ?_
              refine mg_span (pc := 277) dX12_next_277 rfl ?_
              refine aw_top (y := nI i) rfl ?_
              refine aw_iconst (pc := 280) dX12_next_280 iconst_1 ?_
              refine an_add (pc := 281) dX12_next_281 ?_
              refine mp_span (pc := 282) dX12_next_282 rfl ?_
              refine aw_aload_n (pc := 285) (i := 0) dX12_next_285 rfl rfl ?_
              refine aw_dup (pc := 286) dX12_next_286 rfl ?_
              refine mg_p (pc := 287) dX12_next_287 rfl ?_
              refine aw_top (y := nI (p + i)) rfl ?_
              refine aw_iconst (pc := 290) dX12_next_290 iconst_1 ?_
              refine an_add (pc := 291) dX12_next_291 ?_
              refine mp_p (pc := 292) dX12_next_292 rfl ?_
              refine aw_goto (pc := 295) (tgt := 181) dX12_next_295 rfl ?_
              have hA : isA (chr (σ.2.2.1 1) (p + i)) = true := by simp [isA, *]
              have eW : runW (σ.2.2.1 1) p (i + 1) = runW (σ.2.2.1 1) p i := by rw [runW]; first | rw [if_pos (by omega)] | rw [if_neg (by omega)]
              have eN : runN (σ.2.2.1 1) p (i + 1) = runN (σ.2.2.1 1) p i := by rw [runN]; first | rw [if_pos (by omega)] | rw [if_neg (by omega)]
              have eA : runA (σ.2.2.1 1) p sm (i + 1) = true := by rw [runA]; cases sm <;> simp_all
              rw [rlen, if_pos hA] at kk
              refine aw_L (L9 := [some (.ref (a 60)), some (.int c0), some (.int (bI sm)), some (.int (bI (runA (σ.2.2.1 1) p sm (i + 1))))]) (by rw [eA]; rfl) ?_
              refine aw_ws (w9 := mW G.2.2.1 a (runS σ (runW (σ.2.2.1 1) p (i + 1)) (runN (σ.2.2.1 1) p (i + 1)) (i + 1) (p + (i + 1)))) (by rw [eW, eN]; rfl) ?_
              exact ih (i + 1) (by omega) (by rw [show i + 1 + rlen (σ.2.2.1 1) n (p + (i + 1)) = i + (rlen (σ.2.2.1 1) n (p + i + 1) + 1) by rw [show p + (i + 1) = p + i + 1 by omega]; omega]; exact kk)
            · -- 256
              refine aw_aload_n (pc := 256) (i := 0) dX12_next_256 rfl rfl ?_
              refine aw_bipush (pc := 257) dX12_next_257 bipush_10 ?_
              refine aw_aload_n (pc := 259) (i := 0) dX12_next_259 rfl rfl ?_
              refine mg_number (pc := 260) dX12_next_260 rfl ?_
              refine aw_top (y := nI (runN (σ.2.2.1 1) p i)) rfl ?_
              refine an_mul (pc := 263) dX12_next_263 ?_
              refine aw_aload_n (pc := 264) (i := 0) dX12_next_264 rfl rfl ?_
              refine mc_I (pc := 265) (As := []) (rest := [.int (nI (10 * (runN (σ.2.2.1 1) p i))), .ref (a 60)]) dX12_next_265 rfl ok_X12_165 rfl rfl rfl (Nat.le_of_ble_eq_true rfl) (s_peek1 (p := p + i) (s := s) rfl hs hs9 hlt ⟨_, _, rfl, rfl, ?_⟩)
              refine aw_top (y := nI (chr (σ.2.2.1 1) (p + i))) rfl ?_
              refine an_add (pc := 268) dX12_next_268 ?_
              refine aw_bipush (pc := 269) dX12_next_269 bipush_48 ?_
              refine an_sub (pc := 271) dX12_next_271 (by have := isA_48 (c := chr (σ.2.2.1 1) (p + i)) (by simp [isA, *]); omega) ?_
              refine mp_number (pc := 272) dX12_next_272 rfl ?_
              refine aw_aload_n (pc := 275) (i := 0) dX12_next_275 rfl rfl ?_
              refine aw_dup (pc := 276) dX12_next_276 rfl ?_
              refine mg_span (pc := 277) dX12_next_277 rfl ?_
              refine aw_top (y := nI i) rfl ?_
              refine aw_iconst (pc := 280) dX12_next_280 iconst_1 ?_
              refine an_add (pc := 281) dX12_next_281 ?_
              refine mp_span (pc := 282) dX12_next_282 rfl ?_
              refine aw_aload_n (pc := 285) (i := 0) dX12_next_285 rfl rfl ?_
              refine aw_dup (pc := 286) dX12_next_286 rfl ?_
              refine mg_p (pc := 287) dX12_next_287 rfl ?_
              refine aw_top (y := nI (p + i)) rfl ?_
              refine aw_iconst (pc := 290) dX12_next_290 iconst_1 ?_
              refine an_add (pc := 291) dX12_next_291 ?_
              refine mp_p (pc := 292) dX12_next_292 rfl ?_
              refine aw_goto (pc := 295) (tgt := 181) dX12_next_295 rfl ?_
              exfalso; omega
          · -- 231
            refine aw_aload_n (pc := 231) (i := 0) dX12_next_231 rfl rfl ?_
            refine aw_aload_n (pc := 232) (i := 0) dX12_next_232 rfl rfl ?_
            refine mg_word (pc := 233) dX12_next_233 rfl ?_
            refine aw_topJ (y := lN (runW (σ.2.2.1 1) p i)) rfl ?_
            refine aw_bipush (pc := 236) dX12_next_236 bipush_8 ?_
            refine aw_lshl (pc := 238) dX12_next_238 ?_
            refine aw_aload_n (pc := 239) (i := 0) dX12_next_239 rfl rfl ?_
            refine mc_I (pc := 240) (As := []) (rest := [.long ((lN (runW (σ.2.2.1 1) p i)) <<< (((nI 8)).toInt64 &&& 63)), .ref (a 60)]) dX12_next_240 rfl ok_X12_165 rfl rfl rfl (Nat.le_of_ble_eq_true rfl) (s_peek1 (p := p + i) (s := s) rfl hs hs9 hlt ⟨_, _, rfl, rfl, ?_⟩)
            refine aw_top (y := nI (chr (σ.2.2.1 1) (p + i))) rfl ?_
            refine aw_i2l (pc := 243) dX12_next_243 ?_
            refine aw_lor (pc := 244) dX12_next_244 ?_
            refine mp_word (pc := 245) dX12_next_245 rfl ?_
            refine aw_aload_n (pc := 248) (i := 0) dX12_next_248 rfl rfl ?_
            refine mg_span (pc := 249) dX12_next_249 rfl ?_
            refine aw_top (y := nI i) rfl ?_
            refine aw_iconst (pc := 252) dX12_next_252 iconst_3 ?_
            refine an_icmp_ge (pc := 253) (tgt := 275) dX12_next_253 rfl (by omega) (by decide) (fun h253 => ?_) (fun h253 => ?_)
            · -- 275
              refine aw_aload_n (pc := 275) (i := 0) dX12_next_275 rfl rfl ?_
              refine aw_dup (pc := 276) dX12_next_276 rfl ?_
              refine mg_span (pc := 277) dX12_next_277 rfl ?_
              refine aw_top (y := nI i) rfl ?_
              refine aw_iconst (pc := 280) dX12_next_280 iconst_1 ?_
              refine an_add (pc := 281) dX12_next_281 ?_
              refine mp_span (pc := 282) dX12_next_282 rfl ?_
              refine aw_aload_n (pc := 285) (i := 0) dX12_next_285 rfl rfl ?_
              refine aw_dup (pc := 286) dX12_next_286 rfl ?_
              refine mg_p (pc := 287) dX12_next_287 rfl ?_
              refine aw_top (y := nI (p + i)) rfl ?_
              refine aw_iconst (pc := 290) dX12_next_290 iconst_1 ?_
              refine an_add (pc := 291) dX12_next_291 ?_
              refine mp_p (pc := 292) dX12_next_292 rfl ?_
              refine aw_goto (pc := 295) (tgt := 181) dX12_next_295 rfl ?_
              have hA : isA (chr (σ.2.2.1 1) (p + i)) = true := by simp [isA, *]
              have eW : runW (σ.2.2.1 1) p (i + 1) = runW (σ.2.2.1 1) p i * 256 + chr (σ.2.2.1 1) (p + i) := by rw [runW]; first | rw [if_pos (by omega)] | rw [if_neg (by omega)]
              have eN : runN (σ.2.2.1 1) p (i + 1) = runN (σ.2.2.1 1) p i := by rw [runN]; first | rw [if_pos (by omega)] | rw [if_neg (by omega)]
              have eA : runA (σ.2.2.1 1) p sm (i + 1) = true := by rw [runA]; cases sm <;> simp_all
              rw [rlen, if_pos hA] at kk
              refine aw_L (L9 := [some (.ref (a 60)), some (.int c0), some (.int (bI sm)), some (.int (bI (runA (σ.2.2.1 1) p sm (i + 1))))]) (by rw [eA]; rfl) ?_
              refine aw_ws (w9 := mW G.2.2.1 a (runS σ (runW (σ.2.2.1 1) p (i + 1)) (runN (σ.2.2.1 1) p (i + 1)) (i + 1) (p + (i + 1)))) (by rw [eW, eN]; rw [lN_byte (Nat.lt_of_lt_of_le (runW_lt _ _ i (by omega)) (Nat.pow_le_pow_right (by decide) (by omega))) (chr_lt _ _)]; rfl) ?_
              exact ih (i + 1) (by omega) (by rw [show i + 1 + rlen (σ.2.2.1 1) n (p + (i + 1)) = i + (rlen (σ.2.2.1 1) n (p + i + 1) + 1) by rw [show p + (i + 1) = p + i + 1 by omega]; omega]; exact kk)
            · -- 256
              refine aw_aload_n (pc := 256) (i := 0) dX12_next_256 rfl rfl ?_
              refine aw_bipush (pc := 257) dX12_next_257 bipush_10 ?_
              refine aw_aload_n (pc := 259) (i := 0) dX12_next_259 rfl rfl ?_
              refine mg_number (pc := 260) dX12_next_260 rfl ?_
              refine aw_top (y := nI (runN (σ.2.2.1 1) p i)) rfl ?_
              refine an_mul (pc := 263) dX12_next_263 ?_
              refine aw_aload_n (pc := 264) (i := 0) dX12_next_264 rfl rfl ?_
              refine mc_I (pc := 265) (As := []) (rest := [.int (nI (10 * (runN (σ.2.2.1 1) p i))), .ref (a 60)]) dX12_next_265 rfl ok_X12_165 rfl rfl rfl (Nat.le_of_ble_eq_true rfl) (s_peek1 (p := p + i) (s := s) rfl hs hs9 hlt ⟨_, _, rfl, rfl, ?_⟩)
              refine aw_top (y := nI (chr (σ.2.2.1 1) (p + i))) rfl ?_
              refine an_add (pc := 268) dX12_next_268 ?_
              refine aw_bipush (pc := 269) dX12_next_269 bipush_48 ?_
              refine an_sub (pc := 271) dX12_next_271 (by have := isA_48 (c := chr (σ.2.2.1 1) (p + i)) (by simp [isA, *]); omega) ?_
              refine mp_number (pc := 272) dX12_next_272 rfl ?_
              refine aw_aload_n (pc := 275) (i := 0) dX12_next_275 rfl rfl ?_
              refine aw_dup (pc := 276) dX12_next_276 rfl ?_
              refine mg_span (pc := 277) dX12_next_277 rfl ?_
              refine aw_top (y := nI i) rfl ?_
              refine aw_iconst (pc := 280) dX12_next_280 iconst_1 ?_
              refine an_add (pc := 281) dX12_next_281 ?_
              refine mp_span (pc := 282) dX12_next_282 rfl ?_
              refine aw_aload_n (pc := 285) (i := 0) dX12_next_285 rfl rfl ?_
              refine aw_dup (pc := 286) dX12_next_286 rfl ?_
              refine mg_p (pc := 287) dX12_next_287 rfl ?_
              refine aw_top (y := nI (p + i)) rfl ?_
              refine aw_iconst (pc := 290) dX12_next_290 iconst_1 ?_
              refine an_add (pc := 291) dX12_next_291 ?_
              refine mp_p (pc := 292) dX12_next_292 rfl ?_
              refine aw_goto (pc := 295) (tgt := 181) dX12_next_295 rfl ?_
              have hA : isA (chr (σ.2.2.1 1) (p + i)) = true := by simp [isA, *]
              have eW : runW (σ.2.2.1 1) p (i + 1) = runW (σ.2.2.1 1) p i * 256 + chr (σ.2.2.1 1) (p + i) := by rw [runW]; first | rw [if_pos (by omega)] | rw [if_neg (by omega)]
              have eN : runN (σ.2.2.1 1) p (i + 1) = 10 * runN (σ.2.2.1 1) p i + chr (σ.2.2.1 1) (p + i) - 48 := by rw [runN]; first | rw [if_pos (by omega)] | rw [if_neg (by omega)]
              have eA : runA (σ.2.2.1 1) p sm (i + 1) = true := by rw [runA]; cases sm <;> simp_all
              rw [rlen, if_pos hA] at kk
              refine aw_L (L9 := [some (.ref (a 60)), some (.int c0), some (.int (bI sm)), some (.int (bI (runA (σ.2.2.1 1) p sm (i + 1))))]) (by rw [eA]; rfl) ?_
              refine aw_ws (w9 := mW G.2.2.1 a (runS σ (runW (σ.2.2.1 1) p (i + 1)) (runN (σ.2.2.1 1) p (i + 1)) (i + 1) (p + (i + 1)))) (by rw [eW, eN]; rw [lN_byte (Nat.lt_of_lt_of_le (runW_lt _ _ i (by omega)) (Nat.pow_le_pow_right (by decide) (by omega))) (chr_lt _ _)]; rfl) ?_
              exact ih (i + 1) (by omega) (by rw [show i + 1 + rlen (σ.2.2.1 1) n (p + (i + 1)) = i + (rlen (σ.2.2.1 1) n (p + i + 1) + 1) by rw [show p + (i + 1) = p + i + 1 by omega]; omega]; exact kk)
    · -- 191
      refine aw_aload_n (pc := 191) (i := 0) dX12_next_191 rfl rfl ?_
      refine mc_I (pc := 192) (As := []) (rest := []) dX12_next_192 rfl ok_X12_165 rfl rfl rfl (Nat.le_of_ble_eq_true rfl) (s_peek1 (p := p + i) (s := s) rfl hs hs9 hlt ⟨_, _, rfl, rfl, ?_⟩)
      refine aw_top (y := nI (chr (σ.2.2.1 1) (p + i))) rfl ?_
      refine mt_I (pc := 195) (As := [.int (nI (chr (σ.2.2.1 1) (p + i)))]) (rest := []) dX12_next_195 rfl ok_X12_182 rfl rfl rfl (Nat.le_of_ble_eq_true rfl) (s_isDigitN (Nat.lt_trans (chr_lt _ _) (by decide)) ⟨_, _, rfl, rfl, ?_⟩)
      refine ab_if_eq (pc := 198) (tgt := 298) dX12_next_198 rfl (fun h198 => ?_) (fun h198 => ?_)
      · -- 298
        rw [rlen, if_neg (by simp [isA, *]), Nat.add_zero] at kk
        refine aw_aload_n (pc := 298) (i := 0) dX12_next_298 rfl rfl ?_
        refine aw_iload_n (pc := 299) (i := 3) dX12_next_299 rfl rfl ?_
        refine ab_if_eq (pc := 300) (tgt := 320) dX12_next_300 rfl (fun h300 => ?_) (fun h300 => ?_)
        · -- 320
          refine aw_iconst (pc := 320) dX12_next_320 iconst_4 ?_
          refine aw_goto (pc := 321) (tgt := 333) dX12_next_321 rfl ?_
          refine mp_token (pc := 333) dX12_next_333 rfl ?_
          exact aw_vret (pc := 336) dX12_next_336 rfl (Nat.le_refl _) (Nat.le_refl _) (by rw [show tokK sm (runA (σ.2.2.1 1) p sm i) i = 4 by unfold tokK; simp_all <;> omega] at kk; exact kk)
        · -- 303
          refine aw_aload_n (pc := 303) (i := 0) dX12_next_303 rfl rfl ?_
          refine mg_span (pc := 304) dX12_next_304 rfl ?_
          refine aw_top (y := nI i) rfl ?_
          refine aw_iload_n (pc := 307) (i := 2) dX12_next_307 rfl rfl ?_
          refine ab_if_eq (pc := 308) (tgt := 316) dX12_next_308 rfl (fun h308 => ?_) (fun h308 => ?_)
          · -- 316
            refine aw_iconst (pc := 316) dX12_next_316 iconst_3 ?_
            refine an_icmp_le (pc := 317) (tgt := 324) dX12_next_317 rfl (by omega) (by decide) (fun h317 => ?_) (fun h317 => ?_)
            · -- 324
              refine aw_iload_n (pc := 324) (i := 2) dX12_next_324 rfl rfl ?_
              refine ab_if_eq (pc := 325) (tgt := 332) dX12_next_325 rfl (fun h325 => ?_) (fun h325 => ?_)
              · -- 332
                refine aw_iconst (pc := 332) dX12_next_332 iconst_2 ?_
                refine mp_token (pc := 333) dX12_next_333 rfl ?_
                exact aw_vret (pc := 336) dX12_next_336 rfl (Nat.le_refl _) (Nat.le_refl _) (by rw [show tokK sm (runA (σ.2.2.1 1) p sm i) i = 2 by unfold tokK; simp_all <;> omega] at kk; exact kk)
              · -- 328
                refine aw_iconst (pc := 328) dX12_next_328 iconst_1 ?_
                refine aw_goto (pc := 329) (tgt := 333) dX12_next_329 rfl ?_
                refine mp_token (pc := 333) dX12_next_333 rfl ?_
                exact aw_vret (pc := 336) dX12_next_336 rfl (Nat.le_refl _) (Nat.le_refl _) (by rw [show tokK sm (runA (σ.2.2.1 1) p sm i) i = 1 by unfold tokK; simp_all <;> omega] at kk; exact kk)
            · -- 320
              refine aw_iconst (pc := 320) dX12_next_320 iconst_4 ?_
              refine aw_goto (pc := 321) (tgt := 333) dX12_next_321 rfl ?_
              refine mp_token (pc := 333) dX12_next_333 rfl ?_
              exact aw_vret (pc := 336) dX12_next_336 rfl (Nat.le_refl _) (Nat.le_refl _) (by rw [show tokK sm (runA (σ.2.2.1 1) p sm i) i = 4 by unfold tokK; simp_all <;> omega] at kk; exact kk)
          · -- 311
            refine aw_bipush (pc := 311) dX12_next_311 bipush_7 ?_
            refine aw_goto (pc := 313) (tgt := 317) dX12_next_313 rfl ?_
            refine an_icmp_le (pc := 317) (tgt := 324) dX12_next_317 rfl (by omega) (by decide) (fun h317 => ?_) (fun h317 => ?_)
            · -- 324
              refine aw_iload_n (pc := 324) (i := 2) dX12_next_324 rfl rfl ?_
              refine ab_if_eq (pc := 325) (tgt := 332) dX12_next_325 rfl (fun h325 => ?_) (fun h325 => ?_)
              · -- 332
                refine aw_iconst (pc := 332) dX12_next_332 iconst_2 ?_
                refine mp_token (pc := 333) dX12_next_333 rfl ?_
                exact aw_vret (pc := 336) dX12_next_336 rfl (Nat.le_refl _) (Nat.le_refl _) (by rw [show tokK sm (runA (σ.2.2.1 1) p sm i) i = 2 by unfold tokK; simp_all <;> omega] at kk; exact kk)
              · -- 328
                refine aw_iconst (pc := 328) dX12_next_328 iconst_1 ?_
                refine aw_goto (pc := 329) (tgt := 333) dX12_next_329 rfl ?_
                refine mp_token (pc := 333) dX12_next_333 rfl ?_
                exact aw_vret (pc := 336) dX12_next_336 rfl (Nat.le_refl _) (Nat.le_refl _) (by rw [show tokK sm (runA (σ.2.2.1 1) p sm i) i = 1 by unfold tokK; simp_all <;> omega] at kk; exact kk)
            · -- 320
              refine aw_iconst (pc := 320) dX12_next_320 iconst_4 ?_
              refine aw_goto (pc := 321) (tgt := 333) dX12_next_321 rfl ?_
              refine mp_token (pc := 333) dX12_next_333 rfl ?_
              exact aw_vret (pc := 336) dX12_next_336 rfl (Nat.le_refl _) (Nat.le_refl _) (by rw [show tokK sm (runA (σ.2.2.1 1) p sm i) i = 4 by unfold tokK; simp_all <;> omega] at kk; exact kk)
      · -- 201
        refine aw_iload_n (pc := 201) (i := 3) dX12_next_201 rfl rfl ?_
        refine ab_if_eq (pc := 202) (tgt := 220) dX12_next_202 rfl (fun h202 => ?_) (fun h202 => ?_)
        · -- 220
          refine aw_iconst (pc := 220) dX12_next_220 iconst_0 ?_
          refine aw_istore_n (pc := 221) (i := 3) dX12_next_221 rfl (Nat.le_of_ble_eq_true rfl) rfl ?_
          refine aw_aload_n (pc := 222) (i := 0) dX12_next_222 rfl rfl ?_
          refine mg_span (pc := 223) dX12_next_223 rfl ?_
          refine aw_top (y := nI i) rfl ?_
          refine aw_bipush (pc := 226) dX12_next_226 bipush_7 ?_
          refine an_icmp_ge (pc := 228) (tgt := 248) dX12_next_228 rfl (by omega) (by decide) (fun h228 => ?_) (fun h228 => ?_)
          · -- 248
            refine aw_aload_n (pc := 248) (i := 0) dX12_next_248 rfl rfl ?_
            refine mg_span (pc := 249) dX12_next_249 rfl ?_
            refine aw_top (y := nI i) rfl ?_
            refine aw_iconst (pc := 252) dX12_next_252 iconst_3 ?_
            refine an_icmp_ge (pc := 253) (tgt := 275) dX12_next_253 rfl (by omega) (by decide) (fun h253 => ?_) (fun h253 => ?_)
            · -- 275
              refine aw_aload_n (pc := 275) (i := 0) dX12_next_275 rfl rfl ?_
              refine aw_dup (pc := 276) dX12_next_276 rfl ?_
              refine mg_span (pc := 277) dX12_next_277 rfl ?_
              refine aw_top (y := nI i) rfl ?_
              refine aw_iconst (pc := 280) dX12_next_280 iconst_1 ?_
              refine an_add (pc := 281) dX12_next_281 ?_
              refine mp_span (pc := 282) dX12_next_282 rfl ?_
              refine aw_aload_n (pc := 285) (i := 0) dX12_next_285 rfl rfl ?_
              refine aw_dup (pc := 286) dX12_next_286 rfl ?_
              refine mg_p (pc := 287) dX12_next_287 rfl ?_
              refine aw_top (y := nI (p + i)) rfl ?_
              refine aw_iconst (pc := 290) dX12_next_290 iconst_1 ?_
              refine an_add (pc := 291) dX12_next_291 ?_
              refine mp_p (pc := 292) dX12_next_292 rfl ?_
              refine aw_goto (pc := 295) (tgt := 181) dX12_next_295 rfl ?_
              have hA : isA (chr (σ.2.2.1 1) (p + i)) = true := by simp [isA, *]
              have eW : runW (σ.2.2.1 1) p (i + 1) = runW (σ.2.2.1 1) p i := by rw [runW]; first | rw [if_pos (by omega)] | rw [if_neg (by omega)]
              have eN : runN (σ.2.2.1 1) p (i + 1) = runN (σ.2.2.1 1) p i := by rw [runN]; first | rw [if_pos (by omega)] | rw [if_neg (by omega)]
              have eA : runA (σ.2.2.1 1) p sm (i + 1) = false := by rw [runA]; cases sm <;> simp_all
              rw [rlen, if_pos hA] at kk
              refine aw_L (L9 := [some (.ref (a 60)), some (.int c0), some (.int (bI sm)), some (.int (bI (runA (σ.2.2.1 1) p sm (i + 1))))]) (by rw [eA]; rfl) ?_
              refine aw_ws (w9 := mW G.2.2.1 a (runS σ (runW (σ.2.2.1 1) p (i + 1)) (runN (σ.2.2.1 1) p (i + 1)) (i + 1) (p + (i + 1)))) (by rw [eW, eN]; rfl) ?_
              exact ih (i + 1) (by omega) (by rw [show i + 1 + rlen (σ.2.2.1 1) n (p + (i + 1)) = i + (rlen (σ.2.2.1 1) n (p + i + 1) + 1) by rw [show p + (i + 1) = p + i + 1 by omega]; omega]; exact kk)
            · -- 256
              refine aw_aload_n (pc := 256) (i := 0) dX12_next_256 rfl rfl ?_
              refine aw_bipush (pc := 257) dX12_next_257 bipush_10 ?_
              refine aw_aload_n (pc := 259) (i := 0) dX12_next_259 rfl rfl ?_
              refine mg_number (pc := 260) dX12_next_260 rfl ?_
              refine aw_top (y := nI (runN (σ.2.2.1 1) p i)) rfl ?_
              refine an_mul (pc := 263) dX12_next_263 ?_
              refine aw_aload_n (pc := 264) (i := 0) dX12_next_264 rfl rfl ?_
              refine mc_I (pc := 265) (As := []) (rest := [.int (nI (10 * (runN (σ.2.2.1 1) p i))), .ref (a 60)]) dX12_next_265 rfl ok_X12_165 rfl rfl rfl (Nat.le_of_ble_eq_true rfl) (s_peek1 (p := p + i) (s := s) rfl hs hs9 hlt ⟨_, _, rfl, rfl, ?_⟩)
              refine aw_top (y := nI (chr (σ.2.2.1 1) (p + i))) rfl ?_
              refine an_add (pc := 268) dX12_next_268 ?_
              refine aw_bipush (pc := 269) dX12_next_269 bipush_48 ?_
              refine an_sub (pc := 271) dX12_next_271 (by have := isA_48 (c := chr (σ.2.2.1 1) (p + i)) (by simp [isA, *]); omega) ?_
              refine mp_number (pc := 272) dX12_next_272 rfl ?_
              refine aw_aload_n (pc := 275) (i := 0) dX12_next_275 rfl rfl ?_
              refine aw_dup (pc := 276) dX12_next_276 rfl ?_
              refine mg_span (pc := 277) dX12_next_277 rfl ?_
              refine aw_top (y := nI i) rfl ?_
              refine aw_iconst (pc := 280) dX12_next_280 iconst_1 ?_
              refine an_add (pc := 281) dX12_next_281 ?_
              refine mp_span (pc := 282) dX12_next_282 rfl ?_
              refine aw_aload_n (pc := 285) (i := 0) dX12_next_285 rfl rfl ?_
              refine aw_dup (pc := 286) dX12_next_286 rfl ?_
              refine mg_p (pc := 287) dX12_next_287 rfl ?_
              refine aw_top (y := nI (p + i)) rfl ?_
              refine aw_iconst (pc := 290) dX12_next_290 iconst_1 ?_
              refine an_add (pc := 291) dX12_next_291 ?_
              refine mp_p (pc := 292) dX12_next_292 rfl ?_
              refine aw_goto (pc := 295) (tgt := 181) dX12_next_295 rfl ?_
              exfalso; omega
          · -- 231
            refine aw_aload_n (pc := 231) (i := 0) dX12_next_231 rfl rfl ?_
            refine aw_aload_n (pc := 232) (i := 0) dX12_next_232 rfl rfl ?_
            refine mg_word (pc := 233) dX12_next_233 rfl ?_
            refine aw_topJ (y := lN (runW (σ.2.2.1 1) p i)) rfl ?_
            refine aw_bipush (pc := 236) dX12_next_236 bipush_8 ?_
            refine aw_lshl (pc := 238) dX12_next_238 ?_
            refine aw_aload_n (pc := 239) (i := 0) dX12_next_239 rfl rfl ?_
            refine mc_I (pc := 240) (As := []) (rest := [.long ((lN (runW (σ.2.2.1 1) p i)) <<< (((nI 8)).toInt64 &&& 63)), .ref (a 60)]) dX12_next_240 rfl ok_X12_165 rfl rfl rfl (Nat.le_of_ble_eq_true rfl) (s_peek1 (p := p + i) (s := s) rfl hs hs9 hlt ⟨_, _, rfl, rfl, ?_⟩)
            refine aw_top (y := nI (chr (σ.2.2.1 1) (p + i))) rfl ?_
            refine aw_i2l (pc := 243) dX12_next_243 ?_
            refine aw_lor (pc := 244) dX12_next_244 ?_
            refine mp_word (pc := 245) dX12_next_245 rfl ?_
            refine aw_aload_n (pc := 248) (i := 0) dX12_next_248 rfl rfl ?_
            refine mg_span (pc := 249) dX12_next_249 rfl ?_
            refine aw_top (y := nI i) rfl ?_
            refine aw_iconst (pc := 252) dX12_next_252 iconst_3 ?_
            refine an_icmp_ge (pc := 253) (tgt := 275) dX12_next_253 rfl (by omega) (by decide) (fun h253 => ?_) (fun h253 => ?_)
            · -- 275
              refine aw_aload_n (pc := 275) (i := 0) dX12_next_275 rfl rfl ?_
              refine aw_dup (pc := 276) dX12_next_276 rfl ?_
              refine mg_span (pc := 277) dX12_next_277 rfl ?_
              refine aw_top (y := nI i) rfl ?_
              refine aw_iconst (pc := 280) dX12_next_280 iconst_1 ?_
              refine an_add (pc := 281) dX12_next_281 ?_
              refine mp_span (pc := 282) dX12_next_282 rfl ?_
              refine aw_aload_n (pc := 285) (i := 0) dX12_next_285 rfl rfl ?_
              refine aw_dup (pc := 286) dX12_next_286 rfl ?_
              refine mg_p (pc := 287) dX12_next_287 rfl ?_
              refine aw_top (y := nI (p + i)) rfl ?_
              refine aw_iconst (pc := 290) dX12_next_290 iconst_1 ?_
              refine an_add (pc := 291) dX12_next_291 ?_
              refine mp_p (pc := 292) dX12_next_292 rfl ?_
              refine aw_goto (pc := 295) (tgt := 181) dX12_next_295 rfl ?_
              have hA : isA (chr (σ.2.2.1 1) (p + i)) = true := by simp [isA, *]
              have eW : runW (σ.2.2.1 1) p (i + 1) = runW (σ.2.2.1 1) p i * 256 + chr (σ.2.2.1 1) (p + i) := by rw [runW]; first | rw [if_pos (by omega)] | rw [if_neg (by omega)]
              have eN : runN (σ.2.2.1 1) p (i + 1) = runN (σ.2.2.1 1) p i := by rw [runN]; first | rw [if_pos (by omega)] | rw [if_neg (by omega)]
              have eA : runA (σ.2.2.1 1) p sm (i + 1) = false := by rw [runA]; cases sm <;> simp_all
              rw [rlen, if_pos hA] at kk
              refine aw_L (L9 := [some (.ref (a 60)), some (.int c0), some (.int (bI sm)), some (.int (bI (runA (σ.2.2.1 1) p sm (i + 1))))]) (by rw [eA]; rfl) ?_
              refine aw_ws (w9 := mW G.2.2.1 a (runS σ (runW (σ.2.2.1 1) p (i + 1)) (runN (σ.2.2.1 1) p (i + 1)) (i + 1) (p + (i + 1)))) (by rw [eW, eN]; rw [lN_byte (Nat.lt_of_lt_of_le (runW_lt _ _ i (by omega)) (Nat.pow_le_pow_right (by decide) (by omega))) (chr_lt _ _)]; rfl) ?_
              exact ih (i + 1) (by omega) (by rw [show i + 1 + rlen (σ.2.2.1 1) n (p + (i + 1)) = i + (rlen (σ.2.2.1 1) n (p + i + 1) + 1) by rw [show p + (i + 1) = p + i + 1 by omega]; omega]; exact kk)
            · -- 256
              refine aw_aload_n (pc := 256) (i := 0) dX12_next_256 rfl rfl ?_
              refine aw_bipush (pc := 257) dX12_next_257 bipush_10 ?_
              refine aw_aload_n (pc := 259) (i := 0) dX12_next_259 rfl rfl ?_
              refine mg_number (pc := 260) dX12_next_260 rfl ?_
              refine aw_top (y := nI (runN (σ.2.2.1 1) p i)) rfl ?_
              refine an_mul (pc := 263) dX12_next_263 ?_
              refine aw_aload_n (pc := 264) (i := 0) dX12_next_264 rfl rfl ?_
              refine mc_I (pc := 265) (As := []) (rest := [.int (nI (10 * (runN (σ.2.2.1 1) p i))), .ref (a 60)]) dX12_next_265 rfl ok_X12_165 rfl rfl rfl (Nat.le_of_ble_eq_true rfl) (s_peek1 (p := p + i) (s := s) rfl hs hs9 hlt ⟨_, _, rfl, rfl, ?_⟩)
              refine aw_top (y := nI (chr (σ.2.2.1 1) (p + i))) rfl ?_
              refine an_add (pc := 268) dX12_next_268 ?_
              refine aw_bipush (pc := 269) dX12_next_269 bipush_48 ?_
              refine an_sub (pc := 271) dX12_next_271 (by have := isA_48 (c := chr (σ.2.2.1 1) (p + i)) (by simp [isA, *]); omega) ?_
              refine mp_number (pc := 272) dX12_next_272 rfl ?_
              refine aw_aload_n (pc := 275) (i := 0) dX12_next_275 rfl rfl ?_
              refine aw_dup (pc := 276) dX12_next_276 rfl ?_
              refine mg_span (pc := 277) dX12_next_277 rfl ?_
              refine aw_top (y := nI i) rfl ?_
              refine aw_iconst (pc := 280) dX12_next_280 iconst_1 ?_
              refine an_add (pc := 281) dX12_next_281 ?_
              refine mp_span (pc := 282) dX12_next_282 rfl ?_
              refine aw_aload_n (pc := 285) (i := 0) dX12_next_285 rfl rfl ?_
              refine aw_dup (pc := 286) dX12_next_286 rfl ?_
              refine mg_p (pc := 287) dX12_next_287 rfl ?_
              refine aw_top (y := nI (p + i)) rfl ?_
              refine aw_iconst (pc := 290) dX12_next_290 iconst_1 ?_
              refine an_add (pc := 291) dX12_next_291 ?_
              refine mp_p (pc := 292) dX12_next_292 rfl ?_
              refine aw_goto (pc := 295) (tgt := 181) dX12_next_295 rfl ?_
              have hA : isA (chr (σ.2.2.1 1) (p + i)) = true := by simp [isA, *]
              have eW : runW (σ.2.2.1 1) p (i + 1) = runW (σ.2.2.1 1) p i * 256 + chr (σ.2.2.1 1) (p + i) := by rw [runW]; first | rw [if_pos (by omega)] | rw [if_neg (by omega)]
              have eN : runN (σ.2.2.1 1) p (i + 1) = 10 * runN (σ.2.2.1 1) p i + chr (σ.2.2.1 1) (p + i) - 48 := by rw [runN]; first | rw [if_pos (by omega)] | rw [if_neg (by omega)]
              have eA : runA (σ.2.2.1 1) p sm (i + 1) = false := by rw [runA]; cases sm <;> simp_all
              rw [rlen, if_pos hA] at kk
              refine aw_L (L9 := [some (.ref (a 60)), some (.int c0), some (.int (bI sm)), some (.int (bI (runA (σ.2.2.1 1) p sm (i + 1))))]) (by rw [eA]; rfl) ?_
              refine aw_ws (w9 := mW G.2.2.1 a (runS σ (runW (σ.2.2.1 1) p (i + 1)) (runN (σ.2.2.1 1) p (i + 1)) (i + 1) (p + (i + 1)))) (by rw [eW, eN]; rw [lN_byte (Nat.lt_of_lt_of_le (runW_lt _ _ i (by omega)) (Nat.pow_le_pow_right (by decide) (by omega))) (chr_lt _ _)]; rfl) ?_
              exact ih (i + 1) (by omega) (by rw [show i + 1 + rlen (σ.2.2.1 1) n (p + (i + 1)) = i + (rlen (σ.2.2.1 1) n (p + i + 1) + 1) by rw [show p + (i + 1) = p + i + 1 by omega]; omega]; exact kk)
        · -- 205
          refine aw_aload_n (pc := 205) (i := 0) dX12_next_205 rfl rfl ?_
          refine mc_I (pc := 206) (As := []) (rest := []) dX12_next_206 rfl ok_X12_165 rfl rfl rfl (Nat.le_of_ble_eq_true rfl) (s_peek1 (p := p + i) (s := s) rfl hs hs9 hlt ⟨_, _, rfl, rfl, ?_⟩)
          refine aw_top (y := nI (chr (σ.2.2.1 1) (p + i))) rfl ?_
          refine mt_I (pc := 209) (As := [.int (nI (chr (σ.2.2.1 1) (p + i)))]) (rest := []) dX12_next_209 rfl ok_X12_178 rfl rfl rfl (Nat.le_of_ble_eq_true rfl) (s_isSmallN (Nat.lt_trans (chr_lt _ _) (by decide)) ⟨_, _, rfl, rfl, ?_⟩)
          refine aw_iload_n (pc := 212) (i := 2) dX12_next_212 rfl rfl ?_
          refine ab_icmp_ne (pc := 213) (tgt := 220) dX12_next_213 rfl (fun h213 => ?_) (fun h213 => ?_)
          · -- 220
            refine aw_iconst (pc := 220) dX12_next_220 iconst_0 ?_
            refine aw_istore_n (pc := 221) (i := 3) dX12_next_221 rfl (Nat.le_of_ble_eq_true rfl) rfl ?_
            refine aw_aload_n (pc := 222) (i := 0) dX12_next_222 rfl rfl ?_
            refine mg_span (pc := 223) dX12_next_223 rfl ?_
            refine aw_top (y := nI i) rfl ?_
            refine aw_bipush (pc := 226) dX12_next_226 bipush_7 ?_
            refine an_icmp_ge (pc := 228) (tgt := 248) dX12_next_228 rfl (by omega) (by decide) (fun h228 => ?_) (fun h228 => ?_)
            · -- 248
              refine aw_aload_n (pc := 248) (i := 0) dX12_next_248 rfl rfl ?_
              refine mg_span (pc := 249) dX12_next_249 rfl ?_
              refine aw_top (y := nI i) rfl ?_
              refine aw_iconst (pc := 252) dX12_next_252 iconst_3 ?_
              refine an_icmp_ge (pc := 253) (tgt := 275) dX12_next_253 rfl (by omega) (by decide) (fun h253 => ?_) (fun h253 => ?_)
              · -- 275
                refine aw_aload_n (pc := 275) (i := 0) dX12_next_275 rfl rfl ?_
                refine aw_dup (pc := 276) dX12_next_276 rfl ?_
                refine mg_span (pc := 277) dX12_next_277 rfl ?_
                refine aw_top (y := nI i) rfl ?_
                refine aw_iconst (pc := 280) dX12_next_280 iconst_1 ?_
                refine an_add (pc := 281) dX12_next_281 ?_
                refine mp_span (pc := 282) dX12_next_282 rfl ?_
                refine aw_aload_n (pc := 285) (i := 0) dX12_next_285 rfl rfl ?_
                refine aw_dup (pc := 286) dX12_next_286 rfl ?_
                refine mg_p (pc := 287) dX12_next_287 rfl ?_
                refine aw_top (y := nI (p + i)) rfl ?_
                refine aw_iconst (pc := 290) dX12_next_290 iconst_1 ?_
                refine an_add (pc := 291) dX12_next_291 ?_
                refine mp_p (pc := 292) dX12_next_292 rfl ?_
                refine aw_goto (pc := 295) (tgt := 181) dX12_next_295 rfl ?_
                have hA : isA (chr (σ.2.2.1 1) (p + i)) = true := by simp [isA, *]
                have eW : runW (σ.2.2.1 1) p (i + 1) = runW (σ.2.2.1 1) p i := by rw [runW]; first | rw [if_pos (by omega)] | rw [if_neg (by omega)]
                have eN : runN (σ.2.2.1 1) p (i + 1) = runN (σ.2.2.1 1) p i := by rw [runN]; first | rw [if_pos (by omega)] | rw [if_neg (by omega)]
                have eA : runA (σ.2.2.1 1) p sm (i + 1) = false := by rw [runA]; cases sm <;> simp_all
                rw [rlen, if_pos hA] at kk
                refine aw_L (L9 := [some (.ref (a 60)), some (.int c0), some (.int (bI sm)), some (.int (bI (runA (σ.2.2.1 1) p sm (i + 1))))]) (by rw [eA]; rfl) ?_
                refine aw_ws (w9 := mW G.2.2.1 a (runS σ (runW (σ.2.2.1 1) p (i + 1)) (runN (σ.2.2.1 1) p (i + 1)) (i + 1) (p + (i + 1)))) (by rw [eW, eN]; rfl) ?_
                exact ih (i + 1) (by omega) (by rw [show i + 1 + rlen (σ.2.2.1 1) n (p + (i + 1)) = i + (rlen (σ.2.2.1 1) n (p + i + 1) + 1) by rw [show p + (i + 1) = p + i + 1 by omega]; omega]; exact kk)
              · -- 256
                refine aw_aload_n (pc := 256) (i := 0) dX12_next_256 rfl rfl ?_
                refine aw_bipush (pc := 257) dX12_next_257 bipush_10 ?_
                refine aw_aload_n (pc := 259) (i := 0) dX12_next_259 rfl rfl ?_
                refine mg_number (pc := 260) dX12_next_260 rfl ?_
                refine aw_top (y := nI (runN (σ.2.2.1 1) p i)) rfl ?_
                refine an_mul (pc := 263) dX12_next_263 ?_
                refine aw_aload_n (pc := 264) (i := 0) dX12_next_264 rfl rfl ?_
                refine mc_I (pc := 265) (As := []) (rest := [.int (nI (10 * (runN (σ.2.2.1 1) p i))), .ref (a 60)]) dX12_next_265 rfl ok_X12_165 rfl rfl rfl (Nat.le_of_ble_eq_true rfl) (s_peek1 (p := p + i) (s := s) rfl hs hs9 hlt ⟨_, _, rfl, rfl, ?_⟩)
                refine aw_top (y := nI (chr (σ.2.2.1 1) (p + i))) rfl ?_
                refine an_add (pc := 268) dX12_next_268 ?_
                refine aw_bipush (pc := 269) dX12_next_269 bipush_48 ?_
                refine an_sub (pc := 271) dX12_next_271 (by have := isA_48 (c := chr (σ.2.2.1 1) (p + i)) (by simp [isA, *]); omega) ?_
                refine mp_number (pc := 272) dX12_next_272 rfl ?_
                refine aw_aload_n (pc := 275) (i := 0) dX12_next_275 rfl rfl ?_
                refine aw_dup (pc := 276) dX12_next_276 rfl ?_
                refine mg_span (pc := 277) dX12_next_277 rfl ?_
                refine aw_top (y := nI i) rfl ?_
                refine aw_iconst (pc := 280) dX12_next_280 iconst_1 ?_
                refine an_add (pc := 281) dX12_next_281 ?_
                refine mp_span (pc := 282) dX12_next_282 rfl ?_
                refine aw_aload_n (pc := 285) (i := 0) dX12_next_285 rfl rfl ?_
                refine aw_dup (pc := 286) dX12_next_286 rfl ?_
                refine mg_p (pc := 287) dX12_next_287 rfl ?_
                refine aw_top (y := nI (p + i)) rfl ?_
                refine aw_iconst (pc := 290) dX12_next_290 iconst_1 ?_
                refine an_add (pc := 291) dX12_next_291 ?_
                refine mp_p (pc := 292) dX12_next_292 rfl ?_
                refine aw_goto (pc := 295) (tgt := 181) dX12_next_295 rfl ?_
                exfalso; omega
            · -- 231
              refine aw_aload_n (pc := 231) (i := 0) dX12_next_231 rfl rfl ?_
              refine aw_aload_n (pc := 232) (i := 0) dX12_next_232 rfl rfl ?_
              refine mg_word (pc := 233) dX12_next_233 rfl ?_
              refine aw_topJ (y := lN (runW (σ.2.2.1 1) p i)) rfl ?_
              refine aw_bipush (pc := 236) dX12_next_236 bipush_8 ?_
              refine aw_lshl (pc := 238) dX12_next_238 ?_
              refine aw_aload_n (pc := 239) (i := 0) dX12_next_239 rfl rfl ?_
              refine mc_I (pc := 240) (As := []) (rest := [.long ((lN (runW (σ.2.2.1 1) p i)) <<< (((nI 8)).toInt64 &&& 63)), .ref (a 60)]) dX12_next_240 rfl ok_X12_165 rfl rfl rfl (Nat.le_of_ble_eq_true rfl) (s_peek1 (p := p + i) (s := s) rfl hs hs9 hlt ⟨_, _, rfl, rfl, ?_⟩)
              refine aw_top (y := nI (chr (σ.2.2.1 1) (p + i))) rfl ?_
              refine aw_i2l (pc := 243) dX12_next_243 ?_
              refine aw_lor (pc := 244) dX12_next_244 ?_
              refine mp_word (pc := 245) dX12_next_245 rfl ?_
              refine aw_aload_n (pc := 248) (i := 0) dX12_next_248 rfl rfl ?_
              refine mg_span (pc := 249) dX12_next_249 rfl ?_
              refine aw_top (y := nI i) rfl ?_
              refine aw_iconst (pc := 252) dX12_next_252 iconst_3 ?_
              refine an_icmp_ge (pc := 253) (tgt := 275) dX12_next_253 rfl (by omega) (by decide) (fun h253 => ?_) (fun h253 => ?_)
              · -- 275
                refine aw_aload_n (pc := 275) (i := 0) dX12_next_275 rfl rfl ?_
                refine aw_dup (pc := 276) dX12_next_276 rfl ?_
                refine mg_span (pc := 277) dX12_next_277 rfl ?_
                refine aw_top (y := nI i) rfl ?_
                refine aw_iconst (pc := 280) dX12_next_280 iconst_1 ?_
                refine an_add (pc := 281) dX12_next_281 ?_
                refine mp_span (pc := 282) dX12_next_282 rfl ?_
                refine aw_aload_n (pc := 285) (i := 0) dX12_next_285 rfl rfl ?_
                refine aw_dup (pc := 286) dX12_next_286 rfl ?_
                refine mg_p (pc := 287) dX12_next_287 rfl ?_
                refine aw_top (y := nI (p + i)) rfl ?_
                refine aw_iconst (pc := 290) dX12_next_290 iconst_1 ?_
                refine an_add (pc := 291) dX12_next_291 ?_
                refine mp_p (pc := 292) dX12_next_292 rfl ?_
                refine aw_goto (pc := 295) (tgt := 181) dX12_next_295 rfl ?_
                have hA : isA (chr (σ.2.2.1 1) (p + i)) = true := by simp [isA, *]
                have eW : runW (σ.2.2.1 1) p (i + 1) = runW (σ.2.2.1 1) p i * 256 + chr (σ.2.2.1 1) (p + i) := by rw [runW]; first | rw [if_pos (by omega)] | rw [if_neg (by omega)]
                have eN : runN (σ.2.2.1 1) p (i + 1) = runN (σ.2.2.1 1) p i := by rw [runN]; first | rw [if_pos (by omega)] | rw [if_neg (by omega)]
                have eA : runA (σ.2.2.1 1) p sm (i + 1) = false := by rw [runA]; cases sm <;> simp_all
                rw [rlen, if_pos hA] at kk
                refine aw_L (L9 := [some (.ref (a 60)), some (.int c0), some (.int (bI sm)), some (.int (bI (runA (σ.2.2.1 1) p sm (i + 1))))]) (by rw [eA]; rfl) ?_
                refine aw_ws (w9 := mW G.2.2.1 a (runS σ (runW (σ.2.2.1 1) p (i + 1)) (runN (σ.2.2.1 1) p (i + 1)) (i + 1) (p + (i + 1)))) (by rw [eW, eN]; rw [lN_byte (Nat.lt_of_lt_of_le (runW_lt _ _ i (by omega)) (Nat.pow_le_pow_right (by decide) (by omega))) (chr_lt _ _)]; rfl) ?_
                exact ih (i + 1) (by omega) (by rw [show i + 1 + rlen (σ.2.2.1 1) n (p + (i + 1)) = i + (rlen (σ.2.2.1 1) n (p + i + 1) + 1) by rw [show p + (i + 1) = p + i + 1 by omega]; omega]; exact kk)
              · -- 256
                refine aw_aload_n (pc := 256) (i := 0) dX12_next_256 rfl rfl ?_
                refine aw_bipush (pc := 257) dX12_next_257 bipush_10 ?_
                refine aw_aload_n (pc := 259) (i := 0) dX12_next_259 rfl rfl ?_
                refine mg_number (pc := 260) dX12_next_260 rfl ?_
                refine aw_top (y := nI (runN (σ.2.2.1 1) p i)) rfl ?_
                refine an_mul (pc := 263) dX12_next_263 ?_
                refine aw_aload_n (pc := 264) (i := 0) dX12_next_264 rfl rfl ?_
                refine mc_I (pc := 265) (As := []) (rest := [.int (nI (10 * (runN (σ.2.2.1 1) p i))), .ref (a 60)]) dX12_next_265 rfl ok_X12_165 rfl rfl rfl (Nat.le_of_ble_eq_true rfl) (s_peek1 (p := p + i) (s := s) rfl hs hs9 hlt ⟨_, _, rfl, rfl, ?_⟩)
                refine aw_top (y := nI (chr (σ.2.2.1 1) (p + i))) rfl ?_
                refine an_add (pc := 268) dX12_next_268 ?_
                refine aw_bipush (pc := 269) dX12_next_269 bipush_48 ?_
                refine an_sub (pc := 271) dX12_next_271 (by have := isA_48 (c := chr (σ.2.2.1 1) (p + i)) (by simp [isA, *]); omega) ?_
                refine mp_number (pc := 272) dX12_next_272 rfl ?_
                refine aw_aload_n (pc := 275) (i := 0) dX12_next_275 rfl rfl ?_
                refine aw_dup (pc := 276) dX12_next_276 rfl ?_
                refine mg_span (pc := 277) dX12_next_277 rfl ?_
                refine aw_top (y := nI i) rfl ?_
                refine aw_iconst (pc := 280) dX12_next_280 iconst_1 ?_
                refine an_add (pc := 281) dX12_next_281 ?_
                refine mp_span (pc := 282) dX12_next_282 rfl ?_
                refine aw_aload_n (pc := 285) (i := 0) dX12_next_285 rfl rfl ?_
                refine aw_dup (pc := 286) dX12_next_286 rfl ?_
                refine mg_p (pc := 287) dX12_next_287 rfl ?_
                refine aw_top (y := nI (p + i)) rfl ?_
                refine aw_iconst (pc := 290) dX12_next_290 iconst_1 ?_
                refine an_add (pc := 291) dX12_next_291 ?_
                refine mp_p (pc := 292) dX12_next_292 rfl ?_
                refine aw_goto (pc := 295) (tgt := 181) dX12_next_295 rfl ?_
                have hA : isA (chr (σ.2.2.1 1) (p + i)) = true := by simp [isA, *]
                have eW : runW (σ.2.2.1 1) p (i + 1) = runW (σ.2.2.1 1) p i * 256 + chr (σ.2.2.1 1) (p + i) := by rw [runW]; first | rw [if_pos (by omega)] | rw [if_neg (by omega)]
                have eN : runN (σ.2.2.1 1) p (i + 1) = 10 * runN (σ.2.2.1 1) p i + chr (σ.2.2.1 1) (p + i) - 48 := by rw [runN]; first | rw [if_pos (by omega)] | rw [if_neg (by omega)]
                have eA : runA (σ.2.2.1 1) p sm (i + 1) = false := by rw [runA]; cases sm <;> simp_all
                rw [rlen, if_pos hA] at kk
                refine aw_L (L9 := [some (.ref (a 60)), some (.int c0), some (.int (bI sm)), some (.int (bI (runA (σ.2.2.1 1) p sm (i + 1))))]) (by rw [eA]; rfl) ?_
                refine aw_ws (w9 := mW G.2.2.1 a (runS σ (runW (σ.2.2.1 1) p (i + 1)) (runN (σ.2.2.1 1) p (i + 1)) (i + 1) (p + (i + 1)))) (by rw [eW, eN]; rw [lN_byte (Nat.lt_of_lt_of_le (runW_lt _ _ i (by omega)) (Nat.pow_le_pow_right (by decide) (by omega))) (chr_lt _ _)]; rfl) ?_
                exact ih (i + 1) (by omega) (by rw [show i + 1 + rlen (σ.2.2.1 1) n (p + (i + 1)) = i + (rlen (σ.2.2.1 1) n (p + i + 1) + 1) by rw [show p + (i + 1) = p + i + 1 by omega]; omega]; exact kk)
          · -- 216
            refine aw_iconst (pc := 216) dX12_next_216 iconst_1 ?_
            refine aw_goto (pc := 217) (tgt := 221) dX12_next_217 rfl ?_
            refine aw_istore_n (pc := 221) (i := 3) dX12_next_221 rfl (Nat.le_of_ble_eq_true rfl) rfl ?_
            refine aw_aload_n (pc := 222) (i := 0) dX12_next_222 rfl rfl ?_
            refine mg_span (pc := 223) dX12_next_223 rfl ?_
            refine aw_top (y := nI i) rfl ?_
            refine aw_bipush (pc := 226) dX12_next_226 bipush_7 ?_
            refine an_icmp_ge (pc := 228) (tgt := 248) dX12_next_228 rfl (by omega) (by decide) (fun h228 => ?_) (fun h228 => ?_)
            · -- 248
              refine aw_aload_n (pc := 248) (i := 0) dX12_next_248 rfl rfl ?_
              refine mg_span (pc := 249) dX12_next_249 rfl ?_
              refine aw_top (y := nI i) rfl ?_
              refine aw_iconst (pc := 252) dX12_next_252 iconst_3 ?_
              refine an_icmp_ge (pc := 253) (tgt := 275) dX12_next_253 rfl (by omega) (by decide) (fun h253 => ?_) (fun h253 => ?_)
              · -- 275
                refine aw_aload_n (pc := 275) (i := 0) dX12_next_275 rfl rfl ?_
                refine aw_dup (pc := 276) dX12_next_276 rfl ?_
                refine mg_span (pc := 277) dX12_next_277 rfl ?_
                refine aw_top (y := nI i) rfl ?_
                refine aw_iconst (pc := 280) dX12_next_280 iconst_1 ?_
                refine an_add (pc := 281) dX12_next_281 ?_
                refine mp_span (pc := 282) dX12_next_282 rfl ?_
                refine aw_aload_n (pc := 285) (i := 0) dX12_next_285 rfl rfl ?_
                refine aw_dup (pc := 286) dX12_next_286 rfl ?_
                refine mg_p (pc := 287) dX12_next_287 rfl ?_
                refine aw_top (y := nI (p + i)) rfl ?_
                refine aw_iconst (pc := 290) dX12_next_290 iconst_1 ?_
                refine an_add (pc := 291) dX12_next_291 ?_
                refine mp_p (pc := 292) dX12_next_292 rfl ?_
                refine aw_goto (pc := 295) (tgt := 181) dX12_next_295 rfl ?_
                have hA : isA (chr (σ.2.2.1 1) (p + i)) = true := by simp [isA, *]
                have eW : runW (σ.2.2.1 1) p (i + 1) = runW (σ.2.2.1 1) p i := by rw [runW]; first | rw [if_pos (by omega)] | rw [if_neg (by omega)]
                have eN : runN (σ.2.2.1 1) p (i + 1) = runN (σ.2.2.1 1) p i := by rw [runN]; first | rw [if_pos (by omega)] | rw [if_neg (by omega)]
                have eA : runA (σ.2.2.1 1) p sm (i + 1) = true := by rw [runA]; cases sm <;> simp_all
                rw [rlen, if_pos hA] at kk
                refine aw_L (L9 := [some (.ref (a 60)), some (.int c0), some (.int (bI sm)), some (.int (bI (runA (σ.2.2.1 1) p sm (i + 1))))]) (by rw [eA]; rfl) ?_
                refine aw_ws (w9 := mW G.2.2.1 a (runS σ (runW (σ.2.2.1 1) p (i + 1)) (runN (σ.2.2.1 1) p (i + 1)) (i + 1) (p + (i + 1)))) (by rw [eW, eN]; rfl) ?_
                exact ih (i + 1) (by omega) (by rw [show i + 1 + rlen (σ.2.2.1 1) n (p + (i + 1)) = i + (rlen (σ.2.2.1 1) n (p + i + 1) + 1) by rw [show p + (i + 1) = p + i + 1 by omega]; omega]; exact kk)
              · -- 256
                refine aw_aload_n (pc := 256) (i := 0) dX12_next_256 rfl rfl ?_
                refine aw_bipush (pc := 257) dX12_next_257 bipush_10 ?_
                refine aw_aload_n (pc := 259) (i := 0) dX12_next_259 rfl rfl ?_
                refine mg_number (pc := 260) dX12_next_260 rfl ?_
                refine aw_top (y := nI (runN (σ.2.2.1 1) p i)) rfl ?_
                refine an_mul (pc := 263) dX12_next_263 ?_
                refine aw_aload_n (pc := 264) (i := 0) dX12_next_264 rfl rfl ?_
                refine mc_I (pc := 265) (As := []) (rest := [.int (nI (10 * (runN (σ.2.2.1 1) p i))), .ref (a 60)]) dX12_next_265 rfl ok_X12_165 rfl rfl rfl (Nat.le_of_ble_eq_true rfl) (s_peek1 (p := p + i) (s := s) rfl hs hs9 hlt ⟨_, _, rfl, rfl, ?_⟩)
                refine aw_top (y := nI (chr (σ.2.2.1 1) (p + i))) rfl ?_
                refine an_add (pc := 268) dX12_next_268 ?_
                refine aw_bipush (pc := 269) dX12_next_269 bipush_48 ?_
                refine an_sub (pc := 271) dX12_next_271 (by have := isA_48 (c := chr (σ.2.2.1 1) (p + i)) (by simp [isA, *]); omega) ?_
                refine mp_number (pc := 272) dX12_next_272 rfl ?_
                refine aw_aload_n (pc := 275) (i := 0) dX12_next_275 rfl rfl ?_
                refine aw_dup (pc := 276) dX12_next_276 rfl ?_
                refine mg_span (pc := 277) dX12_next_277 rfl ?_
                refine aw_top (y := nI i) rfl ?_
                refine aw_iconst (pc := 280) dX12_next_280 iconst_1 ?_
                refine an_add (pc := 281) dX12_next_281 ?_
                refine mp_span (pc := 282) dX12_next_282 rfl ?_
                refine aw_aload_n (pc := 285) (i := 0) dX12_next_285 rfl rfl ?_
                refine aw_dup (pc := 286) dX12_next_286 rfl ?_
                refine mg_p (pc := 287) dX12_next_287 rfl ?_
                refine aw_top (y := nI (p + i)) rfl ?_
                refine aw_iconst (pc := 290) dX12_next_290 iconst_1 ?_
                refine an_add (pc := 291) dX12_next_291 ?_
                refine mp_p (pc := 292) dX12_next_292 rfl ?_
                refine aw_goto (pc := 295) (tgt := 181) dX12_next_295 rfl ?_
                exfalso; omega
            · -- 231
              refine aw_aload_n (pc := 231) (i := 0) dX12_next_231 rfl rfl ?_
              refine aw_aload_n (pc := 232) (i := 0) dX12_next_232 rfl rfl ?_
              refine mg_word (pc := 233) dX12_next_233 rfl ?_
              refine aw_topJ (y := lN (runW (σ.2.2.1 1) p i)) rfl ?_
              refine aw_bipush (pc := 236) dX12_next_236 bipush_8 ?_
              refine aw_lshl (pc := 238) dX12_next_238 ?_
              refine aw_aload_n (pc := 239) (i := 0) dX12_next_239 rfl rfl ?_
              refine mc_I (pc := 240) (As := []) (rest := [.long ((lN (runW (σ.2.2.1 1) p i)) <<< (((nI 8)).toInt64 &&& 63)), .ref (a 60)]) dX12_next_240 rfl ok_X12_165 rfl rfl rfl (Nat.le_of_ble_eq_true rfl) (s_peek1 (p := p + i) (s := s) rfl hs hs9 hlt ⟨_, _, rfl, rfl, ?_⟩)
              refine aw_top (y := nI (chr (σ.2.2.1 1) (p + i))) rfl ?_
              refine aw_i2l (pc := 243) dX12_next_243 ?_
              refine aw_lor (pc := 244) dX12_next_244 ?_
              refine mp_word (pc := 245) dX12_next_245 rfl ?_
              refine aw_aload_n (pc := 248) (i := 0) dX12_next_248 rfl rfl ?_
              refine mg_span (pc := 249) dX12_next_249 rfl ?_
              refine aw_top (y := nI i) rfl ?_
              refine aw_iconst (pc := 252) dX12_next_252 iconst_3 ?_
              refine an_icmp_ge (pc := 253) (tgt := 275) dX12_next_253 rfl (by omega) (by decide) (fun h253 => ?_) (fun h253 => ?_)
              · -- 275
                refine aw_aload_n (pc := 275) (i := 0) dX12_next_275 rfl rfl ?_
                refine aw_dup (pc := 276) dX12_next_276 rfl ?_
                refine mg_span (pc := 277) dX12_next_277 rfl ?_
                refine aw_top (y := nI i) rfl ?_
                refine aw_iconst (pc := 280) dX12_next_280 iconst_1 ?_
                refine an_add (pc := 281) dX12_next_281 ?_
                refine mp_span (pc := 282) dX12_next_282 rfl ?_
                refine aw_aload_n (pc := 285) (i := 0) dX12_next_285 rfl rfl ?_
                refine aw_dup (pc := 286) dX12_next_286 rfl ?_
                refine mg_p (pc := 287) dX12_next_287 rfl ?_
                refine aw_top (y := nI (p + i)) rfl ?_
                refine aw_iconst (pc := 290) dX12_next_290 iconst_1 ?_
                refine an_add (pc := 291) dX12_next_291 ?_
                refine mp_p (pc := 292) dX12_next_292 rfl ?_
                refine aw_goto (pc := 295) (tgt := 181) dX12_next_295 rfl ?_
                have hA : isA (chr (σ.2.2.1 1) (p + i)) = true := by simp [isA, *]
                have eW : runW (σ.2.2.1 1) p (i + 1) = runW (σ.2.2.1 1) p i * 256 + chr (σ.2.2.1 1) (p + i) := by rw [runW]; first | rw [if_pos (by omega)] | rw [if_neg (by omega)]
                have eN : runN (σ.2.2.1 1) p (i + 1) = runN (σ.2.2.1 1) p i := by rw [runN]; first | rw [if_pos (by omega)] | rw [if_neg (by omega)]
                have eA : runA (σ.2.2.1 1) p sm (i + 1) = true := by rw [runA]; cases sm <;> simp_all
                rw [rlen, if_pos hA] at kk
                refine aw_L (L9 := [some (.ref (a 60)), some (.int c0), some (.int (bI sm)), some (.int (bI (runA (σ.2.2.1 1) p sm (i + 1))))]) (by rw [eA]; rfl) ?_
                refine aw_ws (w9 := mW G.2.2.1 a (runS σ (runW (σ.2.2.1 1) p (i + 1)) (runN (σ.2.2.1 1) p (i + 1)) (i + 1) (p + (i + 1)))) (by rw [eW, eN]; rw [lN_byte (Nat.lt_of_lt_of_le (runW_lt _ _ i (by omega)) (Nat.pow_le_pow_right (by decide) (by omega))) (chr_lt _ _)]; rfl) ?_
                exact ih (i + 1) (by omega) (by rw [show i + 1 + rlen (σ.2.2.1 1) n (p + (i + 1)) = i + (rlen (σ.2.2.1 1) n (p + i + 1) + 1) by rw [show p + (i + 1) = p + i + 1 by omega]; omega]; exact kk)
              · -- 256
                refine aw_aload_n (pc := 256) (i := 0) dX12_next_256 rfl rfl ?_
                refine aw_bipush (pc := 257) dX12_next_257 bipush_10 ?_
                refine aw_aload_n (pc := 259) (i := 0) dX12_next_259 rfl rfl ?_
                refine mg_number (pc := 260) dX12_next_260 rfl ?_
                refine aw_top (y := nI (runN (σ.2.2.1 1) p i)) rfl ?_
                refine an_mul (pc := 263) dX12_next_263 ?_
                refine aw_aload_n (pc := 264) (i := 0) dX12_next_264 rfl rfl ?_
                refine mc_I (pc := 265) (As := []) (rest := [.int (nI (10 * (runN (σ.2.2.1 1) p i))), .ref (a 60)]) dX12_next_265 rfl ok_X12_165 rfl rfl rfl (Nat.le_of_ble_eq_true rfl) (s_peek1 (p := p + i) (s := s) rfl hs hs9 hlt ⟨_, _, rfl, rfl, ?_⟩)
                refine aw_top (y := nI (chr (σ.2.2.1 1) (p + i))) rfl ?_
                refine an_add (pc := 268) dX12_next_268 ?_
                refine aw_bipush (pc := 269) dX12_next_269 bipush_48 ?_
                refine an_sub (pc := 271) dX12_next_271 (by have := isA_48 (c := chr (σ.2.2.1 1) (p + i)) (by simp [isA, *]); omega) ?_
                refine mp_number (pc := 272) dX12_next_272 rfl ?_
                refine aw_aload_n (pc := 275) (i := 0) dX12_next_275 rfl rfl ?_
                refine aw_dup (pc := 276) dX12_next_276 rfl ?_
                refine mg_span (pc := 277) dX12_next_277 rfl ?_
                refine aw_top (y := nI i) rfl ?_
                refine aw_iconst (pc := 280) dX12_next_280 iconst_1 ?_
                refine an_add (pc := 281) dX12_next_281 ?_
                refine mp_span (pc := 282) dX12_next_282 rfl ?_
                refine aw_aload_n (pc := 285) (i := 0) dX12_next_285 rfl rfl ?_
                refine aw_dup (pc := 286) dX12_next_286 rfl ?_
                refine mg_p (pc := 287) dX12_next_287 rfl ?_
                refine aw_top (y := nI (p + i)) rfl ?_
                refine aw_iconst (pc := 290) dX12_next_290 iconst_1 ?_
                refine an_add (pc := 291) dX12_next_291 ?_
                refine mp_p (pc := 292) dX12_next_292 rfl ?_
                refine aw_goto (pc := 295) (tgt := 181) dX12_next_295 rfl ?_
                have hA : isA (chr (σ.2.2.1 1) (p + i)) = true := by simp [isA, *]
                have eW : runW (σ.2.2.1 1) p (i + 1) = runW (σ.2.2.1 1) p i * 256 + chr (σ.2.2.1 1) (p + i) := by rw [runW]; first | rw [if_pos (by omega)] | rw [if_neg (by omega)]
                have eN : runN (σ.2.2.1 1) p (i + 1) = 10 * runN (σ.2.2.1 1) p i + chr (σ.2.2.1 1) (p + i) - 48 := by rw [runN]; first | rw [if_pos (by omega)] | rw [if_neg (by omega)]
                have eA : runA (σ.2.2.1 1) p sm (i + 1) = true := by rw [runA]; cases sm <;> simp_all
                rw [rlen, if_pos hA] at kk
                refine aw_L (L9 := [some (.ref (a 60)), some (.int c0), some (.int (bI sm)), some (.int (bI (runA (σ.2.2.1 1) p sm (i + 1))))]) (by rw [eA]; rfl) ?_
                refine aw_ws (w9 := mW G.2.2.1 a (runS σ (runW (σ.2.2.1 1) p (i + 1)) (runN (σ.2.2.1 1) p (i + 1)) (i + 1) (p + (i + 1)))) (by rw [eW, eN]; rw [lN_byte (Nat.lt_of_lt_of_le (runW_lt _ _ i (by omega)) (Nat.pow_le_pow_right (by decide) (by omega))) (chr_lt _ _)]; rfl) ?_
                exact ih (i + 1) (by omega) (by rw [show i + 1 + rlen (σ.2.2.1 1) n (p + (i + 1)) = i + (rlen (σ.2.2.1 1) n (p + i + 1) + 1) by rw [show p + (i + 1) = p + i + 1 by omega]; omega]; exact kk)
set_option maxHeartbeats 1000000 in
set_option maxRecDepth 20000 in
theorem next_31 {G : xG} {d : Nat} {Q : xQ} {a : Nat → Nat} {σ : mS} {s lim p : Nat} (hs : σ.1 3 = nI s) (hs9 : s ≤ 940) (hli : σ.1 5 = nI lim) (hl9 : lim ≤ 940) (hp9 : p ≤ 940) (kk : Q none (mW G.2.2.1 a (nextG σ s lim p))) : AW G MX12_next (d + 1) 0 0 Q 31 [some (.ref (a 60)), none, none, none] [] (mW G.2.2.1 a (mI σ 4 (nI p))) 0 0 := by
  refine aw_aload_n (pc := 31) (i := 0) dX12_next_31 rfl rfl ?_
  refine aw_aload_n (pc := 32) (i := 0) dX12_next_32 rfl rfl ?_
  refine mg_p (pc := 33) dX12_next_33 rfl ?_
  refine aw_top (y := nI p) rfl ?_
  refine mp_at (pc := 36) dX12_next_36 rfl ?_
  refine aw_aload_n (pc := 39) (i := 0) dX12_next_39 rfl rfl ?_
  refine aw_iconst (pc := 40) dX12_next_40 iconst_0 ?_
  refine mp_span (pc := 41) dX12_next_41 rfl ?_
  refine aw_aload_n (pc := 44) (i := 0) dX12_next_44 rfl rfl ?_
  refine mg_size (pc := 45) dX12_next_45 rfl ?_
  refine aw_top (y := (mI σ 4 (nI p)).1 3) rfl ?_
  refine aw_top (y := (nI s)) hs ?_
  refine aw_aload_n (pc := 48) (i := 0) dX12_next_48 rfl rfl ?_
  refine mg_limit (pc := 49) dX12_next_49 rfl ?_
  refine aw_top (y := (mI σ 4 (nI p)).1 5) rfl ?_
  refine aw_top (y := (nI lim)) hli ?_
  refine an_icmp_le (pc := 52) (tgt := 80) dX12_next_52 rfl (by omega) (by omega) (fun h52 => ?_) (fun h52 => ?_)
  · -- 80
    rcases Nat.lt_or_ge p s with hlt | hge
    · skip
      refine aw_aload_n (pc := 80) (i := 0) dX12_next_80 rfl rfl ?_
      refine mc_I (pc := 81) (As := []) (rest := []) dX12_next_81 rfl ok_X12_165 rfl rfl rfl (Nat.le_of_ble_eq_true rfl) (s_peek1 (p := p) (s := s) rfl hs hs9 hlt ⟨_, _, rfl, rfl, ?_⟩)
      refine aw_top (y := nI (chr (σ.2.2.1 1) p)) rfl ?_
      refine aw_istore_n (pc := 84) (i := 1) dX12_next_84 rfl (Nat.le_of_ble_eq_true rfl) rfl ?_
      refine aw_iload_n (pc := 85) (i := 1) dX12_next_85 rfl rfl ?_
      refine an_if_ge (pc := 86) (tgt := 95) dX12_next_86 rfl (Nat.lt_trans (chr_lt _ _) (by decide)) ?_
      refine aw_iload_n (pc := 95) (i := 1) dX12_next_95 rfl rfl ?_
      refine mt_I (pc := 96) (As := [.int (nI (chr (σ.2.2.1 1) p))]) (rest := []) dX12_next_96 rfl ok_X12_178 rfl rfl rfl (Nat.le_of_ble_eq_true rfl) (s_isSmallN (Nat.lt_trans (chr_lt _ _) (by decide)) ⟨_, _, rfl, rfl, ?_⟩)
      refine ab_if_ne (pc := 99) (tgt := 164) dX12_next_99 rfl (fun h99 => ?_) (fun h99 => ?_)
      · -- 164
        refine aw_iload_n (pc := 164) (i := 1) dX12_next_164 rfl rfl ?_
        refine mt_I (pc := 165) (As := [.int (nI (chr (σ.2.2.1 1) p))]) (rest := []) dX12_next_165 rfl ok_X12_178 rfl rfl rfl (Nat.le_of_ble_eq_true rfl) (s_isSmallN (Nat.lt_trans (chr_lt _ _) (by decide)) ⟨_, _, rfl, rfl, ?_⟩)
        refine aw_istore_n (pc := 168) (i := 2) dX12_next_168 rfl (Nat.le_of_ble_eq_true rfl) rfl ?_
        refine aw_iconst (pc := 169) dX12_next_169 iconst_1 ?_
        refine aw_istore_n (pc := 170) (i := 3) dX12_next_170 rfl (Nat.le_of_ble_eq_true rfl) rfl ?_
        refine aw_aload_n (pc := 171) (i := 0) dX12_next_171 rfl rfl ?_
        refine aw_lconst (pc := 172) (v := 0) dX12_next_172 rfl ?_
        refine mp_word (pc := 173) dX12_next_173 rfl ?_
        refine aw_aload_n (pc := 176) (i := 0) dX12_next_176 rfl rfl ?_
        refine aw_iconst (pc := 177) dX12_next_177 iconst_0 ?_
        refine mp_number (pc := 178) dX12_next_178 rfl ?_
        have hA : isA (chr (σ.2.2.1 1) p) = true := by simp [isA, *]
        rw [nextG, if_neg (by omega), if_neg (by omega), if_pos hA] at kk
        refine aw_ws (w9 := mW G.2.2.1 a (runS (nextB σ p) (runW (σ.2.2.1 1) p 0) (runN (σ.2.2.1 1) p 0) 0 (p + 0))) rfl ?_
        refine run_loop (σ := nextB σ p) (sm := isL (chr (σ.2.2.1 1) p)) hs hs9 (s - p) 0 (by omega) (by rw [Nat.add_zero, Nat.zero_add]; exact kk)
      · -- 102
        refine aw_iload_n (pc := 102) (i := 1) dX12_next_102 rfl rfl ?_
        refine mt_I (pc := 103) (As := [.int (nI (chr (σ.2.2.1 1) p))]) (rest := []) dX12_next_103 rfl ok_X12_182 rfl rfl rfl (Nat.le_of_ble_eq_true rfl) (s_isDigitN (Nat.lt_trans (chr_lt _ _) (by decide)) ⟨_, _, rfl, rfl, ?_⟩)
        refine ab_if_ne (pc := 106) (tgt := 164) dX12_next_106 rfl (fun h106 => ?_) (fun h106 => ?_)
        · -- 164
          refine aw_iload_n (pc := 164) (i := 1) dX12_next_164 rfl rfl ?_
          refine mt_I (pc := 165) (As := [.int (nI (chr (σ.2.2.1 1) p))]) (rest := []) dX12_next_165 rfl ok_X12_178 rfl rfl rfl (Nat.le_of_ble_eq_true rfl) (s_isSmallN (Nat.lt_trans (chr_lt _ _) (by decide)) ⟨_, _, rfl, rfl, ?_⟩)
          refine aw_istore_n (pc := 168) (i := 2) dX12_next_168 rfl (Nat.le_of_ble_eq_true rfl) rfl ?_
          refine aw_iconst (pc := 169) dX12_next_169 iconst_1 ?_
          refine aw_istore_n (pc := 170) (i := 3) dX12_next_170 rfl (Nat.le_of_ble_eq_true rfl) rfl ?_
          refine aw_aload_n (pc := 171) (i := 0) dX12_next_171 rfl rfl ?_
          refine aw_lconst (pc := 172) (v := 0) dX12_next_172 rfl ?_
          refine mp_word (pc := 173) dX12_next_173 rfl ?_
          refine aw_aload_n (pc := 176) (i := 0) dX12_next_176 rfl rfl ?_
          refine aw_iconst (pc := 177) dX12_next_177 iconst_0 ?_
          refine mp_number (pc := 178) dX12_next_178 rfl ?_
          have hA : isA (chr (σ.2.2.1 1) p) = true := by simp [isA, *]
          rw [nextG, if_neg (by omega), if_neg (by omega), if_pos hA] at kk
          refine aw_ws (w9 := mW G.2.2.1 a (runS (nextB σ p) (runW (σ.2.2.1 1) p 0) (runN (σ.2.2.1 1) p 0) 0 (p + 0))) rfl ?_
          refine run_loop (σ := nextB σ p) (sm := isL (chr (σ.2.2.1 1) p)) hs hs9 (s - p) 0 (by omega) (by rw [Nat.add_zero, Nat.zero_add]; exact kk)
        · -- 109
          refine aw_aload_n (pc := 109) (i := 0) dX12_next_109 rfl rfl ?_
          refine aw_iload_n (pc := 110) (i := 1) dX12_next_110 rfl rfl ?_
          refine aw_bipush (pc := 111) dX12_next_111 bipush_59 ?_
          refine an_icmp_eq (pc := 113) (tgt := 140) dX12_next_113 rfl (Nat.lt_trans (chr_lt _ _) (by decide)) (by decide) (fun h113 => ?_) (fun h113 => ?_)
          · -- 140
            refine aw_iconst (pc := 140) dX12_next_140 iconst_3 ?_
            refine aw_goto (pc := 141) (tgt := 145) dX12_next_141 rfl ?_
            refine mp_token (pc := 145) dX12_next_145 rfl ?_
            refine aw_aload_n (pc := 148) (i := 0) dX12_next_148 rfl rfl ?_
            refine aw_iload_n (pc := 149) (i := 1) dX12_next_149 rfl rfl ?_
            refine mp_number (pc := 150) dX12_next_150 rfl ?_
            refine aw_aload_n (pc := 153) (i := 0) dX12_next_153 rfl rfl ?_
            refine aw_dup (pc := 154) dX12_next_154 rfl ?_
            refine mg_p (pc := 155) dX12_next_155 rfl ?_
            refine aw_top (y := nI p) rfl ?_
            refine aw_iconst (pc := 158) dX12_next_158 iconst_1 ?_
            refine an_add (pc := 159) dX12_next_159 ?_
            refine mp_p (pc := 160) dX12_next_160 rfl ?_
            exact aw_vret (pc := 163) dX12_next_163 rfl (Nat.le_refl _) (Nat.le_refl _) (by rw [nextG, if_neg (by omega), if_neg (by omega), if_neg (by simp [isA, h99, h106]), if_pos (by simp [sgnC]; omega)] at kk; exact kk)
          · -- 116
            refine aw_iload_n (pc := 116) (i := 1) dX12_next_116 rfl rfl ?_
            refine aw_bipush (pc := 117) dX12_next_117 bipush_40 ?_
            refine an_icmp_eq (pc := 119) (tgt := 140) dX12_next_119 rfl (Nat.lt_trans (chr_lt _ _) (by decide)) (by decide) (fun h119 => ?_) (fun h119 => ?_)
            · -- 140
              refine aw_iconst (pc := 140) dX12_next_140 iconst_3 ?_
              refine aw_goto (pc := 141) (tgt := 145) dX12_next_141 rfl ?_
              refine mp_token (pc := 145) dX12_next_145 rfl ?_
              refine aw_aload_n (pc := 148) (i := 0) dX12_next_148 rfl rfl ?_
              refine aw_iload_n (pc := 149) (i := 1) dX12_next_149 rfl rfl ?_
              refine mp_number (pc := 150) dX12_next_150 rfl ?_
              refine aw_aload_n (pc := 153) (i := 0) dX12_next_153 rfl rfl ?_
              refine aw_dup (pc := 154) dX12_next_154 rfl ?_
              refine mg_p (pc := 155) dX12_next_155 rfl ?_
              refine aw_top (y := nI p) rfl ?_
              refine aw_iconst (pc := 158) dX12_next_158 iconst_1 ?_
              refine an_add (pc := 159) dX12_next_159 ?_
              refine mp_p (pc := 160) dX12_next_160 rfl ?_
              exact aw_vret (pc := 163) dX12_next_163 rfl (Nat.le_refl _) (Nat.le_refl _) (by rw [nextG, if_neg (by omega), if_neg (by omega), if_neg (by simp [isA, h99, h106]), if_pos (by simp [sgnC]; omega)] at kk; exact kk)
            · -- 122
              refine aw_iload_n (pc := 122) (i := 1) dX12_next_122 rfl rfl ?_
              refine aw_bipush (pc := 123) dX12_next_123 bipush_41 ?_
              refine an_icmp_eq (pc := 125) (tgt := 140) dX12_next_125 rfl (Nat.lt_trans (chr_lt _ _) (by decide)) (by decide) (fun h125 => ?_) (fun h125 => ?_)
              · -- 140
                refine aw_iconst (pc := 140) dX12_next_140 iconst_3 ?_
                refine aw_goto (pc := 141) (tgt := 145) dX12_next_141 rfl ?_
                refine mp_token (pc := 145) dX12_next_145 rfl ?_
                refine aw_aload_n (pc := 148) (i := 0) dX12_next_148 rfl rfl ?_
                refine aw_iload_n (pc := 149) (i := 1) dX12_next_149 rfl rfl ?_
                refine mp_number (pc := 150) dX12_next_150 rfl ?_
                refine aw_aload_n (pc := 153) (i := 0) dX12_next_153 rfl rfl ?_
                refine aw_dup (pc := 154) dX12_next_154 rfl ?_
                refine mg_p (pc := 155) dX12_next_155 rfl ?_
                refine aw_top (y := nI p) rfl ?_
                refine aw_iconst (pc := 158) dX12_next_158 iconst_1 ?_
                refine an_add (pc := 159) dX12_next_159 ?_
                refine mp_p (pc := 160) dX12_next_160 rfl ?_
                exact aw_vret (pc := 163) dX12_next_163 rfl (Nat.le_refl _) (Nat.le_refl _) (by rw [nextG, if_neg (by omega), if_neg (by omega), if_neg (by simp [isA, h99, h106]), if_pos (by simp [sgnC]; omega)] at kk; exact kk)
              · -- 128
                refine aw_iload_n (pc := 128) (i := 1) dX12_next_128 rfl rfl ?_
                refine aw_bipush (pc := 129) dX12_next_129 bipush_60 ?_
                refine an_icmp_lt (pc := 131) (tgt := 144) dX12_next_131 rfl (Nat.lt_trans (chr_lt _ _) (by decide)) (by decide) (fun h131 => ?_) (fun h131 => ?_)
                · -- 144
                  refine aw_iconst (pc := 144) dX12_next_144 iconst_4 ?_
                  refine mp_token (pc := 145) dX12_next_145 rfl ?_
                  refine aw_aload_n (pc := 148) (i := 0) dX12_next_148 rfl rfl ?_
                  refine aw_iload_n (pc := 149) (i := 1) dX12_next_149 rfl rfl ?_
                  refine mp_number (pc := 150) dX12_next_150 rfl ?_
                  refine aw_aload_n (pc := 153) (i := 0) dX12_next_153 rfl rfl ?_
                  refine aw_dup (pc := 154) dX12_next_154 rfl ?_
                  refine mg_p (pc := 155) dX12_next_155 rfl ?_
                  refine aw_top (y := nI p) rfl ?_
                  refine aw_iconst (pc := 158) dX12_next_158 iconst_1 ?_
                  refine an_add (pc := 159) dX12_next_159 ?_
                  refine mp_p (pc := 160) dX12_next_160 rfl ?_
                  exact aw_vret (pc := 163) dX12_next_163 rfl (Nat.le_refl _) (Nat.le_refl _) (by rw [nextG, if_neg (by omega), if_neg (by omega), if_neg (by simp [isA, h99, h106]), if_neg (by simp [sgnC]; omega)] at kk; exact kk)
                · -- 134
                  refine aw_iload_n (pc := 134) (i := 1) dX12_next_134 rfl rfl ?_
                  refine aw_bipush (pc := 135) dX12_next_135 bipush_62 ?_
                  refine an_icmp_gt (pc := 137) (tgt := 144) dX12_next_137 rfl (Nat.lt_trans (chr_lt _ _) (by decide)) (by decide) (fun h137 => ?_) (fun h137 => ?_)
                  · -- 144
                    refine aw_iconst (pc := 144) dX12_next_144 iconst_4 ?_
                    refine mp_token (pc := 145) dX12_next_145 rfl ?_
                    refine aw_aload_n (pc := 148) (i := 0) dX12_next_148 rfl rfl ?_
                    refine aw_iload_n (pc := 149) (i := 1) dX12_next_149 rfl rfl ?_
                    refine mp_number (pc := 150) dX12_next_150 rfl ?_
                    refine aw_aload_n (pc := 153) (i := 0) dX12_next_153 rfl rfl ?_
                    refine aw_dup (pc := 154) dX12_next_154 rfl ?_
                    refine mg_p (pc := 155) dX12_next_155 rfl ?_
                    refine aw_top (y := nI p) rfl ?_
                    refine aw_iconst (pc := 158) dX12_next_158 iconst_1 ?_
                    refine an_add (pc := 159) dX12_next_159 ?_
                    refine mp_p (pc := 160) dX12_next_160 rfl ?_
                    exact aw_vret (pc := 163) dX12_next_163 rfl (Nat.le_refl _) (Nat.le_refl _) (by rw [nextG, if_neg (by omega), if_neg (by omega), if_neg (by simp [isA, h99, h106]), if_neg (by simp [sgnC]; omega)] at kk; exact kk)
                  · -- 140
                    refine aw_iconst (pc := 140) dX12_next_140 iconst_3 ?_
                    refine aw_goto (pc := 141) (tgt := 145) dX12_next_141 rfl ?_
                    refine mp_token (pc := 145) dX12_next_145 rfl ?_
                    refine aw_aload_n (pc := 148) (i := 0) dX12_next_148 rfl rfl ?_
                    refine aw_iload_n (pc := 149) (i := 1) dX12_next_149 rfl rfl ?_
                    refine mp_number (pc := 150) dX12_next_150 rfl ?_
                    refine aw_aload_n (pc := 153) (i := 0) dX12_next_153 rfl rfl ?_
                    refine aw_dup (pc := 154) dX12_next_154 rfl ?_
                    refine mg_p (pc := 155) dX12_next_155 rfl ?_
                    refine aw_top (y := nI p) rfl ?_
                    refine aw_iconst (pc := 158) dX12_next_158 iconst_1 ?_
                    refine an_add (pc := 159) dX12_next_159 ?_
                    refine mp_p (pc := 160) dX12_next_160 rfl ?_
                    exact aw_vret (pc := 163) dX12_next_163 rfl (Nat.le_refl _) (Nat.le_refl _) (by rw [nextG, if_neg (by omega), if_neg (by omega), if_neg (by simp [isA, h99, h106]), if_pos (by simp [sgnC]; omega)] at kk; exact kk)
    · skip
      refine aw_aload_n (pc := 80) (i := 0) dX12_next_80 rfl rfl ?_
      refine mc_I (pc := 81) (As := []) (rest := []) dX12_next_81 rfl ok_X12_165 rfl rfl rfl (Nat.le_of_ble_eq_true rfl) (s_peek0 (p := p) (s := s) rfl hs hs9 hge (by omega) ⟨_, _, rfl, rfl, ?_⟩)
      refine aw_istore_n (pc := 84) (i := 1) dX12_next_84 rfl (Nat.le_of_ble_eq_true rfl) rfl ?_
      refine aw_iload_n (pc := 85) (i := 1) dX12_next_85 rfl rfl ?_
      refine an_ifm_ge (pc := 86) (tgt := 95) dX12_next_86 rfl ?_
      refine aw_aload_n (pc := 89) (i := 0) dX12_next_89 rfl rfl ?_
      refine aw_iconst (pc := 90) dX12_next_90 iconst_0 ?_
      refine mp_token (pc := 91) dX12_next_91 rfl ?_
      exact aw_vret (pc := 94) dX12_next_94 rfl (Nat.le_refl _) (Nat.le_refl _) (by rw [nextG, if_neg (by omega), if_pos hge] at kk; exact kk)
  · -- 55
    refine aw_aload_n (pc := 55) (i := 0) dX12_next_55 rfl rfl ?_
    refine mg_p (pc := 56) dX12_next_56 rfl ?_
    refine aw_top (y := nI p) rfl ?_
    refine aw_aload_n (pc := 59) (i := 0) dX12_next_59 rfl rfl ?_
    refine mg_limit (pc := 60) dX12_next_60 rfl ?_
    refine aw_top (y := (mI σ 4 (nI p)).1 5) rfl ?_
    refine aw_top (y := (nI lim)) hli ?_
    refine an_icmp_lt (pc := 63) (tgt := 80) dX12_next_63 rfl (by omega) (by omega) (fun h63 => ?_) (fun h63 => ?_)
    · -- 80
      rcases Nat.lt_or_ge p s with hlt | hge
      · skip
        refine aw_aload_n (pc := 80) (i := 0) dX12_next_80 rfl rfl ?_
        refine mc_I (pc := 81) (As := []) (rest := []) dX12_next_81 rfl ok_X12_165 rfl rfl rfl (Nat.le_of_ble_eq_true rfl) (s_peek1 (p := p) (s := s) rfl hs hs9 hlt ⟨_, _, rfl, rfl, ?_⟩)
        refine aw_top (y := nI (chr (σ.2.2.1 1) p)) rfl ?_
        refine aw_istore_n (pc := 84) (i := 1) dX12_next_84 rfl (Nat.le_of_ble_eq_true rfl) rfl ?_
        refine aw_iload_n (pc := 85) (i := 1) dX12_next_85 rfl rfl ?_
        refine an_if_ge (pc := 86) (tgt := 95) dX12_next_86 rfl (Nat.lt_trans (chr_lt _ _) (by decide)) ?_
        refine aw_iload_n (pc := 95) (i := 1) dX12_next_95 rfl rfl ?_
        refine mt_I (pc := 96) (As := [.int (nI (chr (σ.2.2.1 1) p))]) (rest := []) dX12_next_96 rfl ok_X12_178 rfl rfl rfl (Nat.le_of_ble_eq_true rfl) (s_isSmallN (Nat.lt_trans (chr_lt _ _) (by decide)) ⟨_, _, rfl, rfl, ?_⟩)
        refine ab_if_ne (pc := 99) (tgt := 164) dX12_next_99 rfl (fun h99 => ?_) (fun h99 => ?_)
        · -- 164
          refine aw_iload_n (pc := 164) (i := 1) dX12_next_164 rfl rfl ?_
          refine mt_I (pc := 165) (As := [.int (nI (chr (σ.2.2.1 1) p))]) (rest := []) dX12_next_165 rfl ok_X12_178 rfl rfl rfl (Nat.le_of_ble_eq_true rfl) (s_isSmallN (Nat.lt_trans (chr_lt _ _) (by decide)) ⟨_, _, rfl, rfl, ?_⟩)
          refine aw_istore_n (pc := 168) (i := 2) dX12_next_168 rfl (Nat.le_of_ble_eq_true rfl) rfl ?_
          refine aw_iconst (pc := 169) dX12_next_169 iconst_1 ?_
          refine aw_istore_n (pc := 170) (i := 3) dX12_next_170 rfl (Nat.le_of_ble_eq_true rfl) rfl ?_
          refine aw_aload_n (pc := 171) (i := 0) dX12_next_171 rfl rfl ?_
          refine aw_lconst (pc := 172) (v := 0) dX12_next_172 rfl ?_
          refine mp_word (pc := 173) dX12_next_173 rfl ?_
          refine aw_aload_n (pc := 176) (i := 0) dX12_next_176 rfl rfl ?_
          refine aw_iconst (pc := 177) dX12_next_177 iconst_0 ?_
          refine mp_number (pc := 178) dX12_next_178 rfl ?_
          have hA : isA (chr (σ.2.2.1 1) p) = true := by simp [isA, *]
          rw [nextG, if_neg (by omega), if_neg (by omega), if_pos hA] at kk
          refine aw_ws (w9 := mW G.2.2.1 a (runS (nextB σ p) (runW (σ.2.2.1 1) p 0) (runN (σ.2.2.1 1) p 0) 0 (p + 0))) rfl ?_
          refine run_loop (σ := nextB σ p) (sm := isL (chr (σ.2.2.1 1) p)) hs hs9 (s - p) 0 (by omega) (by rw [Nat.add_zero, Nat.zero_add]; exact kk)
        · -- 102
          refine aw_iload_n (pc := 102) (i := 1) dX12_next_102 rfl rfl ?_
          refine mt_I (pc := 103) (As := [.int (nI (chr (σ.2.2.1 1) p))]) (rest := []) dX12_next_103 rfl ok_X12_182 rfl rfl rfl (Nat.le_of_ble_eq_true rfl) (s_isDigitN (Nat.lt_trans (chr_lt _ _) (by decide)) ⟨_, _, rfl, rfl, ?_⟩)
          refine ab_if_ne (pc := 106) (tgt := 164) dX12_next_106 rfl (fun h106 => ?_) (fun h106 => ?_)
          · -- 164
            refine aw_iload_n (pc := 164) (i := 1) dX12_next_164 rfl rfl ?_
            refine mt_I (pc := 165) (As := [.int (nI (chr (σ.2.2.1 1) p))]) (rest := []) dX12_next_165 rfl ok_X12_178 rfl rfl rfl (Nat.le_of_ble_eq_true rfl) (s_isSmallN (Nat.lt_trans (chr_lt _ _) (by decide)) ⟨_, _, rfl, rfl, ?_⟩)
            refine aw_istore_n (pc := 168) (i := 2) dX12_next_168 rfl (Nat.le_of_ble_eq_true rfl) rfl ?_
            refine aw_iconst (pc := 169) dX12_next_169 iconst_1 ?_
            refine aw_istore_n (pc := 170) (i := 3) dX12_next_170 rfl (Nat.le_of_ble_eq_true rfl) rfl ?_
            refine aw_aload_n (pc := 171) (i := 0) dX12_next_171 rfl rfl ?_
            refine aw_lconst (pc := 172) (v := 0) dX12_next_172 rfl ?_
            refine mp_word (pc := 173) dX12_next_173 rfl ?_
            refine aw_aload_n (pc := 176) (i := 0) dX12_next_176 rfl rfl ?_
            refine aw_iconst (pc := 177) dX12_next_177 iconst_0 ?_
            refine mp_number (pc := 178) dX12_next_178 rfl ?_
            have hA : isA (chr (σ.2.2.1 1) p) = true := by simp [isA, *]
            rw [nextG, if_neg (by omega), if_neg (by omega), if_pos hA] at kk
            refine aw_ws (w9 := mW G.2.2.1 a (runS (nextB σ p) (runW (σ.2.2.1 1) p 0) (runN (σ.2.2.1 1) p 0) 0 (p + 0))) rfl ?_
            refine run_loop (σ := nextB σ p) (sm := isL (chr (σ.2.2.1 1) p)) hs hs9 (s - p) 0 (by omega) (by rw [Nat.add_zero, Nat.zero_add]; exact kk)
          · -- 109
            refine aw_aload_n (pc := 109) (i := 0) dX12_next_109 rfl rfl ?_
            refine aw_iload_n (pc := 110) (i := 1) dX12_next_110 rfl rfl ?_
            refine aw_bipush (pc := 111) dX12_next_111 bipush_59 ?_
            refine an_icmp_eq (pc := 113) (tgt := 140) dX12_next_113 rfl (Nat.lt_trans (chr_lt _ _) (by decide)) (by decide) (fun h113 => ?_) (fun h113 => ?_)
            · -- 140
              refine aw_iconst (pc := 140) dX12_next_140 iconst_3 ?_
              refine aw_goto (pc := 141) (tgt := 145) dX12_next_141 rfl ?_
              refine mp_token (pc := 145) dX12_next_145 rfl ?_
              refine aw_aload_n (pc := 148) (i := 0) dX12_next_148 rfl rfl ?_
              refine aw_iload_n (pc := 149) (i := 1) dX12_next_149 rfl rfl ?_
              refine mp_number (pc := 150) dX12_next_150 rfl ?_
              refine aw_aload_n (pc := 153) (i := 0) dX12_next_153 rfl rfl ?_
              refine aw_dup (pc := 154) dX12_next_154 rfl ?_
              refine mg_p (pc := 155) dX12_next_155 rfl ?_
              refine aw_top (y := nI p) rfl ?_
              refine aw_iconst (pc := 158) dX12_next_158 iconst_1 ?_
              refine an_add (pc := 159) dX12_next_159 ?_
              refine mp_p (pc := 160) dX12_next_160 rfl ?_
              exact aw_vret (pc := 163) dX12_next_163 rfl (Nat.le_refl _) (Nat.le_refl _) (by rw [nextG, if_neg (by omega), if_neg (by omega), if_neg (by simp [isA, h99, h106]), if_pos (by simp [sgnC]; omega)] at kk; exact kk)
            · -- 116
              refine aw_iload_n (pc := 116) (i := 1) dX12_next_116 rfl rfl ?_
              refine aw_bipush (pc := 117) dX12_next_117 bipush_40 ?_
              refine an_icmp_eq (pc := 119) (tgt := 140) dX12_next_119 rfl (Nat.lt_trans (chr_lt _ _) (by decide)) (by decide) (fun h119 => ?_) (fun h119 => ?_)
              · -- 140
                refine aw_iconst (pc := 140) dX12_next_140 iconst_3 ?_
                refine aw_goto (pc := 141) (tgt := 145) dX12_next_141 rfl ?_
                refine mp_token (pc := 145) dX12_next_145 rfl ?_
                refine aw_aload_n (pc := 148) (i := 0) dX12_next_148 rfl rfl ?_
                refine aw_iload_n (pc := 149) (i := 1) dX12_next_149 rfl rfl ?_
                refine mp_number (pc := 150) dX12_next_150 rfl ?_
                refine aw_aload_n (pc := 153) (i := 0) dX12_next_153 rfl rfl ?_
                refine aw_dup (pc := 154) dX12_next_154 rfl ?_
                refine mg_p (pc := 155) dX12_next_155 rfl ?_
                refine aw_top (y := nI p) rfl ?_
                refine aw_iconst (pc := 158) dX12_next_158 iconst_1 ?_
                refine an_add (pc := 159) dX12_next_159 ?_
                refine mp_p (pc := 160) dX12_next_160 rfl ?_
                exact aw_vret (pc := 163) dX12_next_163 rfl (Nat.le_refl _) (Nat.le_refl _) (by rw [nextG, if_neg (by omega), if_neg (by omega), if_neg (by simp [isA, h99, h106]), if_pos (by simp [sgnC]; omega)] at kk; exact kk)
              · -- 122
                refine aw_iload_n (pc := 122) (i := 1) dX12_next_122 rfl rfl ?_
                refine aw_bipush (pc := 123) dX12_next_123 bipush_41 ?_
                refine an_icmp_eq (pc := 125) (tgt := 140) dX12_next_125 rfl (Nat.lt_trans (chr_lt _ _) (by decide)) (by decide) (fun h125 => ?_) (fun h125 => ?_)
                · -- 140
                  refine aw_iconst (pc := 140) dX12_next_140 iconst_3 ?_
                  refine aw_goto (pc := 141) (tgt := 145) dX12_next_141 rfl ?_
                  refine mp_token (pc := 145) dX12_next_145 rfl ?_
                  refine aw_aload_n (pc := 148) (i := 0) dX12_next_148 rfl rfl ?_
                  refine aw_iload_n (pc := 149) (i := 1) dX12_next_149 rfl rfl ?_
                  refine mp_number (pc := 150) dX12_next_150 rfl ?_
                  refine aw_aload_n (pc := 153) (i := 0) dX12_next_153 rfl rfl ?_
                  refine aw_dup (pc := 154) dX12_next_154 rfl ?_
                  refine mg_p (pc := 155) dX12_next_155 rfl ?_
                  refine aw_top (y := nI p) rfl ?_
                  refine aw_iconst (pc := 158) dX12_next_158 iconst_1 ?_
                  refine an_add (pc := 159) dX12_next_159 ?_
                  refine mp_p (pc := 160) dX12_next_160 rfl ?_
                  exact aw_vret (pc := 163) dX12_next_163 rfl (Nat.le_refl _) (Nat.le_refl _) (by rw [nextG, if_neg (by omega), if_neg (by omega), if_neg (by simp [isA, h99, h106]), if_pos (by simp [sgnC]; omega)] at kk; exact kk)
                · -- 128
                  refine aw_iload_n (pc := 128) (i := 1) dX12_next_128 rfl rfl ?_
                  refine aw_bipush (pc := 129) dX12_next_129 bipush_60 ?_
                  refine an_icmp_lt (pc := 131) (tgt := 144) dX12_next_131 rfl (Nat.lt_trans (chr_lt _ _) (by decide)) (by decide) (fun h131 => ?_) (fun h131 => ?_)
                  · -- 144
                    refine aw_iconst (pc := 144) dX12_next_144 iconst_4 ?_
                    refine mp_token (pc := 145) dX12_next_145 rfl ?_
                    refine aw_aload_n (pc := 148) (i := 0) dX12_next_148 rfl rfl ?_
                    refine aw_iload_n (pc := 149) (i := 1) dX12_next_149 rfl rfl ?_
                    refine mp_number (pc := 150) dX12_next_150 rfl ?_
                    refine aw_aload_n (pc := 153) (i := 0) dX12_next_153 rfl rfl ?_
                    refine aw_dup (pc := 154) dX12_next_154 rfl ?_
                    refine mg_p (pc := 155) dX12_next_155 rfl ?_
                    refine aw_top (y := nI p) rfl ?_
                    refine aw_iconst (pc := 158) dX12_next_158 iconst_1 ?_
                    refine an_add (pc := 159) dX12_next_159 ?_
                    refine mp_p (pc := 160) dX12_next_160 rfl ?_
                    exact aw_vret (pc := 163) dX12_next_163 rfl (Nat.le_refl _) (Nat.le_refl _) (by rw [nextG, if_neg (by omega), if_neg (by omega), if_neg (by simp [isA, h99, h106]), if_neg (by simp [sgnC]; omega)] at kk; exact kk)
                  · -- 134
                    refine aw_iload_n (pc := 134) (i := 1) dX12_next_134 rfl rfl ?_
                    refine aw_bipush (pc := 135) dX12_next_135 bipush_62 ?_
                    refine an_icmp_gt (pc := 137) (tgt := 144) dX12_next_137 rfl (Nat.lt_trans (chr_lt _ _) (by decide)) (by decide) (fun h137 => ?_) (fun h137 => ?_)
                    · -- 144
                      refine aw_iconst (pc := 144) dX12_next_144 iconst_4 ?_
                      refine mp_token (pc := 145) dX12_next_145 rfl ?_
                      refine aw_aload_n (pc := 148) (i := 0) dX12_next_148 rfl rfl ?_
                      refine aw_iload_n (pc := 149) (i := 1) dX12_next_149 rfl rfl ?_
                      refine mp_number (pc := 150) dX12_next_150 rfl ?_
                      refine aw_aload_n (pc := 153) (i := 0) dX12_next_153 rfl rfl ?_
                      refine aw_dup (pc := 154) dX12_next_154 rfl ?_
                      refine mg_p (pc := 155) dX12_next_155 rfl ?_
                      refine aw_top (y := nI p) rfl ?_
                      refine aw_iconst (pc := 158) dX12_next_158 iconst_1 ?_
                      refine an_add (pc := 159) dX12_next_159 ?_
                      refine mp_p (pc := 160) dX12_next_160 rfl ?_
                      exact aw_vret (pc := 163) dX12_next_163 rfl (Nat.le_refl _) (Nat.le_refl _) (by rw [nextG, if_neg (by omega), if_neg (by omega), if_neg (by simp [isA, h99, h106]), if_neg (by simp [sgnC]; omega)] at kk; exact kk)
                    · -- 140
                      refine aw_iconst (pc := 140) dX12_next_140 iconst_3 ?_
                      refine aw_goto (pc := 141) (tgt := 145) dX12_next_141 rfl ?_
                      refine mp_token (pc := 145) dX12_next_145 rfl ?_
                      refine aw_aload_n (pc := 148) (i := 0) dX12_next_148 rfl rfl ?_
                      refine aw_iload_n (pc := 149) (i := 1) dX12_next_149 rfl rfl ?_
                      refine mp_number (pc := 150) dX12_next_150 rfl ?_
                      refine aw_aload_n (pc := 153) (i := 0) dX12_next_153 rfl rfl ?_
                      refine aw_dup (pc := 154) dX12_next_154 rfl ?_
                      refine mg_p (pc := 155) dX12_next_155 rfl ?_
                      refine aw_top (y := nI p) rfl ?_
                      refine aw_iconst (pc := 158) dX12_next_158 iconst_1 ?_
                      refine an_add (pc := 159) dX12_next_159 ?_
                      refine mp_p (pc := 160) dX12_next_160 rfl ?_
                      exact aw_vret (pc := 163) dX12_next_163 rfl (Nat.le_refl _) (Nat.le_refl _) (by rw [nextG, if_neg (by omega), if_neg (by omega), if_neg (by simp [isA, h99, h106]), if_pos (by simp [sgnC]; omega)] at kk; exact kk)
      · skip
        refine aw_aload_n (pc := 80) (i := 0) dX12_next_80 rfl rfl ?_
        refine mc_I (pc := 81) (As := []) (rest := []) dX12_next_81 rfl ok_X12_165 rfl rfl rfl (Nat.le_of_ble_eq_true rfl) (s_peek0 (p := p) (s := s) rfl hs hs9 hge (by omega) ⟨_, _, rfl, rfl, ?_⟩)
        refine aw_istore_n (pc := 84) (i := 1) dX12_next_84 rfl (Nat.le_of_ble_eq_true rfl) rfl ?_
        refine aw_iload_n (pc := 85) (i := 1) dX12_next_85 rfl rfl ?_
        refine an_ifm_ge (pc := 86) (tgt := 95) dX12_next_86 rfl ?_
        refine aw_aload_n (pc := 89) (i := 0) dX12_next_89 rfl rfl ?_
        refine aw_iconst (pc := 90) dX12_next_90 iconst_0 ?_
        refine mp_token (pc := 91) dX12_next_91 rfl ?_
        exact aw_vret (pc := 94) dX12_next_94 rfl (Nat.le_refl _) (Nat.le_refl _) (by rw [nextG, if_neg (by omega), if_pos hge] at kk; exact kk)
    · -- 66
      refine aw_aload_n (pc := 66) (i := 0) dX12_next_66 rfl rfl ?_
      refine aw_aload_n (pc := 67) (i := 0) dX12_next_67 rfl rfl ?_
      refine mg_limit (pc := 68) dX12_next_68 rfl ?_
      refine aw_top (y := (mI σ 4 (nI p)).1 5) rfl ?_
      refine aw_top (y := (nI lim)) hli ?_
      refine mp_at (pc := 71) dX12_next_71 rfl ?_
      refine aw_aload_n (pc := 74) (i := 0) dX12_next_74 rfl rfl ?_
      refine aw_iconst (pc := 75) dX12_next_75 iconst_4 ?_
      refine mp_token (pc := 76) dX12_next_76 rfl ?_
      exact aw_vret (pc := 79) dX12_next_79 rfl (Nat.le_refl _) (Nat.le_refl _) (by rw [nextG, if_pos ⟨h52, h63⟩] at kk; exact kk)
set_option maxHeartbeats 1000000 in
set_option maxRecDepth 20000 in
theorem s_next {G : xG} {d : Nat} {Q : xQ} {a : Nat → Nat} {σ : mS} {s lim p : Nat} (hp : σ.1 4 = nI p) (hp9 : p ≤ s) (hs : σ.1 3 = nI s) (hs9 : s ≤ 940) (hli : σ.1 5 = nI lim) (hl9 : lim ≤ 940) (kk : Q none (mW G.2.2.1 a (nextS σ s lim p))) : MT G MX12_next (d + 1) 0 0 [.ref (a 60)] (mW G.2.2.1 a σ) Q := by
  refine mt_start (L := [some (.ref (a 60)), none, none, none]) rfl (Nat.le_of_ble_eq_true rfl) rfl ?_
  have e := (skipF_le (σ.2.2.1 1) (s - p) p)
  refine aw_ws (w9 := mW G.2.2.1 a (mI σ 4 (nI p))) (by rw [← hp]; rfl) ?_
  exact skip_loop hs hs9 (s - p) p (by omega) (next_31 hs hs9 hli hl9 (by omega) kk)
