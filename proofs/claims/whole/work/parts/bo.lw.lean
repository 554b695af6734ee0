abbrev ML_law : xM := (yL_law, cL_law, 7, some .boolean)
/-- the script -/
def SC (b N : Nat) (f : Nat → Int32) (G : xG) : Prop := ∀ (A : Nat → Prop) (U : State), G.2.2.2 A U → va_X b N f U U.heap ∧ ¬ A b
abbrev Lw (b q m ao i : Nat) : List (Option Value) := [some (.ref b), some (.ref q), some (.ref m), some (.ref ao), some (.int (nI i)), none, none]
theorem va_X_lt {b N : Nat} {f : Nat → Int32} {U : State} {H : Heap} (h : va_X b N f U H) : b < H.size := by
  obtain ⟨scr, h1, -⟩ := h
  exact (Array.getElem?_eq_some_iff.mp h1).1
section LAR
variable {G : xG} {μ μ' : xM} {d mc ms mc' ms' : Nat} {Q : xQ} {pc : Nat} {L : List (Option Value)} {st rest : List Value} {ws : va_W} {n k idx np : Nat} {b N i : Nat} {f : Nat → Int32}
theorem aw_sld (hd : decode μ.2.1 pc = .ok (.iaload, 1)) (hSc : SC b N f G) (hi : i < N) (hN : N < 2 ^ 30) (kk : AW G μ d mc ms Q (pc + 1) L (.int (f i) :: st) ws n k) : AW G μ d mc ms Q pc L (.int (nI i) :: .ref b :: st) ws n k := by
  intro p e s m args below meth c H locs A ls C hS hP hD hl
  obtain ⟨hX, hA⟩ := hSc A s C.2.2.2.2.2.2.2.2.2.2.2
  have hc : (nI i).toNatClampNeg = i := nI_clamp (by omega)
  refine va_sld C.1 C.2.1 hX (va_X_lt hX) hA hS (vp_in_nI hi (by omega)) hd ?_
  rw [hc]
  exact kk p e s m args below meth c H locs A ls C hS hP hD hl
theorem aw_slen (hd : decode μ.2.1 pc = .ok (.arraylength, 1)) (hSc : SC b N f G) (kk : AW G μ d mc ms Q (pc + 1) L (.int (nI N) :: st) ws n k) : AW G μ d mc ms Q pc L (.ref b :: st) ws n k := by
  intro p e s m args below meth c H locs A ls C hS hP hD hl
  obtain ⟨hX, hA⟩ := hSc A s C.2.2.2.2.2.2.2.2.2.2.2
  exact va_slen C.1 C.2.1 hX (va_X_lt hX) hA hS hd (kk p e s m args below meth c H locs A ls C hS hP hD hl)
theorem aw_wid {n' k' : Nat} (h1 : n ≤ n') (h2 : k ≤ k') (kk : AW G μ d mc ms Q pc L st ws n' k') : AW G μ d mc ms Q pc L st ws n k := by
  intro p e s m args below meth c H locs A ls C hS hP hD hl
  exact W.widen h1 h2 (kk p e s m args below meth c H locs A ls C hS hP hD hl)
end LAR
/-- from here the next call is taken -/
def LK (G : xG) (d : Nat) (Q : xQ) (L : List (Option Value)) (q : Nat) (a : Nat → Nat) (ao : Nat) (ae : Nat → Nat) (B nc ks : Nat) : Prop := ∀ (kd : Nat → Bool) (ad : Nat → Nat → Nat) (κ : Nat → kS) (n : Nat) (σ : mS) (f : Nat → Int64), ad 0 20 = q → J ae kd ad κ n σ (B + 8000) → AW G ML_law (d + 60) 600128 7301098 Q 1379 L [] (WX G.2.2.1 kd ad κ n [] ++ (mW G.2.2.1 a σ ++ oW G ao f)) (nc + 16) (ks + 200)
theorem LK.use {G : xG} {d : Nat} {Q : xQ} {L : List (Option Value)} {q : Nat} {a : Nat → Nat} {ao : Nat} {ae : Nat → Nat} {B nc ks B' nc' ks' : Nat} {kd : Nat → Bool} {ad : Nat → Nat → Nat} {κ : Nat → kS} {n : Nat} {σ : mS} {f : Nat → Int64} (h : LK G d Q L q a ao ae B nc ks) (hq : ad 0 20 = q) (hJ : J ae kd ad κ n σ B') (hB : B' ≤ B + 8000) (h1 : nc' ≤ nc + 16) (h2 : ks' ≤ ks + 200) : AW G ML_law (d + 60) 600128 7301098 Q 1379 L [] (WX G.2.2.1 kd ad κ n [] ++ (mW G.2.2.1 a σ ++ oW G ao f)) nc' ks' :=
  aw_wid h1 h2 (h kd ad κ n σ f hq (hJ.mono hB))
/-- what a call of the law needs -/
def LH (G : xG) (ae : Nat → Nat) (tw ts : Nat) (aK aV : Nat → Nat) (tf : Option Nat) (b N : Nat) (sc : Nat → Int32) (i B nc ks : Nat) : Prop := EB ae tw ts G ∧ NB G ∧ AO G ∧ TH G ∧ KB aK aV tf G ∧ SC b N sc G ∧ i + 6 ≤ N ∧ N ≤ 384 ∧ B + 8000 ≤ 2 ^ 29 ∧ nc + 16 ≤ 600128 ∧ ks + 200 ≤ 7301098
section LAQ
variable {G : xG} {μ' : xM} {d mc' ms' : Nat} {Q : xQ} {pc : Nat} {L : List (Option Value)} {st rest : List Value} {ws : va_W} {nc ks idx np : Nat} {b N i j : Nat} {q m ao : Nat} {f : Nat → Int32} {As st9 : List Value}
theorem la_arg {z : Int} (d0 : decode cL_law pc = .ok (.aload_n 0, 1)) (d1 : decode cL_law (pc + 1) = .ok (.iload 4, 2)) (d2 : decode cL_law (pc + 3) = .ok (.iconst z, 1)) (d3 : decode cL_law (pc + 4) = .ok (.iadd, 1)) (d4 : decode cL_law (pc + 5) = .ok (.iaload, 1)) (hz : Int32.ofInt z = nI j) (hSc : SC b N f G) (hi : i + j < N) (hN : N ≤ 384) (h0 : L[0]? = some (some (.ref b))) (h4 : L[4]? = some (some (.int (nI i))))
    (kk : AW G ML_law (d + 60) 600128 7301098 Q (pc + 6) L (.int (f (i + j)) :: st) ws nc ks) : AW G ML_law (d + 60) 600128 7301098 Q pc L st ws nc ks := by
  refine aw_aload_n (i := 0) d0 rfl h0 ?_
  refine aw_iload (i := 4) d1 h4 ?_
  refine aw_iconst d2 hz ?_
  refine an_add d3 ?_
  exact aw_sld d4 hSc hi (by omega) kk
theorem la_cx {kd : Nat → Bool} {ad : Nat → Nat → Nat} {κ : Nat → kS} {n : Nat} {R : va_W} (hd : decode cL_law pc = .ok (.invokevirtual idx, 3)) (ok : xVok "InchBordersLaw" μ' idx np) (hCR : RX11 = μ'.1.cls) (hn : As.length = np) (hst : As.reverse ++ .ref (ad 0 20) :: rest = st9) (hcat : (rest.map fun v => v.category).sum ≤ 8) (hn24 : 24 ≤ n) (hf1 : nc + mc' ≤ 600128) (hf2 : ks + ms' ≤ 7301098)
    (hM : MT G μ' (d + 59) mc' ms' (.ref (ad 0 20) :: As) (WX G.2.2.1 kd ad κ n [] ++ R) (fun v w => ∃ r : Int32, v = some (.int r) ∧ AW G ML_law (d + 60) 600128 7301098 Q (pc + 3) L (.int r :: rest) w (nc + mc') (ks + ms'))) : AW G ML_law (d + 60) 600128 7301098 Q pc L st9 (WX G.2.2.1 kd ad κ n [] ++ R) nc ks :=
  aw_cV hd rfl ok hn hst hcat rfl hCR (ov_0 (by omega) (by simp)) hM (by rintro v w ⟨r, rfl, h⟩; exact h) hf1 hf2
theorem la_cm {Wx O : va_W} {a : Nat → Nat} {σ : mS} (hd : decode cL_law pc = .ok (.invokevirtual idx, 3)) (ok : xVok "InchBordersLaw" μ' idx np) (hCR : RX12 = μ'.1.cls) (hn : As.length = np) (hst : As.reverse ++ .ref (a 60) :: rest = st9) (hcat : (rest.map fun v => v.category).sum ≤ 8) (hf1 : nc ≤ 600128) (hf2 : ks ≤ 7301098)
    (hM : MT G μ' (d + 59) 0 0 (.ref (a 60) :: As) (mW G.2.2.1 a σ) (fun v w => ∃ (r : Int32) (σ' : mS), v = some (.int r) ∧ w = mW G.2.2.1 a σ' ∧ AW G ML_law (d + 60) 600128 7301098 Q (pc + 3) L (.int r :: rest) (Wx ++ (mW G.2.2.1 a σ' ++ O)) nc ks)) : AW G ML_law (d + 60) 600128 7301098 Q pc L st9 (Wx ++ (mW G.2.2.1 a σ ++ O)) nc ks := by
  refine aw_swap ?_
  refine aw_fV (q0 := 0) (ci := 10) (CR := (RX12, TX12, 60)) hd rfl ok hn hst hcat rfl hCR rfl hf1 hf2 (MT_mono hM ?_)
  rintro v w ⟨r, σ', rfl, rfl, h⟩
  exact aw_swap h
theorem la_eq {x : Int32} {off : Int} (hd : decode cL_law pc = .ok (.if_icmp .eq off, 3)) (ht : (pc : Int) + off = ((1379 : Nat) : Int)) (kk : AW G ML_law (d + 60) 600128 7301098 Q 1379 L [] ws nc ks) : AW G ML_law (d + 60) 600128 7301098 Q pc L [.int x, .int x] ws nc ks :=
  aw_icmp_eq (tgt := 1379) hd ht (fun _ => kk) (fun h => absurd rfl h)
end LAQ
