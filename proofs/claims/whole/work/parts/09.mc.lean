section MCALL
variable {G : xG} {μ μ' : xM} {d : Nat} {Q : xQ} {pc : Nat} {L : List (Option Value)} {a : Nat → Nat} {σ : mS} {idx np : Nat}
theorem mc_I {As rest st9 : List Value} (hd : decode μ.2.1 pc = .ok (.invokevirtual idx, 3)) (ho : μ.1.cls = "InchBordersModel") (ok : xVok "InchBordersModel" μ' idx np) (hc : μ'.1.cls = RX12) (hn : As.length = np) (hst : As.reverse ++ .ref (a 60) :: rest = st9) (hcat : (rest.map fun v => v.category).sum ≤ 8)
    (hM : MT G μ' d 0 0 (.ref (a 60) :: As) (mW G.2.2.1 a σ) (fun v w => ∃ (r : Int32) (σ' : mS), v = some (.int r) ∧ w = mW G.2.2.1 a σ' ∧ AW G μ (d + 1) 0 0 Q (pc + 3) L (.int r :: rest) (mW G.2.2.1 a σ') 0 0)) : AW G μ (d + 1) 0 0 Q pc L st9 (mW G.2.2.1 a σ) 0 0 :=
  aw_callV (q0 := 0) (ci := 10) (CR := (RX12, TX12, 60)) _ hd ho ok hn hst hcat rfl hc.symm rfl hM (by rintro v w ⟨r, σ', rfl, rfl, h⟩; exact h) (Nat.le_refl _) (Nat.le_refl _)
theorem mc_V {As rest st9 : List Value} (hd : decode μ.2.1 pc = .ok (.invokevirtual idx, 3)) (ho : μ.1.cls = "InchBordersModel") (ok : xVok "InchBordersModel" μ' idx np) (hc : μ'.1.cls = RX12) (hn : As.length = np) (hst : As.reverse ++ .ref (a 60) :: rest = st9) (hcat : (rest.map fun v => v.category).sum ≤ 8)
    (hM : MT G μ' d 0 0 (.ref (a 60) :: As) (mW G.2.2.1 a σ) (fun v w => ∃ σ' : mS, v = none ∧ w = mW G.2.2.1 a σ' ∧ AW G μ (d + 1) 0 0 Q (pc + 3) L rest (mW G.2.2.1 a σ') 0 0)) : AW G μ (d + 1) 0 0 Q pc L st9 (mW G.2.2.1 a σ) 0 0 :=
  aw_callV (q0 := 0) (ci := 10) (CR := (RX12, TX12, 60)) _ hd ho ok hn hst hcat rfl hc.symm rfl hM (by rintro v w ⟨σ', rfl, rfl, h⟩; exact h) (Nat.le_refl _) (Nat.le_refl _)
theorem mt_I {As rest st9 : List Value} (hd : decode μ.2.1 pc = .ok (.invokestatic idx, 3)) (ho : μ.1.cls = "InchBordersModel") (ok : xSok "InchBordersModel" μ' idx np) (hc : μ'.1.cls = RX12) (hn : As.length = np) (hst : As.reverse ++ rest = st9) (hcat : (rest.map fun v => v.category).sum ≤ 8)
    (hM : MT G μ' d 0 0 As (mW G.2.2.1 a σ) (fun v w => ∃ (r : Int32) (σ' : mS), v = some (.int r) ∧ w = mW G.2.2.1 a σ' ∧ AW G μ (d + 1) 0 0 Q (pc + 3) L (.int r :: rest) (mW G.2.2.1 a σ') 0 0)) : AW G μ (d + 1) 0 0 Q pc L st9 (mW G.2.2.1 a σ) 0 0 :=
  aw_callS _ hd ho ok hn hst hcat hM (by rintro v w ⟨r, σ', rfl, rfl, h⟩; exact h) (Nat.le_refl _) (Nat.le_refl _)
end MCALL
section AJR
variable {G : xG} {μ : xM} {d mc ms : Nat} {Q : xQ} {pc : Nat} {L : List (Option Value)} {st : List Value} {ws : va_W} {n k : Nat}
theorem aj_if_eq {x y : Int64} {off : Int} {tgt : Nat} (hd : decode μ.2.1 pc = .ok (.ifCond .eq off, 3)) (ht : (pc : Int) + off = (tgt : Int)) (kt : x = y → AW G μ d mc ms Q tgt L st ws n k) (kf : ¬ x = y → AW G μ d mc ms Q (pc + 3) L st ws n k) : AW G μ d mc ms Q pc L (.int (lg_cmp x y) :: st) ws n k := aw_if_eq hd ht (fun h => kt ((lg_cmp_eq x y).mp h)) (fun h => kf (fun e => h ((lg_cmp_eq x y).mpr e)))
theorem aj_if_ne {x y : Int64} {off : Int} {tgt : Nat} (hd : decode μ.2.1 pc = .ok (.ifCond .ne off, 3)) (ht : (pc : Int) + off = (tgt : Int)) (kt : ¬ x = y → AW G μ d mc ms Q tgt L st ws n k) (kf : x = y → AW G μ d mc ms Q (pc + 3) L st ws n k) : AW G μ d mc ms Q pc L (.int (lg_cmp x y) :: st) ws n k := aw_if_ne hd ht (fun h => kt (fun e => h ((lg_cmp_eq x y).mpr e))) (fun h => kf ((lg_cmp_eq x y).mp h))
end AJR
