def bkT (σ : mS) : Bool × mS := takesNameF σ 0 (σ.2.1 6 0)
def bkI (σ : mS) : Nat := (findW σ 0 (σ.2.1 6 0)).getD 0
def bl2S (σ : mS) (to : Nat) : mS := mN (bkT σ).2 8 (to + 2) (bkI σ)
def bl2F (σ : mS) (to : Nat) (five : Bool) : Bool × mS := if (bkT σ).1 = true then (if five = true then (if (takesF (bl2S σ to) 1 99).1 = true then (true, mN (takesF (bl2S σ to) 1 99).2 8 (to + 3) (numN (bl2S σ to))) else (false, (takesF (bl2S σ to) 1 99).2)) else (true, bl2S σ to)) else (false, (bkT σ).2)
def blNF (σ : mS) (to : Nat) (five : Bool) : Bool × mS := if (bkT σ).1 = true then bl2F (mN (bkT σ).2 8 (to + 1) (bkI σ)) to five else (false, (bkT σ).2)
def blTF (σ : mS) (to lo hi : Nat) : Bool × mS := if (takesF σ lo hi).1 = true then (true, mN (takesF σ lo hi).2 8 (to + 1) (numN σ)) else (false, (takesF σ lo hi).2)
def blS (σ : mS) (m k : Nat) : mS := mN (nx σ) 8 (4 * m) k
def blGN (σ : mS) (m k : Nat) (five : Bool) : Bool × mS := if m = 40 then (false, badF σ 4) else blNF (blS σ m k) (4 * m) five
def blGT (σ : mS) (m k lo hi : Nat) : Bool × mS := if m = 40 then (false, badF σ 4) else blTF (blS σ m k) (4 * m) lo hi
def blA (σ : mS) : Bool × mS := looksF σ 7 (σ.2.1 6 2)
def blQ (σ : mS) : Nat := (findW σ 7 (σ.2.1 6 2)).getD 0
def blCF (σ : mS) (m : Nat) : Bool × mS := if (blA σ).1 = true then (if m = 40 then (false, badF (blA σ).2 4) else if isWordB (blS (blA σ).2 m 0) (27991845698233715 : Int64) = true then bl2F (mN (nx (blS (blA σ).2 m 0)) 8 (4 * m + 1) (blQ σ)) (4 * m) false else (false, badF (blS (blA σ).2 m 0) 1)) else (false, (blA σ).2)
def bookLineF (σ : mS) (m : Nat) : Bool × mS := if isWordB σ (1885430644 : Int64) = true then blGN σ m 1 false else if isWordB σ (422826041707 : Int64) = true then blGN σ m 2 false else if isWordB σ (427021005669 : Int64) = true then blGT σ m 3 0 11 else if isWordB σ (1869636974 : Int64) = true then blGT σ m 4 0 11 else if isWordB σ (1818586724 : Int64) = true then blGN σ m 5 true else if isWordB σ (6578553 : Int64) = true then blGT σ m 6 1 60 else blCF σ m
theorem PV_bkT {σ : mS} (h : PV σ) : PV (bkT σ).2 := PV_takesName h
theorem PV_bl2S {σ : mS} {to : Nat} (h : PV σ) : PV (bl2S σ to) := PV_mN (PV_bkT h)
theorem PV_blS {σ : mS} {m k : Nat} (h : PV σ) : PV (blS σ m k) := PV_mN (PV_nx h)
theorem bkT_got {σ : mS} (h : (bkT σ).1 = true) : (bkT σ).2.1 18 = nI (bkI σ) := takesName_got h
theorem bkT_n (σ : mS) : (bkT σ).2.2.1 = σ.2.1 := takesName_n σ _ _
theorem bkT_lt {σ : mS} (h : (bkT σ).1 = true) : bkI σ < σ.2.1 6 0 := takesName_lt h

set_option maxHeartbeats 1000000 in
set_option maxRecDepth 20000 in
theorem bl2_0 {G : xG} {d : Nat} {Q : xQ} {a : Nat → Nat} {σ : mS} {to : Nat} {v3 : Int32} {v4 : Option Value} (h : PV σ) (hl : σ.2.1 6 0 ≤ 7) (hto : to ≤ 156) (kk : Q (some (.int (bI (bl2F σ to false).1))) (mW G.2.2.1 a (bl2F σ to false).2)) : AW G MX12_bookLine (d + 3) 0 0 Q 268 [some (.ref (a 60)), some (.int (nI to)), some (.int (nI 0)), some (.int v3), v4] [] (mW G.2.2.1 a σ) 0 0 := by
  refine aw_aload_n (pc := 268) (i := 0) dX12_bookLine_268 rfl rfl ?_
  refine aw_iconst (pc := 269) dX12_bookLine_269 iconst_0 ?_
  refine aw_aload_n (pc := 270) (i := 0) dX12_bookLine_270 rfl rfl ?_
  refine mg_s (pc := 271) dX12_bookLine_271 rfl ?_
  refine aw_iconst (pc := 274) dX12_bookLine_274 iconst_0 ?_
  refine ml_s (pc := 275) dX12_bookLine_275 (by decide) ?_
  refine mc_I (pc := 276) (As := [.int (nI 0), .int (nI (σ.2.1 6 0))]) (rest := []) dX12_bookLine_276 rfl ok_X12_260 rfl rfl rfl (Nat.le_of_ble_eq_true rfl) (s_takesName h (by omega) ⟨_, _, rfl, rfl, ?_⟩)
  refine aw_top (y := bI (bkT σ).1) rfl ?_
  refine ab_if_ne (pc := 279) (tgt := 284) dX12_bookLine_279 rfl (fun h279 => ?_) (fun h279 => ?_)
  · -- 284
    refine aw_aload_n (pc := 284) (i := 0) dX12_bookLine_284 rfl rfl ?_
    refine mg_read (pc := 285) dX12_bookLine_285 rfl ?_
    refine aw_iload_n (pc := 288) (i := 1) dX12_bookLine_288 rfl rfl ?_
    refine aw_iconst (pc := 289) dX12_bookLine_289 iconst_2 ?_
    refine an_add (pc := 290) dX12_bookLine_290 ?_
    refine aw_aload_n (pc := 291) (i := 0) dX12_bookLine_291 rfl rfl ?_
    refine mg_got (pc := 292) dX12_bookLine_292 rfl ?_
    refine aw_top (y := (nI (bkI σ))) (bkT_got h279) ?_
    refine ms_read (pc := 295) dX12_bookLine_295 (by omega) ?_
    refine aw_iload_n (pc := 296) (i := 2) dX12_bookLine_296 rfl rfl ?_
    refine aw_iconst (pc := 297) dX12_bookLine_297 iconst_5 ?_
    refine an_icmp_eq (pc := 298) (tgt := 303) dX12_bookLine_298 rfl (by decide) (by decide) (fun h298 => absurd h298 (by decide)) (fun h298 => ?_)
    refine aw_iconst (pc := 301) dX12_bookLine_301 iconst_1 ?_
    exact ab_ret1 (pc := 302) dX12_bookLine_302 rfl (Nat.le_refl _) (Nat.le_refl _) (by simp only [bl2F, h279, Bool.true_and, Bool.and_true, Bool.false_and, Bool.and_false, Bool.not_true, Bool.not_false, Bool.or_true, Bool.or_false, Bool.true_or, Bool.false_or, Bool.false_eq_true, Bool.true_eq_false, if_true, if_false, ite_true, ite_false, reduceIte, reduceCtorEq] at kk; exact kk)
  · -- 282
    refine aw_iconst (pc := 282) dX12_bookLine_282 iconst_0 ?_
    exact ab_ret0 (pc := 283) dX12_bookLine_283 rfl (Nat.le_refl _) (Nat.le_refl _) (by simp only [bl2F, h279, Bool.true_and, Bool.and_true, Bool.false_and, Bool.and_false, Bool.not_true, Bool.not_false, Bool.or_true, Bool.or_false, Bool.true_or, Bool.false_or, Bool.false_eq_true, Bool.true_eq_false, if_true, if_false, ite_true, ite_false, reduceIte, reduceCtorEq] at kk; exact kk)
set_option maxHeartbeats 1000000 in
set_option maxRecDepth 20000 in
theorem bl2_1 {G : xG} {d : Nat} {Q : xQ} {a : Nat → Nat} {σ : mS} {to : Nat} {v3 : Int32} {v4 : Option Value} (h : PV σ) (hl : σ.2.1 6 0 ≤ 7) (hto : to ≤ 156) (kk : Q (some (.int (bI (bl2F σ to false).1))) (mW G.2.2.1 a (bl2F σ to false).2)) : AW G MX12_bookLine (d + 3) 0 0 Q 268 [some (.ref (a 60)), some (.int (nI to)), some (.int (nI 1)), some (.int v3), v4] [] (mW G.2.2.1 a σ) 0 0 := by
  refine aw_aload_n (pc := 268) (i := 0) dX12_bookLine_268 rfl rfl ?_
  refine aw_iconst (pc := 269) dX12_bookLine_269 iconst_0 ?_
  refine aw_aload_n (pc := 270) (i := 0) dX12_bookLine_270 rfl rfl ?_
  refine mg_s (pc := 271) dX12_bookLine_271 rfl ?_
  refine aw_iconst (pc := 274) dX12_bookLine_274 iconst_0 ?_
  refine ml_s (pc := 275) dX12_bookLine_275 (by decide) ?_
  refine mc_I (pc := 276) (As := [.int (nI 0), .int (nI (σ.2.1 6 0))]) (rest := []) dX12_bookLine_276 rfl ok_X12_260 rfl rfl rfl (Nat.le_of_ble_eq_true rfl) (s_takesName h (by omega) ⟨_, _, rfl, rfl, ?_⟩)
  refine aw_top (y := bI (bkT σ).1) rfl ?_
  refine ab_if_ne (pc := 279) (tgt := 284) dX12_bookLine_279 rfl (fun h279 => ?_) (fun h279 => ?_)
  · -- 284
    refine aw_aload_n (pc := 284) (i := 0) dX12_bookLine_284 rfl rfl ?_
    refine mg_read (pc := 285) dX12_bookLine_285 rfl ?_
    refine aw_iload_n (pc := 288) (i := 1) dX12_bookLine_288 rfl rfl ?_
    refine aw_iconst (pc := 289) dX12_bookLine_289 iconst_2 ?_
    refine an_add (pc := 290) dX12_bookLine_290 ?_
    refine aw_aload_n (pc := 291) (i := 0) dX12_bookLine_291 rfl rfl ?_
    refine mg_got (pc := 292) dX12_bookLine_292 rfl ?_
    refine aw_top (y := (nI (bkI σ))) (bkT_got h279) ?_
    refine ms_read (pc := 295) dX12_bookLine_295 (by omega) ?_
    refine aw_iload_n (pc := 296) (i := 2) dX12_bookLine_296 rfl rfl ?_
    refine aw_iconst (pc := 297) dX12_bookLine_297 iconst_5 ?_
    refine an_icmp_eq (pc := 298) (tgt := 303) dX12_bookLine_298 rfl (by decide) (by decide) (fun h298 => absurd h298 (by decide)) (fun h298 => ?_)
    refine aw_iconst (pc := 301) dX12_bookLine_301 iconst_1 ?_
    exact ab_ret1 (pc := 302) dX12_bookLine_302 rfl (Nat.le_refl _) (Nat.le_refl _) (by simp only [bl2F, h279, Bool.true_and, Bool.and_true, Bool.false_and, Bool.and_false, Bool.not_true, Bool.not_false, Bool.or_true, Bool.or_false, Bool.true_or, Bool.false_or, Bool.false_eq_true, Bool.true_eq_false, if_true, if_false, ite_true, ite_false, reduceIte, reduceCtorEq] at kk; exact kk)
  · -- 282
    refine aw_iconst (pc := 282) dX12_bookLine_282 iconst_0 ?_
    exact ab_ret0 (pc := 283) dX12_bookLine_283 rfl (Nat.le_refl _) (Nat.le_refl _) (by simp only [bl2F, h279, Bool.true_and, Bool.and_true, Bool.false_and, Bool.and_false, Bool.not_true, Bool.not_false, Bool.or_true, Bool.or_false, Bool.true_or, Bool.false_or, Bool.false_eq_true, Bool.true_eq_false, if_true, if_false, ite_true, ite_false, reduceIte, reduceCtorEq] at kk; exact kk)
set_option maxHeartbeats 1000000 in
set_option maxRecDepth 20000 in
theorem bl2_2 {G : xG} {d : Nat} {Q : xQ} {a : Nat → Nat} {σ : mS} {to : Nat} {v3 : Int32} {v4 : Option Value} (h : PV σ) (hl : σ.2.1 6 0 ≤ 7) (hto : to ≤ 156) (kk : Q (some (.int (bI (bl2F σ to false).1))) (mW G.2.2.1 a (bl2F σ to false).2)) : AW G MX12_bookLine (d + 3) 0 0 Q 268 [some (.ref (a 60)), some (.int (nI to)), some (.int (nI 2)), some (.int v3), v4] [] (mW G.2.2.1 a σ) 0 0 := by
  refine aw_aload_n (pc := 268) (i := 0) dX12_bookLine_268 rfl rfl ?_
  refine aw_iconst (pc := 269) dX12_bookLine_269 iconst_0 ?_
  refine aw_aload_n (pc := 270) (i := 0) dX12_bookLine_270 rfl rfl ?_
  refine mg_s (pc := 271) dX12_bookLine_271 rfl ?_
  refine aw_iconst (pc := 274) dX12_bookLine_274 iconst_0 ?_
  refine ml_s (pc := 275) dX12_bookLine_275 (by decide) ?_
  refine mc_I (pc := 276) (As := [.int (nI 0), .int (nI (σ.2.1 6 0))]) (rest := []) dX12_bookLine_276 rfl ok_X12_260 rfl rfl rfl (Nat.le_of_ble_eq_true rfl) (s_takesName h (by omega) ⟨_, _, rfl, rfl, ?_⟩)
  refine aw_top (y := bI (bkT σ).1) rfl ?_
  refine ab_if_ne (pc := 279) (tgt := 284) dX12_bookLine_279 rfl (fun h279 => ?_) (fun h279 => ?_)
  · -- 284
    refine aw_aload_n (pc := 284) (i := 0) dX12_bookLine_284 rfl rfl ?_
    refine mg_read (pc := 285) dX12_bookLine_285 rfl ?_
    refine aw_iload_n (pc := 288) (i := 1) dX12_bookLine_288 rfl rfl ?_
    refine aw_iconst (pc := 289) dX12_bookLine_289 iconst_2 ?_
    refine an_add (pc := 290) dX12_bookLine_290 ?_
    refine aw_aload_n (pc := 291) (i := 0) dX12_bookLine_291 rfl rfl ?_
    refine mg_got (pc := 292) dX12_bookLine_292 rfl ?_
    refine aw_top (y := (nI (bkI σ))) (bkT_got h279) ?_
    refine ms_read (pc := 295) dX12_bookLine_295 (by omega) ?_
    refine aw_iload_n (pc := 296) (i := 2) dX12_bookLine_296 rfl rfl ?_
    refine aw_iconst (pc := 297) dX12_bookLine_297 iconst_5 ?_
    refine an_icmp_eq (pc := 298) (tgt := 303) dX12_bookLine_298 rfl (by decide) (by decide) (fun h298 => absurd h298 (by decide)) (fun h298 => ?_)
    refine aw_iconst (pc := 301) dX12_bookLine_301 iconst_1 ?_
    exact ab_ret1 (pc := 302) dX12_bookLine_302 rfl (Nat.le_refl _) (Nat.le_refl _) (by simp only [bl2F, h279, Bool.true_and, Bool.and_true, Bool.false_and, Bool.and_false, Bool.not_true, Bool.not_false, Bool.or_true, Bool.or_false, Bool.true_or, Bool.false_or, Bool.false_eq_true, Bool.true_eq_false, if_true, if_false, ite_true, ite_false, reduceIte, reduceCtorEq] at kk; exact kk)
  · -- 282
    refine aw_iconst (pc := 282) dX12_bookLine_282 iconst_0 ?_
    exact ab_ret0 (pc := 283) dX12_bookLine_283 rfl (Nat.le_refl _) (Nat.le_refl _) (by simp only [bl2F, h279, Bool.true_and, Bool.and_true, Bool.false_and, Bool.and_false, Bool.not_true, Bool.not_false, Bool.or_true, Bool.or_false, Bool.true_or, Bool.false_or, Bool.false_eq_true, Bool.true_eq_false, if_true, if_false, ite_true, ite_false, reduceIte, reduceCtorEq] at kk; exact kk)
set_option maxHeartbeats 1000000 in
set_option maxRecDepth 20000 in
theorem bl2_5 {G : xG} {d : Nat} {Q : xQ} {a : Nat → Nat} {σ : mS} {to : Nat} {v3 : Int32} {v4 : Option Value} (h : PV σ) (hl : σ.2.1 6 0 ≤ 7) (hto : to ≤ 156) (kk : Q (some (.int (bI (bl2F σ to true).1))) (mW G.2.2.1 a (bl2F σ to true).2)) : AW G MX12_bookLine (d + 3) 0 0 Q 268 [some (.ref (a 60)), some (.int (nI to)), some (.int (nI 5)), some (.int v3), v4] [] (mW G.2.2.1 a σ) 0 0 := by
  refine aw_aload_n (pc := 268) (i := 0) dX12_bookLine_268 rfl rfl ?_
  refine aw_iconst (pc := 269) dX12_bookLine_269 iconst_0 ?_
  refine aw_aload_n (pc := 270) (i := 0) dX12_bookLine_270 rfl rfl ?_
  refine mg_s (pc := 271) dX12_bookLine_271 rfl ?_
  refine aw_iconst (pc := 274) dX12_bookLine_274 iconst_0 ?_
  refine ml_s (pc := 275) dX12_bookLine_275 (by decide) ?_
  refine mc_I (pc := 276) (As := [.int (nI 0), .int (nI (σ.2.1 6 0))]) (rest := []) dX12_bookLine_276 rfl ok_X12_260 rfl rfl rfl (Nat.le_of_ble_eq_true rfl) (s_takesName h (by omega) ⟨_, _, rfl, rfl, ?_⟩)
  refine aw_top (y := bI (bkT σ).1) rfl ?_
  refine ab_if_ne (pc := 279) (tgt := 284) dX12_bookLine_279 rfl (fun h279 => ?_) (fun h279 => ?_)
  · -- 284
    refine aw_aload_n (pc := 284) (i := 0) dX12_bookLine_284 rfl rfl ?_
    refine mg_read (pc := 285) dX12_bookLine_285 rfl ?_
    refine aw_iload_n (pc := 288) (i := 1) dX12_bookLine_288 rfl rfl ?_
    refine aw_iconst (pc := 289) dX12_bookLine_289 iconst_2 ?_
    refine an_add (pc := 290) dX12_bookLine_290 ?_
    refine aw_aload_n (pc := 291) (i := 0) dX12_bookLine_291 rfl rfl ?_
    refine mg_got (pc := 292) dX12_bookLine_292 rfl ?_
    refine aw_top (y := (nI (bkI σ))) (bkT_got h279) ?_
    refine ms_read (pc := 295) dX12_bookLine_295 (by omega) ?_
    refine aw_iload_n (pc := 296) (i := 2) dX12_bookLine_296 rfl rfl ?_
    refine aw_iconst (pc := 297) dX12_bookLine_297 iconst_5 ?_
    refine an_icmp_eq (pc := 298) (tgt := 303) dX12_bookLine_298 rfl (by decide) (by decide) (fun h298 => ?_) (fun h298 => absurd h298 (by decide))
    refine aw_aload_n (pc := 303) (i := 0) dX12_bookLine_303 rfl rfl ?_
    refine aw_iconst (pc := 304) dX12_bookLine_304 iconst_1 ?_
    refine aw_bipush (pc := 305) dX12_bookLine_305 bipush_99 ?_
    refine mc_I (pc := 307) (As := [.int (nI 1), .int (nI 99)]) (rest := []) dX12_bookLine_307 rfl ok_X12_214 rfl rfl rfl (Nat.le_of_ble_eq_true rfl) (s_takes (PV_bl2S h) ⟨_, _, rfl, rfl, ?_⟩)
    refine aw_top (y := bI (takesF (bl2S σ to) 1 99).1) rfl ?_
    refine ab_if_ne (pc := 310) (tgt := 315) dX12_bookLine_310 rfl (fun h310 => ?_) (fun h310 => ?_)
    · -- 315
      refine aw_aload_n (pc := 315) (i := 0) dX12_bookLine_315 rfl rfl ?_
      refine mg_read (pc := 316) dX12_bookLine_316 rfl ?_
      refine aw_iload_n (pc := 319) (i := 1) dX12_bookLine_319 rfl rfl ?_
      refine aw_iconst (pc := 320) dX12_bookLine_320 iconst_3 ?_
      refine an_add (pc := 321) dX12_bookLine_321 ?_
      refine aw_aload_n (pc := 322) (i := 0) dX12_bookLine_322 rfl rfl ?_
      refine mg_got (pc := 323) dX12_bookLine_323 rfl ?_
      refine aw_top (y := (nI (numN (bl2S σ to)))) (takes_N (PV_bl2S h) h310) ?_
      refine ms_read (pc := 326) dX12_bookLine_326 (by omega) ?_
      refine aw_iconst (pc := 327) dX12_bookLine_327 iconst_1 ?_
      exact ab_ret1 (pc := 328) dX12_bookLine_328 rfl (Nat.le_refl _) (Nat.le_refl _) (by simp only [bl2F, h279, h310, Bool.true_and, Bool.and_true, Bool.false_and, Bool.and_false, Bool.not_true, Bool.not_false, Bool.or_true, Bool.or_false, Bool.true_or, Bool.false_or, Bool.false_eq_true, Bool.true_eq_false, if_true, if_false, ite_true, ite_false, reduceIte, reduceCtorEq] at kk; exact kk)
    · -- 313
      refine aw_iconst (pc := 313) dX12_bookLine_313 iconst_0 ?_
      exact ab_ret0 (pc := 314) dX12_bookLine_314 rfl (Nat.le_refl _) (Nat.le_refl _) (by simp only [bl2F, h279, h310, Bool.true_and, Bool.and_true, Bool.false_and, Bool.and_false, Bool.not_true, Bool.not_false, Bool.or_true, Bool.or_false, Bool.true_or, Bool.false_or, Bool.false_eq_true, Bool.true_eq_false, if_true, if_false, ite_true, ite_false, reduceIte, reduceCtorEq] at kk; exact kk)
  · -- 282
    refine aw_iconst (pc := 282) dX12_bookLine_282 iconst_0 ?_
    exact ab_ret0 (pc := 283) dX12_bookLine_283 rfl (Nat.le_refl _) (Nat.le_refl _) (by simp only [bl2F, h279, Bool.true_and, Bool.and_true, Bool.false_and, Bool.and_false, Bool.not_true, Bool.not_false, Bool.or_true, Bool.or_false, Bool.true_or, Bool.false_or, Bool.false_eq_true, Bool.true_eq_false, if_true, if_false, ite_true, ite_false, reduceIte, reduceCtorEq] at kk; exact kk)
set_option maxHeartbeats 1000000 in
set_option maxRecDepth 20000 in
theorem blN_1 {G : xG} {d : Nat} {Q : xQ} {a : Nat → Nat} {σ : mS} {m : Nat} {v3 : Int32} (h : PV σ) (hl : σ.2.1 6 0 ≤ 7) (hm : m < 40) (kk : Q (some (.int (bI (blNF (blS σ m 1) (4 * m) false).1))) (mW G.2.2.1 a (blNF (blS σ m 1) (4 * m) false).2)) : AW G MX12_bookLine (d + 3) 0 0 Q 135 [some (.ref (a 60)), some (.int (nI (4 * m))), some (.int (nI 1)), some (.int v3), none] [] (mW G.2.2.1 a σ) 0 0 := by
  refine aw_aload_n (pc := 135) (i := 0) dX12_bookLine_135 rfl rfl ?_
  refine mc_V (pc := 136) (As := []) (rest := []) dX12_bookLine_136 rfl ok_X12_204 rfl rfl rfl (Nat.le_of_ble_eq_true rfl) (s_nx h ⟨_, rfl, rfl, ?_⟩)
  refine aw_aload_n (pc := 139) (i := 0) dX12_bookLine_139 rfl rfl ?_
  refine mg_read (pc := 140) dX12_bookLine_140 rfl ?_
  refine aw_iload_n (pc := 143) (i := 1) dX12_bookLine_143 rfl rfl ?_
  refine aw_iload_n (pc := 144) (i := 2) dX12_bookLine_144 rfl rfl ?_
  refine ms_read (pc := 145) dX12_bookLine_145 (by omega) ?_
  refine aw_iload_n (pc := 146) (i := 2) dX12_bookLine_146 rfl rfl ?_
  refine an_if_ne (pc := 147) (tgt := 182) dX12_bookLine_147 rfl (by decide) (fun h147 => ?_) (fun h147 => absurd h147 (by decide))
  refine aw_iload_n (pc := 182) (i := 2) dX12_bookLine_182 rfl rfl ?_
  refine aw_bipush (pc := 183) dX12_bookLine_183 bipush_6 ?_
  refine an_icmp_ne (pc := 185) (tgt := 198) dX12_bookLine_185 rfl (by decide) (by decide) (fun h185 => ?_) (fun h185 => absurd h185 (by decide))
  refine aw_iload_n (pc := 198) (i := 2) dX12_bookLine_198 rfl rfl ?_
  refine aw_iconst (pc := 199) dX12_bookLine_199 iconst_3 ?_
  refine an_icmp_eq (pc := 200) (tgt := 208) dX12_bookLine_200 rfl (by decide) (by decide) (fun h200 => absurd h200 (by decide)) (fun h200 => ?_)
  refine aw_iload_n (pc := 203) (i := 2) dX12_bookLine_203 rfl rfl ?_
  refine aw_iconst (pc := 204) dX12_bookLine_204 iconst_4 ?_
  refine an_icmp_ne (pc := 205) (tgt := 218) dX12_bookLine_205 rfl (by decide) (by decide) (fun h205 => ?_) (fun h205 => absurd h205 (by decide))
  refine aw_aload_n (pc := 218) (i := 0) dX12_bookLine_218 rfl rfl ?_
  refine aw_iconst (pc := 219) dX12_bookLine_219 iconst_0 ?_
  refine aw_aload_n (pc := 220) (i := 0) dX12_bookLine_220 rfl rfl ?_
  refine mg_s (pc := 221) dX12_bookLine_221 rfl ?_
  refine aw_iconst (pc := 224) dX12_bookLine_224 iconst_0 ?_
  refine ml_s (pc := 225) dX12_bookLine_225 (by decide) ?_
  refine aw_top (y := (nI ((nx σ).2.1 6 0))) rfl ?_
  refine mc_I (pc := 226) (As := [.int (nI 0), .int (nI ((nx σ).2.1 6 0))]) (rest := []) dX12_bookLine_226 rfl ok_X12_260 rfl rfl rfl (Nat.le_of_ble_eq_true rfl) (s_takesName (PV_blS h) (by show 0 + σ.2.1 6 0 ≤ 26; omega) ⟨_, _, rfl, rfl, ?_⟩)
  refine aw_top (y := bI (bkT (blS σ m 1)).1) rfl ?_
  refine aw_istore (pc := 229) (i := 4) dX12_bookLine_229 (Nat.le_of_ble_eq_true rfl) rfl ?_
  refine aw_iload (pc := 231) dX12_bookLine_231 rfl ?_
  refine ab_if_ne (pc := 233) (tgt := 238) dX12_bookLine_233 rfl (fun h233 => ?_) (fun h233 => ?_)
  · -- 238
    refine aw_aload_n (pc := 238) (i := 0) dX12_bookLine_238 rfl rfl ?_
    refine mg_read (pc := 239) dX12_bookLine_239 rfl ?_
    refine aw_iload_n (pc := 242) (i := 1) dX12_bookLine_242 rfl rfl ?_
    refine aw_iconst (pc := 243) dX12_bookLine_243 iconst_1 ?_
    refine an_add (pc := 244) dX12_bookLine_244 ?_
    refine aw_aload_n (pc := 245) (i := 0) dX12_bookLine_245 rfl rfl ?_
    refine mg_got (pc := 246) dX12_bookLine_246 rfl ?_
    refine aw_top (y := (nI (bkI (blS σ m 1)))) (bkT_got h233) ?_
    refine ms_read (pc := 249) dX12_bookLine_249 (by omega) ?_
    refine aw_iload_n (pc := 250) (i := 2) dX12_bookLine_250 rfl rfl ?_
    refine aw_iconst (pc := 251) dX12_bookLine_251 iconst_3 ?_
    refine an_icmp_eq (pc := 252) (tgt := 266) dX12_bookLine_252 rfl (by decide) (by decide) (fun h252 => absurd h252 (by decide)) (fun h252 => ?_)
    refine aw_iload_n (pc := 255) (i := 2) dX12_bookLine_255 rfl rfl ?_
    refine aw_iconst (pc := 256) dX12_bookLine_256 iconst_4 ?_
    refine an_icmp_eq (pc := 257) (tgt := 266) dX12_bookLine_257 rfl (by decide) (by decide) (fun h257 => absurd h257 (by decide)) (fun h257 => ?_)
    refine aw_iload_n (pc := 260) (i := 2) dX12_bookLine_260 rfl rfl ?_
    refine aw_bipush (pc := 261) dX12_bookLine_261 bipush_6 ?_
    refine an_icmp_ne (pc := 263) (tgt := 268) dX12_bookLine_263 rfl (by decide) (by decide) (fun h263 => ?_) (fun h263 => absurd h263 (by decide))
    simp only [blNF, h233, Bool.true_and, Bool.and_true, Bool.false_and, Bool.and_false, Bool.not_true, Bool.not_false, Bool.or_true, Bool.or_false, Bool.true_or, Bool.false_or, Bool.false_eq_true, Bool.true_eq_false, if_true, if_false, ite_true, ite_false, reduceIte, reduceCtorEq] at kk
    refine aw_ws (w9 := mW G.2.2.1 a (mN (bkT (blS σ m 1)).2 8 (4 * m + 1) (bkI (blS σ m 1)))) rfl ?_
    exact bl2_1 (PV_mN (PV_bkT (PV_blS h))) (by rw [show (mN (bkT (blS σ m 1)).2 8 (4 * m + 1) (bkI (blS σ m 1))).2.1 6 = (bkT (blS σ m 1)).2.2.1 6 from rfl, bkT_n]; exact hl) (by omega) kk
  · -- 236
    refine aw_iconst (pc := 236) dX12_bookLine_236 iconst_0 ?_
    exact ab_ret0 (pc := 237) dX12_bookLine_237 rfl (Nat.le_refl _) (Nat.le_refl _) (by simp only [blNF, h233, Bool.true_and, Bool.and_true, Bool.false_and, Bool.and_false, Bool.not_true, Bool.not_false, Bool.or_true, Bool.or_false, Bool.true_or, Bool.false_or, Bool.false_eq_true, Bool.true_eq_false, if_true, if_false, ite_true, ite_false, reduceIte, reduceCtorEq] at kk; exact kk)
set_option maxHeartbeats 1000000 in
set_option maxRecDepth 20000 in
theorem blN_2 {G : xG} {d : Nat} {Q : xQ} {a : Nat → Nat} {σ : mS} {m : Nat} {v3 : Int32} (h : PV σ) (hl : σ.2.1 6 0 ≤ 7) (hm : m < 40) (kk : Q (some (.int (bI (blNF (blS σ m 2) (4 * m) false).1))) (mW G.2.2.1 a (blNF (blS σ m 2) (4 * m) false).2)) : AW G MX12_bookLine (d + 3) 0 0 Q 135 [some (.ref (a 60)), some (.int (nI (4 * m))), some (.int (nI 2)), some (.int v3), none] [] (mW G.2.2.1 a σ) 0 0 := by
  refine aw_aload_n (pc := 135) (i := 0) dX12_bookLine_135 rfl rfl ?_
  refine mc_V (pc := 136) (As := []) (rest := []) dX12_bookLine_136 rfl ok_X12_204 rfl rfl rfl (Nat.le_of_ble_eq_true rfl) (s_nx h ⟨_, rfl, rfl, ?_⟩)
  refine aw_aload_n (pc := 139) (i := 0) dX12_bookLine_139 rfl rfl ?_
  refine mg_read (pc := 140) dX12_bookLine_140 rfl ?_
  refine aw_iload_n (pc := 143) (i := 1) dX12_bookLine_143 rfl rfl ?_
  refine aw_iload_n (pc := 144) (i := 2) dX12_bookLine_144 rfl rfl ?_
  refine ms_read (pc := 145) dX12_bookLine_145 (by omega) ?_
  refine aw_iload_n (pc := 146) (i := 2) dX12_bookLine_146 rfl rfl ?_
  refine an_if_ne (pc := 147) (tgt := 182) dX12_bookLine_147 rfl (by decide) (fun h147 => ?_) (fun h147 => absurd h147 (by decide))
  refine aw_iload_n (pc := 182) (i := 2) dX12_bookLine_182 rfl rfl ?_
  refine aw_bipush (pc := 183) dX12_bookLine_183 bipush_6 ?_
  refine an_icmp_ne (pc := 185) (tgt := 198) dX12_bookLine_185 rfl (by decide) (by decide) (fun h185 => ?_) (fun h185 => absurd h185 (by decide))
  refine aw_iload_n (pc := 198) (i := 2) dX12_bookLine_198 rfl rfl ?_
  refine aw_iconst (pc := 199) dX12_bookLine_199 iconst_3 ?_
  refine an_icmp_eq (pc := 200) (tgt := 208) dX12_bookLine_200 rfl (by decide) (by decide) (fun h200 => absurd h200 (by decide)) (fun h200 => ?_)
  refine aw_iload_n (pc := 203) (i := 2) dX12_bookLine_203 rfl rfl ?_
  refine aw_iconst (pc := 204) dX12_bookLine_204 iconst_4 ?_
  refine an_icmp_ne (pc := 205) (tgt := 218) dX12_bookLine_205 rfl (by decide) (by decide) (fun h205 => ?_) (fun h205 => absurd h205 (by decide))
  refine aw_aload_n (pc := 218) (i := 0) dX12_bookLine_218 rfl rfl ?_
  refine aw_iconst (pc := 219) dX12_bookLine_219 iconst_0 ?_
  refine aw_aload_n (pc := 220) (i := 0) dX12_bookLine_220 rfl rfl ?_
  refine mg_s (pc := 221) dX12_bookLine_221 rfl ?_
  refine aw_iconst (pc := 224) dX12_bookLine_224 iconst_0 ?_
  refine ml_s (pc := 225) dX12_bookLine_225 (by decide) ?_
  refine aw_top (y := (nI ((nx σ).2.1 6 0))) rfl ?_
  refine mc_I (pc := 226) (As := [.int (nI 0), .int (nI ((nx σ).2.1 6 0))]) (rest := []) dX12_bookLine_226 rfl ok_X12_260 rfl rfl rfl (Nat.le_of_ble_eq_true rfl) (s_takesName (PV_blS h) (by show 0 + σ.2.1 6 0 ≤ 26; omega) ⟨_, _, rfl, rfl, ?_⟩)
  refine aw_top (y := bI (bkT (blS σ m 2)).1) rfl ?_
  refine aw_istore (pc := 229) (i := 4) dX12_bookLine_229 (Nat.le_of_ble_eq_true rfl) rfl ?_
  refine aw_iload (pc := 231) dX12_bookLine_231 rfl ?_
  refine ab_if_ne (pc := 233) (tgt := 238) dX12_bookLine_233 rfl (fun h233 => ?_) (fun h233 => ?_)
  · -- 238
    refine aw_aload_n (pc := 238) (i := 0) dX12_bookLine_238 rfl rfl ?_
    refine mg_read (pc := 239) dX12_bookLine_239 rfl ?_
    refine aw_iload_n (pc := 242) (i := 1) dX12_bookLine_242 rfl rfl ?_
    refine aw_iconst (pc := 243) dX12_bookLine_243 iconst_1 ?_
    refine an_add (pc := 244) dX12_bookLine_244 ?_
    refine aw_aload_n (pc := 245) (i := 0) dX12_bookLine_245 rfl rfl ?_
    refine mg_got (pc := 246) dX12_bookLine_246 rfl ?_
    refine aw_top (y := (nI (bkI (blS σ m 2)))) (bkT_got h233) ?_
    refine ms_read (pc := 249) dX12_bookLine_249 (by omega) ?_
    refine aw_iload_n (pc := 250) (i := 2) dX12_bookLine_250 rfl rfl ?_
    refine aw_iconst (pc := 251) dX12_bookLine_251 iconst_3 ?_
    refine an_icmp_eq (pc := 252) (tgt := 266) dX12_bookLine_252 rfl (by decide) (by decide) (fun h252 => absurd h252 (by decide)) (fun h252 => ?_)
    refine aw_iload_n (pc := 255) (i := 2) dX12_bookLine_255 rfl rfl ?_
    refine aw_iconst (pc := 256) dX12_bookLine_256 iconst_4 ?_
    refine an_icmp_eq (pc := 257) (tgt := 266) dX12_bookLine_257 rfl (by decide) (by decide) (fun h257 => absurd h257 (by decide)) (fun h257 => ?_)
    refine aw_iload_n (pc := 260) (i := 2) dX12_bookLine_260 rfl rfl ?_
    refine aw_bipush (pc := 261) dX12_bookLine_261 bipush_6 ?_
    refine an_icmp_ne (pc := 263) (tgt := 268) dX12_bookLine_263 rfl (by decide) (by decide) (fun h263 => ?_) (fun h263 => absurd h263 (by decide))
    simp only [blNF, h233, Bool.true_and, Bool.and_true, Bool.false_and, Bool.and_false, Bool.not_true, Bool.not_false, Bool.or_true, Bool.or_false, Bool.true_or, Bool.false_or, Bool.false_eq_true, Bool.true_eq_false, if_true, if_false, ite_true, ite_false, reduceIte, reduceCtorEq] at kk
    refine aw_ws (w9 := mW G.2.2.1 a (mN (bkT (blS σ m 2)).2 8 (4 * m + 1) (bkI (blS σ m 2)))) rfl ?_
    exact bl2_2 (PV_mN (PV_bkT (PV_blS h))) (by rw [show (mN (bkT (blS σ m 2)).2 8 (4 * m + 1) (bkI (blS σ m 2))).2.1 6 = (bkT (blS σ m 2)).2.2.1 6 from rfl, bkT_n]; exact hl) (by omega) kk
  · -- 236
    refine aw_iconst (pc := 236) dX12_bookLine_236 iconst_0 ?_
    exact ab_ret0 (pc := 237) dX12_bookLine_237 rfl (Nat.le_refl _) (Nat.le_refl _) (by simp only [blNF, h233, Bool.true_and, Bool.and_true, Bool.false_and, Bool.and_false, Bool.not_true, Bool.not_false, Bool.or_true, Bool.or_false, Bool.true_or, Bool.false_or, Bool.false_eq_true, Bool.true_eq_false, if_true, if_false, ite_true, ite_false, reduceIte, reduceCtorEq] at kk; exact kk)
set_option maxHeartbeats 1000000 in
set_option maxRecDepth 20000 in
theorem blN_5 {G : xG} {d : Nat} {Q : xQ} {a : Nat → Nat} {σ : mS} {m : Nat} {v3 : Int32} (h : PV σ) (hl : σ.2.1 6 0 ≤ 7) (hm : m < 40) (kk : Q (some (.int (bI (blNF (blS σ m 5) (4 * m) true).1))) (mW G.2.2.1 a (blNF (blS σ m 5) (4 * m) true).2)) : AW G MX12_bookLine (d + 3) 0 0 Q 135 [some (.ref (a 60)), some (.int (nI (4 * m))), some (.int (nI 5)), some (.int v3), none] [] (mW G.2.2.1 a σ) 0 0 := by
  refine aw_aload_n (pc := 135) (i := 0) dX12_bookLine_135 rfl rfl ?_
  refine mc_V (pc := 136) (As := []) (rest := []) dX12_bookLine_136 rfl ok_X12_204 rfl rfl rfl (Nat.le_of_ble_eq_true rfl) (s_nx h ⟨_, rfl, rfl, ?_⟩)
  refine aw_aload_n (pc := 139) (i := 0) dX12_bookLine_139 rfl rfl ?_
  refine mg_read (pc := 140) dX12_bookLine_140 rfl ?_
  refine aw_iload_n (pc := 143) (i := 1) dX12_bookLine_143 rfl rfl ?_
  refine aw_iload_n (pc := 144) (i := 2) dX12_bookLine_144 rfl rfl ?_
  refine ms_read (pc := 145) dX12_bookLine_145 (by omega) ?_
  refine aw_iload_n (pc := 146) (i := 2) dX12_bookLine_146 rfl rfl ?_
  refine an_if_ne (pc := 147) (tgt := 182) dX12_bookLine_147 rfl (by decide) (fun h147 => ?_) (fun h147 => absurd h147 (by decide))
  refine aw_iload_n (pc := 182) (i := 2) dX12_bookLine_182 rfl rfl ?_
  refine aw_bipush (pc := 183) dX12_bookLine_183 bipush_6 ?_
  refine an_icmp_ne (pc := 185) (tgt := 198) dX12_bookLine_185 rfl (by decide) (by decide) (fun h185 => ?_) (fun h185 => absurd h185 (by decide))
  refine aw_iload_n (pc := 198) (i := 2) dX12_bookLine_198 rfl rfl ?_
  refine aw_iconst (pc := 199) dX12_bookLine_199 iconst_3 ?_
  refine an_icmp_eq (pc := 200) (tgt := 208) dX12_bookLine_200 rfl (by decide) (by decide) (fun h200 => absurd h200 (by decide)) (fun h200 => ?_)
  refine aw_iload_n (pc := 203) (i := 2) dX12_bookLine_203 rfl rfl ?_
  refine aw_iconst (pc := 204) dX12_bookLine_204 iconst_4 ?_
  refine an_icmp_ne (pc := 205) (tgt := 218) dX12_bookLine_205 rfl (by decide) (by decide) (fun h205 => ?_) (fun h205 => absurd h205 (by decide))
  refine aw_aload_n (pc := 218) (i := 0) dX12_bookLine_218 rfl rfl ?_
  refine aw_iconst (pc := 219) dX12_bookLine_219 iconst_0 ?_
  refine aw_aload_n (pc := 220) (i := 0) dX12_bookLine_220 rfl rfl ?_
  refine mg_s (pc := 221) dX12_bookLine_221 rfl ?_
  refine aw_iconst (pc := 224) dX12_bookLine_224 iconst_0 ?_
  refine ml_s (pc := 225) dX12_bookLine_225 (by decide) ?_
  refine aw_top (y := (nI ((nx σ).2.1 6 0))) rfl ?_
  refine mc_I (pc := 226) (As := [.int (nI 0), .int (nI ((nx σ).2.1 6 0))]) (rest := []) dX12_bookLine_226 rfl ok_X12_260 rfl rfl rfl (Nat.le_of_ble_eq_true rfl) (s_takesName (PV_blS h) (by show 0 + σ.2.1 6 0 ≤ 26; omega) ⟨_, _, rfl, rfl, ?_⟩)
  refine aw_top (y := bI (bkT (blS σ m 5)).1) rfl ?_
  refine aw_istore (pc := 229) (i := 4) dX12_bookLine_229 (Nat.le_of_ble_eq_true rfl) rfl ?_
  refine aw_iload (pc := 231) dX12_bookLine_231 rfl ?_
  refine ab_if_ne (pc := 233) (tgt := 238) dX12_bookLine_233 rfl (fun h233 => ?_) (fun h233 => ?_)
  · -- 238
    refine aw_aload_n (pc := 238) (i := 0) dX12_bookLine_238 rfl rfl ?_
    refine mg_read (pc := 239) dX12_bookLine_239 rfl ?_
    refine aw_iload_n (pc := 242) (i := 1) dX12_bookLine_242 rfl rfl ?_
    refine aw_iconst (pc := 243) dX12_bookLine_243 iconst_1 ?_
    refine an_add (pc := 244) dX12_bookLine_244 ?_
    refine aw_aload_n (pc := 245) (i := 0) dX12_bookLine_245 rfl rfl ?_
    refine mg_got (pc := 246) dX12_bookLine_246 rfl ?_
    refine aw_top (y := (nI (bkI (blS σ m 5)))) (bkT_got h233) ?_
    refine ms_read (pc := 249) dX12_bookLine_249 (by omega) ?_
    refine aw_iload_n (pc := 250) (i := 2) dX12_bookLine_250 rfl rfl ?_
    refine aw_iconst (pc := 251) dX12_bookLine_251 iconst_3 ?_
    refine an_icmp_eq (pc := 252) (tgt := 266) dX12_bookLine_252 rfl (by decide) (by decide) (fun h252 => absurd h252 (by decide)) (fun h252 => ?_)
    refine aw_iload_n (pc := 255) (i := 2) dX12_bookLine_255 rfl rfl ?_
    refine aw_iconst (pc := 256) dX12_bookLine_256 iconst_4 ?_
    refine an_icmp_eq (pc := 257) (tgt := 266) dX12_bookLine_257 rfl (by decide) (by decide) (fun h257 => absurd h257 (by decide)) (fun h257 => ?_)
    refine aw_iload_n (pc := 260) (i := 2) dX12_bookLine_260 rfl rfl ?_
    refine aw_bipush (pc := 261) dX12_bookLine_261 bipush_6 ?_
    refine an_icmp_ne (pc := 263) (tgt := 268) dX12_bookLine_263 rfl (by decide) (by decide) (fun h263 => ?_) (fun h263 => absurd h263 (by decide))
    simp only [blNF, h233, Bool.true_and, Bool.and_true, Bool.false_and, Bool.and_false, Bool.not_true, Bool.not_false, Bool.or_true, Bool.or_false, Bool.true_or, Bool.false_or, Bool.false_eq_true, Bool.true_eq_false, if_true, if_false, ite_true, ite_false, reduceIte, reduceCtorEq] at kk
    refine aw_ws (w9 := mW G.2.2.1 a (mN (bkT (blS σ m 5)).2 8 (4 * m + 1) (bkI (blS σ m 5)))) rfl ?_
    exact bl2_5 (PV_mN (PV_bkT (PV_blS h))) (by rw [show (mN (bkT (blS σ m 5)).2 8 (4 * m + 1) (bkI (blS σ m 5))).2.1 6 = (bkT (blS σ m 5)).2.2.1 6 from rfl, bkT_n]; exact hl) (by omega) kk
  · -- 236
    refine aw_iconst (pc := 236) dX12_bookLine_236 iconst_0 ?_
    exact ab_ret0 (pc := 237) dX12_bookLine_237 rfl (Nat.le_refl _) (Nat.le_refl _) (by simp only [blNF, h233, Bool.true_and, Bool.and_true, Bool.false_and, Bool.and_false, Bool.not_true, Bool.not_false, Bool.or_true, Bool.or_false, Bool.true_or, Bool.false_or, Bool.false_eq_true, Bool.true_eq_false, if_true, if_false, ite_true, ite_false, reduceIte, reduceCtorEq] at kk; exact kk)
set_option maxHeartbeats 1000000 in
set_option maxRecDepth 20000 in
theorem blT_3 {G : xG} {d : Nat} {Q : xQ} {a : Nat → Nat} {σ : mS} {m : Nat} {v3 : Int32} (h : PV σ) (hm : m < 40) (kk : Q (some (.int (bI (blTF (blS σ m 3) (4 * m) 0 11).1))) (mW G.2.2.1 a (blTF (blS σ m 3) (4 * m) 0 11).2)) : AW G MX12_bookLine (d + 3) 0 0 Q 135 [some (.ref (a 60)), some (.int (nI (4 * m))), some (.int (nI 3)), some (.int v3), none] [] (mW G.2.2.1 a σ) 0 0 := by
  refine aw_aload_n (pc := 135) (i := 0) dX12_bookLine_135 rfl rfl ?_
  refine mc_V (pc := 136) (As := []) (rest := []) dX12_bookLine_136 rfl ok_X12_204 rfl rfl rfl (Nat.le_of_ble_eq_true rfl) (s_nx h ⟨_, rfl, rfl, ?_⟩)
  refine aw_aload_n (pc := 139) (i := 0) dX12_bookLine_139 rfl rfl ?_
  refine mg_read (pc := 140) dX12_bookLine_140 rfl ?_
  refine aw_iload_n (pc := 143) (i := 1) dX12_bookLine_143 rfl rfl ?_
  refine aw_iload_n (pc := 144) (i := 2) dX12_bookLine_144 rfl rfl ?_
  refine ms_read (pc := 145) dX12_bookLine_145 (by omega) ?_
  refine aw_iload_n (pc := 146) (i := 2) dX12_bookLine_146 rfl rfl ?_
  refine an_if_ne (pc := 147) (tgt := 182) dX12_bookLine_147 rfl (by decide) (fun h147 => ?_) (fun h147 => absurd h147 (by decide))
  refine aw_iload_n (pc := 182) (i := 2) dX12_bookLine_182 rfl rfl ?_
  refine aw_bipush (pc := 183) dX12_bookLine_183 bipush_6 ?_
  refine an_icmp_ne (pc := 185) (tgt := 198) dX12_bookLine_185 rfl (by decide) (by decide) (fun h185 => ?_) (fun h185 => absurd h185 (by decide))
  refine aw_iload_n (pc := 198) (i := 2) dX12_bookLine_198 rfl rfl ?_
  refine aw_iconst (pc := 199) dX12_bookLine_199 iconst_3 ?_
  refine an_icmp_eq (pc := 200) (tgt := 208) dX12_bookLine_200 rfl (by decide) (by decide) (fun h200 => ?_) (fun h200 => absurd h200 (by decide))
  refine aw_aload_n (pc := 208) (i := 0) dX12_bookLine_208 rfl rfl ?_
  refine aw_iconst (pc := 209) dX12_bookLine_209 iconst_0 ?_
  refine aw_bipush (pc := 210) dX12_bookLine_210 bipush_11 ?_
  refine mc_I (pc := 212) (As := [.int (nI 0), .int (nI 11)]) (rest := []) dX12_bookLine_212 rfl ok_X12_214 rfl rfl rfl (Nat.le_of_ble_eq_true rfl) (s_takes (PV_blS h) ⟨_, _, rfl, rfl, ?_⟩)
  refine aw_top (y := bI (takesF (blS σ m 3) 0 11).1) rfl ?_
  refine aw_goto (pc := 215) (tgt := 229) dX12_bookLine_215 rfl ?_
  refine aw_istore (pc := 229) (i := 4) dX12_bookLine_229 (Nat.le_of_ble_eq_true rfl) rfl ?_
  refine aw_iload (pc := 231) dX12_bookLine_231 rfl ?_
  refine ab_if_ne (pc := 233) (tgt := 238) dX12_bookLine_233 rfl (fun h233 => ?_) (fun h233 => ?_)
  · -- 238
    refine aw_aload_n (pc := 238) (i := 0) dX12_bookLine_238 rfl rfl ?_
    refine mg_read (pc := 239) dX12_bookLine_239 rfl ?_
    refine aw_iload_n (pc := 242) (i := 1) dX12_bookLine_242 rfl rfl ?_
    refine aw_iconst (pc := 243) dX12_bookLine_243 iconst_1 ?_
    refine an_add (pc := 244) dX12_bookLine_244 ?_
    refine aw_aload_n (pc := 245) (i := 0) dX12_bookLine_245 rfl rfl ?_
    refine mg_got (pc := 246) dX12_bookLine_246 rfl ?_
    refine aw_top (y := (nI (numN (blS σ m 3)))) (takes_N (PV_blS h) h233) ?_
    refine ms_read (pc := 249) dX12_bookLine_249 (by omega) ?_
    refine aw_iload_n (pc := 250) (i := 2) dX12_bookLine_250 rfl rfl ?_
    refine aw_iconst (pc := 251) dX12_bookLine_251 iconst_3 ?_
    refine an_icmp_eq (pc := 252) (tgt := 266) dX12_bookLine_252 rfl (by decide) (by decide) (fun h252 => ?_) (fun h252 => absurd h252 (by decide))
    refine aw_iconst (pc := 266) dX12_bookLine_266 iconst_1 ?_
    exact ab_ret1 (pc := 267) dX12_bookLine_267 rfl (Nat.le_refl _) (Nat.le_refl _) (by simp only [blTF, h233, Bool.true_and, Bool.and_true, Bool.false_and, Bool.and_false, Bool.not_true, Bool.not_false, Bool.or_true, Bool.or_false, Bool.true_or, Bool.false_or, Bool.false_eq_true, Bool.true_eq_false, if_true, if_false, ite_true, ite_false, reduceIte, reduceCtorEq] at kk; exact kk)
  · -- 236
    refine aw_iconst (pc := 236) dX12_bookLine_236 iconst_0 ?_
    exact ab_ret0 (pc := 237) dX12_bookLine_237 rfl (Nat.le_refl _) (Nat.le_refl _) (by simp only [blTF, h233, Bool.true_and, Bool.and_true, Bool.false_and, Bool.and_false, Bool.not_true, Bool.not_false, Bool.or_true, Bool.or_false, Bool.true_or, Bool.false_or, Bool.false_eq_true, Bool.true_eq_false, if_true, if_false, ite_true, ite_false, reduceIte, reduceCtorEq] at kk; exact kk)
set_option maxHeartbeats 1000000 in
set_option maxRecDepth 20000 in
theorem blT_4 {G : xG} {d : Nat} {Q : xQ} {a : Nat → Nat} {σ : mS} {m : Nat} {v3 : Int32} (h : PV σ) (hm : m < 40) (kk : Q (some (.int (bI (blTF (blS σ m 4) (4 * m) 0 11).1))) (mW G.2.2.1 a (blTF (blS σ m 4) (4 * m) 0 11).2)) : AW G MX12_bookLine (d + 3) 0 0 Q 135 [some (.ref (a 60)), some (.int (nI (4 * m))), some (.int (nI 4)), some (.int v3), none] [] (mW G.2.2.1 a σ) 0 0 := by
  refine aw_aload_n (pc := 135) (i := 0) dX12_bookLine_135 rfl rfl ?_
  refine mc_V (pc := 136) (As := []) (rest := []) dX12_bookLine_136 rfl ok_X12_204 rfl rfl rfl (Nat.le_of_ble_eq_true rfl) (s_nx h ⟨_, rfl, rfl, ?_⟩)
  refine aw_aload_n (pc := 139) (i := 0) dX12_bookLine_139 rfl rfl ?_
  refine mg_read (pc := 140) dX12_bookLine_140 rfl ?_
  refine aw_iload_n (pc := 143) (i := 1) dX12_bookLine_143 rfl rfl ?_
  refine aw_iload_n (pc := 144) (i := 2) dX12_bookLine_144 rfl rfl ?_
  refine ms_read (pc := 145) dX12_bookLine_145 (by omega) ?_
  refine aw_iload_n (pc := 146) (i := 2) dX12_bookLine_146 rfl rfl ?_
  refine an_if_ne (pc := 147) (tgt := 182) dX12_bookLine_147 rfl (by decide) (fun h147 => ?_) (fun h147 => absurd h147 (by decide))
  refine aw_iload_n (pc := 182) (i := 2) dX12_bookLine_182 rfl rfl ?_
  refine aw_bipush (pc := 183) dX12_bookLine_183 bipush_6 ?_
  refine an_icmp_ne (pc := 185) (tgt := 198) dX12_bookLine_185 rfl (by decide) (by decide) (fun h185 => ?_) (fun h185 => absurd h185 (by decide))
  refine aw_iload_n (pc := 198) (i := 2) dX12_bookLine_198 rfl rfl ?_
  refine aw_iconst (pc := 199) dX12_bookLine_199 iconst_3 ?_
  refine an_icmp_eq (pc := 200) (tgt := 208) dX12_bookLine_200 rfl (by decide) (by decide) (fun h200 => absurd h200 (by decide)) (fun h200 => ?_)
  refine aw_iload_n (pc := 203) (i := 2) dX12_bookLine_203 rfl rfl ?_
  refine aw_iconst (pc := 204) dX12_bookLine_204 iconst_4 ?_
  refine an_icmp_ne (pc := 205) (tgt := 218) dX12_bookLine_205 rfl (by decide) (by decide) (fun h205 => absurd h205 (by decide)) (fun h205 => ?_)
  refine aw_aload_n (pc := 208) (i := 0) dX12_bookLine_208 rfl rfl ?_
  refine aw_iconst (pc := 209) dX12_bookLine_209 iconst_0 ?_
  refine aw_bipush (pc := 210) dX12_bookLine_210 bipush_11 ?_
  refine mc_I (pc := 212) (As := [.int (nI 0), .int (nI 11)]) (rest := []) dX12_bookLine_212 rfl ok_X12_214 rfl rfl rfl (Nat.le_of_ble_eq_true rfl) (s_takes (PV_blS h) ⟨_, _, rfl, rfl, ?_⟩)
  refine aw_top (y := bI (takesF (blS σ m 4) 0 11).1) rfl ?_
  refine aw_goto (pc := 215) (tgt := 229) dX12_bookLine_215 rfl ?_
  refine aw_istore (pc := 229) (i := 4) dX12_bookLine_229 (Nat.le_of_ble_eq_true rfl) rfl ?_
  refine aw_iload (pc := 231) dX12_bookLine_231 rfl ?_
  refine ab_if_ne (pc := 233) (tgt := 238) dX12_bookLine_233 rfl (fun h233 => ?_) (fun h233 => ?_)
  · -- 238
    refine aw_aload_n (pc := 238) (i := 0) dX12_bookLine_238 rfl rfl ?_
    refine mg_read (pc := 239) dX12_bookLine_239 rfl ?_
    refine aw_iload_n (pc := 242) (i := 1) dX12_bookLine_242 rfl rfl ?_
    refine aw_iconst (pc := 243) dX12_bookLine_243 iconst_1 ?_
    refine an_add (pc := 244) dX12_bookLine_244 ?_
    refine aw_aload_n (pc := 245) (i := 0) dX12_bookLine_245 rfl rfl ?_
    refine mg_got (pc := 246) dX12_bookLine_246 rfl ?_
    refine aw_top (y := (nI (numN (blS σ m 4)))) (takes_N (PV_blS h) h233) ?_
    refine ms_read (pc := 249) dX12_bookLine_249 (by omega) ?_
    refine aw_iload_n (pc := 250) (i := 2) dX12_bookLine_250 rfl rfl ?_
    refine aw_iconst (pc := 251) dX12_bookLine_251 iconst_3 ?_
    refine an_icmp_eq (pc := 252) (tgt := 266) dX12_bookLine_252 rfl (by decide) (by decide) (fun h252 => absurd h252 (by decide)) (fun h252 => ?_)
    refine aw_iload_n (pc := 255) (i := 2) dX12_bookLine_255 rfl rfl ?_
    refine aw_iconst (pc := 256) dX12_bookLine_256 iconst_4 ?_
    refine an_icmp_eq (pc := 257) (tgt := 266) dX12_bookLine_257 rfl (by decide) (by decide) (fun h257 => ?_) (fun h257 => absurd h257 (by decide))
    refine aw_iconst (pc := 266) dX12_bookLine_266 iconst_1 ?_
    exact ab_ret1 (pc := 267) dX12_bookLine_267 rfl (Nat.le_refl _) (Nat.le_refl _) (by simp only [blTF, h233, Bool.true_and, Bool.and_true, Bool.false_and, Bool.and_false, Bool.not_true, Bool.not_false, Bool.or_true, Bool.or_false, Bool.true_or, Bool.false_or, Bool.false_eq_true, Bool.true_eq_false, if_true, if_false, ite_true, ite_false, reduceIte, reduceCtorEq] at kk; exact kk)
  · -- 236
    refine aw_iconst (pc := 236) dX12_bookLine_236 iconst_0 ?_
    exact ab_ret0 (pc := 237) dX12_bookLine_237 rfl (Nat.le_refl _) (Nat.le_refl _) (by simp only [blTF, h233, Bool.true_and, Bool.and_true, Bool.false_and, Bool.and_false, Bool.not_true, Bool.not_false, Bool.or_true, Bool.or_false, Bool.true_or, Bool.false_or, Bool.false_eq_true, Bool.true_eq_false, if_true, if_false, ite_true, ite_false, reduceIte, reduceCtorEq] at kk; exact kk)
set_option maxHeartbeats 1000000 in
set_option maxRecDepth 20000 in
theorem blT_6 {G : xG} {d : Nat} {Q : xQ} {a : Nat → Nat} {σ : mS} {m : Nat} {v3 : Int32} (h : PV σ) (hm : m < 40) (kk : Q (some (.int (bI (blTF (blS σ m 6) (4 * m) 1 60).1))) (mW G.2.2.1 a (blTF (blS σ m 6) (4 * m) 1 60).2)) : AW G MX12_bookLine (d + 3) 0 0 Q 135 [some (.ref (a 60)), some (.int (nI (4 * m))), some (.int (nI 6)), some (.int v3), none] [] (mW G.2.2.1 a σ) 0 0 := by
  refine aw_aload_n (pc := 135) (i := 0) dX12_bookLine_135 rfl rfl ?_
  refine mc_V (pc := 136) (As := []) (rest := []) dX12_bookLine_136 rfl ok_X12_204 rfl rfl rfl (Nat.le_of_ble_eq_true rfl) (s_nx h ⟨_, rfl, rfl, ?_⟩)
  refine aw_aload_n (pc := 139) (i := 0) dX12_bookLine_139 rfl rfl ?_
  refine mg_read (pc := 140) dX12_bookLine_140 rfl ?_
  refine aw_iload_n (pc := 143) (i := 1) dX12_bookLine_143 rfl rfl ?_
  refine aw_iload_n (pc := 144) (i := 2) dX12_bookLine_144 rfl rfl ?_
  refine ms_read (pc := 145) dX12_bookLine_145 (by omega) ?_
  refine aw_iload_n (pc := 146) (i := 2) dX12_bookLine_146 rfl rfl ?_
  refine an_if_ne (pc := 147) (tgt := 182) dX12_bookLine_147 rfl (by decide) (fun h147 => ?_) (fun h147 => absurd h147 (by decide))
  refine aw_iload_n (pc := 182) (i := 2) dX12_bookLine_182 rfl rfl ?_
  refine aw_bipush (pc := 183) dX12_bookLine_183 bipush_6 ?_
  refine an_icmp_ne (pc := 185) (tgt := 198) dX12_bookLine_185 rfl (by decide) (by decide) (fun h185 => absurd h185 (by decide)) (fun h185 => ?_)
  refine aw_aload_n (pc := 188) (i := 0) dX12_bookLine_188 rfl rfl ?_
  refine aw_iconst (pc := 189) dX12_bookLine_189 iconst_1 ?_
  refine aw_bipush (pc := 190) dX12_bookLine_190 bipush_60 ?_
  refine mc_I (pc := 192) (As := [.int (nI 1), .int (nI 60)]) (rest := []) dX12_bookLine_192 rfl ok_X12_214 rfl rfl rfl (Nat.le_of_ble_eq_true rfl) (s_takes (PV_blS h) ⟨_, _, rfl, rfl, ?_⟩)
  refine aw_top (y := bI (takesF (blS σ m 6) 1 60).1) rfl ?_
  refine aw_goto (pc := 195) (tgt := 229) dX12_bookLine_195 rfl ?_
  refine aw_istore (pc := 229) (i := 4) dX12_bookLine_229 (Nat.le_of_ble_eq_true rfl) rfl ?_
  refine aw_iload (pc := 231) dX12_bookLine_231 rfl ?_
  refine ab_if_ne (pc := 233) (tgt := 238) dX12_bookLine_233 rfl (fun h233 => ?_) (fun h233 => ?_)
  · -- 238
    refine aw_aload_n (pc := 238) (i := 0) dX12_bookLine_238 rfl rfl ?_
    refine mg_read (pc := 239) dX12_bookLine_239 rfl ?_
    refine aw_iload_n (pc := 242) (i := 1) dX12_bookLine_242 rfl rfl ?_
    refine aw_iconst (pc := 243) dX12_bookLine_243 iconst_1 ?_
    refine an_add (pc := 244) dX12_bookLine_244 ?_
    refine aw_aload_n (pc := 245) (i := 0) dX12_bookLine_245 rfl rfl ?_
    refine mg_got (pc := 246) dX12_bookLine_246 rfl ?_
    refine aw_top (y := (nI (numN (blS σ m 6)))) (takes_N (PV_blS h) h233) ?_
    refine ms_read (pc := 249) dX12_bookLine_249 (by omega) ?_
    refine aw_iload_n (pc := 250) (i := 2) dX12_bookLine_250 rfl rfl ?_
    refine aw_iconst (pc := 251) dX12_bookLine_251 iconst_3 ?_
    refine an_icmp_eq (pc := 252) (tgt := 266) dX12_bookLine_252 rfl (by decide) (by decide) (fun h252 => absurd h252 (by decide)) (fun h252 => ?_)
    refine aw_iload_n (pc := 255) (i := 2) dX12_bookLine_255 rfl rfl ?_
    refine aw_iconst (pc := 256) dX12_bookLine_256 iconst_4 ?_
    refine an_icmp_eq (pc := 257) (tgt := 266) dX12_bookLine_257 rfl (by decide) (by decide) (fun h257 => absurd h257 (by decide)) (fun h257 => ?_)
    refine aw_iload_n (pc := 260) (i := 2) dX12_bookLine_260 rfl rfl ?_
    refine aw_bipush (pc := 261) dX12_bookLine_261 bipush_6 ?_
    refine an_icmp_ne (pc := 263) (tgt := 268) dX12_bookLine_263 rfl (by decide) (by decide) (fun h263 => absurd h263 (by decide)) (fun h263 => ?_)
    refine aw_iconst (pc := 266) dX12_bookLine_266 iconst_1 ?_
    exact ab_ret1 (pc := 267) dX12_bookLine_267 rfl (Nat.le_refl _) (Nat.le_refl _) (by simp only [blTF, h233, Bool.true_and, Bool.and_true, Bool.false_and, Bool.and_false, Bool.not_true, Bool.not_false, Bool.or_true, Bool.or_false, Bool.true_or, Bool.false_or, Bool.false_eq_true, Bool.true_eq_false, if_true, if_false, ite_true, ite_false, reduceIte, reduceCtorEq] at kk; exact kk)
  · -- 236
    refine aw_iconst (pc := 236) dX12_bookLine_236 iconst_0 ?_
    exact ab_ret0 (pc := 237) dX12_bookLine_237 rfl (Nat.le_refl _) (Nat.le_refl _) (by simp only [blTF, h233, Bool.true_and, Bool.and_true, Bool.false_and, Bool.and_false, Bool.not_true, Bool.not_false, Bool.or_true, Bool.or_false, Bool.true_or, Bool.false_or, Bool.false_eq_true, Bool.true_eq_false, if_true, if_false, ite_true, ite_false, reduceIte, reduceCtorEq] at kk; exact kk)
set_option maxHeartbeats 1000000 in
set_option maxRecDepth 20000 in
theorem s_bookLine {G : xG} {d : Nat} {Q : xQ} {a : Nat → Nat} {σ : mS} {m : Nat} (h : PV σ) (hl : σ.2.1 6 0 ≤ 7) (hp : σ.2.1 6 2 ≤ 6) (hmm : σ.1 47 = nI m) (hm : m ≤ 40) (kk : Q (some (.int (bI (bookLineF σ m).1))) (mW G.2.2.1 a (bookLineF σ m).2)) : MT G MX12_bookLine (d + 3) 0 0 [.ref (a 60)] (mW G.2.2.1 a σ) Q := by
  refine mt_start (L := [some (.ref (a 60)), none, none, none, none]) rfl (Nat.le_of_ble_eq_true rfl) rfl ?_
  refine aw_iconst (pc := 0) dX12_bookLine_0 iconst_4 ?_
  refine aw_aload_n (pc := 1) (i := 0) dX12_bookLine_1 rfl rfl ?_
  refine mg_toldMany (pc := 2) dX12_bookLine_2 rfl ?_
  refine aw_top (y := (nI m)) hmm ?_
  refine an_mul (pc := 5) dX12_bookLine_5 ?_
  refine aw_istore_n (pc := 6) (i := 1) dX12_bookLine_6 rfl (Nat.le_of_ble_eq_true rfl) rfl ?_
  refine aw_aload_n (pc := 7) (i := 0) dX12_bookLine_7 rfl rfl ?_
  refine aw_ldc2 (pc := 8) dX12_bookLine_8 tw_1387 ?_
  refine mc_I (pc := 11) (As := [.long ((1885430644 : Int64))]) (rest := []) dX12_bookLine_11 rfl ok_X12_229 rfl rfl rfl (Nat.le_of_ble_eq_true rfl) (s_isWord ⟨_, _, rfl, rfl, ?_⟩)
  refine ab_if_eq (pc := 14) (tgt := 21) dX12_bookLine_14 rfl (fun h14 => ?_) (fun h14 => ?_)
  · -- 21
    refine aw_aload_n (pc := 21) (i := 0) dX12_bookLine_21 rfl rfl ?_
    refine aw_ldc2 (pc := 22) dX12_bookLine_22 tw_1388 ?_
    refine mc_I (pc := 25) (As := [.long ((422826041707 : Int64))]) (rest := []) dX12_bookLine_25 rfl ok_X12_229 rfl rfl rfl (Nat.le_of_ble_eq_true rfl) (s_isWord ⟨_, _, rfl, rfl, ?_⟩)
    refine ab_if_eq (pc := 28) (tgt := 35) dX12_bookLine_28 rfl (fun h28 => ?_) (fun h28 => ?_)
    · -- 35
      refine aw_aload_n (pc := 35) (i := 0) dX12_bookLine_35 rfl rfl ?_
      refine aw_ldc2 (pc := 36) dX12_bookLine_36 tw_1389 ?_
      refine mc_I (pc := 39) (As := [.long ((427021005669 : Int64))]) (rest := []) dX12_bookLine_39 rfl ok_X12_229 rfl rfl rfl (Nat.le_of_ble_eq_true rfl) (s_isWord ⟨_, _, rfl, rfl, ?_⟩)
      refine ab_if_eq (pc := 42) (tgt := 49) dX12_bookLine_42 rfl (fun h42 => ?_) (fun h42 => ?_)
      · -- 49
        refine aw_aload_n (pc := 49) (i := 0) dX12_bookLine_49 rfl rfl ?_
        refine aw_ldc2 (pc := 50) dX12_bookLine_50 tw_1390 ?_
        refine mc_I (pc := 53) (As := [.long ((1869636974 : Int64))]) (rest := []) dX12_bookLine_53 rfl ok_X12_229 rfl rfl rfl (Nat.le_of_ble_eq_true rfl) (s_isWord ⟨_, _, rfl, rfl, ?_⟩)
        refine ab_if_eq (pc := 56) (tgt := 63) dX12_bookLine_56 rfl (fun h56 => ?_) (fun h56 => ?_)
        · -- 63
          refine aw_aload_n (pc := 63) (i := 0) dX12_bookLine_63 rfl rfl ?_
          refine aw_ldc2 (pc := 64) dX12_bookLine_64 tw_1391 ?_
          refine mc_I (pc := 67) (As := [.long ((1818586724 : Int64))]) (rest := []) dX12_bookLine_67 rfl ok_X12_229 rfl rfl rfl (Nat.le_of_ble_eq_true rfl) (s_isWord ⟨_, _, rfl, rfl, ?_⟩)
          refine ab_if_eq (pc := 70) (tgt := 77) dX12_bookLine_70 rfl (fun h70 => ?_) (fun h70 => ?_)
          · -- 77
            refine aw_aload_n (pc := 77) (i := 0) dX12_bookLine_77 rfl rfl ?_
            refine aw_ldc2 (pc := 78) dX12_bookLine_78 tw_1392 ?_
            refine mc_I (pc := 81) (As := [.long ((6578553 : Int64))]) (rest := []) dX12_bookLine_81 rfl ok_X12_229 rfl rfl rfl (Nat.le_of_ble_eq_true rfl) (s_isWord ⟨_, _, rfl, rfl, ?_⟩)
            refine ab_if_eq (pc := 84) (tgt := 92) dX12_bookLine_84 rfl (fun h84 => ?_) (fun h84 => ?_)
            · -- 92
              refine aw_iconst (pc := 92) dX12_bookLine_92 iconst_0 ?_
              refine aw_istore_n (pc := 93) (i := 2) dX12_bookLine_93 rfl (Nat.le_of_ble_eq_true rfl) rfl ?_
              refine aw_iload_n (pc := 94) (i := 2) dX12_bookLine_94 rfl rfl ?_
              refine an_if_ne (pc := 95) (tgt := 115) dX12_bookLine_95 rfl (by decide) (fun h95 => absurd h95 (by decide)) (fun h95 => ?_)
              refine aw_aload_n (pc := 98) (i := 0) dX12_bookLine_98 rfl rfl ?_
              refine aw_bipush (pc := 99) dX12_bookLine_99 bipush_7 ?_
              refine aw_aload_n (pc := 101) (i := 0) dX12_bookLine_101 rfl rfl ?_
              refine mg_s (pc := 102) dX12_bookLine_102 rfl ?_
              refine aw_iconst (pc := 105) dX12_bookLine_105 iconst_2 ?_
              refine ml_s (pc := 106) dX12_bookLine_106 (by decide) ?_
              refine mc_I (pc := 107) (As := [.int (nI 7), .int (nI (σ.2.1 6 2))]) (rest := []) dX12_bookLine_107 rfl ok_X12_226 rfl rfl rfl (Nat.le_of_ble_eq_true rfl) (s_looksAt (by omega) ⟨_, _, rfl, rfl, ?_⟩)
              refine aw_top (y := bI (blA σ).1) rfl ?_
              refine ab_if_ne (pc := 110) (tgt := 115) dX12_bookLine_110 rfl (fun h110 => ?_) (fun h110 => ?_)
              · -- 115
                refine aw_aload_n (pc := 115) (i := 0) dX12_bookLine_115 rfl rfl ?_
                refine mg_toldMany (pc := 116) dX12_bookLine_116 rfl ?_
                refine aw_top (y := (nI m)) ((looks_sc h110 (by decide)).trans hmm) ?_
                refine aw_bipush (pc := 119) dX12_bookLine_119 bipush_40 ?_
                refine an_icmp_ne (pc := 121) (tgt := 130) dX12_bookLine_121 rfl (by omega) (by decide) (fun h121 => ?_) (fun h121 => ?_)
                · -- 130
                  refine aw_aload_n (pc := 130) (i := 0) dX12_bookLine_130 rfl rfl ?_
                  refine mg_got (pc := 131) dX12_bookLine_131 rfl ?_
                  refine aw_top (y := (nI (blQ σ))) (looks_got h110) ?_
                  refine aw_istore_n (pc := 134) (i := 3) dX12_bookLine_134 rfl (Nat.le_of_ble_eq_true rfl) rfl ?_
                  refine aw_aload_n (pc := 135) (i := 0) dX12_bookLine_135 rfl rfl ?_
                  refine mc_V (pc := 136) (As := []) (rest := []) dX12_bookLine_136 rfl ok_X12_204 rfl rfl rfl (Nat.le_of_ble_eq_true rfl) (s_nx (PV_looks h) ⟨_, rfl, rfl, ?_⟩)
                  refine aw_aload_n (pc := 139) (i := 0) dX12_bookLine_139 rfl rfl ?_
                  refine mg_read (pc := 140) dX12_bookLine_140 rfl ?_
                  refine aw_iload_n (pc := 143) (i := 1) dX12_bookLine_143 rfl rfl ?_
                  refine aw_iload_n (pc := 144) (i := 2) dX12_bookLine_144 rfl rfl ?_
                  refine ms_read (pc := 145) dX12_bookLine_145 (by omega) ?_
                  refine aw_iload_n (pc := 146) (i := 2) dX12_bookLine_146 rfl rfl ?_
                  refine an_if_ne (pc := 147) (tgt := 182) dX12_bookLine_147 rfl (by decide) (fun h147 => absurd h147 (by decide)) (fun h147 => ?_)
                  refine aw_aload_n (pc := 150) (i := 0) dX12_bookLine_150 rfl rfl ?_
                  refine aw_ldc2 (pc := 151) dX12_bookLine_151 tw_1386 ?_
                  refine mc_I (pc := 154) (As := [.long ((27991845698233715 : Int64))]) (rest := []) dX12_bookLine_154 rfl ok_X12_229 rfl rfl rfl (Nat.le_of_ble_eq_true rfl) (s_isWord ⟨_, _, rfl, rfl, ?_⟩)
                  refine aw_top (y := bI (isWordB (blS (blA σ).2 m 0) ((27991845698233715 : Int64)))) rfl ?_
                  refine ab_if_ne (pc := 157) (tgt := 166) dX12_bookLine_157 rfl (fun h157 => ?_) (fun h157 => ?_)
                  · -- 166
                    refine aw_aload_n (pc := 166) (i := 0) dX12_bookLine_166 rfl rfl ?_
                    refine mc_V (pc := 167) (As := []) (rest := []) dX12_bookLine_167 rfl ok_X12_204 rfl rfl rfl (Nat.le_of_ble_eq_true rfl) (s_nx (PV_blS (PV_looks h)) ⟨_, rfl, rfl, ?_⟩)
                    refine aw_aload_n (pc := 170) (i := 0) dX12_bookLine_170 rfl rfl ?_
                    refine mg_read (pc := 171) dX12_bookLine_171 rfl ?_
                    refine aw_iload_n (pc := 174) (i := 1) dX12_bookLine_174 rfl rfl ?_
                    refine aw_iconst (pc := 175) dX12_bookLine_175 iconst_1 ?_
                    refine an_add (pc := 176) dX12_bookLine_176 ?_
                    refine aw_iload_n (pc := 177) (i := 3) dX12_bookLine_177 rfl rfl ?_
                    refine ms_read (pc := 178) dX12_bookLine_178 (by omega) ?_
                    refine aw_goto (pc := 179) (tgt := 250) dX12_bookLine_179 rfl ?_
                    refine aw_iload_n (pc := 250) (i := 2) dX12_bookLine_250 rfl rfl ?_
                    refine aw_iconst (pc := 251) dX12_bookLine_251 iconst_3 ?_
                    refine an_icmp_eq (pc := 252) (tgt := 266) dX12_bookLine_252 rfl (by decide) (by decide) (fun h252 => absurd h252 (by decide)) (fun h252 => ?_)
                    refine aw_iload_n (pc := 255) (i := 2) dX12_bookLine_255 rfl rfl ?_
                    refine aw_iconst (pc := 256) dX12_bookLine_256 iconst_4 ?_
                    refine an_icmp_eq (pc := 257) (tgt := 266) dX12_bookLine_257 rfl (by decide) (by decide) (fun h257 => absurd h257 (by decide)) (fun h257 => ?_)
                    refine aw_iload_n (pc := 260) (i := 2) dX12_bookLine_260 rfl rfl ?_
                    refine aw_bipush (pc := 261) dX12_bookLine_261 bipush_6 ?_
                    refine an_icmp_ne (pc := 263) (tgt := 268) dX12_bookLine_263 rfl (by decide) (by decide) (fun h263 => ?_) (fun h263 => absurd h263 (by decide))
                    simp only [bookLineF, blCF, h14, h28, h42, h56, h70, h84, h110, if_neg h121, h157, Bool.true_and, Bool.and_true, Bool.false_and, Bool.and_false, Bool.not_true, Bool.not_false, Bool.or_true, Bool.or_false, Bool.true_or, Bool.false_or, Bool.false_eq_true, Bool.true_eq_false, if_true, if_false, ite_true, ite_false, reduceIte, reduceCtorEq] at kk
                    exact bl2_0 (PV_mN (PV_nx (PV_blS (PV_looks h)))) (by show (looksF σ 7 (σ.2.1 6 2)).2.2.1 6 0 ≤ 7; rw [looks_n]; exact hl) (by omega) kk
                  · -- 160
                    refine aw_aload_n (pc := 160) (i := 0) dX12_bookLine_160 rfl rfl ?_
                    refine aw_iconst (pc := 161) dX12_bookLine_161 iconst_1 ?_
                    refine mc_I (pc := 162) (As := [.int (nI 1)]) (rest := []) dX12_bookLine_162 rfl ok_X12_201 rfl rfl rfl (Nat.le_of_ble_eq_true rfl) (s_bad ⟨_, _, rfl, rfl, ?_⟩)
                    exact ab_ret (pc := 165) dX12_bookLine_165 rfl (Nat.le_refl _) (Nat.le_refl _) (by simp only [bookLineF, blCF, h14, h28, h42, h56, h70, h84, h110, h157, if_neg h121, Bool.true_and, Bool.and_true, Bool.false_and, Bool.and_false, Bool.not_true, Bool.not_false, Bool.or_true, Bool.or_false, Bool.true_or, Bool.false_or, Bool.false_eq_true, Bool.true_eq_false, if_true, if_false, ite_true, ite_false, reduceIte, reduceCtorEq] at kk; exact kk)
                · -- 124
                  refine aw_aload_n (pc := 124) (i := 0) dX12_bookLine_124 rfl rfl ?_
                  refine aw_iconst (pc := 125) dX12_bookLine_125 iconst_4 ?_
                  refine mc_I (pc := 126) (As := [.int (nI 4)]) (rest := []) dX12_bookLine_126 rfl ok_X12_201 rfl rfl rfl (Nat.le_of_ble_eq_true rfl) (s_bad ⟨_, _, rfl, rfl, ?_⟩)
                  exact ab_ret (pc := 129) dX12_bookLine_129 rfl (Nat.le_refl _) (Nat.le_refl _) (by simp only [bookLineF, blCF, h14, h28, h42, h56, h70, h84, h110, if_pos h121, Bool.true_and, Bool.and_true, Bool.false_and, Bool.and_false, Bool.not_true, Bool.not_false, Bool.or_true, Bool.or_false, Bool.true_or, Bool.false_or, Bool.false_eq_true, Bool.true_eq_false, if_true, if_false, ite_true, ite_false, reduceIte, reduceCtorEq] at kk; exact kk)
              · -- 113
                refine aw_iconst (pc := 113) dX12_bookLine_113 iconst_0 ?_
                exact ab_ret0 (pc := 114) dX12_bookLine_114 rfl (Nat.le_refl _) (Nat.le_refl _) (by simp only [bookLineF, blCF, h14, h28, h42, h56, h70, h84, h110, Bool.true_and, Bool.and_true, Bool.false_and, Bool.and_false, Bool.not_true, Bool.not_false, Bool.or_true, Bool.or_false, Bool.true_or, Bool.false_or, Bool.false_eq_true, Bool.true_eq_false, if_true, if_false, ite_true, ite_false, reduceIte, reduceCtorEq] at kk; exact kk)
            · -- 87
              refine aw_bipush (pc := 87) dX12_bookLine_87 bipush_6 ?_
              refine aw_goto (pc := 89) (tgt := 93) dX12_bookLine_89 rfl ?_
              refine aw_istore_n (pc := 93) (i := 2) dX12_bookLine_93 rfl (Nat.le_of_ble_eq_true rfl) rfl ?_
              refine aw_iload_n (pc := 94) (i := 2) dX12_bookLine_94 rfl rfl ?_
              refine an_if_ne (pc := 95) (tgt := 115) dX12_bookLine_95 rfl (by decide) (fun h95 => ?_) (fun h95 => absurd h95 (by decide))
              refine aw_aload_n (pc := 115) (i := 0) dX12_bookLine_115 rfl rfl ?_
              refine mg_toldMany (pc := 116) dX12_bookLine_116 rfl ?_
              refine aw_top (y := (nI m)) hmm ?_
              refine aw_bipush (pc := 119) dX12_bookLine_119 bipush_40 ?_
              refine an_icmp_ne (pc := 121) (tgt := 130) dX12_bookLine_121 rfl (by omega) (by decide) (fun h121 => ?_) (fun h121 => ?_)
              · -- 130
                refine aw_aload_n (pc := 130) (i := 0) dX12_bookLine_130 rfl rfl ?_
                refine mg_got (pc := 131) dX12_bookLine_131 rfl ?_
                refine aw_istore_n (pc := 134) (i := 3) dX12_bookLine_134 rfl (Nat.le_of_ble_eq_true rfl) rfl ?_
                simp only [bookLineF, blGT, h14, h28, h42, h56, h70, h84, if_neg h121, Bool.true_and, Bool.and_true, Bool.false_and, Bool.and_false, Bool.not_true, Bool.not_false, Bool.or_true, Bool.or_false, Bool.true_or, Bool.false_or, Bool.false_eq_true, Bool.true_eq_false, if_true, if_false, ite_true, ite_false, reduceIte, reduceCtorEq] at kk
                exact blT_6 h (by omega) kk
              · -- 124
                refine aw_aload_n (pc := 124) (i := 0) dX12_bookLine_124 rfl rfl ?_
                refine aw_iconst (pc := 125) dX12_bookLine_125 iconst_4 ?_
                refine mc_I (pc := 126) (As := [.int (nI 4)]) (rest := []) dX12_bookLine_126 rfl ok_X12_201 rfl rfl rfl (Nat.le_of_ble_eq_true rfl) (s_bad ⟨_, _, rfl, rfl, ?_⟩)
                exact ab_ret (pc := 129) dX12_bookLine_129 rfl (Nat.le_refl _) (Nat.le_refl _) (by simp only [bookLineF, blGT, h14, h28, h42, h56, h70, h84, if_pos h121, Bool.true_and, Bool.and_true, Bool.false_and, Bool.and_false, Bool.not_true, Bool.not_false, Bool.or_true, Bool.or_false, Bool.true_or, Bool.false_or, Bool.false_eq_true, Bool.true_eq_false, if_true, if_false, ite_true, ite_false, reduceIte, reduceCtorEq] at kk; exact kk)
          · -- 73
            refine aw_iconst (pc := 73) dX12_bookLine_73 iconst_5 ?_
            refine aw_goto (pc := 74) (tgt := 93) dX12_bookLine_74 rfl ?_
            refine aw_istore_n (pc := 93) (i := 2) dX12_bookLine_93 rfl (Nat.le_of_ble_eq_true rfl) rfl ?_
            refine aw_iload_n (pc := 94) (i := 2) dX12_bookLine_94 rfl rfl ?_
            refine an_if_ne (pc := 95) (tgt := 115) dX12_bookLine_95 rfl (by decide) (fun h95 => ?_) (fun h95 => absurd h95 (by decide))
            refine aw_aload_n (pc := 115) (i := 0) dX12_bookLine_115 rfl rfl ?_
            refine mg_toldMany (pc := 116) dX12_bookLine_116 rfl ?_
            refine aw_top (y := (nI m)) hmm ?_
            refine aw_bipush (pc := 119) dX12_bookLine_119 bipush_40 ?_
            refine an_icmp_ne (pc := 121) (tgt := 130) dX12_bookLine_121 rfl (by omega) (by decide) (fun h121 => ?_) (fun h121 => ?_)
            · -- 130
              refine aw_aload_n (pc := 130) (i := 0) dX12_bookLine_130 rfl rfl ?_
              refine mg_got (pc := 131) dX12_bookLine_131 rfl ?_
              refine aw_istore_n (pc := 134) (i := 3) dX12_bookLine_134 rfl (Nat.le_of_ble_eq_true rfl) rfl ?_
              simp only [bookLineF, blGN, h14, h28, h42, h56, h70, if_neg h121, Bool.true_and, Bool.and_true, Bool.false_and, Bool.and_false, Bool.not_true, Bool.not_false, Bool.or_true, Bool.or_false, Bool.true_or, Bool.false_or, Bool.false_eq_true, Bool.true_eq_false, if_true, if_false, ite_true, ite_false, reduceIte, reduceCtorEq] at kk
              exact blN_5 h hl (by omega) kk
            · -- 124
              refine aw_aload_n (pc := 124) (i := 0) dX12_bookLine_124 rfl rfl ?_
              refine aw_iconst (pc := 125) dX12_bookLine_125 iconst_4 ?_
              refine mc_I (pc := 126) (As := [.int (nI 4)]) (rest := []) dX12_bookLine_126 rfl ok_X12_201 rfl rfl rfl (Nat.le_of_ble_eq_true rfl) (s_bad ⟨_, _, rfl, rfl, ?_⟩)
              exact ab_ret (pc := 129) dX12_bookLine_129 rfl (Nat.le_refl _) (Nat.le_refl _) (by simp only [bookLineF, blGN, h14, h28, h42, h56, h70, if_pos h121, Bool.true_and, Bool.and_true, Bool.false_and, Bool.and_false, Bool.not_true, Bool.not_false, Bool.or_true, Bool.or_false, Bool.true_or, Bool.false_or, Bool.false_eq_true, Bool.true_eq_false, if_true, if_false, ite_true, ite_false, reduceIte, reduceCtorEq] at kk; exact kk)
        · -- 59
          refine aw_iconst (pc := 59) dX12_bookLine_59 iconst_4 ?_
          refine aw_goto (pc := 60) (tgt := 93) dX12_bookLine_60 rfl ?_
          refine aw_istore_n (pc := 93) (i := 2) dX12_bookLine_93 rfl (Nat.le_of_ble_eq_true rfl) rfl ?_
          refine aw_iload_n (pc := 94) (i := 2) dX12_bookLine_94 rfl rfl ?_
          refine an_if_ne (pc := 95) (tgt := 115) dX12_bookLine_95 rfl (by decide) (fun h95 => ?_) (fun h95 => absurd h95 (by decide))
          refine aw_aload_n (pc := 115) (i := 0) dX12_bookLine_115 rfl rfl ?_
          refine mg_toldMany (pc := 116) dX12_bookLine_116 rfl ?_
          refine aw_top (y := (nI m)) hmm ?_
          refine aw_bipush (pc := 119) dX12_bookLine_119 bipush_40 ?_
          refine an_icmp_ne (pc := 121) (tgt := 130) dX12_bookLine_121 rfl (by omega) (by decide) (fun h121 => ?_) (fun h121 => ?_)
          · -- 130
            refine aw_aload_n (pc := 130) (i := 0) dX12_bookLine_130 rfl rfl ?_
            refine mg_got (pc := 131) dX12_bookLine_131 rfl ?_
            refine aw_istore_n (pc := 134) (i := 3) dX12_bookLine_134 rfl (Nat.le_of_ble_eq_true rfl) rfl ?_
            simp only [bookLineF, blGT, h14, h28, h42, h56, if_neg h121, Bool.true_and, Bool.and_true, Bool.false_and, Bool.and_false, Bool.not_true, Bool.not_false, Bool.or_true, Bool.or_false, Bool.true_or, Bool.false_or, Bool.false_eq_true, Bool.true_eq_false, if_true, if_false, ite_true, ite_false, reduceIte, reduceCtorEq] at kk
            exact blT_4 h (by omega) kk
          · -- 124
            refine aw_aload_n (pc := 124) (i := 0) dX12_bookLine_124 rfl rfl ?_
            refine aw_iconst (pc := 125) dX12_bookLine_125 iconst_4 ?_
            refine mc_I (pc := 126) (As := [.int (nI 4)]) (rest := []) dX12_bookLine_126 rfl ok_X12_201 rfl rfl rfl (Nat.le_of_ble_eq_true rfl) (s_bad ⟨_, _, rfl, rfl, ?_⟩)
            exact ab_ret (pc := 129) dX12_bookLine_129 rfl (Nat.le_refl _) (Nat.le_refl _) (by simp only [bookLineF, blGT, h14, h28, h42, h56, if_pos h121, Bool.true_and, Bool.and_true, Bool.false_and, Bool.and_false, Bool.not_true, Bool.not_false, Bool.or_true, Bool.or_false, Bool.true_or, Bool.false_or, Bool.false_eq_true, Bool.true_eq_false, if_true, if_false, ite_true, ite_false, reduceIte, reduceCtorEq] at kk; exact kk)
      · -- 45
        refine aw_iconst (pc := 45) dX12_bookLine_45 iconst_3 ?_
        refine aw_goto (pc := 46) (tgt := 93) dX12_bookLine_46 rfl ?_
        refine aw_istore_n (pc := 93) (i := 2) dX12_bookLine_93 rfl (Nat.le_of_ble_eq_true rfl) rfl ?_
        refine aw_iload_n (pc := 94) (i := 2) dX12_bookLine_94 rfl rfl ?_
        refine an_if_ne (pc := 95) (tgt := 115) dX12_bookLine_95 rfl (by decide) (fun h95 => ?_) (fun h95 => absurd h95 (by decide))
        refine aw_aload_n (pc := 115) (i := 0) dX12_bookLine_115 rfl rfl ?_
        refine mg_toldMany (pc := 116) dX12_bookLine_116 rfl ?_
        refine aw_top (y := (nI m)) hmm ?_
        refine aw_bipush (pc := 119) dX12_bookLine_119 bipush_40 ?_
        refine an_icmp_ne (pc := 121) (tgt := 130) dX12_bookLine_121 rfl (by omega) (by decide) (fun h121 => ?_) (fun h121 => ?_)
        · -- 130
          refine aw_aload_n (pc := 130) (i := 0) dX12_bookLine_130 rfl rfl ?_
          refine mg_got (pc := 131) dX12_bookLine_131 rfl ?_
          refine aw_istore_n (pc := 134) (i := 3) dX12_bookLine_134 rfl (Nat.le_of_ble_eq_true rfl) rfl ?_
          simp only [bookLineF, blGT, h14, h28, h42, if_neg h121, Bool.true_and, Bool.and_true, Bool.false_and, Bool.and_false, Bool.not_true, Bool.not_false, Bool.or_true, Bool.or_false, Bool.true_or, Bool.false_or, Bool.false_eq_true, Bool.true_eq_false, if_true, if_false, ite_true, ite_false, reduceIte, reduceCtorEq] at kk
          exact blT_3 h (by omega) kk
        · -- 124
          refine aw_aload_n (pc := 124) (i := 0) dX12_bookLine_124 rfl rfl ?_
          refine aw_iconst (pc := 125) dX12_bookLine_125 iconst_4 ?_
          refine mc_I (pc := 126) (As := [.int (nI 4)]) (rest := []) dX12_bookLine_126 rfl ok_X12_201 rfl rfl rfl (Nat.le_of_ble_eq_true rfl) (s_bad ⟨_, _, rfl, rfl, ?_⟩)
          exact ab_ret (pc := 129) dX12_bookLine_129 rfl (Nat.le_refl _) (Nat.le_refl _) (by simp only [bookLineF, blGT, h14, h28, h42, if_pos h121, Bool.true_and, Bool.and_true, Bool.false_and, Bool.and_false, Bool.not_true, Bool.not_false, Bool.or_true, Bool.or_false, Bool.true_or, Bool.false_or, Bool.false_eq_true, Bool.true_eq_false, if_true, if_false, ite_true, ite_false, reduceIte, reduceCtorEq] at kk; exact kk)
    · -- 31
      refine aw_iconst (pc := 31) dX12_bookLine_31 iconst_2 ?_
      refine aw_goto (pc := 32) (tgt := 93) dX12_bookLine_32 rfl ?_
      refine aw_istore_n (pc := 93) (i := 2) dX12_bookLine_93 rfl (Nat.le_of_ble_eq_true rfl) rfl ?_
      refine aw_iload_n (pc := 94) (i := 2) dX12_bookLine_94 rfl rfl ?_
      refine an_if_ne (pc := 95) (tgt := 115) dX12_bookLine_95 rfl (by decide) (fun h95 => ?_) (fun h95 => absurd h95 (by decide))
      refine aw_aload_n (pc := 115) (i := 0) dX12_bookLine_115 rfl rfl ?_
      refine mg_toldMany (pc := 116) dX12_bookLine_116 rfl ?_
      refine aw_top (y := (nI m)) hmm ?_
      refine aw_bipush (pc := 119) dX12_bookLine_119 bipush_40 ?_
      refine an_icmp_ne (pc := 121) (tgt := 130) dX12_bookLine_121 rfl (by omega) (by decide) (fun h121 => ?_) (fun h121 => ?_)
      · -- 130
        refine aw_aload_n (pc := 130) (i := 0) dX12_bookLine_130 rfl rfl ?_
        refine mg_got (pc := 131) dX12_bookLine_131 rfl ?_
        refine aw_istore_n (pc := 134) (i := 3) dX12_bookLine_134 rfl (Nat.le_of_ble_eq_true rfl) rfl ?_
        simp only [bookLineF, blGN, h14, h28, if_neg h121, Bool.true_and, Bool.and_true, Bool.false_and, Bool.and_false, Bool.not_true, Bool.not_false, Bool.or_true, Bool.or_false, Bool.true_or, Bool.false_or, Bool.false_eq_true, Bool.true_eq_false, if_true, if_false, ite_true, ite_false, reduceIte, reduceCtorEq] at kk
        exact blN_2 h hl (by omega) kk
      · -- 124
        refine aw_aload_n (pc := 124) (i := 0) dX12_bookLine_124 rfl rfl ?_
        refine aw_iconst (pc := 125) dX12_bookLine_125 iconst_4 ?_
        refine mc_I (pc := 126) (As := [.int (nI 4)]) (rest := []) dX12_bookLine_126 rfl ok_X12_201 rfl rfl rfl (Nat.le_of_ble_eq_true rfl) (s_bad ⟨_, _, rfl, rfl, ?_⟩)
        exact ab_ret (pc := 129) dX12_bookLine_129 rfl (Nat.le_refl _) (Nat.le_refl _) (by simp only [bookLineF, blGN, h14, h28, if_pos h121, Bool.true_and, Bool.and_true, Bool.false_and, Bool.and_false, Bool.not_true, Bool.not_false, Bool.or_true, Bool.or_false, Bool.true_or, Bool.false_or, Bool.false_eq_true, Bool.true_eq_false, if_true, if_false, ite_true, ite_false, reduceIte, reduceCtorEq] at kk; exact kk)
  · -- 17
    refine aw_iconst (pc := 17) dX12_bookLine_17 iconst_1 ?_
    refine aw_goto (pc := 18) (tgt := 93) dX12_bookLine_18 rfl ?_
    refine aw_istore_n (pc := 93) (i := 2) dX12_bookLine_93 rfl (Nat.le_of_ble_eq_true rfl) rfl ?_
    refine aw_iload_n (pc := 94) (i := 2) dX12_bookLine_94 rfl rfl ?_
    refine an_if_ne (pc := 95) (tgt := 115) dX12_bookLine_95 rfl (by decide) (fun h95 => ?_) (fun h95 => absurd h95 (by decide))
    refine aw_aload_n (pc := 115) (i := 0) dX12_bookLine_115 rfl rfl ?_
    refine mg_toldMany (pc := 116) dX12_bookLine_116 rfl ?_
    refine aw_top (y := (nI m)) hmm ?_
    refine aw_bipush (pc := 119) dX12_bookLine_119 bipush_40 ?_
    refine an_icmp_ne (pc := 121) (tgt := 130) dX12_bookLine_121 rfl (by omega) (by decide) (fun h121 => ?_) (fun h121 => ?_)
    · -- 130
      refine aw_aload_n (pc := 130) (i := 0) dX12_bookLine_130 rfl rfl ?_
      refine mg_got (pc := 131) dX12_bookLine_131 rfl ?_
      refine aw_istore_n (pc := 134) (i := 3) dX12_bookLine_134 rfl (Nat.le_of_ble_eq_true rfl) rfl ?_
      simp only [bookLineF, blGN, h14, if_neg h121, Bool.true_and, Bool.and_true, Bool.false_and, Bool.and_false, Bool.not_true, Bool.not_false, Bool.or_true, Bool.or_false, Bool.true_or, Bool.false_or, Bool.false_eq_true, Bool.true_eq_false, if_true, if_false, ite_true, ite_false, reduceIte, reduceCtorEq] at kk
      exact blN_1 h hl (by omega) kk
    · -- 124
      refine aw_aload_n (pc := 124) (i := 0) dX12_bookLine_124 rfl rfl ?_
      refine aw_iconst (pc := 125) dX12_bookLine_125 iconst_4 ?_
      refine mc_I (pc := 126) (As := [.int (nI 4)]) (rest := []) dX12_bookLine_126 rfl ok_X12_201 rfl rfl rfl (Nat.le_of_ble_eq_true rfl) (s_bad ⟨_, _, rfl, rfl, ?_⟩)
      exact ab_ret (pc := 129) dX12_bookLine_129 rfl (Nat.le_refl _) (Nat.le_refl _) (by simp only [bookLineF, blGN, h14, if_pos h121, Bool.true_and, Bool.and_true, Bool.false_and, Bool.and_false, Bool.not_true, Bool.not_false, Bool.or_true, Bool.or_false, Bool.true_or, Bool.false_or, Bool.false_eq_true, Bool.true_eq_false, if_true, if_false, ite_true, ite_false, reduceIte, reduceCtorEq] at kk; exact kk)
def doesN (t : Nat → Nat) (k x y n : Nat) : Nat := if k = 0 then whyX t x y else if k = 1 then whyPactF t x y else if k = 2 then (if (t (101 + x)).testBit y = true then 0 else 1) else if k = 3 then whyTurnF t x true else if k = 4 then whyTurnF t x false else if k = 5 then whyLendF t x y n else if 400 < t 91 + x then 1 else 0
def doesT (t : Nat → Nat) (k x y n : Nat) : Nat → Nat := if k = 0 then crossF t x y else if k = 1 then upN t (101 + x) (t (101 + x) ||| 2 ^ y) else if k = 2 then upN t (101 + x) (t (101 + x) ^^^ 2 ^ y) else if k = 3 then upN t 93 (t 93 ^^^ 2 ^ x) else if k = 4 then upN t 93 (t 93 ^^^ 2 ^ x) else if k = 5 then lendF t x y n else (goG x t).2
def doesA (t : Nat → Nat) (k x y n : Nat) : Nat := if doesN t k x y n = 0 then 0 else 10 * k + doesN t k x y n
def doesS (t : Nat → Nat) (k x y n : Nat) : Nat → Nat := if doesN t k x y n = 0 then doesT t k x y n else t
/-- a line of a book that can be lived -/
def lnOK (t : Nat → Nat) (k x y n : Nat) : Prop := k ≤ 6 ∧ (k = 0 → x < t 2 ∧ y < t 0) ∧ (k = 1 ∨ k = 2 ∨ k = 5 → x < t 0 ∧ y < t 0) ∧ (k = 3 ∨ k = 4 → x < 12) ∧ (k = 5 → 1 ≤ n ∧ n ≤ 99) ∧ (k = 6 → 1 ≤ x ∧ x ≤ 60)
set_option maxHeartbeats 1000000 in
set_option maxRecDepth 20000 in
theorem s_does {G : xG} {d : Nat} {Q : xQ} {a : Nat → Nat} {σ : mS} {k x y n : Nat} (hw : WT (σ.2.1 6)) (hb9 : ∀ j, σ.2.1 6 j < 2 ^ 29) (hok : lnOK (σ.2.1 6) k x y n) (kk : Q (some (.int (nI (doesA (σ.2.1 6) k x y n)))) (mW G.2.2.1 a (sN σ 6 (doesS (σ.2.1 6) k x y n)))) : MT G MX12_does (d + 4) 0 0 [.ref (a 60), .int (nI k), .int (nI x), .int (nI y), .int (nI n)] (mW G.2.2.1 a σ) Q := by
  obtain ⟨hb, h0, h1, h2, hR, hP, hD, hC, hT⟩ := id hw
  obtain ⟨hk6, ok0, ok1, ok3, ok5, ok6⟩ := hok
  refine mt_start (L := [some (.ref (a 60)), some (.int (nI k)), some (.int (nI x)), some (.int (nI y)), some (.int (nI n)), none]) rfl (Nat.le_of_ble_eq_true rfl) rfl ?_
  refine aw_iconst (pc := 0) dX12_does_0 iconst_0 ?_
  refine aw_istore (pc := 1) (i := 5) dX12_does_1 (Nat.le_of_ble_eq_true rfl) rfl ?_
  refine aw_iload_n (pc := 3) (i := 1) dX12_does_3 rfl rfl ?_
  rcases (show k = 0 ∨ k = 1 ∨ k = 2 ∨ k = 3 ∨ k = 4 ∨ k = 5 ∨ k = 6 by omega) with rfl | rfl | rfl | rfl | rfl | rfl | rfl
  · -- case 0
    refine aw_tabIn (pc := 4) (tgt := 44) dX12_does_4 (by decide) (by decide) rfl rfl ?_
    refine aw_aload_n (pc := 44) (i := 0) dX12_does_44 rfl rfl ?_
    refine aw_iload_n (pc := 45) (i := 2) dX12_does_45 rfl rfl ?_
    refine aw_iload_n (pc := 46) (i := 3) dX12_does_46 rfl rfl ?_
    refine mc_I (pc := 47) (As := [.int (nI x), .int (nI y)]) (rest := []) dX12_does_47 rfl ok_X12_292 rfl rfl rfl (Nat.le_of_ble_eq_true rfl) (s_whyCross hb h1 (by omega) (by have := hP x (by omega); omega) (by omega) ⟨_, _, rfl, rfl, ?_⟩)
    refine aw_istore (pc := 50) (i := 5) dX12_does_50 (Nat.le_of_ble_eq_true rfl) rfl ?_
    refine aw_iload (pc := 52) dX12_does_52 rfl ?_
    refine an_if_ne (pc := 54) (tgt := 231) dX12_does_54 rfl (whyX_lt _ _ _) (fun h54 => ?_) (fun h54 => ?_)
    · -- 231
      refine aw_iload (pc := 231) dX12_does_231 rfl ?_
      refine an_if_le (pc := 233) (tgt := 246) dX12_does_233 rfl (whyX_lt _ _ _) (fun h233 => ?_) (fun h233 => ?_)
      · -- 246
        refine aw_iconst (pc := 246) dX12_does_246 iconst_0 ?_
        exact aw_iret (pc := 247) dX12_does_247 rfl (Nat.le_refl _) (Nat.le_refl _) (by first | (exfalso; omega) | (simp only [doesA, doesS, doesN, doesT, h54, (Nat.ne_of_gt h54), h233, (show ¬ (0 : Nat) = 1 by decide), (show ¬ (0 : Nat) = 2 by decide), (show ¬ (0 : Nat) = 3 by decide), (show ¬ (0 : Nat) = 4 by decide), (show ¬ (0 : Nat) = 5 by decide), (show ¬ (0 : Nat) = 6 by decide), Bool.true_and, Bool.and_true, Bool.false_and, Bool.and_false, Bool.not_true, Bool.not_false, Bool.or_true, Bool.or_false, Bool.true_or, Bool.false_or, Bool.false_eq_true, Bool.true_eq_false, if_true, if_false, ite_true, ite_false, reduceIte, reduceCtorEq] at kk; exact kk))
      · -- 236
        refine aw_bipush (pc := 236) dX12_does_236 bipush_10 ?_
        refine aw_iload_n (pc := 238) (i := 1) dX12_does_238 rfl rfl ?_
        refine an_mul (pc := 239) dX12_does_239 ?_
        refine aw_iload (pc := 240) dX12_does_240 rfl ?_
        refine an_add (pc := 242) dX12_does_242 ?_
        refine aw_goto (pc := 243) (tgt := 247) dX12_does_243 rfl ?_
        exact aw_iret (pc := 247) dX12_does_247 rfl (Nat.le_refl _) (Nat.le_refl _) (by first | (exfalso; omega) | (simp only [doesA, doesS, doesN, doesT, h54, (Nat.ne_of_gt h54), h233, (Nat.ne_of_gt h233), (show ¬ (0 : Nat) = 1 by decide), (show ¬ (0 : Nat) = 2 by decide), (show ¬ (0 : Nat) = 3 by decide), (show ¬ (0 : Nat) = 4 by decide), (show ¬ (0 : Nat) = 5 by decide), (show ¬ (0 : Nat) = 6 by decide), Bool.true_and, Bool.and_true, Bool.false_and, Bool.and_false, Bool.not_true, Bool.not_false, Bool.or_true, Bool.or_false, Bool.true_or, Bool.false_or, Bool.false_eq_true, Bool.true_eq_false, if_true, if_false, ite_true, ite_false, reduceIte, reduceCtorEq] at kk; exact kk))
    · -- 57
      refine aw_aload_n (pc := 57) (i := 0) dX12_does_57 rfl rfl ?_
      refine aw_iload_n (pc := 58) (i := 2) dX12_does_58 rfl rfl ?_
      refine aw_iload_n (pc := 59) (i := 3) dX12_does_59 rfl rfl ?_
      refine mc_V (pc := 60) (As := [.int (nI x), .int (nI y)]) (rest := []) dX12_does_60 rfl ok_X12_330 rfl rfl rfl (Nat.le_of_ble_eq_true rfl) (s_crosses hb9 (by omega) (by omega) (by have := hP x (by omega); omega) (by have := hP x (by omega); omega) (Or.inr (whyX_0 h54)) ⟨_, rfl, rfl, ?_⟩)
      refine aw_goto (pc := 63) (tgt := 231) dX12_does_63 rfl ?_
      refine aw_iload (pc := 231) dX12_does_231 rfl ?_
      refine an_if_le (pc := 233) (tgt := 246) dX12_does_233 rfl (whyX_lt _ _ _) (fun h233 => ?_) (fun h233 => ?_)
      · -- 246
        refine aw_iconst (pc := 246) dX12_does_246 iconst_0 ?_
        exact aw_iret (pc := 247) dX12_does_247 rfl (Nat.le_refl _) (Nat.le_refl _) (by first | (exfalso; omega) | (simp only [doesA, doesS, doesN, doesT, h54, h233, (show ¬ (0 : Nat) = 1 by decide), (show ¬ (0 : Nat) = 2 by decide), (show ¬ (0 : Nat) = 3 by decide), (show ¬ (0 : Nat) = 4 by decide), (show ¬ (0 : Nat) = 5 by decide), (show ¬ (0 : Nat) = 6 by decide), Bool.true_and, Bool.and_true, Bool.false_and, Bool.and_false, Bool.not_true, Bool.not_false, Bool.or_true, Bool.or_false, Bool.true_or, Bool.false_or, Bool.false_eq_true, Bool.true_eq_false, if_true, if_false, ite_true, ite_false, reduceIte, reduceCtorEq] at kk; exact kk))
      · -- 236
        refine aw_bipush (pc := 236) dX12_does_236 bipush_10 ?_
        refine aw_iload_n (pc := 238) (i := 1) dX12_does_238 rfl rfl ?_
        refine an_mul (pc := 239) dX12_does_239 ?_
        refine aw_iload (pc := 240) dX12_does_240 rfl ?_
        refine an_add (pc := 242) dX12_does_242 ?_
        refine aw_goto (pc := 243) (tgt := 247) dX12_does_243 rfl ?_
        exact aw_iret (pc := 247) dX12_does_247 rfl (Nat.le_refl _) (Nat.le_refl _) (by first | (exfalso; omega) | (simp only [doesA, doesS, doesN, doesT, h54, h233, (Nat.ne_of_gt h233), (show ¬ (0 : Nat) = 1 by decide), (show ¬ (0 : Nat) = 2 by decide), (show ¬ (0 : Nat) = 3 by decide), (show ¬ (0 : Nat) = 4 by decide), (show ¬ (0 : Nat) = 5 by decide), (show ¬ (0 : Nat) = 6 by decide), Bool.true_and, Bool.and_true, Bool.false_and, Bool.and_false, Bool.not_true, Bool.not_false, Bool.or_true, Bool.or_false, Bool.true_or, Bool.false_or, Bool.false_eq_true, Bool.true_eq_false, if_true, if_false, ite_true, ite_false, reduceIte, reduceCtorEq] at kk; exact kk))
  · -- case 1
    refine aw_tabIn (pc := 4) (tgt := 66) dX12_does_4 (by decide) (by decide) rfl rfl ?_
    refine aw_aload_n (pc := 66) (i := 0) dX12_does_66 rfl rfl ?_
    refine aw_iload_n (pc := 67) (i := 2) dX12_does_67 rfl rfl ?_
    refine aw_iload_n (pc := 68) (i := 3) dX12_does_68 rfl rfl ?_
    refine mc_I (pc := 69) (As := [.int (nI x), .int (nI y)]) (rest := []) dX12_does_69 rfl ok_X12_334 rfl rfl rfl (Nat.le_of_ble_eq_true rfl) (s_whyPact hb (by omega) (by omega) ⟨_, _, rfl, rfl, ?_⟩)
    refine aw_istore (pc := 72) (i := 5) dX12_does_72 (Nat.le_of_ble_eq_true rfl) rfl ?_
    refine aw_iload (pc := 74) dX12_does_74 rfl ?_
    refine an_if_ne (pc := 76) (tgt := 231) dX12_does_76 rfl (whyPactF_lt _ _ _) (fun h76 => ?_) (fun h76 => ?_)
    · -- 231
      refine aw_iload (pc := 231) dX12_does_231 rfl ?_
      refine an_if_le (pc := 233) (tgt := 246) dX12_does_233 rfl (whyPactF_lt _ _ _) (fun h233 => ?_) (fun h233 => ?_)
      · -- 246
        refine aw_iconst (pc := 246) dX12_does_246 iconst_0 ?_
        exact aw_iret (pc := 247) dX12_does_247 rfl (Nat.le_refl _) (Nat.le_refl _) (by first | (exfalso; omega) | (simp only [doesA, doesS, doesN, doesT, h76, (Nat.ne_of_gt h76), h233, (show ¬ (1 : Nat) = 0 by decide), (show ¬ (1 : Nat) = 2 by decide), (show ¬ (1 : Nat) = 3 by decide), (show ¬ (1 : Nat) = 4 by decide), (show ¬ (1 : Nat) = 5 by decide), (show ¬ (1 : Nat) = 6 by decide), Bool.true_and, Bool.and_true, Bool.false_and, Bool.and_false, Bool.not_true, Bool.not_false, Bool.or_true, Bool.or_false, Bool.true_or, Bool.false_or, Bool.false_eq_true, Bool.true_eq_false, if_true, if_false, ite_true, ite_false, reduceIte, reduceCtorEq] at kk; exact kk))
      · -- 236
        refine aw_bipush (pc := 236) dX12_does_236 bipush_10 ?_
        refine aw_iload_n (pc := 238) (i := 1) dX12_does_238 rfl rfl ?_
        refine an_mul (pc := 239) dX12_does_239 ?_
        refine aw_iload (pc := 240) dX12_does_240 rfl ?_
        refine an_add (pc := 242) dX12_does_242 ?_
        refine aw_goto (pc := 243) (tgt := 247) dX12_does_243 rfl ?_
        exact aw_iret (pc := 247) dX12_does_247 rfl (Nat.le_refl _) (Nat.le_refl _) (by first | (exfalso; omega) | (simp only [doesA, doesS, doesN, doesT, h76, (Nat.ne_of_gt h76), h233, (Nat.ne_of_gt h233), (show ¬ (1 : Nat) = 0 by decide), (show ¬ (1 : Nat) = 2 by decide), (show ¬ (1 : Nat) = 3 by decide), (show ¬ (1 : Nat) = 4 by decide), (show ¬ (1 : Nat) = 5 by decide), (show ¬ (1 : Nat) = 6 by decide), Bool.true_and, Bool.and_true, Bool.false_and, Bool.and_false, Bool.not_true, Bool.not_false, Bool.or_true, Bool.or_false, Bool.true_or, Bool.false_or, Bool.false_eq_true, Bool.true_eq_false, if_true, if_false, ite_true, ite_false, reduceIte, reduceCtorEq] at kk; exact kk))
    · -- 79
      refine aw_aload_n (pc := 79) (i := 0) dX12_does_79 rfl rfl ?_
      refine mg_s (pc := 80) dX12_does_80 rfl ?_
      refine aw_bipush (pc := 83) dX12_does_83 bipush_101 ?_
      refine aw_iload_n (pc := 85) (i := 2) dX12_does_85 rfl rfl ?_
      refine an_add (pc := 86) dX12_does_86 ?_
      refine aw_dup2 (pc := 87) dX12_does_87 rfl rfl ?_
      refine ml_s (pc := 88) dX12_does_88 (by omega) ?_
      refine aw_iconst (pc := 89) dX12_does_89 iconst_1 ?_
      refine aw_iload_n (pc := 90) (i := 3) dX12_does_90 rfl rfl ?_
      refine aw_ishl (pc := 91) dX12_does_91 ?_
      refine aw_ior (pc := 92) dX12_does_92 ?_
      refine aw_top (y := (nI (σ.2.1 6 (101 + x) ||| 2 ^ y))) (by rw [nI_1shl (by omega), nI_or _ _ (Nat.lt_trans (hb _) (by decide)) (Nat.lt_trans (Nat.pow_lt_pow_right (a := 2) (by omega) (show y < 12 by omega)) (by decide))]) ?_
      refine ms_s (pc := 93) dX12_does_93 (by omega) ?_
      refine aw_goto (pc := 94) (tgt := 231) dX12_does_94 rfl ?_
      refine aw_iload (pc := 231) dX12_does_231 rfl ?_
      refine an_if_le (pc := 233) (tgt := 246) dX12_does_233 rfl (whyPactF_lt _ _ _) (fun h233 => ?_) (fun h233 => ?_)
      · -- 246
        refine aw_iconst (pc := 246) dX12_does_246 iconst_0 ?_
        exact aw_iret (pc := 247) dX12_does_247 rfl (Nat.le_refl _) (Nat.le_refl _) (by first | (exfalso; omega) | (simp only [doesA, doesS, doesN, doesT, h76, h233, (show ¬ (1 : Nat) = 0 by decide), (show ¬ (1 : Nat) = 2 by decide), (show ¬ (1 : Nat) = 3 by decide), (show ¬ (1 : Nat) = 4 by decide), (show ¬ (1 : Nat) = 5 by decide), (show ¬ (1 : Nat) = 6 by decide), Bool.true_and, Bool.and_true, Bool.false_and, Bool.and_false, Bool.not_true, Bool.not_false, Bool.or_true, Bool.or_false, Bool.true_or, Bool.false_or, Bool.false_eq_true, Bool.true_eq_false, if_true, if_false, ite_true, ite_false, reduceIte, reduceCtorEq] at kk; exact kk))
      · -- 236
        refine aw_bipush (pc := 236) dX12_does_236 bipush_10 ?_
        refine aw_iload_n (pc := 238) (i := 1) dX12_does_238 rfl rfl ?_
        refine an_mul (pc := 239) dX12_does_239 ?_
        refine aw_iload (pc := 240) dX12_does_240 rfl ?_
        refine an_add (pc := 242) dX12_does_242 ?_
        refine aw_goto (pc := 243) (tgt := 247) dX12_does_243 rfl ?_
        exact aw_iret (pc := 247) dX12_does_247 rfl (Nat.le_refl _) (Nat.le_refl _) (by first | (exfalso; omega) | (simp only [doesA, doesS, doesN, doesT, h76, h233, (Nat.ne_of_gt h233), (show ¬ (1 : Nat) = 0 by decide), (show ¬ (1 : Nat) = 2 by decide), (show ¬ (1 : Nat) = 3 by decide), (show ¬ (1 : Nat) = 4 by decide), (show ¬ (1 : Nat) = 5 by decide), (show ¬ (1 : Nat) = 6 by decide), Bool.true_and, Bool.and_true, Bool.false_and, Bool.and_false, Bool.not_true, Bool.not_false, Bool.or_true, Bool.or_false, Bool.true_or, Bool.false_or, Bool.false_eq_true, Bool.true_eq_false, if_true, if_false, ite_true, ite_false, reduceIte, reduceCtorEq] at kk; exact kk))
  · -- case 2
    refine aw_tabIn (pc := 4) (tgt := 97) dX12_does_4 (by decide) (by decide) rfl rfl ?_
    refine aw_aload_n (pc := 97) (i := 0) dX12_does_97 rfl rfl ?_
    refine mg_s (pc := 98) dX12_does_98 rfl ?_
    refine aw_bipush (pc := 101) dX12_does_101 bipush_101 ?_
    refine aw_iload_n (pc := 103) (i := 2) dX12_does_103 rfl rfl ?_
    refine an_add (pc := 104) dX12_does_104 ?_
    refine ml_s (pc := 105) dX12_does_105 (by omega) ?_
    refine aw_iload_n (pc := 106) (i := 3) dX12_does_106 rfl rfl ?_
    refine mt_I (pc := 107) (As := [.int (nI (σ.2.1 6 (101 + x))), .int (nI y)]) (rest := []) dX12_does_107 rfl ok_X12_257 rfl rfl rfl (Nat.le_of_ble_eq_true rfl) (s_bitOf (Nat.lt_trans (hb _) (by decide)) (by omega) ⟨_, _, rfl, rfl, ?_⟩)
    refine ab_if_eq (pc := 110) (tgt := 117) dX12_does_110 rfl (fun h110 => ?_) (fun h110 => ?_)
    · -- 117
      refine aw_iconst (pc := 117) dX12_does_117 iconst_1 ?_
      refine aw_istore (pc := 118) (i := 5) dX12_does_118 (Nat.le_of_ble_eq_true rfl) rfl ?_
      refine aw_iload (pc := 120) dX12_does_120 rfl ?_
      refine an_if_ne (pc := 122) (tgt := 231) dX12_does_122 rfl (by decide) (fun h122 => ?_) (fun h122 => absurd h122 (by decide))
      refine aw_iload (pc := 231) dX12_does_231 rfl ?_
      refine an_if_le (pc := 233) (tgt := 246) dX12_does_233 rfl (by decide) (fun h233 => absurd h233 (by decide)) (fun h233 => ?_)
      refine aw_bipush (pc := 236) dX12_does_236 bipush_10 ?_
      refine aw_iload_n (pc := 238) (i := 1) dX12_does_238 rfl rfl ?_
      refine an_mul (pc := 239) dX12_does_239 ?_
      refine aw_iload (pc := 240) dX12_does_240 rfl ?_
      refine an_add (pc := 242) dX12_does_242 ?_
      refine aw_goto (pc := 243) (tgt := 247) dX12_does_243 rfl ?_
      exact aw_iret (pc := 247) dX12_does_247 rfl (Nat.le_refl _) (Nat.le_refl _) (by first | (exfalso; omega) | (simp only [doesA, doesS, doesN, doesT, h110, (show ¬ (2 : Nat) = 0 by decide), (show ¬ (2 : Nat) = 1 by decide), (show ¬ (2 : Nat) = 3 by decide), (show ¬ (2 : Nat) = 4 by decide), (show ¬ (2 : Nat) = 5 by decide), (show ¬ (2 : Nat) = 6 by decide), Bool.true_and, Bool.and_true, Bool.false_and, Bool.and_false, Bool.not_true, Bool.not_false, Bool.or_true, Bool.or_false, Bool.true_or, Bool.false_or, Bool.false_eq_true, Bool.true_eq_false, if_true, if_false, ite_true, ite_false, reduceIte, reduceCtorEq] at kk; exact kk))
    · -- 113
      refine aw_iconst (pc := 113) dX12_does_113 iconst_0 ?_
      refine aw_goto (pc := 114) (tgt := 118) dX12_does_114 rfl ?_
      refine aw_istore (pc := 118) (i := 5) dX12_does_118 (Nat.le_of_ble_eq_true rfl) rfl ?_
      refine aw_iload (pc := 120) dX12_does_120 rfl ?_
      refine an_if_ne (pc := 122) (tgt := 231) dX12_does_122 rfl (by decide) (fun h122 => absurd h122 (by decide)) (fun h122 => ?_)
      refine aw_aload_n (pc := 125) (i := 0) dX12_does_125 rfl rfl ?_
      refine mg_s (pc := 126) dX12_does_126 rfl ?_
      refine aw_bipush (pc := 129) dX12_does_129 bipush_101 ?_
      refine aw_iload_n (pc := 131) (i := 2) dX12_does_131 rfl rfl ?_
      refine an_add (pc := 132) dX12_does_132 ?_
      refine aw_dup2 (pc := 133) dX12_does_133 rfl rfl ?_
      refine ml_s (pc := 134) dX12_does_134 (by omega) ?_
      refine aw_iconst (pc := 135) dX12_does_135 iconst_1 ?_
      refine aw_iload_n (pc := 136) (i := 3) dX12_does_136 rfl rfl ?_
      refine aw_ishl (pc := 137) dX12_does_137 ?_
      refine aw_ixor (pc := 138) dX12_does_138 ?_
      refine aw_top (y := (nI (σ.2.1 6 (101 + x) ^^^ 2 ^ y))) (by rw [nI_1shl (by omega), nI_xor _ _ (Nat.lt_trans (hb _) (by decide)) (Nat.lt_trans (Nat.pow_lt_pow_right (a := 2) (by omega) (show y < 12 by omega)) (by decide))]) ?_
      refine ms_s (pc := 139) dX12_does_139 (by omega) ?_
      refine aw_goto (pc := 140) (tgt := 231) dX12_does_140 rfl ?_
      refine aw_iload (pc := 231) dX12_does_231 rfl ?_
      refine an_if_le (pc := 233) (tgt := 246) dX12_does_233 rfl (by decide) (fun h233 => ?_) (fun h233 => absurd h233 (by decide))
      refine aw_iconst (pc := 246) dX12_does_246 iconst_0 ?_
      exact aw_iret (pc := 247) dX12_does_247 rfl (Nat.le_refl _) (Nat.le_refl _) (by first | (exfalso; omega) | (simp only [doesA, doesS, doesN, doesT, h110, (show ¬ (2 : Nat) = 0 by decide), (show ¬ (2 : Nat) = 1 by decide), (show ¬ (2 : Nat) = 3 by decide), (show ¬ (2 : Nat) = 4 by decide), (show ¬ (2 : Nat) = 5 by decide), (show ¬ (2 : Nat) = 6 by decide), Bool.true_and, Bool.and_true, Bool.false_and, Bool.and_false, Bool.not_true, Bool.not_false, Bool.or_true, Bool.or_false, Bool.true_or, Bool.false_or, Bool.false_eq_true, Bool.true_eq_false, if_true, if_false, ite_true, ite_false, reduceIte, reduceCtorEq] at kk; exact kk))
  · -- case 3
    refine aw_tabIn (pc := 4) (tgt := 143) dX12_does_4 (by decide) (by decide) rfl rfl ?_
    refine aw_aload_n (pc := 143) (i := 0) dX12_does_143 rfl rfl ?_
    refine aw_iload_n (pc := 144) (i := 2) dX12_does_144 rfl rfl ?_
    refine aw_iload_n (pc := 145) (i := 1) dX12_does_145 rfl rfl ?_
    refine aw_iconst (pc := 146) dX12_does_146 iconst_3 ?_
    refine an_icmp_ne (pc := 147) (tgt := 154) dX12_does_147 rfl (by decide) (by decide) (fun h147 => absurd h147 (by decide)) (fun h147 => ?_)
    refine aw_iconst (pc := 150) dX12_does_150 iconst_1 ?_
    refine aw_goto (pc := 151) (tgt := 155) dX12_does_151 rfl ?_
    refine mc_I (pc := 155) (As := [.int (nI x), .int (nI 1)]) (rest := []) dX12_does_155 rfl ok_X12_337 rfl rfl rfl (Nat.le_of_ble_eq_true rfl) (s_whyTurn (c := true) hb (by omega) ⟨_, _, rfl, rfl, ?_⟩)
    refine aw_istore (pc := 158) (i := 5) dX12_does_158 (Nat.le_of_ble_eq_true rfl) rfl ?_
    refine aw_iload (pc := 160) dX12_does_160 rfl ?_
    refine an_if_ne (pc := 162) (tgt := 231) dX12_does_162 rfl (whyTurnF_lt _ _ _) (fun h162 => ?_) (fun h162 => ?_)
    · -- 231
      refine aw_iload (pc := 231) dX12_does_231 rfl ?_
      refine an_if_le (pc := 233) (tgt := 246) dX12_does_233 rfl (whyTurnF_lt _ _ _) (fun h233 => ?_) (fun h233 => ?_)
      · -- 246
        refine aw_iconst (pc := 246) dX12_does_246 iconst_0 ?_
        exact aw_iret (pc := 247) dX12_does_247 rfl (Nat.le_refl _) (Nat.le_refl _) (by first | (exfalso; omega) | (simp only [doesA, doesS, doesN, doesT, h162, (Nat.ne_of_gt h162), h233, (show ¬ (3 : Nat) = 0 by decide), (show ¬ (3 : Nat) = 1 by decide), (show ¬ (3 : Nat) = 2 by decide), (show ¬ (3 : Nat) = 4 by decide), (show ¬ (3 : Nat) = 5 by decide), (show ¬ (3 : Nat) = 6 by decide), Bool.true_and, Bool.and_true, Bool.false_and, Bool.and_false, Bool.not_true, Bool.not_false, Bool.or_true, Bool.or_false, Bool.true_or, Bool.false_or, Bool.false_eq_true, Bool.true_eq_false, if_true, if_false, ite_true, ite_false, reduceIte, reduceCtorEq] at kk; exact kk))
      · -- 236
        refine aw_bipush (pc := 236) dX12_does_236 bipush_10 ?_
        refine aw_iload_n (pc := 238) (i := 1) dX12_does_238 rfl rfl ?_
        refine an_mul (pc := 239) dX12_does_239 ?_
        refine aw_iload (pc := 240) dX12_does_240 rfl ?_
        refine an_add (pc := 242) dX12_does_242 ?_
        refine aw_goto (pc := 243) (tgt := 247) dX12_does_243 rfl ?_
        exact aw_iret (pc := 247) dX12_does_247 rfl (Nat.le_refl _) (Nat.le_refl _) (by first | (exfalso; omega) | (simp only [doesA, doesS, doesN, doesT, h162, (Nat.ne_of_gt h162), h233, (Nat.ne_of_gt h233), (show ¬ (3 : Nat) = 0 by decide), (show ¬ (3 : Nat) = 1 by decide), (show ¬ (3 : Nat) = 2 by decide), (show ¬ (3 : Nat) = 4 by decide), (show ¬ (3 : Nat) = 5 by decide), (show ¬ (3 : Nat) = 6 by decide), Bool.true_and, Bool.and_true, Bool.false_and, Bool.and_false, Bool.not_true, Bool.not_false, Bool.or_true, Bool.or_false, Bool.true_or, Bool.false_or, Bool.false_eq_true, Bool.true_eq_false, if_true, if_false, ite_true, ite_false, reduceIte, reduceCtorEq] at kk; exact kk))
    · -- 165
      refine aw_aload_n (pc := 165) (i := 0) dX12_does_165 rfl rfl ?_
      refine mg_s (pc := 166) dX12_does_166 rfl ?_
      refine aw_bipush (pc := 169) dX12_does_169 bipush_93 ?_
      refine aw_dup2 (pc := 171) dX12_does_171 rfl rfl ?_
      refine ml_s (pc := 172) dX12_does_172 (by decide) ?_
      refine aw_iconst (pc := 173) dX12_does_173 iconst_1 ?_
      refine aw_iload_n (pc := 174) (i := 2) dX12_does_174 rfl rfl ?_
      refine aw_ishl (pc := 175) dX12_does_175 ?_
      refine aw_ixor (pc := 176) dX12_does_176 ?_
      refine aw_top (y := (nI (σ.2.1 6 93 ^^^ 2 ^ x))) (by rw [nI_1shl (by omega), nI_xor _ _ (Nat.lt_trans (hb _) (by decide)) (Nat.lt_trans (Nat.pow_lt_pow_right (a := 2) (by omega) (show x < 12 by omega)) (by decide))]) ?_
      refine ms_s (pc := 177) dX12_does_177 (by decide) ?_
      refine aw_goto (pc := 178) (tgt := 231) dX12_does_178 rfl ?_
      refine aw_iload (pc := 231) dX12_does_231 rfl ?_
      refine an_if_le (pc := 233) (tgt := 246) dX12_does_233 rfl (whyTurnF_lt _ _ _) (fun h233 => ?_) (fun h233 => ?_)
      · -- 246
        refine aw_iconst (pc := 246) dX12_does_246 iconst_0 ?_
        exact aw_iret (pc := 247) dX12_does_247 rfl (Nat.le_refl _) (Nat.le_refl _) (by first | (exfalso; omega) | (simp only [doesA, doesS, doesN, doesT, h162, h233, (show ¬ (3 : Nat) = 0 by decide), (show ¬ (3 : Nat) = 1 by decide), (show ¬ (3 : Nat) = 2 by decide), (show ¬ (3 : Nat) = 4 by decide), (show ¬ (3 : Nat) = 5 by decide), (show ¬ (3 : Nat) = 6 by decide), Bool.true_and, Bool.and_true, Bool.false_and, Bool.and_false, Bool.not_true, Bool.not_false, Bool.or_true, Bool.or_false, Bool.true_or, Bool.false_or, Bool.false_eq_true, Bool.true_eq_false, if_true, if_false, ite_true, ite_false, reduceIte, reduceCtorEq] at kk; exact kk))
      · -- 236
        refine aw_bipush (pc := 236) dX12_does_236 bipush_10 ?_
        refine aw_iload_n (pc := 238) (i := 1) dX12_does_238 rfl rfl ?_
        refine an_mul (pc := 239) dX12_does_239 ?_
        refine aw_iload (pc := 240) dX12_does_240 rfl ?_
        refine an_add (pc := 242) dX12_does_242 ?_
        refine aw_goto (pc := 243) (tgt := 247) dX12_does_243 rfl ?_
        exact aw_iret (pc := 247) dX12_does_247 rfl (Nat.le_refl _) (Nat.le_refl _) (by first | (exfalso; omega) | (simp only [doesA, doesS, doesN, doesT, h162, h233, (Nat.ne_of_gt h233), (show ¬ (3 : Nat) = 0 by decide), (show ¬ (3 : Nat) = 1 by decide), (show ¬ (3 : Nat) = 2 by decide), (show ¬ (3 : Nat) = 4 by decide), (show ¬ (3 : Nat) = 5 by decide), (show ¬ (3 : Nat) = 6 by decide), Bool.true_and, Bool.and_true, Bool.false_and, Bool.and_false, Bool.not_true, Bool.not_false, Bool.or_true, Bool.or_false, Bool.true_or, Bool.false_or, Bool.false_eq_true, Bool.true_eq_false, if_true, if_false, ite_true, ite_false, reduceIte, reduceCtorEq] at kk; exact kk))
  · -- case 4
    refine aw_tabIn (pc := 4) (tgt := 143) dX12_does_4 (by decide) (by decide) rfl rfl ?_
    refine aw_aload_n (pc := 143) (i := 0) dX12_does_143 rfl rfl ?_
    refine aw_iload_n (pc := 144) (i := 2) dX12_does_144 rfl rfl ?_
    refine aw_iload_n (pc := 145) (i := 1) dX12_does_145 rfl rfl ?_
    refine aw_iconst (pc := 146) dX12_does_146 iconst_3 ?_
    refine an_icmp_ne (pc := 147) (tgt := 154) dX12_does_147 rfl (by decide) (by decide) (fun h147 => ?_) (fun h147 => absurd h147 (by decide))
    refine aw_iconst (pc := 154) dX12_does_154 iconst_0 ?_
    refine mc_I (pc := 155) (As := [.int (nI x), .int (nI 0)]) (rest := []) dX12_does_155 rfl ok_X12_337 rfl rfl rfl (Nat.le_of_ble_eq_true rfl) (s_whyTurn (c := false) hb (by omega) ⟨_, _, rfl, rfl, ?_⟩)
    refine aw_istore (pc := 158) (i := 5) dX12_does_158 (Nat.le_of_ble_eq_true rfl) rfl ?_
    refine aw_iload (pc := 160) dX12_does_160 rfl ?_
    refine an_if_ne (pc := 162) (tgt := 231) dX12_does_162 rfl (whyTurnF_lt _ _ _) (fun h162 => ?_) (fun h162 => ?_)
    · -- 231
      refine aw_iload (pc := 231) dX12_does_231 rfl ?_
      refine an_if_le (pc := 233) (tgt := 246) dX12_does_233 rfl (whyTurnF_lt _ _ _) (fun h233 => ?_) (fun h233 => ?_)
      · -- 246
        refine aw_iconst (pc := 246) dX12_does_246 iconst_0 ?_
        exact aw_iret (pc := 247) dX12_does_247 rfl (Nat.le_refl _) (Nat.le_refl _) (by first | (exfalso; omega) | (simp only [doesA, doesS, doesN, doesT, h162, (Nat.ne_of_gt h162), h233, (show ¬ (4 : Nat) = 0 by decide), (show ¬ (4 : Nat) = 1 by decide), (show ¬ (4 : Nat) = 2 by decide), (show ¬ (4 : Nat) = 3 by decide), (show ¬ (4 : Nat) = 5 by decide), (show ¬ (4 : Nat) = 6 by decide), Bool.true_and, Bool.and_true, Bool.false_and, Bool.and_false, Bool.not_true, Bool.not_false, Bool.or_true, Bool.or_false, Bool.true_or, Bool.false_or, Bool.false_eq_true, Bool.true_eq_false, if_true, if_false, ite_true, ite_false, reduceIte, reduceCtorEq] at kk; exact kk))
      · -- 236
        refine aw_bipush (pc := 236) dX12_does_236 bipush_10 ?_
        refine aw_iload_n (pc := 238) (i := 1) dX12_does_238 rfl rfl ?_
        refine an_mul (pc := 239) dX12_does_239 ?_
        refine aw_iload (pc := 240) dX12_does_240 rfl ?_
        refine an_add (pc := 242) dX12_does_242 ?_
        refine aw_goto (pc := 243) (tgt := 247) dX12_does_243 rfl ?_
        exact aw_iret (pc := 247) dX12_does_247 rfl (Nat.le_refl _) (Nat.le_refl _) (by first | (exfalso; omega) | (simp only [doesA, doesS, doesN, doesT, h162, (Nat.ne_of_gt h162), h233, (Nat.ne_of_gt h233), (show ¬ (4 : Nat) = 0 by decide), (show ¬ (4 : Nat) = 1 by decide), (show ¬ (4 : Nat) = 2 by decide), (show ¬ (4 : Nat) = 3 by decide), (show ¬ (4 : Nat) = 5 by decide), (show ¬ (4 : Nat) = 6 by decide), Bool.true_and, Bool.and_true, Bool.false_and, Bool.and_false, Bool.not_true, Bool.not_false, Bool.or_true, Bool.or_false, Bool.true_or, Bool.false_or, Bool.false_eq_true, Bool.true_eq_false, if_true, if_false, ite_true, ite_false, reduceIte, reduceCtorEq] at kk; exact kk))
    · -- 165
      refine aw_aload_n (pc := 165) (i := 0) dX12_does_165 rfl rfl ?_
      refine mg_s (pc := 166) dX12_does_166 rfl ?_
      refine aw_bipush (pc := 169) dX12_does_169 bipush_93 ?_
      refine aw_dup2 (pc := 171) dX12_does_171 rfl rfl ?_
      refine ml_s (pc := 172) dX12_does_172 (by decide) ?_
      refine aw_iconst (pc := 173) dX12_does_173 iconst_1 ?_
      refine aw_iload_n (pc := 174) (i := 2) dX12_does_174 rfl rfl ?_
      refine aw_ishl (pc := 175) dX12_does_175 ?_
      refine aw_ixor (pc := 176) dX12_does_176 ?_
      refine aw_top (y := (nI (σ.2.1 6 93 ^^^ 2 ^ x))) (by rw [nI_1shl (by omega), nI_xor _ _ (Nat.lt_trans (hb _) (by decide)) (Nat.lt_trans (Nat.pow_lt_pow_right (a := 2) (by omega) (show x < 12 by omega)) (by decide))]) ?_
      refine ms_s (pc := 177) dX12_does_177 (by decide) ?_
      refine aw_goto (pc := 178) (tgt := 231) dX12_does_178 rfl ?_
      refine aw_iload (pc := 231) dX12_does_231 rfl ?_
      refine an_if_le (pc := 233) (tgt := 246) dX12_does_233 rfl (whyTurnF_lt _ _ _) (fun h233 => ?_) (fun h233 => ?_)
      · -- 246
        refine aw_iconst (pc := 246) dX12_does_246 iconst_0 ?_
        exact aw_iret (pc := 247) dX12_does_247 rfl (Nat.le_refl _) (Nat.le_refl _) (by first | (exfalso; omega) | (simp only [doesA, doesS, doesN, doesT, h162, h233, (show ¬ (4 : Nat) = 0 by decide), (show ¬ (4 : Nat) = 1 by decide), (show ¬ (4 : Nat) = 2 by decide), (show ¬ (4 : Nat) = 3 by decide), (show ¬ (4 : Nat) = 5 by decide), (show ¬ (4 : Nat) = 6 by decide), Bool.true_and, Bool.and_true, Bool.false_and, Bool.and_false, Bool.not_true, Bool.not_false, Bool.or_true, Bool.or_false, Bool.true_or, Bool.false_or, Bool.false_eq_true, Bool.true_eq_false, if_true, if_false, ite_true, ite_false, reduceIte, reduceCtorEq] at kk; exact kk))
      · -- 236
        refine aw_bipush (pc := 236) dX12_does_236 bipush_10 ?_
        refine aw_iload_n (pc := 238) (i := 1) dX12_does_238 rfl rfl ?_
        refine an_mul (pc := 239) dX12_does_239 ?_
        refine aw_iload (pc := 240) dX12_does_240 rfl ?_
        refine an_add (pc := 242) dX12_does_242 ?_
        refine aw_goto (pc := 243) (tgt := 247) dX12_does_243 rfl ?_
        exact aw_iret (pc := 247) dX12_does_247 rfl (Nat.le_refl _) (Nat.le_refl _) (by first | (exfalso; omega) | (simp only [doesA, doesS, doesN, doesT, h162, h233, (Nat.ne_of_gt h233), (show ¬ (4 : Nat) = 0 by decide), (show ¬ (4 : Nat) = 1 by decide), (show ¬ (4 : Nat) = 2 by decide), (show ¬ (4 : Nat) = 3 by decide), (show ¬ (4 : Nat) = 5 by decide), (show ¬ (4 : Nat) = 6 by decide), Bool.true_and, Bool.and_true, Bool.false_and, Bool.and_false, Bool.not_true, Bool.not_false, Bool.or_true, Bool.or_false, Bool.true_or, Bool.false_or, Bool.false_eq_true, Bool.true_eq_false, if_true, if_false, ite_true, ite_false, reduceIte, reduceCtorEq] at kk; exact kk))
  · -- case 5
    refine aw_tabIn (pc := 4) (tgt := 181) dX12_does_4 (by decide) (by decide) rfl rfl ?_
    refine aw_aload_n (pc := 181) (i := 0) dX12_does_181 rfl rfl ?_
    refine aw_iload_n (pc := 182) (i := 2) dX12_does_182 rfl rfl ?_
    refine aw_iload_n (pc := 183) (i := 3) dX12_does_183 rfl rfl ?_
    refine aw_iload (pc := 184) dX12_does_184 rfl ?_
    refine mc_I (pc := 186) (As := [.int (nI x), .int (nI y), .int (nI n)]) (rest := []) dX12_does_186 rfl ok_X12_344 rfl rfl rfl (Nat.le_of_ble_eq_true rfl) (s_whyLend hb (by omega) (by omega) (by omega) ⟨_, _, rfl, rfl, ?_⟩)
    refine aw_istore (pc := 189) (i := 5) dX12_does_189 (Nat.le_of_ble_eq_true rfl) rfl ?_
    refine aw_iload (pc := 191) dX12_does_191 rfl ?_
    refine an_if_ne (pc := 193) (tgt := 231) dX12_does_193 rfl (whyLendF_lt _ _ _ _) (fun h193 => ?_) (fun h193 => ?_)
    · -- 231
      refine aw_iload (pc := 231) dX12_does_231 rfl ?_
      refine an_if_le (pc := 233) (tgt := 246) dX12_does_233 rfl (whyLendF_lt _ _ _ _) (fun h233 => ?_) (fun h233 => ?_)
      · -- 246
        refine aw_iconst (pc := 246) dX12_does_246 iconst_0 ?_
        exact aw_iret (pc := 247) dX12_does_247 rfl (Nat.le_refl _) (Nat.le_refl _) (by first | (exfalso; omega) | (simp only [doesA, doesS, doesN, doesT, h193, (Nat.ne_of_gt h193), h233, (show ¬ (5 : Nat) = 0 by decide), (show ¬ (5 : Nat) = 1 by decide), (show ¬ (5 : Nat) = 2 by decide), (show ¬ (5 : Nat) = 3 by decide), (show ¬ (5 : Nat) = 4 by decide), (show ¬ (5 : Nat) = 6 by decide), Bool.true_and, Bool.and_true, Bool.false_and, Bool.and_false, Bool.not_true, Bool.not_false, Bool.or_true, Bool.or_false, Bool.true_or, Bool.false_or, Bool.false_eq_true, Bool.true_eq_false, if_true, if_false, ite_true, ite_false, reduceIte, reduceCtorEq] at kk; exact kk))
      · -- 236
        refine aw_bipush (pc := 236) dX12_does_236 bipush_10 ?_
        refine aw_iload_n (pc := 238) (i := 1) dX12_does_238 rfl rfl ?_
        refine an_mul (pc := 239) dX12_does_239 ?_
        refine aw_iload (pc := 240) dX12_does_240 rfl ?_
        refine an_add (pc := 242) dX12_does_242 ?_
        refine aw_goto (pc := 243) (tgt := 247) dX12_does_243 rfl ?_
        exact aw_iret (pc := 247) dX12_does_247 rfl (Nat.le_refl _) (Nat.le_refl _) (by first | (exfalso; omega) | (simp only [doesA, doesS, doesN, doesT, h193, (Nat.ne_of_gt h193), h233, (Nat.ne_of_gt h233), (show ¬ (5 : Nat) = 0 by decide), (show ¬ (5 : Nat) = 1 by decide), (show ¬ (5 : Nat) = 2 by decide), (show ¬ (5 : Nat) = 3 by decide), (show ¬ (5 : Nat) = 4 by decide), (show ¬ (5 : Nat) = 6 by decide), Bool.true_and, Bool.and_true, Bool.false_and, Bool.and_false, Bool.not_true, Bool.not_false, Bool.or_true, Bool.or_false, Bool.true_or, Bool.false_or, Bool.false_eq_true, Bool.true_eq_false, if_true, if_false, ite_true, ite_false, reduceIte, reduceCtorEq] at kk; exact kk))
    · -- 196
      refine aw_aload_n (pc := 196) (i := 0) dX12_does_196 rfl rfl ?_
      refine aw_iload_n (pc := 197) (i := 2) dX12_does_197 rfl rfl ?_
      refine aw_iload_n (pc := 198) (i := 3) dX12_does_198 rfl rfl ?_
      refine aw_iload (pc := 199) dX12_does_199 rfl ?_
      refine mc_V (pc := 201) (As := [.int (nI x), .int (nI y), .int (nI n)]) (rest := []) dX12_does_201 rfl ok_X12_347 rfl rfl rfl (Nat.le_of_ble_eq_true rfl) (s_lends (by omega) (by omega) (by intro e; simp [whyLendF, e] at h193) (by unfold whyLendF at h193; split at h193; omega; split at h193 <;> omega) ⟨_, rfl, rfl, ?_⟩)
      refine aw_goto (pc := 204) (tgt := 231) dX12_does_204 rfl ?_
      refine aw_iload (pc := 231) dX12_does_231 rfl ?_
      refine an_if_le (pc := 233) (tgt := 246) dX12_does_233 rfl (whyLendF_lt _ _ _ _) (fun h233 => ?_) (fun h233 => ?_)
      · -- 246
        refine aw_iconst (pc := 246) dX12_does_246 iconst_0 ?_
        exact aw_iret (pc := 247) dX12_does_247 rfl (Nat.le_refl _) (Nat.le_refl _) (by first | (exfalso; omega) | (simp only [doesA, doesS, doesN, doesT, h193, h233, (show ¬ (5 : Nat) = 0 by decide), (show ¬ (5 : Nat) = 1 by decide), (show ¬ (5 : Nat) = 2 by decide), (show ¬ (5 : Nat) = 3 by decide), (show ¬ (5 : Nat) = 4 by decide), (show ¬ (5 : Nat) = 6 by decide), Bool.true_and, Bool.and_true, Bool.false_and, Bool.and_false, Bool.not_true, Bool.not_false, Bool.or_true, Bool.or_false, Bool.true_or, Bool.false_or, Bool.false_eq_true, Bool.true_eq_false, if_true, if_false, ite_true, ite_false, reduceIte, reduceCtorEq] at kk; exact kk))
      · -- 236
        refine aw_bipush (pc := 236) dX12_does_236 bipush_10 ?_
        refine aw_iload_n (pc := 238) (i := 1) dX12_does_238 rfl rfl ?_
        refine an_mul (pc := 239) dX12_does_239 ?_
        refine aw_iload (pc := 240) dX12_does_240 rfl ?_
        refine an_add (pc := 242) dX12_does_242 ?_
        refine aw_goto (pc := 243) (tgt := 247) dX12_does_243 rfl ?_
        exact aw_iret (pc := 247) dX12_does_247 rfl (Nat.le_refl _) (Nat.le_refl _) (by first | (exfalso; omega) | (simp only [doesA, doesS, doesN, doesT, h193, h233, (Nat.ne_of_gt h233), (show ¬ (5 : Nat) = 0 by decide), (show ¬ (5 : Nat) = 1 by decide), (show ¬ (5 : Nat) = 2 by decide), (show ¬ (5 : Nat) = 3 by decide), (show ¬ (5 : Nat) = 4 by decide), (show ¬ (5 : Nat) = 6 by decide), Bool.true_and, Bool.and_true, Bool.false_and, Bool.and_false, Bool.not_true, Bool.not_false, Bool.or_true, Bool.or_false, Bool.true_or, Bool.false_or, Bool.false_eq_true, Bool.true_eq_false, if_true, if_false, ite_true, ite_false, reduceIte, reduceCtorEq] at kk; exact kk))
  · -- case 6
    refine aw_tabOut (pc := 4) (tgt := 207) dX12_does_4 (by decide) rfl ?_
    refine aw_aload_n (pc := 207) (i := 0) dX12_does_207 rfl rfl ?_
    refine mg_s (pc := 208) dX12_does_208 rfl ?_
    refine aw_bipush (pc := 211) dX12_does_211 bipush_91 ?_
    refine ml_s (pc := 213) dX12_does_213 (by decide) ?_
    refine aw_iload_n (pc := 214) (i := 2) dX12_does_214 rfl rfl ?_
    refine an_add (pc := 215) dX12_does_215 ?_
    refine aw_sipush (pc := 216) dX12_does_216 sipush_400 ?_
    refine an_icmp_le (pc := 219) (tgt := 225) dX12_does_219 rfl (by omega) (by decide) (fun h219 => ?_) (fun h219 => ?_)
    · -- 225
      refine aw_aload_n (pc := 225) (i := 0) dX12_does_225 rfl rfl ?_
      refine aw_iload_n (pc := 226) (i := 2) dX12_does_226 rfl rfl ?_
      refine mc_I (pc := 227) (As := [.int (nI x)]) (rest := []) dX12_does_227 rfl ok_X12_351 rfl rfl rfl (Nat.le_of_ble_eq_true rfl) (s_goesOn (WT_DK hw) (by omega) ⟨_, _, rfl, rfl, ?_⟩)
      refine aw_pop (pc := 230) dX12_does_230 rfl ?_
      refine aw_iload (pc := 231) dX12_does_231 rfl ?_
      refine an_if_le (pc := 233) (tgt := 246) dX12_does_233 rfl (by decide) (fun h233 => ?_) (fun h233 => absurd h233 (by decide))
      refine aw_iconst (pc := 246) dX12_does_246 iconst_0 ?_
      exact aw_iret (pc := 247) dX12_does_247 rfl (Nat.le_refl _) (Nat.le_refl _) (by first | (exfalso; omega) | (simp only [doesA, doesS, doesN, doesT, h219, (show ¬ (6 : Nat) = 0 by decide), (show ¬ (6 : Nat) = 1 by decide), (show ¬ (6 : Nat) = 2 by decide), (show ¬ (6 : Nat) = 3 by decide), (show ¬ (6 : Nat) = 4 by decide), (show ¬ (6 : Nat) = 5 by decide), if_neg (Nat.not_lt.mpr h219), Bool.true_and, Bool.and_true, Bool.false_and, Bool.and_false, Bool.not_true, Bool.not_false, Bool.or_true, Bool.or_false, Bool.true_or, Bool.false_or, Bool.false_eq_true, Bool.true_eq_false, if_true, if_false, ite_true, ite_false, reduceIte, reduceCtorEq] at kk; exact kk))
    · -- 222
      refine aw_bipush (pc := 222) dX12_does_222 bipush_61 ?_
      exact aw_iret (pc := 224) dX12_does_224 rfl (Nat.le_refl _) (Nat.le_refl _) (by first | (exfalso; omega) | (simp only [doesA, doesS, doesN, doesT, h219, (show ¬ (6 : Nat) = 0 by decide), (show ¬ (6 : Nat) = 1 by decide), (show ¬ (6 : Nat) = 2 by decide), (show ¬ (6 : Nat) = 3 by decide), (show ¬ (6 : Nat) = 4 by decide), (show ¬ (6 : Nat) = 5 by decide), if_pos h219, Bool.true_and, Bool.and_true, Bool.false_and, Bool.and_false, Bool.not_true, Bool.not_false, Bool.or_true, Bool.or_false, Bool.true_or, Bool.false_or, Bool.false_eq_true, Bool.true_eq_false, if_true, if_false, ite_true, ite_false, reduceIte, reduceCtorEq] at kk; exact kk))
