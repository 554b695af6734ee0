section AQL
variable {G : xG} {μ : xM} {d mc ms : Nat} {Q : xQ} {pc : Nat} {L : List (Option Value)} {st : List Value} {ws : va_W} {n k : Nat} 
theorem aw_qload_n {z : Fin 4} {i : Nat} {x : Option Nat} (hd : decode μ.2.1 pc = .ok (.aload_n z, 1)) (hi : (z : Nat) = i) (hl9 : L[i]? = some (some (va_rf x))) (kk : AW G μ d mc ms Q (pc + 1) L (va_rf x :: st) ws n k) : AW G μ d mc ms Q pc L st ws n k := by
  intro p e s m args below meth c H locs A ls C hS hP hD hl
  cases x with
  | none => exact lv_aload_nN C.1 C.2.1 hd hi (hl.2.2 _ _ hl9) (kk p e s m args below meth c H locs A ls C hS hP hD hl)
  | some x => exact lv_aload_n C.1 C.2.1 hd hi (hl.2.2 _ _ hl9) (kk p e s m args below meth c H locs A ls C hS hP hD hl)
theorem aw_qload {i : Nat} {x : Option Nat} (hd : decode μ.2.1 pc = .ok (.aload i, 2)) (hl9 : L[i]? = some (some (va_rf x))) (kk : AW G μ d mc ms Q (pc + 2) L (va_rf x :: st) ws n k) : AW G μ d mc ms Q pc L st ws n k := by
  intro p e s m args below meth c H locs A ls C hS hP hD hl
  cases x with
  | none => exact lv_aloadN C.1 C.2.1 hd (hl.2.2 _ _ hl9) (kk p e s m args below meth c H locs A ls C hS hP hD hl)
  | some x => exact lv_aload C.1 C.2.1 hd (hl.2.2 _ _ hl9) (kk p e s m args below meth c H locs A ls C hS hP hD hl)
theorem aw_qstore_n {z : Fin 4} {i : Nat} {x : Option Nat} (hd : decode μ.2.1 pc = .ok (.astore_n z, 1)) (hi : (z : Nat) = i) (hn : i < μ.2.2.1) (hk : lk1 L i) (kk : AW G μ d mc ms Q (pc + 1) (L.set i (some (va_rf x))) st ws n k) : AW G μ d mc ms Q pc L (va_rf x :: st) ws n k := by
  intro p e s m args below meth c H locs A ls C hS hP hD hl
  cases x with
  | none => exact lv_astore_nN C.1 C.2.1 hd hi (lh_has hl) hn rfl (fun ls9 h9 => kk p e s m args below meth c H locs A ls9 C hS hP hD (lh_set1 h9 hk))
  | some x => exact lv_astore_n C.1 C.2.1 hd hi (lh_has hl) hn rfl (fun ls9 h9 => kk p e s m args below meth c H locs A ls9 C hS hP hD (lh_set1 h9 hk))
theorem aw_qstore {i : Nat} {x : Option Nat} (hd : decode μ.2.1 pc = .ok (.astore i, 2)) (hn : i < μ.2.2.1) (hk : lk1 L i) (kk : AW G μ d mc ms Q (pc + 2) (L.set i (some (va_rf x))) st ws n k) : AW G μ d mc ms Q pc L (va_rf x :: st) ws n k := by
  intro p e s m args below meth c H locs A ls C hS hP hD hl
  cases x with
  | none => exact lv_astoreN C.1 C.2.1 hd (lh_has hl) hn rfl (fun ls9 h9 => kk p e s m args below meth c H locs A ls9 C hS hP hD (lh_set1 h9 hk))
  | some x => exact lv_astore C.1 C.2.1 hd (lh_has hl) hn rfl (fun ls9 h9 => kk p e s m args below meth c H locs A ls9 C hS hP hD (lh_set1 h9 hk))
theorem aw_swap4 {X Y Z U R : va_W} (kk : AW G μ d mc ms Q pc L st (U ++ (X ++ (Y ++ (Z ++ R)))) n k) : AW G μ d mc ms Q pc L st (X ++ (Y ++ (Z ++ (U ++ R)))) n k := by
  refine aw_perm ?_ kk
  rw [← List.append_assoc Y Z, ← List.append_assoc X, ← List.append_assoc Y Z R, ← List.append_assoc X (Y ++ Z) R, ← List.append_assoc, ← List.append_assoc U]
  exact List.Perm.append_right R List.perm_append_comm
end AQL
/-- the words, by their numbers -/
def wNm : List String := ["LAND", "STORE", "ROAD", "TREATY", "PERSON", "CROSSES", "PACT", "BREAK", "CLOSE", "OPEN", "LEND", "DAY", "OR", "AND", "NOT", "HOME", "STUCK", "IN", "OF", "FREE", "LENGTH", "TAKEN", "CROSSED", "NUMBER"]
/-- a word with five bits a letter -/
def wC5 : Nat → Int64 := fun k => match k with
  | 0 => 394692
  | 1 => 20594245
  | 2 => 605220
  | 3 => 690128537
  | 4 => 542723566
  | 5 => 3841576115
  | 6 => 525428
  | 7 => 2692139
  | 8 => 3554917
  | 9 => 508078
  | 10 => 398788
  | 11 => 4153
  | 12 => 498
  | 13 => 1476
  | 14 => 14836
  | 15 => 277925
  | 16 => 20599915
  | 17 => 302
  | 18 => 486
  | 19 => 215205
  | 20 => 408362632
  | 21 => 21015726
  | 22 => 3841576100
  | 23 => 492210354
  | _ => 0
def wMap : Nat → Nat := fun k => match k with
  | 0 => 1
  | 1 => 2
  | 2 => 3
  | 3 => 4
  | 4 => 5
  | 5 => 0
  | 6 => 6
  | 7 => 7
  | 8 => 8
  | 9 => 9
  | 10 => 10
  | 11 => 11
  | 12 => 0
  | 13 => 0
  | 14 => 12
  | 15 => 13
  | 16 => 14
  | 17 => 15
  | 18 => 16
  | 19 => 17
  | 20 => 18
  | 21 => 19
  | 22 => 20
  | 23 => 21
  | _ => 0
/-- the words' objects and what is told of them -/
def EB (ad : Nat → Nat) (tw ts : Nat) (G : xG) : Prop := ∀ (A : Nat → Prop) (U : State), G.2.2.2 A U →
   va_En "InchBorders$Word" "LInchBorders$Word;" wNm [("java/lang/Enum", "ordinal", "I", [0, 1, 2, 3, 4, 5, 6, 7, 8, 9, 10, 11, 12, 13, 14, 15, 16, 17, 18, 19, 20, 21, 22, 23])] ad A U U.heap
 ∧ va_Ef 24 "InchBorders$Word" "code" "J" (fun i => .long (wC5 i)) ad A U U.heap
 ∧ va_Z "InchBorders" "WORDS" "[LInchBorders$Word;" (.ref tw) A U U.heap ∧ va_T (.object "InchBorders$Word") tw 24 (fun i => .ref (ad i)) A U U.heap
 ∧ va_Z "InchBorders$1" "$SwitchMap$InchBorders$Word" "[I" (.ref ts) A U U.heap ∧ va_T .int ts 24 (fun i => .int (nI (wMap i))) A U U.heap
def NB (G : xG) : Prop := ∀ (A : Nat → Prop) (U : State), G.2.2.2 A U → va_Nw (.methodLinkNest "InchBorders$MapText" 117 yX11_hasBit "InchBorders") U ∧ va_Nw (.methodLinkNest "InchBorders$Chart" 53 yX11_hasBit "InchBorders") U ∧ va_Nw (.methodLinkNest "InchBorders$State" 55 yX11_hasBit "InchBorders") U ∧ va_Nw (.methodLinkNest "InchBorders$Caravan" 78 yX11_hasBit "InchBorders") U ∧ va_Nw (.methodLinkNest "InchBorders$Sentence" 162 yX11_hasBit "InchBorders") U ∧ va_Nw (.fieldLinkNest "InchBorders$Tape" 98 "InchBorders" "WORDS" "[LInchBorders$Word;" "InchBorders") U ∧ va_Nw (.methodLinkNest "InchBorders" 9 yX8_init "InchBorders") U ∧ va_Nw (.methodLinkNest "InchBorders" 68 yX3_init "InchBorders") U
theorem NB.x4 {G : xG} (h : NB G) : ∀ (A : Nat → Prop) (U : State), G.2.2.2 A U → va_Nw (.methodLinkNest "InchBorders$MapText" 117 yX11_hasBit "InchBorders") U := fun A U hF => (h A U hF).1
theorem NB.x3 {G : xG} (h : NB G) : ∀ (A : Nat → Prop) (U : State), G.2.2.2 A U → va_Nw (.methodLinkNest "InchBorders$Chart" 53 yX11_hasBit "InchBorders") U := fun A U hF => (h A U hF).2.1
theorem NB.x7 {G : xG} (h : NB G) : ∀ (A : Nat → Prop) (U : State), G.2.2.2 A U → va_Nw (.methodLinkNest "InchBorders$State" 55 yX11_hasBit "InchBorders") U := fun A U hF => (h A U hF).2.2.1
theorem NB.x2 {G : xG} (h : NB G) : ∀ (A : Nat → Prop) (U : State), G.2.2.2 A U → va_Nw (.methodLinkNest "InchBorders$Caravan" 78 yX11_hasBit "InchBorders") U := fun A U hF => (h A U hF).2.2.2.1
theorem NB.x6 {G : xG} (h : NB G) : ∀ (A : Nat → Prop) (U : State), G.2.2.2 A U → va_Nw (.methodLinkNest "InchBorders$Sentence" 162 yX11_hasBit "InchBorders") U := fun A U hF => (h A U hF).2.2.2.2.1
theorem NB.f8 {G : xG} (h : NB G) : ∀ (A : Nat → Prop) (U : State), G.2.2.2 A U → va_Nw (.fieldLinkNest "InchBorders$Tape" 98 "InchBorders" "WORDS" "[LInchBorders$Word;" "InchBorders") U := fun A U hF => (h A U hF).2.2.2.2.2.1
theorem NB.i8 {G : xG} (h : NB G) : ∀ (A : Nat → Prop) (U : State), G.2.2.2 A U → va_Nw (.methodLinkNest "InchBorders" 9 yX8_init "InchBorders") U := fun A U hF => (h A U hF).2.2.2.2.2.2.1
theorem NB.i3 {G : xG} (h : NB G) : ∀ (A : Nat → Prop) (U : State), G.2.2.2 A U → va_Nw (.methodLinkNest "InchBorders" 68 yX3_init "InchBorders") U := fun A U hF => (h A U hF).2.2.2.2.2.2.2
/-- a word's number, or none -/
def wOK (r : Option Nat) : Prop := ∀ i, r = some i → i < 24
theorem wOK_some {i : Nat} (h : i < 24) : wOK (some i) := fun j e => by cases e; exact h
theorem wOK_none : wOK none := fun j e => by cases e
section AWW
variable {G : xG} {μ : xM} {d mc ms : Nat} {Q : xQ} {pc : Nat} {L : List (Option Value)} {st : List Value} {ws : va_W} {n k : Nat} {ad : Nat → Nat} {tw ts : Nat}
theorem eb_inj (hF : ∃ (A : Nat → Prop) (U : State), G.2.2.2 A U) (hE : EB ad tw ts G) {x y : Option Nat} (hx : wOK x) (hy : wOK y) (h : x.map ad = y.map ad) : x = y := by
  obtain ⟨A, U, hF⟩ := hF
  cases x with
  | none => cases y with
    | none => rfl
    | some j => cases h
  | some i => cases y with
    | none => cases h
    | some j => rw [(hE A U hF).1.2 i j (hx i rfl) (hy j rfl) (Option.some.inj h)]
theorem aw_wcmp_eq {x y : Option Nat} {off : Int} {tgt : Nat} (hd : decode μ.2.1 pc = .ok (.if_acmp .eq off, 3)) (ht : (pc : Int) + off = (tgt : Int)) (hE : EB ad tw ts G) (hx : wOK x) (hy : wOK y) (kt : x = y → AW G μ d mc ms Q tgt L st ws n k) (kf : ¬ x = y → AW G μ d mc ms Q (pc + 3) L st ws n k) : AW G μ d mc ms Q pc L (va_rf (Option.map ad y) :: va_rf (Option.map ad x) :: st) ws n k := by
  intro p e s m args below meth c H locs A ls C hS hP hD hl
  exact aw_acmp_eq hd ht (fun h9 => kt (eb_inj ⟨A, s, C.2.2.2.2.2.2.2.2.2.2.2⟩ hE hx hy h9)) (fun h9 => kf (fun e => h9 (by rw [e]))) p e s m args below meth c H locs A ls C hS hP hD hl
theorem aw_wcmp_ne {x y : Option Nat} {off : Int} {tgt : Nat} (hd : decode μ.2.1 pc = .ok (.if_acmp .ne off, 3)) (ht : (pc : Int) + off = (tgt : Int)) (hE : EB ad tw ts G) (hx : wOK x) (hy : wOK y) (kt : ¬ x = y → AW G μ d mc ms Q tgt L st ws n k) (kf : x = y → AW G μ d mc ms Q (pc + 3) L st ws n k) : AW G μ d mc ms Q pc L (va_rf (Option.map ad y) :: va_rf (Option.map ad x) :: st) ws n k := by
  intro p e s m args below meth c H locs A ls C hS hP hD hl
  exact aw_acmp_ne hd ht (fun h9 => kt (fun e => h9 (by rw [e]))) (fun h9 => kf (eb_inj ⟨A, s, C.2.2.2.2.2.2.2.2.2.2.2⟩ hE hx hy h9)) p e s m args below meth c H locs A ls C hS hP hD hl
theorem aw_wnonnull {r : Option Nat} {off : Int} {tgt : Nat} (hd : decode μ.2.1 pc = .ok (.ifnonnull off, 3)) (ht : (pc : Int) + off = (tgt : Int)) (kt : ¬ r = none → AW G μ d mc ms Q tgt L st ws n k) (kf : r = none → AW G μ d mc ms Q (pc + 3) L st ws n k) : AW G μ d mc ms Q pc L (va_rf (Option.map ad r) :: st) ws n k := aw_ifnonnull hd ht (fun x h => kt (fun e => by rw [e] at h; cases h)) (fun h => kf (by cases r with | none => rfl | some x => cases h))
theorem aw_wnull {r : Option Nat} {off : Int} {tgt : Nat} (hd : decode μ.2.1 pc = .ok (.ifnull off, 3)) (ht : (pc : Int) + off = (tgt : Int)) (kt : r = none → AW G μ d mc ms Q tgt L st ws n k) (kf : ¬ r = none → AW G μ d mc ms Q (pc + 3) L st ws n k) : AW G μ d mc ms Q pc L (va_rf (Option.map ad r) :: st) ws n k := aw_ifnull hd ht (fun h => kt (by cases r with | none => rfl | some x => cases h)) (fun x h => kf (fun e => by rw [e] at h; cases h))
/-- a word by its name -/
theorem aw_gsw {idx i : Nat} {nm own : String} (hd : decode μ.2.1 pc = .ok (.getstatic idx, 3)) (ho : μ.1.cls = own) (hE : EB ad tw ts G) (hi : i < 24) (hnm : wNm.getD i "" = nm) (hlk : Cond.fieldLink own idx "InchBorders$Word" nm "LInchBorders$Word;" ∈ gtbl) (kk : AW G μ d mc ms Q (pc + 3) L (va_rf (Option.map ad (some i)) :: st) ws n k) : AW G μ d mc ms Q pc L st ws n k := by
  intro p e s m args below meth c H locs A ls C hS hP hD hl
  subst ho
  subst hnm
  exact va_gets C.1 C.2.1 ((hE A s C.2.2.2.2.2.2.2.2.2.2.2).1.1 i hi).1 hS C.2.2.2.2.1 (C.2.2.2.2.2.1 _ hlk) (fun _ h9 => h9) hd (kk p e s m args below meth c H locs A ls C hS hP hD hl)
/-- the switch's row -/
theorem aw_gsm {idx : Nat} {own : String} (hd : decode μ.2.1 pc = .ok (.getstatic idx, 3)) (ho : μ.1.cls = own) (hE : EB ad tw ts G) (hlk : Cond.fieldLink own idx "InchBorders$1" "$SwitchMap$InchBorders$Word" "[I" ∈ gtbl) (kk : AW G μ d mc ms Q (pc + 3) L (.ref ts :: st) ws n k) : AW G μ d mc ms Q pc L st ws n k := by
  intro p e s m args below meth c H locs A ls C hS hP hD hl
  subst ho
  exact va_gets C.1 C.2.1 (hE A s C.2.2.2.2.2.2.2.2.2.2.2).2.2.2.2.1 hS C.2.2.2.2.1 (C.2.2.2.2.2.1 _ hlk) (fun _ h9 => h9) hd (kk p e s m args below meth c H locs A ls C hS hP hD hl)
theorem aw_tm {i : Nat} (hd : decode μ.2.1 pc = .ok (.iaload, 1)) (hE : EB ad tw ts G) (hi : i < 24) (kk : AW G μ d mc ms Q (pc + 1) L (.int (nI (wMap i)) :: st) ws n k) : AW G μ d mc ms Q pc L (.int (nI i) :: .ref ts :: st) ws n k := by
  intro p e s m args below meth c H locs A ls C hS hP hD hl
  exact va_ti C.1 C.2.1 (hE A s C.2.2.2.2.2.2.2.2.2.2.2).2.2.2.2.2 hS (vp_in_nI hi (by decide)) (v := .int (nI (wMap i))) (by rw [nI_clamp (by omega)]) hd (kk p e s m args below meth c H locs A ls C hS hP hD hl)
/-- all words -/
theorem aw_gsa (hd : decode μ.2.1 pc = .ok (.getstatic 98, 3)) (ho : μ.1.cls = "InchBorders$Tape") (hE : EB ad tw ts G) (hN : NB G) (kk : AW G μ d mc ms Q (pc + 3) L (.ref tw :: st) ws n k) : AW G μ d mc ms Q pc L st ws n k := by
  intro p e s m args below meth c H locs A ls C hS hP hD hl
  have hown := C.2.2.2.2.1
  rw [ho] at hown
  exact va_getsN C.1 C.2.1 (hE A s C.2.2.2.2.2.2.2.2.2.2.2).2.2.1 hS hown (va_Nw.use rfl (hN.f8 A s C.2.2.2.2.2.2.2.2.2.2.2)) (fun _ h9 => h9) hd (kk p e s m args below meth c H locs A ls C hS hP hD hl)
theorem aw_ta {i : Nat} (hd : decode μ.2.1 pc = .ok (.aaload, 1)) (hE : EB ad tw ts G) (hi : i < 24) (kk : AW G μ d mc ms Q (pc + 1) L (va_rf (Option.map ad (some i)) :: st) ws n k) : AW G μ d mc ms Q pc L (.int (nI i) :: .ref tw :: st) ws n k := by
  intro p e s m args below meth c H locs A ls C hS hP hD hl
  exact vb_tq C.1 C.2.1 (hE A s C.2.2.2.2.2.2.2.2.2.2.2).2.2.2.1 hS (vp_in_nI hi (by decide)) (v := .ref (ad i)) (by rw [nI_clamp (by omega)]) hd (kk p e s m args below meth c H locs A ls C hS hP hD hl)
theorem aw_tlen (hd : decode μ.2.1 pc = .ok (.arraylength, 1)) (hE : EB ad tw ts G) (kk : AW G μ d mc ms Q (pc + 1) L (.int (nI 24) :: st) ws n k) : AW G μ d mc ms Q pc L (.ref tw :: st) ws n k := by
  intro p e s m args below meth c H locs A ls C hS hP hD hl
  exact va_tlen C.1 C.2.1 (hE A s C.2.2.2.2.2.2.2.2.2.2.2).2.2.2.1 hS rfl hd (kk p e s m args below meth c H locs A ls C hS hP hD hl)
theorem aw_wcode {idx i : Nat} {own : String} (hd : decode μ.2.1 pc = .ok (.getfield idx, 3)) (ho : μ.1.cls = own) (hE : EB ad tw ts G) (hi : i < 24) (hlk : Cond.fieldLink own idx "InchBorders$Word" "code" "J" ∈ gtbl) (kk : AW G μ d mc ms Q (pc + 3) L (.long (wC5 i) :: st) ws n k) : AW G μ d mc ms Q pc L (va_rf (Option.map ad (some i)) :: st) ws n k := by
  intro p e s m args below meth c H locs A ls C hS hP hD hl
  subst ho
  exact va_getX C.1 C.2.1 (hE A s C.2.2.2.2.2.2.2.2.2.2.2).2.1 hi hS C.2.2.2.2.1 (C.2.2.2.2.2.1 _ hlk) (fun _ h9 => h9) hd (kk p e s m args below meth c H locs A ls C hS hP hD hl)
theorem eb_recv (hE : EB ad tw ts G) {i : Nat} (hi : i < 24) (A : Nat → Prop) (U : State) (H : Heap) (locs : List Loc) (hF : G.2.2.2 A U) (hS : va_S A U.heap H locs) : ∃ cell : Cell, H[ad i]? = some cell ∧ cell.vm.isStatics = false ∧ U.vm.findClass "InchBorders$Word" = some cell.cls := va_recvE (hE A U hF).1 hi hS
theorem pl_X8_words {a : Nat → Nat} {κ : kS} {R : va_W} {j : Nat} {x : Option Nat} (hd : decode μ.2.1 pc = .ok (.aaload, 1)) (hj : j < 941) (hv : κ.2.2.2 5 j = x) (kk : AW G μ d mc ms Q (pc + 1) L (va_rf x :: st) (wTp G.2.2.1 a κ ++ R) n k) : AW G μ d mc ms Q pc L (.int (nI j) :: .ref (a 5) :: st) (wTp G.2.2.1 a κ ++ R) n k := av_waald hd (QV.of (M := 941) 5 rfl (Nat.le_refl _) (fun _ _ => rfl)) hj (by decide) hv kk
theorem ps_X8_words {a : Nat → Nat} {κ : kS} {R : va_W} {j : Nat} {x : Option Nat} (hd : decode μ.2.1 pc = .ok (.aastore, 1)) (hE : EB ad tw ts G) (hj : j < 941) (hx : wOK x) (kk : AW G μ d mc ms Q (pc + 1) L st (wTp G.2.2.1 a (kP κ 5 j (Option.map ad x)) ++ R) n k) : AW G μ d mc ms Q pc L (va_rf (Option.map ad x) :: .int (nI j) :: .ref (a 5) :: st) (wTp G.2.2.1 a κ ++ R) n k := by
  intro p e s m args below meth c H locs A ls C hS hP hD hl
  have hi : vp_in (nI j) 941 := vp_in_nI hj (by decide)
  have hc : (nI j).toNatClampNeg = j := nI_clamp (Nat.lt_trans hj (by decide))
  cases x with
  | none =>
    refine va_astqN C.1 C.2.1 C.2.2.2.2.2.2.2.2.2.1 hP hD hS 5 5 rfl rfl hi hd (fun H1 locs1 hP1 hD1 hS1 => ?_)
    rw [hc] at hP1 hD1
    exact kk p e s m args below meth c H1 locs1 A ls C hS1 hP1 hD1 hl
  | some i =>
    refine vb_astq (C := "InchBorders$Word") C.1 C.2.1 C.2.2.2.2.2.2.2.2.2.1 hP hD hS 5 5 rfl rfl (eb_recv hE (hx i rfl) A s H locs C.2.2.2.2.2.2.2.2.2.2.2 hS) (fun comp c0 h1 h2 => vb_asgS comp c0 h1 h2) hi hd (fun H1 locs1 hP1 hD1 hS1 => ?_)
    rw [hc] at hP1 hD1
    exact kk p e s m args below meth c H1 locs1 A ls C hS1 hP1 hD1 hl
theorem pl_X6_what {a : Nat → Nat} {κ : kS} {R : va_W} {j : Nat} {x : Option Nat} (hd : decode μ.2.1 pc = .ok (.aaload, 1)) (hj : j < 40) (hv : κ.2.2.2 2 j = x) (kk : AW G μ d mc ms Q (pc + 1) L (va_rf x :: st) (wSe G.2.2.1 a κ ++ R) n k) : AW G μ d mc ms Q pc L (.int (nI j) :: .ref (a 2) :: st) (wSe G.2.2.1 a κ ++ R) n k := av_waald hd (QV.of (M := 40) 1 rfl (Nat.le_refl _) (fun _ _ => rfl)) hj (by decide) hv kk
theorem ps_X6_what {a : Nat → Nat} {κ : kS} {R : va_W} {j : Nat} {x : Option Nat} (hd : decode μ.2.1 pc = .ok (.aastore, 1)) (hE : EB ad tw ts G) (hj : j < 40) (hx : wOK x) (kk : AW G μ d mc ms Q (pc + 1) L st (wSe G.2.2.1 a (kP κ 2 j (Option.map ad x)) ++ R) n k) : AW G μ d mc ms Q pc L (va_rf (Option.map ad x) :: .int (nI j) :: .ref (a 2) :: st) (wSe G.2.2.1 a κ ++ R) n k := by
  intro p e s m args below meth c H locs A ls C hS hP hD hl
  have hi : vp_in (nI j) 40 := vp_in_nI hj (by decide)
  have hc : (nI j).toNatClampNeg = j := nI_clamp (Nat.lt_trans hj (by decide))
  cases x with
  | none =>
    refine va_astqN C.1 C.2.1 C.2.2.2.2.2.2.2.2.2.1 hP hD hS 1 5 rfl rfl hi hd (fun H1 locs1 hP1 hD1 hS1 => ?_)
    rw [hc] at hP1 hD1
    exact kk p e s m args below meth c H1 locs1 A ls C hS1 hP1 hD1 hl
  | some i =>
    refine vb_astq (C := "InchBorders$Word") C.1 C.2.1 C.2.2.2.2.2.2.2.2.2.1 hP hD hS 1 5 rfl rfl (eb_recv hE (hx i rfl) A s H locs C.2.2.2.2.2.2.2.2.2.2.2 hS) (fun comp c0 h1 h2 => vb_asgS comp c0 h1 h2) hi hd (fun H1 locs1 hP1 hD1 hS1 => ?_)
    rw [hc] at hP1 hD1
    exact kk p e s m args below meth c H1 locs1 A ls C hS1 hP1 hD1 hl
theorem pl_X11_past {a : Nat → Nat} {κ : kS} {R : va_W} {j : Nat} {x : Option Nat} (hd : decode μ.2.1 pc = .ok (.aaload, 1)) (hj : j < 8) (hv : κ.2.2.2 3 j = x) (kk : AW G μ d mc ms Q (pc + 1) L (va_rf x :: st) (wIb G.2.2.1 a κ ++ R) n k) : AW G μ d mc ms Q pc L (.int (nI j) :: .ref (a 3) :: st) (wIb G.2.2.1 a κ ++ R) n k := av_saald hd (QV.of (M := 8) 1 rfl (Nat.le_refl _) (fun _ _ => rfl)) hj (by decide) hv kk
theorem pl_X11_images {a : Nat → Nat} {κ : kS} {R : va_W} {j : Nat} {x : Option Nat} (hd : decode μ.2.1 pc = .ok (.aaload, 1)) (hj : j < 2) (hv : κ.2.2.2 6 j = x) (kk : AW G μ d mc ms Q (pc + 1) L (va_rf x :: st) (wIb G.2.2.1 a κ ++ R) n k) : AW G μ d mc ms Q pc L (.int (nI j) :: .ref (a 6) :: st) (wIb G.2.2.1 a κ ++ R) n k := av_saald hd (QV.of (M := 2) 2 rfl (Nat.le_refl _) (fun _ _ => rfl)) hj (by decide) hv kk
end AWW
theorem gs_X1_69 : (.fieldLink "InchBorders$Book" 69 "InchBorders$1" "$SwitchMap$InchBorders$Word" "[I" : Cond) ∈ gtbl := gtbl_in (List.mem_of_getElem? (i := 1139) (by decide +kernel)) rfl
theorem gs_X1_99 : (.fieldLink "InchBorders$Book" 99 "InchBorders$Word" "CROSSES" "LInchBorders$Word;" : Cond) ∈ gtbl := gtbl_in (List.mem_of_getElem? (i := 1132) (by decide +kernel)) rfl
theorem gs_X4_47 : (.fieldLink "InchBorders$MapText" 47 "InchBorders$1" "$SwitchMap$InchBorders$Word" "[I" : Cond) ∈ gtbl := gtbl_in (List.mem_of_getElem? (i := 636) (by decide +kernel)) rfl
theorem gs_X6_66 : (.fieldLink "InchBorders$Sentence" 66 "InchBorders$Word" "OR" "LInchBorders$Word;" : Cond) ∈ gtbl := gtbl_in (List.mem_of_getElem? (i := 1251) (by decide +kernel)) rfl
theorem gs_X6_79 : (.fieldLink "InchBorders$Sentence" 79 "InchBorders$Word" "AND" "LInchBorders$Word;" : Cond) ∈ gtbl := gtbl_in (List.mem_of_getElem? (i := 1249) (by decide +kernel)) rfl
theorem gs_X6_92 : (.fieldLink "InchBorders$Sentence" 92 "InchBorders$Word" "NOT" "LInchBorders$Word;" : Cond) ∈ gtbl := gtbl_in (List.mem_of_getElem? (i := 1227) (by decide +kernel)) rfl
theorem gs_X6_95 : (.fieldLink "InchBorders$Sentence" 95 "InchBorders$Word" "HOME" "LInchBorders$Word;" : Cond) ∈ gtbl := gtbl_in (List.mem_of_getElem? (i := 1233) (by decide +kernel)) rfl
theorem gs_X6_98 : (.fieldLink "InchBorders$Sentence" 98 "InchBorders$Word" "STUCK" "LInchBorders$Word;" : Cond) ∈ gtbl := gtbl_in (List.mem_of_getElem? (i := 1235) (by decide +kernel)) rfl
theorem gs_X6_101 : (.fieldLink "InchBorders$Sentence" 101 "InchBorders$Word" "IN" "LInchBorders$Word;" : Cond) ∈ gtbl := gtbl_in (List.mem_of_getElem? (i := 1237) (by decide +kernel)) rfl
theorem gs_X6_104 : (.fieldLink "InchBorders$Sentence" 104 "InchBorders$Word" "OF" "LInchBorders$Word;" : Cond) ∈ gtbl := gtbl_in (List.mem_of_getElem? (i := 1239) (by decide +kernel)) rfl
theorem gs_X6_107 : (.fieldLink "InchBorders$Sentence" 107 "InchBorders$Word" "FREE" "LInchBorders$Word;" : Cond) ∈ gtbl := gtbl_in (List.mem_of_getElem? (i := 1241) (by decide +kernel)) rfl
theorem gs_X6_117 : (.fieldLink "InchBorders$Sentence" 117 "InchBorders$1" "$SwitchMap$InchBorders$Word" "[I" : Cond) ∈ gtbl := gtbl_in (List.mem_of_getElem? (i := 1222) (by decide +kernel)) rfl
theorem gs_X8_101 : (.fieldLink "InchBorders$Tape" 101 "InchBorders$Word" "code" "J" : Cond) ∈ gtbl := gtbl_in (List.mem_of_getElem? (i := 2047) (by decide +kernel)) rfl
theorem ord_link : (.fieldLink "java/lang/Enum" 7 "java/lang/Enum" "ordinal" "I" : Cond) ∈ gtbl := gtbl_in (List.mem_of_getElem? (i := 2048) (by decide +kernel)) rfl
set_option maxHeartbeats 1000000 in
theorem c_ordinal {G : xG} {d : Nat} {Q : xQ} {ws : va_W} {ad : Nat → Nat} {tw ts i : Nat} (hE : EB ad tw ts G) (hi : i < 24) (kk : Q (some (.int (nI i))) ws) : MT G MJx29ce0_ordinal_8abf5 (d) 0 0 [.ref (ad i)] ws Q := by
  refine mt_start (L := [some (.ref (ad i))]) rfl (Nat.le_of_ble_eq_true rfl) rfl ?_
  refine aw_aload_n (pc := 0) (i := 0) dJx29ce0_ordinal_8abf5_0 rfl rfl ?_
  have hg : AW G MJx29ce0_ordinal_8abf5 d 0 0 Q (1 + 3) [some (.ref (ad i))] [.int (nI i)] ws 0 0 := aw_iret (pc := 4) dJx29ce0_ordinal_8abf5_4 rfl (Nat.le_refl _) (Nat.le_refl _) kk
  intro p e s m args below meth c H locs A ls C hS hP hD hl
  have hq := hg p e s m args below meth c H locs A ls C hS hP hD hl
  have hv : ([0, 1, 2, 3, 4, 5, 6, 7, 8, 9, 10, 11, 12, 13, 14, 15, 16, 17, 18, 19, 20, 21, 22, 23] : List Int32).getD i 0 = nI i := by
    rcases (show i = 0 ∨ i = 1 ∨ i = 2 ∨ i = 3 ∨ i = 4 ∨ i = 5 ∨ i = 6 ∨ i = 7 ∨ i = 8 ∨ i = 9 ∨ i = 10 ∨ i = 11 ∨ i = 12 ∨ i = 13 ∨ i = 14 ∨ i = 15 ∨ i = 16 ∨ i = 17 ∨ i = 18 ∨ i = 19 ∨ i = 20 ∨ i = 21 ∨ i = 22 ∨ i = 23 by omega) with rfl | rfl | rfl | rfl | rfl | rfl | rfl | rfl | rfl | rfl | rfl | rfl | rfl | rfl | rfl | rfl | rfl | rfl | rfl | rfl | rfl | rfl | rfl | rfl <;> rfl
  rw [← hv] at hq
  exact va_getE C.1 C.2.1 (hE A s C.2.2.2.2.2.2.2.2.2.2.2).1 hi hS C.2.2.2.2.1 List.mem_cons_self (C.2.2.2.2.2.1 _ ord_link) (fun _ h9 => h9) dJx29ce0_ordinal_8abf5_1 hq
theorem ord_code : (.code yJx29ce0_ordinal_8abf5 cJx29ce0_ordinal_8abf5 1 (some .int) : Cond) ∈ gtbl := gtbl_in (List.mem_of_getElem? (i := 643) (by decide +kernel)) rfl
theorem ou_X1 : ∀ w ∈ ([.methodLink "InchBorders$Book" 74 ⟨"InchBorders$Word", "ordinal", "()I"⟩, .sameMethod "InchBorders$Word" "java/lang/Enum" "ordinal" "()I", .selects "InchBorders$Word" ⟨"InchBorders$Word", "ordinal", "()I"⟩ ⟨"java/lang/Enum", "ordinal", "()I"⟩, .instanceMethod ⟨"java/lang/Enum", "ordinal", "()I"⟩, .initialized "java/lang/Enum"] : List Cond), w ∈ gtbl := by decide +kernel
theorem co_X1 {G : xG} {μ : xM} {d mc ms : Nat} {Q : xQ} {pc : Nat} {L : List (Option Value)} {st : List Value} {ws : va_W} {n k : Nat} {ad : Nat → Nat} {tw ts i : Nat} (hd : decode μ.2.1 pc = .ok (.invokevirtual 74, 3)) (ho : μ.1.cls = "InchBorders$Book") (hE : EB ad tw ts G) (hi : i < 24) (hcat : (st.map fun v => v.category).sum ≤ 8) (hf1 : n ≤ mc) (hf2 : k ≤ ms) (kk : AW G μ (d + 1) mc ms Q (pc + 3) L (.int (nI i) :: st) ws n k) : AW G μ (d + 1) mc ms Q pc L (va_rf (Option.map ad (some i)) :: st) ws n k :=
  cUi (μ' := MJx29ce0_ordinal_8abf5) (CC := "InchBorders$Word") (owner := "java/lang/Enum") (x := ⟨"InchBorders$Word", "ordinal", "()I"⟩) (As := []) (rest := st) (b := ad i) (np := 0) hd ho ord_code ou_X1 rfl (by decide +kernel) (by decide) rfl rfl hcat (fun A U H locs hF hS => eb_recv hE hi A U H locs hF hS) hf1 hf2 (c_ordinal hE hi ⟨_, rfl, kk⟩)
theorem ou_X4 : ∀ w ∈ ([.methodLink "InchBorders$MapText" 53 ⟨"InchBorders$Word", "ordinal", "()I"⟩, .sameMethod "InchBorders$Word" "java/lang/Enum" "ordinal" "()I", .selects "InchBorders$Word" ⟨"InchBorders$Word", "ordinal", "()I"⟩ ⟨"java/lang/Enum", "ordinal", "()I"⟩, .instanceMethod ⟨"java/lang/Enum", "ordinal", "()I"⟩, .initialized "java/lang/Enum"] : List Cond), w ∈ gtbl := by decide +kernel
theorem co_X4 {G : xG} {μ : xM} {d mc ms : Nat} {Q : xQ} {pc : Nat} {L : List (Option Value)} {st : List Value} {ws : va_W} {n k : Nat} {ad : Nat → Nat} {tw ts i : Nat} (hd : decode μ.2.1 pc = .ok (.invokevirtual 53, 3)) (ho : μ.1.cls = "InchBorders$MapText") (hE : EB ad tw ts G) (hi : i < 24) (hcat : (st.map fun v => v.category).sum ≤ 8) (hf1 : n ≤ mc) (hf2 : k ≤ ms) (kk : AW G μ (d + 1) mc ms Q (pc + 3) L (.int (nI i) :: st) ws n k) : AW G μ (d + 1) mc ms Q pc L (va_rf (Option.map ad (some i)) :: st) ws n k :=
  cUi (μ' := MJx29ce0_ordinal_8abf5) (CC := "InchBorders$Word") (owner := "java/lang/Enum") (x := ⟨"InchBorders$Word", "ordinal", "()I"⟩) (As := []) (rest := st) (b := ad i) (np := 0) hd ho ord_code ou_X4 rfl (by decide +kernel) (by decide) rfl rfl hcat (fun A U H locs hF hS => eb_recv hE hi A U H locs hF hS) hf1 hf2 (c_ordinal hE hi ⟨_, rfl, kk⟩)
theorem ou_X6 : ∀ w ∈ ([.methodLink "InchBorders$Sentence" 122 ⟨"InchBorders$Word", "ordinal", "()I"⟩, .sameMethod "InchBorders$Word" "java/lang/Enum" "ordinal" "()I", .selects "InchBorders$Word" ⟨"InchBorders$Word", "ordinal", "()I"⟩ ⟨"java/lang/Enum", "ordinal", "()I"⟩, .instanceMethod ⟨"java/lang/Enum", "ordinal", "()I"⟩, .initialized "java/lang/Enum"] : List Cond), w ∈ gtbl := by decide +kernel
theorem co_X6 {G : xG} {μ : xM} {d mc ms : Nat} {Q : xQ} {pc : Nat} {L : List (Option Value)} {st : List Value} {ws : va_W} {n k : Nat} {ad : Nat → Nat} {tw ts i : Nat} (hd : decode μ.2.1 pc = .ok (.invokevirtual 122, 3)) (ho : μ.1.cls = "InchBorders$Sentence") (hE : EB ad tw ts G) (hi : i < 24) (hcat : (st.map fun v => v.category).sum ≤ 8) (hf1 : n ≤ mc) (hf2 : k ≤ ms) (kk : AW G μ (d + 1) mc ms Q (pc + 3) L (.int (nI i) :: st) ws n k) : AW G μ (d + 1) mc ms Q pc L (va_rf (Option.map ad (some i)) :: st) ws n k :=
  cUi (μ' := MJx29ce0_ordinal_8abf5) (CC := "InchBorders$Word") (owner := "java/lang/Enum") (x := ⟨"InchBorders$Word", "ordinal", "()I"⟩) (As := []) (rest := st) (b := ad i) (np := 0) hd ho ord_code ou_X6 rfl (by decide +kernel) (by decide) rfl rfl hcat (fun A U H locs hF hS => eb_recv hE hi A U H locs hF hS) hf1 hf2 (c_ordinal hE hi ⟨_, rfl, kk⟩)
