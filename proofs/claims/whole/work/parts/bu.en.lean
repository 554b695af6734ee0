/-- what stands fast from the law's entry on -/
def EF (ae : Nat → Nat) (tw ts : Nat) (aK aV : Nat → Nat) (tf : Option Nat) (b N : Nat) (sc : Nat → Int32) : xFt := fun A U => (va_En "InchBorders$Word" "LInchBorders$Word;" wNm [("java/lang/Enum", "ordinal", "I", [0, 1, 2, 3, 4, 5, 6, 7, 8, 9, 10, 11, 12, 13, 14, 15, 16, 17, 18, 19, 20, 21, 22, 23])] ae A U U.heap ∧ va_Ef 24 "InchBorders$Word" "code" "J" (fun i => .long (wC5 i)) ae A U U.heap ∧ va_Z "InchBorders" "WORDS" "[LInchBorders$Word;" (.ref tw) A U U.heap ∧ va_T (.object "InchBorders$Word") tw 24 (fun i => .ref (ae i)) A U U.heap ∧ va_Z "InchBorders$1" "$SwitchMap$InchBorders$Word" "[I" (.ref ts) A U U.heap ∧ va_T .int ts 24 (fun i => .int (nI (wMap i))) A U U.heap) ∧ (va_Nw (.methodLinkNest "InchBorders$MapText" 117 yX11_hasBit "InchBorders") U ∧ va_Nw (.methodLinkNest "InchBorders$Chart" 53 yX11_hasBit "InchBorders") U ∧ va_Nw (.methodLinkNest "InchBorders$State" 55 yX11_hasBit "InchBorders") U ∧ va_Nw (.methodLinkNest "InchBorders$Caravan" 78 yX11_hasBit "InchBorders") U ∧ va_Nw (.methodLinkNest "InchBorders$Sentence" 162 yX11_hasBit "InchBorders") U ∧ va_Nw (.fieldLinkNest "InchBorders$Tape" 98 "InchBorders" "WORDS" "[LInchBorders$Word;" "InchBorders") U ∧ va_Nw (.methodLinkNest "InchBorders" 9 yX8_init "InchBorders") U ∧ va_Nw (.methodLinkNest "InchBorders" 68 yX3_init "InchBorders") U) ∧ (va_AO "InchBorders$State" U ∧ va_AO "InchBorders$Word" U) ∧ (vk_S 3 kLn kBy aK aV A U U.heap ∧ va_Z "java/lang/String" "COMPACT_STRINGS" "Z" (.int 1) A U U.heap ∧ va_Z "jdk/internal/util/Preconditions" "SIOOBE_FORMATTER" "Ljava/util/function/BiFunction;" (va_rf tf) A U U.heap ∧ ∀ i, i < 3 → vk_R "InchBorders" (kIx.getD i 0) (kTx.getD i "") (aK i) U) ∧ (vx_Zq Bundle.tN "UNASSIGNED_STACK" Bundle.steD A U U.heap ∧ vx_Zq Bundle.tN "SUPPRESSED_SENTINEL" Bundle.listD A U U.heap ∧ va_Nw (.castable nsee nsee) U ∧ va_Nw (.declares ⟨"java/lang/RuntimeException", "<init>", "()V"⟩) U ∧ va_Nw (.declares ⟨"java/lang/Exception", "<init>", "()V"⟩) U ∧ va_Nw (.declares ⟨"java/lang/Throwable", "<init>", "()V"⟩) U) ∧ (va_X b N sc U U.heap ∧ ¬ A b)
theorem vx_Zq_go {C n d : String} {A A' : Nat → Prop} {U U' : State} (hW : U.WarmedH U'.vm) (hA : ∀ q, A' q → A q) (hq : ∀ q : Nat, q < U.heap.size → ¬ A q → U'.heap[q]? = U.heap[q]?) (h : vx_Zq C n d A U U.heap) : vx_Zq C n d A' U' U'.heap := ((h.kept hq).moved hW.alike).narrow hA
theorem va_Z_go {C n d : String} {v : Value} {A A' : Nat → Prop} {U U' : State} (hW : U.WarmedH U'.vm) (hA : ∀ q, A' q → A q) (hq : ∀ q : Nat, q < U.heap.size → ¬ A q → U'.heap[q]? = U.heap[q]?) (h : va_Z C n d v A U U.heap) : va_Z C n d v A' U' U'.heap := ((h.kept hq).moved hW.alike).narrow hA
theorem va_T_go {ty : FieldType} {t N : Nat} {f : Nat → Value} {A A' : Nat → Prop} {U U' : State} (hW : U.WarmedH U'.vm) (hA : ∀ q, A' q → A q) (hq : ∀ q : Nat, q < U.heap.size → ¬ A q → U'.heap[q]? = U.heap[q]?) (h : va_T ty t N f A U U.heap) : va_T ty t N f A' U' U'.heap := ((h.kept hq).moved hW.alike).narrow hA
theorem EF_cl {ae : Nat → Nat} {tw ts : Nat} {aK aV : Nat → Nat} {tf : Option Nat} {b N : Nat} {sc : Nat → Int32} : xCl (EF ae tw ts aK aV tf b N sc) := by
  intro A A' U U' hW hA hq h
  obtain ⟨⟨e1, e2, e3, e4, e5, e6⟩, ⟨n0, n1, n2, n3, n4, n5, n6, n7⟩, ⟨o1, o2⟩, ⟨k1, k2, k3, k4⟩, ⟨t1, t2, t3, t4, t5, t6⟩, ⟨x1, x2⟩⟩ := h
  refine ⟨⟨((e1.kept hq).moved hW.alike).narrow hA, ((e2.kept hq).moved hW.alike).narrow hA, va_Z_go hW hA hq e3, va_T_go hW hA hq e4, va_Z_go hW hA hq e5, va_T_go hW hA hq e6⟩, ⟨va_Nw.warmM hW n0, va_Nw.warmM hW n1, va_Nw.warmM hW n2, va_Nw.warmM hW n3, va_Nw.warmM hW n4, va_Nw.warmF hW n5, va_Nw.warmM hW n6, va_Nw.warmM hW n7⟩, ⟨o1.moved hW.alike, o2.moved hW.alike⟩, ⟨((k1.kept hq).moved hW.alike).narrow hA, va_Z_go hW hA hq k2, va_Z_go hW hA hq k3, fun i hi => (k4 i hi).warm hW⟩, ⟨vx_Zq_go hW hA hq t1, vx_Zq_go hW hA hq t2, va_Nw.warmC hW t3, va_Nw.warmD hW t4, va_Nw.warmD hW t5, va_Nw.warmD hW t6⟩, ⟨(x1.moved hW.alike).kept (hq b (va_X_lt x1) x2), fun z => x2 (hA _ z)⟩⟩
def eFl : List Cond := flatC (Cond.and given_1 narrow_1)
def eWs (i : Nat) : Term := .static "InchBorders$Word" (wNm.getD i "") "LInchBorders$Word;"
theorem eget {k : Nat} {c : Cond} (h : eFl[k]? = some c) : c ∈ eFl := List.mem_of_getElem? h
set_option maxRecDepth 100000 in
theorem en_ex : ∀ i, i < 24 → eFl[([130, 142, 155, 169, 184, 65, 200, 217, 235, 254, 274, 295, 117, 107, 68, 72, 77, 83, 90, 98, 317, 340, 364, 389] : List Nat).getD i 0]? = some (Cond.exactly (eWs i) "InchBorders$Word") := by decide +kernel
set_option maxRecDepth 100000 in
theorem en_od : ∀ i, i < 24 → eFl[([131, 143, 156, 170, 185, 66, 201, 218, 236, 255, 275, 296, 118, 108, 69, 73, 78, 84, 91, 99, 318, 341, 365, 390] : List Nat).getD i 0]? = some (Cond.eq (.field (eWs i) "java/lang/Enum" "ordinal" "I") (.int (([0, 1, 2, 3, 4, 5, 6, 7, 8, 9, 10, 11, 12, 13, 14, 15, 16, 17, 18, 19, 20, 21, 22, 23] : List Int32).getD i 0))) := by decide +kernel
set_option maxRecDepth 100000 in
theorem en_cd : ∀ i, i < 24 → eFl[([132, 144, 157, 171, 186, 67, 202, 219, 237, 256, 276, 297, 119, 109, 70, 74, 79, 85, 92, 100, 319, 342, 366, 391] : List Nat).getD i 0]? = some (Cond.eq (.field (eWs i) "InchBorders$Word" "code" "J") (.long (wC5 i))) := by decide +kernel
set_option maxRecDepth 100000 in
theorem en_we : ∀ i, i < 24 → eFl[([9, 10, 11, 12, 13, 14, 15, 16, 17, 18, 19, 20, 21, 22, 23, 24, 25, 26, 27, 28, 29, 30, 31, 32] : List Nat).getD i 0]? = some (Cond.eq (.elem (.static "InchBorders" "WORDS" "[LInchBorders$Word;") (.int (Int32.ofNat i))) (eWs i)) := by decide +kernel
set_option maxRecDepth 100000 in
theorem en_se : ∀ i, i < 24 → eFl[([36, 37, 38, 39, 40, 41, 42, 43, 44, 45, 46, 47, 48, 49, 50, 51, 52, 53, 54, 55, 56, 57, 58, 59] : List Nat).getD i 0]? = some (Cond.eq (.elem (.static "InchBorders$1" "$SwitchMap$InchBorders$Word" "[I") (.int (Int32.ofNat i))) (.int (nI (wMap i)))) := by decide +kernel
set_option maxRecDepth 100000 in
theorem en_ne : ∀ i, i < 24 → ∀ j, j < 24 → i ≠ j → eFl[(([[0, 154, 167, 181, 196, 133, 212, 229, 247, 266, 286, 307, 141, 140, 134, 135, 136, 137, 138, 139, 329, 352, 376, 401], [154, 0, 168, 182, 197, 145, 213, 230, 248, 267, 287, 308, 153, 152, 146, 147, 148, 149, 150, 151, 330, 353, 377, 402], [167, 168, 0, 183, 198, 158, 214, 231, 249, 268, 288, 309, 166, 165, 159, 160, 161, 162, 163, 164, 331, 354, 378, 403], [181, 182, 183, 0, 199, 172, 215, 232, 250, 269, 289, 310, 180, 179, 173, 174, 175, 176, 177, 178, 332, 355, 379, 404], [196, 197, 198, 199, 0, 187, 216, 233, 251, 270, 290, 311, 195, 194, 188, 189, 190, 191, 192, 193, 333, 356, 380, 405], [133, 145, 158, 172, 187, 0, 203, 220, 238, 257, 277, 298, 120, 110, 71, 75, 80, 86, 93, 101, 320, 343, 367, 392], [212, 213, 214, 215, 216, 203, 0, 234, 252, 271, 291, 312, 211, 210, 204, 205, 206, 207, 208, 209, 334, 357, 381, 406], [229, 230, 231, 232, 233, 220, 234, 0, 253, 272, 292, 313, 228, 227, 221, 222, 223, 224, 225, 226, 335, 358, 382, 407], [247, 248, 249, 250, 251, 238, 252, 253, 0, 273, 293, 314, 246, 245, 239, 240, 241, 242, 243, 244, 336, 359, 383, 408], [266, 267, 268, 269, 270, 257, 271, 272, 273, 0, 294, 315, 265, 264, 258, 259, 260, 261, 262, 263, 337, 360, 384, 409], [286, 287, 288, 289, 290, 277, 291, 292, 293, 294, 0, 316, 285, 284, 278, 279, 280, 281, 282, 283, 338, 361, 385, 410], [307, 308, 309, 310, 311, 298, 312, 313, 314, 315, 316, 0, 306, 305, 299, 300, 301, 302, 303, 304, 339, 362, 386, 411], [141, 153, 166, 180, 195, 120, 211, 228, 246, 265, 285, 306, 0, 127, 121, 122, 123, 124, 125, 126, 328, 351, 375, 400], [140, 152, 165, 179, 194, 110, 210, 227, 245, 264, 284, 305, 127, 0, 111, 112, 113, 114, 115, 116, 327, 350, 374, 399], [134, 146, 159, 173, 188, 71, 204, 221, 239, 258, 278, 299, 121, 111, 0, 76, 81, 87, 94, 102, 321, 344, 368, 393], [135, 147, 160, 174, 189, 75, 205, 222, 240, 259, 279, 300, 122, 112, 76, 0, 82, 88, 95, 103, 322, 345, 369, 394], [136, 148, 161, 175, 190, 80, 206, 223, 241, 260, 280, 301, 123, 113, 81, 82, 0, 89, 96, 104, 323, 346, 370, 395], [137, 149, 162, 176, 191, 86, 207, 224, 242, 261, 281, 302, 124, 114, 87, 88, 89, 0, 97, 105, 324, 347, 371, 396], [138, 150, 163, 177, 192, 93, 208, 225, 243, 262, 282, 303, 125, 115, 94, 95, 96, 97, 0, 106, 325, 348, 372, 397], [139, 151, 164, 178, 193, 101, 209, 226, 244, 263, 283, 304, 126, 116, 102, 103, 104, 105, 106, 0, 326, 349, 373, 398], [329, 330, 331, 332, 333, 320, 334, 335, 336, 337, 338, 339, 328, 327, 321, 322, 323, 324, 325, 326, 0, 363, 387, 412], [352, 353, 354, 355, 356, 343, 357, 358, 359, 360, 361, 362, 351, 350, 344, 345, 346, 347, 348, 349, 363, 0, 388, 413], [376, 377, 378, 379, 380, 367, 381, 382, 383, 384, 385, 386, 375, 374, 368, 369, 370, 371, 372, 373, 387, 388, 0, 414], [401, 402, 403, 404, 405, 392, 406, 407, 408, 409, 410, 411, 400, 399, 393, 394, 395, 396, 397, 398, 412, 413, 414, 0]] : List (List Nat)).getD i []).getD j 0]? = some (Cond.not (.eq (eWs i) (eWs j))) ∨ eFl[(([[0, 154, 167, 181, 196, 133, 212, 229, 247, 266, 286, 307, 141, 140, 134, 135, 136, 137, 138, 139, 329, 352, 376, 401], [154, 0, 168, 182, 197, 145, 213, 230, 248, 267, 287, 308, 153, 152, 146, 147, 148, 149, 150, 151, 330, 353, 377, 402], [167, 168, 0, 183, 198, 158, 214, 231, 249, 268, 288, 309, 166, 165, 159, 160, 161, 162, 163, 164, 331, 354, 378, 403], [181, 182, 183, 0, 199, 172, 215, 232, 250, 269, 289, 310, 180, 179, 173, 174, 175, 176, 177, 178, 332, 355, 379, 404], [196, 197, 198, 199, 0, 187, 216, 233, 251, 270, 290, 311, 195, 194, 188, 189, 190, 191, 192, 193, 333, 356, 380, 405], [133, 145, 158, 172, 187, 0, 203, 220, 238, 257, 277, 298, 120, 110, 71, 75, 80, 86, 93, 101, 320, 343, 367, 392], [212, 213, 214, 215, 216, 203, 0, 234, 252, 271, 291, 312, 211, 210, 204, 205, 206, 207, 208, 209, 334, 357, 381, 406], [229, 230, 231, 232, 233, 220, 234, 0, 253, 272, 292, 313, 228, 227, 221, 222, 223, 224, 225, 226, 335, 358, 382, 407], [247, 248, 249, 250, 251, 238, 252, 253, 0, 273, 293, 314, 246, 245, 239, 240, 241, 242, 243, 244, 336, 359, 383, 408], [266, 267, 268, 269, 270, 257, 271, 272, 273, 0, 294, 315, 265, 264, 258, 259, 260, 261, 262, 263, 337, 360, 384, 409], [286, 287, 288, 289, 290, 277, 291, 292, 293, 294, 0, 316, 285, 284, 278, 279, 280, 281, 282, 283, 338, 361, 385, 410], [307, 308, 309, 310, 311, 298, 312, 313, 314, 315, 316, 0, 306, 305, 299, 300, 301, 302, 303, 304, 339, 362, 386, 411], [141, 153, 166, 180, 195, 120, 211, 228, 246, 265, 285, 306, 0, 127, 121, 122, 123, 124, 125, 126, 328, 351, 375, 400], [140, 152, 165, 179, 194, 110, 210, 227, 245, 264, 284, 305, 127, 0, 111, 112, 113, 114, 115, 116, 327, 350, 374, 399], [134, 146, 159, 173, 188, 71, 204, 221, 239, 258, 278, 299, 121, 111, 0, 76, 81, 87, 94, 102, 321, 344, 368, 393], [135, 147, 160, 174, 189, 75, 205, 222, 240, 259, 279, 300, 122, 112, 76, 0, 82, 88, 95, 103, 322, 345, 369, 394], [136, 148, 161, 175, 190, 80, 206, 223, 241, 260, 280, 301, 123, 113, 81, 82, 0, 89, 96, 104, 323, 346, 370, 395], [137, 149, 162, 176, 191, 86, 207, 224, 242, 261, 281, 302, 124, 114, 87, 88, 89, 0, 97, 105, 324, 347, 371, 396], [138, 150, 163, 177, 192, 93, 208, 225, 243, 262, 282, 303, 125, 115, 94, 95, 96, 97, 0, 106, 325, 348, 372, 397], [139, 151, 164, 178, 193, 101, 209, 226, 244, 263, 283, 304, 126, 116, 102, 103, 104, 105, 106, 0, 326, 349, 373, 398], [329, 330, 331, 332, 333, 320, 334, 335, 336, 337, 338, 339, 328, 327, 321, 322, 323, 324, 325, 326, 0, 363, 387, 412], [352, 353, 354, 355, 356, 343, 357, 358, 359, 360, 361, 362, 351, 350, 344, 345, 346, 347, 348, 349, 363, 0, 388, 413], [376, 377, 378, 379, 380, 367, 381, 382, 383, 384, 385, 386, 375, 374, 368, 369, 370, 371, 372, 373, 387, 388, 0, 414], [401, 402, 403, 404, 405, 392, 406, 407, 408, 409, 410, 411, 400, 399, 393, 394, 395, 396, 397, 398, 412, 413, 414, 0]] : List (List Nat)).getD i []).getD j 0]? = some (Cond.not (.eq (eWs j) (eWs i))) := by decide +kernel
set_option maxRecDepth 100000 in
theorem en_ls : ∀ i, i < 24 → lw_tbl[([2051, 2052, 2053, 2054, 2055, 1133, 2056, 2057, 2058, 2059, 2060, 2061, 1252, 1250, 1228, 1234, 1236, 1238, 1240, 1242, 2062, 2063, 2064, 2065] : List Nat).getD i 0]? = some (Cond.laysStatic "InchBorders$Word" (wNm.getD i "") "LInchBorders$Word;") := by decide +kernel
def kTm (i : Nat) : Term := .string "InchBorders" (kIx.getD i 0)
set_option maxRecDepth 100000 in
theorem en_kex : ∀ i, i < 3 → eFl[([427, 435, 444] : List Nat).getD i 0]? = some (Cond.exactly (kTm i) "java/lang/String") := by decide +kernel
set_option maxRecDepth 100000 in
theorem en_kco : ∀ i, i < 3 → eFl[([428, 436, 445] : List Nat).getD i 0]? = some (Cond.eq (.field (kTm i) "java/lang/String" "coder" "B") (.int 0)) := by decide +kernel
set_option maxRecDepth 100000 in
theorem en_kar : ∀ i, i < 3 → eFl[([429, 437, 446] : List Nat).getD i 0]? = some (Cond.arrayOf (.field (kTm i) "java/lang/String" "value" "[B") .byte) := by decide +kernel
set_option maxRecDepth 100000 in
theorem en_kle : ∀ i, i < 3 → eFl[([430, 438, 447] : List Nat).getD i 0]? = some (Cond.eq (.length (.field (kTm i) "java/lang/String" "value" "[B")) (.int (Int32.ofNat (kLn.getD i 0)))) := by decide +kernel
set_option maxRecDepth 100000 in
theorem en_kel : ∀ i, i < 3 → ∀ j, j < kLn.getD i 0 → eFl[(([[431, 432, 433, 434], [439, 440, 441, 442], [448]] : List (List Nat)).getD i []).getD j 0]? = some (Cond.eq (.elem (.field (kTm i) "java/lang/String" "value" "[B") (.int (Int32.ofNat j))) (.int ((kBy.getD i []).getD j 0))) := by decide +kernel
set_option maxRecDepth 100000 in
theorem en_kne : ∀ i, i < 3 → ∀ j, j < 3 → i ≠ j → eFl[(([[0, 443, 449], [443, 0, 450], [449, 450, 0]] : List (List Nat)).getD i []).getD j 0]? = some (Cond.not (.eq (kTm i) (kTm j))) ∨ eFl[(([[0, 443, 449], [443, 0, 450], [449, 450, 0]] : List (List Nat)).getD i []).getD j 0]? = some (Cond.not (.eq (kTm j) (kTm i))) := by decide +kernel
set_option maxRecDepth 100000 in
theorem en_wa : Cond.arrayOf (.static "InchBorders" "WORDS" "[LInchBorders$Word;") (.object "InchBorders$Word") ∈ eFl := eget (k := 6) (by decide +kernel)
set_option maxRecDepth 100000 in
theorem en_wl : Cond.eq (.length (.static "InchBorders" "WORDS" "[LInchBorders$Word;")) (.int (Int32.ofNat 24)) ∈ eFl := eget (k := 7) (by decide +kernel)
set_option maxRecDepth 100000 in
theorem en_sa : Cond.arrayOf (.static "InchBorders$1" "$SwitchMap$InchBorders$Word" "[I") .int ∈ eFl := eget (k := 34) (by decide +kernel)
set_option maxRecDepth 100000 in
theorem en_sl : Cond.eq (.length (.static "InchBorders$1" "$SwitchMap$InchBorders$Word" "[I")) (.int (Int32.ofNat 24)) ∈ eFl := eget (k := 35) (by decide +kernel)
set_option maxRecDepth 100000 in
theorem en_cs : Cond.eq (.static "java/lang/String" "COMPACT_STRINGS" "Z") (.int 1) ∈ eFl := eget (k := 60) (by decide +kernel)
set_option maxRecDepth 100000 in
theorem en_si : Cond.isRef (.static "jdk/internal/util/Preconditions" "SIOOBE_FORMATTER" "Ljava/util/function/BiFunction;") ∈ eFl := eget (k := 61) (by decide +kernel)
set_option maxRecDepth 100000 in
theorem en_ini : (.initialized "InchBorders$Word" : Cond) ∈ lw_tbl := List.mem_of_getElem? (i := 131) (by decide +kernel)
set_option maxRecDepth 100000 in
theorem en_iniI : (.initialized "InchBorders" : Cond) ∈ lw_tbl := List.mem_of_getElem? (i := 109) (by decide +kernel)
set_option maxRecDepth 100000 in
theorem en_ini1 : (.initialized "InchBorders$1" : Cond) ∈ lw_tbl := List.mem_of_getElem? (i := 120) (by decide +kernel)
set_option maxRecDepth 100000 in
theorem en_iniS : (.initialized "java/lang/String" : Cond) ∈ lw_tbl := List.mem_of_getElem? (i := 126) (by decide +kernel)
set_option maxRecDepth 100000 in
theorem en_iniP : (.initialized "jdk/internal/util/Preconditions" : Cond) ∈ lw_tbl := List.mem_of_getElem? (i := 128) (by decide +kernel)
set_option maxRecDepth 100000 in
theorem en_iniT : (.initialized "java/lang/Throwable" : Cond) ∈ lw_tbl := List.mem_of_getElem? (i := 121) (by decide +kernel)
set_option maxRecDepth 100000 in
theorem en_lW : (.laysStatic "InchBorders" "WORDS" "[LInchBorders$Word;" : Cond) ∈ lw_tbl := List.mem_of_getElem? (i := 615) (by decide +kernel)
set_option maxRecDepth 100000 in
theorem en_lS : (.laysStatic "InchBorders$1" "$SwitchMap$InchBorders$Word" "[I" : Cond) ∈ lw_tbl := List.mem_of_getElem? (i := 637) (by decide +kernel)
set_option maxRecDepth 100000 in
theorem en_lC : (.laysStatic "java/lang/String" "COMPACT_STRINGS" "Z" : Cond) ∈ lw_tbl := List.mem_of_getElem? (i := 1032) (by decide +kernel)
set_option maxRecDepth 100000 in
theorem en_lP : (.laysStatic "jdk/internal/util/Preconditions" "SIOOBE_FORMATTER" "Ljava/util/function/BiFunction;" : Cond) ∈ lw_tbl := List.mem_of_getElem? (i := 1048) (by decide +kernel)
set_option maxRecDepth 100000 in
theorem en_lU : (.laysStatic "java/lang/Throwable" "UNASSIGNED_STACK" "[Ljava/lang/StackTraceElement;" : Cond) ∈ lw_tbl := List.mem_of_getElem? (i := 1324) (by decide +kernel)
set_option maxRecDepth 100000 in
theorem en_lN : (.laysStatic "java/lang/Throwable" "SUPPRESSED_SENTINEL" "Ljava/util/List;" : Cond) ∈ lw_tbl := List.mem_of_getElem? (i := 1326) (by decide +kernel)
set_option maxRecDepth 100000 in
theorem en_n0 : (.methodLinkNest "InchBorders$MapText" 117 yX11_hasBit "InchBorders" : Cond) ∈ lw_tbl := List.mem_of_getElem? (i := 684) (by decide +kernel)
set_option maxRecDepth 100000 in
theorem en_n1 : (.methodLinkNest "InchBorders$Chart" 53 yX11_hasBit "InchBorders" : Cond) ∈ lw_tbl := List.mem_of_getElem? (i := 785) (by decide +kernel)
set_option maxRecDepth 100000 in
theorem en_n2 : (.methodLinkNest "InchBorders$State" 55 yX11_hasBit "InchBorders" : Cond) ∈ lw_tbl := List.mem_of_getElem? (i := 817) (by decide +kernel)
set_option maxRecDepth 100000 in
theorem en_n3 : (.methodLinkNest "InchBorders$Caravan" 78 yX11_hasBit "InchBorders" : Cond) ∈ lw_tbl := List.mem_of_getElem? (i := 982) (by decide +kernel)
set_option maxRecDepth 100000 in
theorem en_n4 : (.methodLinkNest "InchBorders$Sentence" 162 yX11_hasBit "InchBorders" : Cond) ∈ lw_tbl := List.mem_of_getElem? (i := 1272) (by decide +kernel)
set_option maxRecDepth 100000 in
theorem en_n5 : (.fieldLinkNest "InchBorders$Tape" 98 "InchBorders" "WORDS" "[LInchBorders$Word;" "InchBorders" : Cond) ∈ lw_tbl := List.mem_of_getElem? (i := 614) (by decide +kernel)
set_option maxRecDepth 100000 in
theorem en_n6 : (.methodLinkNest "InchBorders" 9 yX8_init "InchBorders" : Cond) ∈ lw_tbl := List.mem_of_getElem? (i := 143) (by decide +kernel)
set_option maxRecDepth 100000 in
theorem en_n7 : (.methodLinkNest "InchBorders" 68 yX3_init "InchBorders" : Cond) ∈ lw_tbl := List.mem_of_getElem? (i := 222) (by decide +kernel)
set_option maxRecDepth 100000 in
theorem en_o1 : (.arrayOver (.object "InchBorders$State") : Cond) ∈ lw_tbl := List.mem_of_getElem? (i := 201) (by decide +kernel)
set_option maxRecDepth 100000 in
theorem en_o2 : (.arrayOver (.object "InchBorders$Word") : Cond) ∈ lw_tbl := List.mem_of_getElem? (i := 148) (by decide +kernel)
set_option maxRecDepth 100000 in
theorem en_s0 : (.stringRef "InchBorders" 303 " of " : Cond) ∈ lw_tbl := List.mem_of_getElem? (i := 1018) (by decide +kernel)
set_option maxRecDepth 100000 in
theorem en_s1 : (.stringRef "InchBorders" 312 " in " : Cond) ∈ lw_tbl := List.mem_of_getElem? (i := 1071) (by decide +kernel)
set_option maxRecDepth 100000 in
theorem en_s2 : (.stringRef "InchBorders" 314 " " : Cond) ∈ lw_tbl := List.mem_of_getElem? (i := 1072) (by decide +kernel)
set_option maxRecDepth 100000 in
theorem en_t3 : (.castable "java/util/NoSuchElementException" "java/util/NoSuchElementException" : Cond) ∈ lw_tbl := List.mem_of_getElem? (i := 1299) (by decide +kernel)
set_option maxRecDepth 100000 in
theorem en_t4 : (.declares ⟨"java/lang/RuntimeException", "<init>", "()V"⟩ : Cond) ∈ lw_tbl := List.mem_of_getElem? (i := 1300) (by decide +kernel)
set_option maxRecDepth 100000 in
theorem en_t5 : (.declares ⟨"java/lang/Exception", "<init>", "()V"⟩ : Cond) ∈ lw_tbl := List.mem_of_getElem? (i := 1302) (by decide +kernel)
set_option maxRecDepth 100000 in
theorem en_t6 : (.declares ⟨"java/lang/Throwable", "<init>", "()V"⟩ : Cond) ∈ lw_tbl := List.mem_of_getElem? (i := 1304) (by decide +kernel)
set_option maxRecDepth 100000 in
theorem en_ru : Cond.isRef (.static "java/lang/Throwable" "UNASSIGNED_STACK" "[Ljava/lang/StackTraceElement;") ∈ eFl := eget (k := 128) (by decide +kernel)
set_option maxRecDepth 100000 in
theorem en_rn : Cond.isRef (.static "java/lang/Throwable" "SUPPRESSED_SENTINEL" "Ljava/util/List;") ∈ eFl := eget (k := 129) (by decide +kernel)
set_option maxHeartbeats 4000000 in
theorem en_F {s : State} {b N : Nat} {sc : Nat → Int32} (hts : ∀ w ∈ lw_tbl, w.before #[Value.ref b] s = true) (hX : va_X b N sc s s.heap) (hbl : b < s.heap.size) (hgv : (Cond.and given_1 narrow_1).before #[Value.ref b] s = true) :
    ∃ (ae : Nat → Nat) (tw ts : Nat) (aK aV : Nat → Nat) (tf : Option Nat), EF ae tw ts aK aV tf b N sc (va_A [] s.heap.size) s := by
  have hs : ∀ c ∈ eFl, c.before #[Value.ref b] s = true := flat_of_before _ hgv
  have hA : ∀ a : Nat, a < s.heap.size → ¬ va_A [] s.heap.size a := fun a h q => by
    rcases q with ⟨k, e, h9⟩ | h9
    · simp at h9
    · omega
  obtain ⟨ae, hEn, hev⟩ := va_Enof2 (args := #[Value.ref b]) (s := s) (E := "InchBorders$Word") (d := "LInchBorders$Word;") (nm := wNm) (F := [("java/lang/Enum", "ordinal", "I", [0, 1, 2, 3, 4, 5, 6, 7, 8, 9, 10, 11, 12, 13, 14, 15, 16, 17, 18, 19, 20, 21, 22, 23])]) (A := va_A [] s.heap.size)
    (fun i hi => hts _ (List.mem_of_getElem? (en_ls i hi))) (hts _ en_ini) (fun i hi => hs _ (eget (en_ex i hi))) (fun q hq i hi => by
      rcases List.mem_singleton.mp hq with rfl
      exact hs _ (eget (en_od i hi))) (fun i j hi hj hij => (en_ne i hi j hj hij).elim (fun h => Or.inl (hs _ (eget h))) (fun h => Or.inr (hs _ (eget h)))) hA
  have hEf : va_Ef 24 "InchBorders$Word" "code" "J" (fun i => .long (wC5 i)) ae (va_A [] s.heap.size) s s.heap :=
    va_Efof (args := #[Value.ref b]) (E := "InchBorders$Word") (d0 := "LInchBorders$Word;") (nm := wNm) (tm := fun i => .long (wC5 i)) hev (fun i hi => hs _ (eget (en_cd i hi))) (fun i hi => rfl) hA
  obtain ⟨tw, hwv, hWT⟩ := va_Tof (args := #[Value.ref b]) (s := s) (N := 24) (f := fun i => .ref (ae i)) (A := va_A [] s.heap.size) (by decide) (hs _ en_wa) (va_eqt (hs _ en_wl)) (fun j hj => va_eqv (hs _ (eget (en_we j hj))) (hev j hj)) hA
  obtain ⟨ts, hsv, hST⟩ := va_Tof (args := #[Value.ref b]) (s := s) (N := 24) (f := fun i => .int (nI (wMap i))) (A := va_A [] s.heap.size) (by decide) (hs _ en_sa) (va_eqt (hs _ en_sl)) (fun j hj => va_eqt (hs _ (eget (en_se j hj)))) hA
  obtain ⟨aK, aV, hKS, hkv⟩ := vk_Sof (args := #[Value.ref b]) (s := s) (N := 3) (tm := kTm) (len := kLn) (byt := kBy) (A := va_A [] s.heap.size) (by decide) (fun i hi => hs _ (eget (en_kex i hi))) (fun i hi => hs _ (eget (en_kco i hi))) (fun i hi => hs _ (eget (en_kar i hi))) (fun i hi => hs _ (eget (en_kle i hi))) (fun i hi j hj => hs _ (eget (en_kel i hi j hj))) (fun i j hi hj hij => (en_kne i hi j hj hij).elim (fun h => Or.inl (hs _ (eget h))) (fun h => Or.inr (hs _ (eget h)))) hA
  obtain ⟨tf, hTF⟩ : ∃ tf : Option Nat, va_Z "jdk/internal/util/Preconditions" "SIOOBE_FORMATTER" "Ljava/util/function/BiFunction;" (va_rf tf) (va_A [] s.heap.size) s s.heap := by
    rcases va_Zqof (hts _ en_lP) (hts _ en_iniP) (hs _ en_si) hA with h | ⟨t, h⟩
    · exact ⟨none, h⟩
    · exact ⟨some t, h⟩
  refine ⟨ae, tw, ts, aK, aV, tf, ⟨hEn, hEf, va_Zof (hts _ en_lW) (hts _ en_iniI) hwv hA, hWT, va_Zof (hts _ en_lS) (hts _ en_ini1) hsv hA, hST⟩, ⟨va_Nw.of rfl (hts _ en_n0), va_Nw.of rfl (hts _ en_n1), va_Nw.of rfl (hts _ en_n2), va_Nw.of rfl (hts _ en_n3), va_Nw.of rfl (hts _ en_n4), va_Nw.of rfl (hts _ en_n5), va_Nw.of rfl (hts _ en_n6), va_Nw.of rfl (hts _ en_n7)⟩, ⟨va_AO.of (hts _ en_o1), va_AO.of (hts _ en_o2)⟩, ⟨hKS, va_Zof (hts _ en_lC) (hts _ en_iniS) (va_eqi (hs _ en_cs)) hA, hTF, fun i hi => ?_⟩, ⟨vx_Zqof (hts _ en_lU) (hts _ en_iniT) (hs _ en_ru) hA, vx_Zqof (hts _ en_lN) (hts _ en_iniT) (hs _ en_rn) hA, va_Nw.of rfl (hts _ en_t3), va_Nw.of rfl (hts _ en_t4), va_Nw.of rfl (hts _ en_t5), va_Nw.of rfl (hts _ en_t6)⟩, hX, hA b hbl⟩
  rcases (show i = 0 ∨ i = 1 ∨ i = 2 by omega) with rfl | rfl | rfl
  · exact vk_R.of (A := #[Value.ref b]) (hts _ en_s0) (hkv 0 hi)
  · exact vk_R.of (A := #[Value.ref b]) (hts _ en_s1) (hkv 1 hi)
  · exact vk_R.of (A := #[Value.ref b]) (hts _ en_s2) (hkv 2 hi)
