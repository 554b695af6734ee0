/-- the reference's state: its numbers by their slots; arrays of counts; arrays of any ints; the word; arrays of longs -/
abbrev mS : Type := (Nat → Int32) × (Nat → Nat → Nat) × (Nat → Nat → Int32) × Int64 × (Nat → Nat → Int64)
def mI (σ : mS) (k : Nat) (x : Int32) : mS := (upN σ.1 k x, σ.2)
def mN (σ : mS) (k i v : Nat) : mS := (σ.1, upN σ.2.1 k (upN (σ.2.1 k) i v), σ.2.2)
def mA (σ : mS) (k i : Nat) (v : Int32) : mS := (σ.1, σ.2.1, upN σ.2.2.1 k (upN (σ.2.2.1 k) i v), σ.2.2.2)
def mJ (σ : mS) (x : Int64) : mS := (σ.1, σ.2.1, σ.2.2.1, x, σ.2.2.2.2)
def mL (σ : mS) (k i : Nat) (v : Int64) : mS := (σ.1, σ.2.1, σ.2.2.1, σ.2.2.2.1, upN σ.2.2.2.2 k (upN (σ.2.2.2.2 k) i v))
abbrev mFs (a : Nat → Nat) (σ : mS) : List Value := [.int (σ.1 0), .ref (a 1), .int (σ.1 2), .int (σ.1 3), .int (σ.1 4), .int (σ.1 5), .ref (a 6), .ref (a 7), .ref (a 8), .ref (a 9), .ref (a 10), .int (σ.1 11), .int (σ.1 12), .int (σ.1 13), .int (σ.1 14), .int (σ.1 15), .int (σ.1 16), .long σ.2.2.2.1, .int (σ.1 18), .int (σ.1 19), .int (σ.1 20), .ref (a 21), .ref (a 22), .int (σ.1 23), .ref (a 24), .ref (a 25), .ref (a 26), .ref (a 27), .int (σ.1 28), .int (σ.1 29), .int (σ.1 30), .ref (a 31), .ref (a 32), .ref (a 33), .int (σ.1 34), .int (σ.1 35), .int (σ.1 36), .int (σ.1 37), .int (σ.1 38), .ref (a 39), .ref (a 40), .int (σ.1 41), .int (σ.1 42), .int (σ.1 43), .ref (a 44), .int (σ.1 45), .int (σ.1 46), .int (σ.1 47), .ref (a 48), .int (σ.1 49), .ref (a 50), .int (σ.1 51), .int (σ.1 52), .int (σ.1 53), .int (σ.1 54), .int (σ.1 55), .ref (a 56), .ref (a 57), .ref (a 58), .ref (a 59)]
def mW (g : Nat → ClassId) (a : Nat → Nat) (σ : mS) : va_W := [(a 60, .inr (10, mFs a σ)), (a 1, .inl (g 0, 940, .inl (σ.2.2.1 1))), (a 6, .inl (g 1, 319, .inl (fun j => nI (σ.2.1 6 j)))), (a 7, .inl (g 1, 91, .inl (fun j => nI (σ.2.1 7 j)))), (a 8, .inl (g 1, 160, .inl (fun j => nI (σ.2.1 8 j)))), (a 9, .inl (g 2, 26, .inr (.inl (σ.2.2.2.2 9)))), (a 10, .inl (g 2, 24, .inr (.inl (σ.2.2.2.2 10)))), (a 21, .inl (g 1, 376, .inl (fun j => nI (σ.2.1 21 j)))), (a 22, .inl (g 1, 47, .inl (fun j => nI (σ.2.1 22 j)))), (a 24, .inl (g 1, 6, .inl (fun j => nI (σ.2.1 24 j)))), (a 25, .inl (g 1, 6, .inl (fun j => nI (σ.2.1 25 j)))), (a 26, .inl (g 1, 6, .inl (fun j => nI (σ.2.1 26 j)))), (a 27, .inl (g 1, 6, .inl (σ.2.2.1 27))), (a 31, .inl (g 1, 5, .inl (fun j => nI (σ.2.1 31 j)))), (a 32, .inl (g 1, 4, .inl (fun j => nI (σ.2.1 32 j)))), (a 33, .inl (g 1, 7, .inl (fun j => nI (σ.2.1 33 j)))), (a 39, .inl (g 1, 6, .inl (fun j => nI (σ.2.1 39 j)))), (a 40, .inl (g 1, 6, .inl (fun j => nI (σ.2.1 40 j)))), (a 44, .inl (g 0, 40, .inl (fun j => nI (σ.2.1 44 j)))), (a 48, .inl (g 1, 4, .inl (fun j => nI (σ.2.1 48 j)))), (a 50, .inl (g 1, 45, .inl (fun j => nI (σ.2.1 50 j)))), (a 56, .inl (g 3, 45, .inl (fun j => nI (σ.2.1 56 j)))), (a 57, .inl (g 1, 638, .inl (fun j => nI (σ.2.1 57 j)))), (a 58, .inl (g 2, 26, .inr (.inl (σ.2.2.2.2 58)))), (a 59, .inl (g 3, 2, .inl (fun j => nI (σ.2.1 59 j))))]
abbrev f_thrown : Nat := 0
abbrev f_tape : Nat := 1
abbrev f_length : Nat := 2
abbrev f_size : Nat := 3
abbrev f_p : Nat := 4
abbrev f_limit : Nat := 5
abbrev f_s : Nat := 6
abbrev f_h : Nat := 7
abbrev f_read : Nat := 8
abbrev f_names : Nat := 9
abbrev f_reserved : Nat := 10
abbrev f_token : Nat := 11
abbrev f_at : Nat := 12
abbrev f_span : Nat := 13
abbrev f_number : Nat := 14
abbrev f_fault : Nat := 15
abbrev f_faultAt : Nat := 16
abbrev f_word : Nat := 17
abbrev f_got : Nat := 18
abbrev f_lines : Nat := 19
abbrev f_stored : Nat := 20
abbrev f_undone : Nat := 21
abbrev f_before : Nat := 22
abbrev f_undoMany : Nat := 23
abbrev f_where : Nat := 24
abbrev f_much : Nat := 25
abbrev f_store : Nat := 26
abbrev f_step : Nat := 27
abbrev f_depth : Nat := 28
abbrev f_sparing : Nat := 29
abbrev f_home : Nat := 30
abbrev f_wayRow : Nat := 31
abbrev f_madeRow : Nat := 32
abbrev f_ends : Nat := 33
abbrev f_wayMany : Nat := 34
abbrev f_madeMany : Nat := 35
abbrev f_likelyLand : Nat := 36
abbrev f_sparedSet : Nat := 37
abbrev f_hasSpared : Nat := 38
abbrev f_order : Nat := 39
abbrev f_caravanRow : Nat := 40
abbrev f_caravanMany : Nat := 41
abbrev f_partSet : Nat := 42
abbrev f_hasPart : Nat := 43
abbrev f_text : Nat := 44
abbrev f_textMany : Nat := 45
abbrev f_seed : Nat := 46
abbrev f_toldMany : Nat := 47
abbrev f_toldAt : Nat := 48
abbrev f_hasTold : Nat := 49
abbrev f_stack : Nat := 50
abbrev f_codes : Nat := 51
abbrev f_ones : Nat := 52
abbrev f_top : Nat := 53
abbrev f_deep : Nat := 54
abbrev f_isWhole : Nat := 55
abbrev f_truths : Nat := 56
abbrev f_imaged : Nat := 57
abbrev f_namesKept : Nat := 58
abbrev f_areKept : Nat := 59
abbrev MJ0_charAt_5068e : xM := (yJ0_charAt_5068e, cJ0_charAt_5068e, 2, (some .char))
abbrev MJ0_checkIndex_df160 : xM := (yJ0_checkIndex_df160, cJ0_checkIndex_df160, 2, (none : Option Jvm.ClassFile.FieldType))
abbrev MJ0_coder_7d493 : xM := (yJ0_coder_7d493, cJ0_coder_7d493, 1, (some .byte))
abbrev MJ0_isLatin1_aae02 : xM := (yJ0_isLatin1_aae02, cJ0_isLatin1_aae02, 1, (some .boolean))
abbrev MJ0_length_8abf5 : xM := (yJ0_length_8abf5, cJ0_length_8abf5, 1, (some .int))
abbrev MJ1_charAt_3b067 : xM := (yJ1_charAt_3b067, cJ1_charAt_3b067, 2, (some .char))
abbrev MJ2_charAt_3b067 : xM := (yJ2_charAt_3b067, cJ2_charAt_3b067, 2, (some .char))
abbrev MJ2_checkIndex_2214a : xM := (yJ2_checkIndex_2214a, cJ2_checkIndex_2214a, 2, (none : Option Jvm.ClassFile.FieldType))
abbrev MJ2_getChar_3b067 : xM := (yJ2_getChar_3b067, cJ2_getChar_3b067, 2, (some .char))
abbrev MJ2_length_9d52b : xM := (yJ2_length_9d52b, cJ2_length_9d52b, 1, (some .int))
abbrev MJ3_checkIndex_8e157 : xM := (yJ3_checkIndex_8e157, cJ3_checkIndex_8e157, 3, (some .int))
abbrev MJ6_bitCount_0f7a4 : xM := (yJ6_bitCount_0f7a4, cJ6_bitCount_0f7a4, 1, (some .int))
abbrev MJ9_max_7cf53 : xM := (yJ9_max_7cf53, cJ9_max_7cf53, 2, (some .int))
abbrev MJ9_min_7cf53 : xM := (yJ9_min_7cf53, cJ9_min_7cf53, 2, (some .int))
abbrev MJx29ce0_ordinal_8abf5 : xM := (yJx29ce0_ordinal_8abf5, cJx29ce0_ordinal_8abf5, 1, (some .int))
abbrev MX11_attempt : xM := (yX11_attempt, cX11_attempt, 6, (some .int))
abbrev MX11_book : xM := (yX11_book, cX11_book, 3, (some .int))
abbrev MX11_breaks : xM := (yX11_breaks, cX11_breaks, 3, (some .int))
abbrev MX11_byteAt : xM := (yX11_byteAt, cX11_byteAt, 2, (some .int))
abbrev MX11_caravan : xM := (yX11_caravan, cX11_caravan, 3, (some .int))
abbrev MX11_caravanAt : xM := (yX11_caravanAt, cX11_caravanAt, 2, (some .int))
abbrev MX11_close : xM := (yX11_close, cX11_close, 2, (some .int))
abbrev MX11_count : xM := (yX11_count, cX11_count, 2, (some .int))
abbrev MX11_cross : xM := (yX11_cross, cX11_cross, 3, (some .int))
abbrev MX11_days : xM := (yX11_days, cX11_days, 3, (some .int))
abbrev MX11_drawn : xM := (yX11_drawn, cX11_drawn, 3, (some .int))
abbrev MX11_end : xM := (yX11_end, cX11_end, 2, (some .boolean))
abbrev MX11_fault : xM := (yX11_fault, cX11_fault, 1, (some .int))
abbrev MX11_feed : xM := (yX11_feed, cX11_feed, 6, (some .int))
abbrev MX11_hasBit : xM := (yX11_hasBit, cX11_hasBit, 2, (some .boolean))
abbrev MX11_image : xM := (yX11_image, cX11_image, 2, (some .boolean))
abbrev MX11_init : xM := (yX11_init, cX11_init, 3, (none : Option Jvm.ClassFile.FieldType))
abbrev MX11_isLand : xM := (yX11_isLand, cX11_isLand, 2, (some .boolean))
abbrev MX11_isLength : xM := (yX11_isLength, cX11_isLength, 1, (some .boolean))
abbrev MX11_isPerson : xM := (yX11_isPerson, cX11_isPerson, 2, (some .boolean))
abbrev MX11_keep : xM := (yX11_keep, cX11_keep, 1, (none : Option Jvm.ClassFile.FieldType))
abbrev MX11_land : xM := (yX11_land, cX11_land, 3, (some .int))
abbrev MX11_lend : xM := (yX11_lend, cX11_lend, 4, (some .int))
abbrev MX11_likely : xM := (yX11_likely, cX11_likely, 1, (some .int))
abbrev MX11_made : xM := (yX11_made, cX11_made, 3, (some .int))
abbrev MX11_madeAt : xM := (yX11_madeAt, cX11_madeAt, 2, (some .int))
abbrev MX11_map : xM := (yX11_map, cX11_map, 2, (some .int))
abbrev MX11_now : xM := (yX11_now, cX11_now, 2, (some .int))
abbrev MX11_odds : xM := (yX11_odds, cX11_odds, 6, (some .int))
abbrev MX11_open : xM := (yX11_open, cX11_open, 2, (some .int))
abbrev MX11_pact : xM := (yX11_pact, cX11_pact, 3, (some .int))
abbrev MX11_part : xM := (yX11_part, cX11_part, 7, (some .int))
abbrev MX11_parting : xM := (yX11_parting, cX11_parting, 1, (some .int))
abbrev MX11_pass : xM := (yX11_pass, cX11_pass, 3, (some .int))
abbrev MX11_person : xM := (yX11_person, cX11_person, 3, (some .int))
abbrev MX11_restore : xM := (yX11_restore, cX11_restore, 2, (some .boolean))
abbrev MX11_rests : xM := (yX11_rests, cX11_rests, 2, (some .int))
abbrev MX11_road : xM := (yX11_road, cX11_road, 3, (some .int))
abbrev MX11_round : xM := (yX11_round, cX11_round, 2, (some .int))
abbrev MX11_said : xM := (yX11_said, cX11_said, 5, (some .int))
abbrev MX11_sentence : xM := (yX11_sentence, cX11_sentence, 2, (some .int))
abbrev MX11_spare : xM := (yX11_spare, cX11_spare, 10, (some .int))
abbrev MX11_spared : xM := (yX11_spared, cX11_spared, 1, (some .int))
abbrev MX11_told : xM := (yX11_told, cX11_told, 2, (some .int))
abbrev MX11_undo : xM := (yX11_undo, cX11_undo, 2, (some .int))
abbrev MX11_way : xM := (yX11_way, cX11_way, 4, (some .int))
abbrev MX11_wayAt : xM := (yX11_wayAt, cX11_wayAt, 2, (some .int))
abbrev MX12_allLong : xM := (yX12_allLong, cX12_allLong, 3, (some .int))
abbrev MX12_areParted : xM := (yX12_areParted, cX12_areParted, 7, (some .boolean))
abbrev MX12_back : xM := (yX12_back, cX12_back, 2, (none : Option Jvm.ClassFile.FieldType))
abbrev MX12_bad : xM := (yX12_bad, cX12_bad, 2, (some .boolean))
abbrev MX12_behind : xM := (yX12_behind, cX12_behind, 1, (some .boolean))
abbrev MX12_bitOf : xM := (yX12_bitOf, cX12_bitOf, 2, (some .boolean))
abbrev MX12_bits : xM := (yX12_bits, cX12_bits, 3, (some .int))
abbrev MX12_book : xM := (yX12_book, cX12_book, 4, (some .int))
abbrev MX12_bookLine : xM := (yX12_bookLine, cX12_bookLine, 5, (some .boolean))
abbrev MX12_breaks : xM := (yX12_breaks, cX12_breaks, 3, (some .int))
abbrev MX12_byteAt : xM := (yX12_byteAt, cX12_byteAt, 2, (some .int))
abbrev MX12_caravan : xM := (yX12_caravan, cX12_caravan, 7, (some .int))
abbrev MX12_caravanAt : xM := (yX12_caravanAt, cX12_caravanAt, 2, (some .int))
abbrev MX12_clears : xM := (yX12_clears, cX12_clears, 2, (none : Option Jvm.ClassFile.FieldType))
abbrev MX12_close : xM := (yX12_close, cX12_close, 2, (some .int))
abbrev MX12_code : xM := (yX12_code, cX12_code, 4, (none : Option Jvm.ClassFile.FieldType))
abbrev MX12_couldOf : xM := (yX12_couldOf, cX12_couldOf, 4, (some .int))
abbrev MX12_count : xM := (yX12_count, cX12_count, 2, (some .int))
abbrev MX12_cross : xM := (yX12_cross, cX12_cross, 4, (some .int))
abbrev MX12_crosses : xM := (yX12_crosses, cX12_crosses, 4, (none : Option Jvm.ClassFile.FieldType))
abbrev MX12_day : xM := (yX12_day, cX12_day, 2, (none : Option Jvm.ClassFile.FieldType))
abbrev MX12_days : xM := (yX12_days, cX12_days, 2, (some .int))
abbrev MX12_does : xM := (yX12_does, cX12_does, 6, (some .int))
abbrev MX12_draw : xM := (yX12_draw, cX12_draw, 2, (some .int))
abbrev MX12_drawn : xM := (yX12_drawn, cX12_drawn, 3, (some .int))
abbrev MX12_draws : xM := (yX12_draws, cX12_draws, 6, (some .int))
abbrev MX12_end : xM := (yX12_end, cX12_end, 2, (some .boolean))
abbrev MX12_fault : xM := (yX12_fault, cX12_fault, 1, (some .int))
abbrev MX12_feed : xM := (yX12_feed, cX12_feed, 6, (some .int))
abbrev MX12_fewest : xM := (yX12_fewest, cX12_fewest, 6, (some .int))
abbrev MX12_find : xM := (yX12_find, cX12_find, 4, (some .int))
abbrev MX12_four : xM := (yX12_four, cX12_four, 3, (none : Option Jvm.ClassFile.FieldType))
abbrev MX12_fresh : xM := (yX12_fresh, cX12_fresh, 2, (some .boolean))
abbrev MX12_given : xM := (yX12_given, cX12_given, 4, (some .int))
abbrev MX12_goesOn : xM := (yX12_goesOn, cX12_goesOn, 3, (some .int))
abbrev MX12_goesTo : xM := (yX12_goesTo, cX12_goesTo, 2, (some .boolean))
abbrev MX12_greater : xM := (yX12_greater, cX12_greater, 2, (some .int))
abbrev MX12_grows : xM := (yX12_grows, cX12_grows, 2, (some .boolean))
abbrev MX12_image : xM := (yX12_image, cX12_image, 3, (some .boolean))
abbrev MX12_init : xM := (yX12_init, cX12_init, 2, (none : Option Jvm.ClassFile.FieldType))
abbrev MX12_isDigit : xM := (yX12_isDigit, cX12_isDigit, 1, (some .boolean))
abbrev MX12_isIn : xM := (yX12_isIn, cX12_isIn, 3, (some .boolean))
abbrev MX12_isLand : xM := (yX12_isLand, cX12_isLand, 2, (some .boolean))
abbrev MX12_isLeaf : xM := (yX12_isLeaf, cX12_isLeaf, 6, (some .boolean))
abbrev MX12_isName : xM := (yX12_isName, cX12_isName, 3, (some .boolean))
abbrev MX12_isOpen : xM := (yX12_isOpen, cX12_isOpen, 2, (some .boolean))
abbrev MX12_isPerson : xM := (yX12_isPerson, cX12_isPerson, 2, (some .boolean))
abbrev MX12_isRest : xM := (yX12_isRest, cX12_isRest, 3, (some .boolean))
abbrev MX12_isSaid : xM := (yX12_isSaid, cX12_isSaid, 5, (some .boolean))
abbrev MX12_isSign : xM := (yX12_isSign, cX12_isSign, 2, (some .boolean))
abbrev MX12_isSmall : xM := (yX12_isSmall, cX12_isSmall, 1, (some .boolean))
abbrev MX12_isWord : xM := (yX12_isWord, cX12_isWord, 3, (some .boolean))
abbrev MX12_joins : xM := (yX12_joins, cX12_joins, 2, (none : Option Jvm.ClassFile.FieldType))
abbrev MX12_keep : xM := (yX12_keep, cX12_keep, 2, (none : Option Jvm.ClassFile.FieldType))
abbrev MX12_land : xM := (yX12_land, cX12_land, 5, (some .int))
abbrev MX12_lays : xM := (yX12_lays, cX12_lays, 2, (none : Option Jvm.ClassFile.FieldType))
abbrev MX12_leafOf : xM := (yX12_leafOf, cX12_leafOf, 1, (some .int))
abbrev MX12_lend : xM := (yX12_lend, cX12_lend, 5, (some .int))
abbrev MX12_lends : xM := (yX12_lends, cX12_lends, 4, (none : Option Jvm.ClassFile.FieldType))
abbrev MX12_lesser : xM := (yX12_lesser, cX12_lesser, 2, (some .int))
abbrev MX12_likely : xM := (yX12_likely, cX12_likely, 1, (some .int))
abbrev MX12_line : xM := (yX12_line, cX12_line, 1, (some .boolean))
abbrev MX12_looksAt : xM := (yX12_looksAt, cX12_looksAt, 3, (some .boolean))
abbrev MX12_made : xM := (yX12_made, cX12_made, 4, (some .int))
abbrev MX12_madeAt : xM := (yX12_madeAt, cX12_madeAt, 2, (some .int))
abbrev MX12_map : xM := (yX12_map, cX12_map, 2, (some .int))
abbrev MX12_next : xM := (yX12_next, cX12_next, 4, (none : Option Jvm.ClassFile.FieldType))
abbrev MX12_nots : xM := (yX12_nots, cX12_nots, 1, (none : Option Jvm.ClassFile.FieldType))
abbrev MX12_now : xM := (yX12_now, cX12_now, 7, (some .int))
abbrev MX12_octet : xM := (yX12_octet, cX12_octet, 2, (some .int))
abbrev MX12_odds : xM := (yX12_odds, cX12_odds, 7, (some .int))
abbrev MX12_open : xM := (yX12_open, cX12_open, 2, (some .int))
abbrev MX12_operand : xM := (yX12_operand, cX12_operand, 5, (some .boolean))
abbrev MX12_pact : xM := (yX12_pact, cX12_pact, 4, (some .int))
abbrev MX12_part : xM := (yX12_part, cX12_part, 5, (some .int))
abbrev MX12_parting : xM := (yX12_parting, cX12_parting, 1, (some .int))
abbrev MX12_pass : xM := (yX12_pass, cX12_pass, 3, (some .int))
abbrev MX12_peek : xM := (yX12_peek, cX12_peek, 1, (some .int))
abbrev MX12_person : xM := (yX12_person, cX12_person, 3, (some .int))
abbrev MX12_puts : xM := (yX12_puts, cX12_puts, 4, (some .boolean))
abbrev MX12_readLand : xM := (yX12_readLand, cX12_readLand, 2, (some .boolean))
abbrev MX12_readPerson : xM := (yX12_readPerson, cX12_readPerson, 2, (some .boolean))
abbrev MX12_readRoad : xM := (yX12_readRoad, cX12_readRoad, 4, (some .boolean))
abbrev MX12_readStore : xM := (yX12_readStore, cX12_readStore, 2, (some .boolean))
abbrev MX12_readTreaty : xM := (yX12_readTreaty, cX12_readTreaty, 2, (some .boolean))
abbrev MX12_reorders : xM := (yX12_reorders, cX12_reorders, 7, (some .boolean))
abbrev MX12_restore : xM := (yX12_restore, cX12_restore, 3, (some .boolean))
abbrev MX12_rests : xM := (yX12_rests, cX12_rests, 3, (some .int))
abbrev MX12_road : xM := (yX12_road, cX12_road, 3, (some .int))
abbrev MX12_roadOf : xM := (yX12_roadOf, cX12_roadOf, 4, (some .int))
abbrev MX12_round : xM := (yX12_round, cX12_round, 4, (some .int))
abbrev MX12_said : xM := (yX12_said, cX12_said, 4, (some .int))
abbrev MX12_says : xM := (yX12_says, cX12_says, 3, (none : Option Jvm.ClassFile.FieldType))
abbrev MX12_sentence : xM := (yX12_sentence, cX12_sentence, 3, (some .int))
abbrev MX12_sign : xM := (yX12_sign, cX12_sign, 2, (some .boolean))
abbrev MX12_spare : xM := (yX12_spare, cX12_spare, 7, (some .int))
abbrev MX12_spared : xM := (yX12_spared, cX12_spared, 1, (some .int))
abbrev MX12_sparedIn : xM := (yX12_sparedIn, cX12_sparedIn, 2, (some .int))
abbrev MX12_spells : xM := (yX12_spells, cX12_spells, 4, (none : Option Jvm.ClassFile.FieldType))
abbrev MX12_starts : xM := (yX12_starts, cX12_starts, 2, (none : Option Jvm.ClassFile.FieldType))
abbrev MX12_steps : xM := (yX12_steps, cX12_steps, 4, (some .boolean))
abbrev MX12_taken : xM := (yX12_taken, cX12_taken, 2, (none : Option Jvm.ClassFile.FieldType))
abbrev MX12_takes : xM := (yX12_takes, cX12_takes, 3, (some .boolean))
abbrev MX12_takesName : xM := (yX12_takesName, cX12_takesName, 3, (some .boolean))
abbrev MX12_thrown : xM := (yX12_thrown, cX12_thrown, 1, (some .int))
abbrev MX12_throwsIf : xM := (yX12_throwsIf, cX12_throwsIf, 2, (some .boolean))
abbrev MX12_told : xM := (yX12_told, cX12_told, 2, (some .int))
abbrev MX12_tries : xM := (yX12_tries, cX12_tries, 2, (none : Option Jvm.ClassFile.FieldType))
abbrev MX12_turns : xM := (yX12_turns, cX12_turns, 4, (some .int))
abbrev MX12_undo : xM := (yX12_undo, cX12_undo, 2, (some .int))
abbrev MX12_way : xM := (yX12_way, cX12_way, 6, (some .int))
abbrev MX12_wayAt : xM := (yX12_wayAt, cX12_wayAt, 2, (some .int))
abbrev MX12_whyBy : xM := (yX12_whyBy, cX12_whyBy, 6, (some .int))
abbrev MX12_whyCross : xM := (yX12_whyCross, cX12_whyCross, 3, (some .int))
abbrev MX12_whyLend : xM := (yX12_whyLend, cX12_whyLend, 4, (some .int))
abbrev MX12_whyPact : xM := (yX12_whyPact, cX12_whyPact, 3, (some .int))
abbrev MX12_whyTurn : xM := (yX12_whyTurn, cX12_whyTurn, 3, (some .int))
abbrev MX1_beginLine : xM := (yX1_beginLine, cX1_beginLine, 2, (some .boolean))
abbrev MX1_init : xM := (yX1_init, cX1_init, 3, (none : Option Jvm.ClassFile.FieldType))
abbrev MX1_live : xM := (yX1_live, cX1_live, 4, (some .int))
abbrev MX1_read : xM := (yX1_read, cX1_read, 3, (none : Option Jvm.ClassFile.FieldType))
abbrev MX1_readAmount : xM := (yX1_readAmount, cX1_readAmount, 3, (some .boolean))
abbrev MX1_readCrossing : xM := (yX1_readCrossing, cX1_readCrossing, 3, (some .boolean))
abbrev MX1_readLine : xM := (yX1_readLine, cX1_readLine, 1, (some .boolean))
abbrev MX1_readRoad : xM := (yX1_readRoad, cX1_readRoad, 2, (some .boolean))
abbrev MX1_readTwo : xM := (yX1_readTwo, cX1_readTwo, 3, (some .boolean))
abbrev MX2_goOn : xM := (yX2_goOn, cX2_goOn, 9, (none : Option Jvm.ClassFile.FieldType))
abbrev MX2_init : xM := (yX2_init, cX2_init, 2, (none : Option Jvm.ClassFile.FieldType))
abbrev MX2_longestTogether : xM := (yX2_longestTogether, cX2_longestTogether, 4, (some .int))
abbrev MX3_addLand : xM := (yX3_addLand, cX3_addLand, 5, (none : Option Jvm.ClassFile.FieldType))
abbrev MX3_addPerson : xM := (yX3_addPerson, cX3_addPerson, 4, (none : Option Jvm.ClassFile.FieldType))
abbrev MX3_addRoad : xM := (yX3_addRoad, cX3_addRoad, 5, (none : Option Jvm.ClassFile.FieldType))
abbrev MX3_areParted : xM := (yX3_areParted, cX3_areParted, 8, (some .boolean))
abbrev MX3_gift : xM := (yX3_gift, cX3_gift, 5, (some .int))
abbrev MX3_init : xM := (yX3_init, cX3_init, 1, (none : Option Jvm.ClassFile.FieldType))
abbrev MX3_landNamed : xM := (yX3_landNamed, cX3_landNamed, 4, (some .int))
abbrev MX3_personNamed : xM := (yX3_personNamed, cX3_personNamed, 4, (some .int))
abbrev MX3_roadBetween : xM := (yX3_roadBetween, cX3_roadBetween, 3, (some .int))
abbrev MX3_toll : xM := (yX3_toll, cX3_toll, 4, (some .int))
abbrev MX3_whyNotOver : xM := (yX3_whyNotOver, cX3_whyNotOver, 7, (some .int))
abbrev MX4_init : xM := (yX4_init, cX4_init, 3, (none : Option Jvm.ClassFile.FieldType))
abbrev MX4_isNewName : xM := (yX4_isNewName, cX4_isNewName, 2, (some .boolean))
abbrev MX4_read : xM := (yX4_read, cX4_read, 2, (some .int))
abbrev MX4_readLand : xM := (yX4_readLand, cX4_readLand, 5, (some .boolean))
abbrev MX4_readLine : xM := (yX4_readLine, cX4_readLine, 1, (some .boolean))
abbrev MX4_readPerson : xM := (yX4_readPerson, cX4_readPerson, 6, (some .boolean))
abbrev MX4_readRoad : xM := (yX4_readRoad, cX4_readRoad, 5, (some .boolean))
abbrev MX4_readStore : xM := (yX4_readStore, cX4_readStore, 3, (some .boolean))
abbrev MX4_readTreaty : xM := (yX4_readTreaty, cX4_readTreaty, 3, (some .boolean))
abbrev MX5_add : xM := (yX5_add, cX5_add, 2, (none : Option Jvm.ClassFile.FieldType))
abbrev MX5_addDigits : xM := (yX5_addDigits, cX5_addDigits, 2, (none : Option Jvm.ClassFile.FieldType))
abbrev MX5_addName : xM := (yX5_addName, cX5_addName, 5, (none : Option Jvm.ClassFile.FieldType))
abbrev MX5_addText : xM := (yX5_addText, cX5_addText, 3, (none : Option Jvm.ClassFile.FieldType))
abbrev MX5_at : xM := (yX5_at, cX5_at, 2, (some .int))
abbrev MX5_copy : xM := (yX5_copy, cX5_copy, 2, (none : Option Jvm.ClassFile.FieldType))
abbrev MX5_init : xM := (yX5_init, cX5_init, 2, (none : Option Jvm.ClassFile.FieldType))
abbrev MX5_take : xM := (yX5_take, cX5_take, 4, (none : Option Jvm.ClassFile.FieldType))
abbrev MX6_addStep : xM := (yX6_addStep, cX6_addStep, 4, (some .boolean))
abbrev MX6_beginsOne : xM := (yX6_beginsOne, cX6_beginsOne, 1, (some .boolean))
abbrev MX6_compare : xM := (yX6_compare, cX6_compare, 3, (some .boolean))
abbrev MX6_holds : xM := (yX6_holds, cX6_holds, 5, (some .boolean))
abbrev MX6_init : xM := (yX6_init, cX6_init, 3, (none : Option Jvm.ClassFile.FieldType))
abbrev MX6_persons : xM := (yX6_persons, cX6_persons, 6, (some .int))
abbrev MX6_personsBy : xM := (yX6_personsBy, cX6_personsBy, 5, (some .int))
abbrev MX6_read : xM := (yX6_read, cX6_read, 1, (none : Option Jvm.ClassFile.FieldType))
abbrev MX6_readAll : xM := (yX6_readAll, cX6_readAll, 4, (some .boolean))
abbrev MX6_readCond : xM := (yX6_readCond, cX6_readCond, 4, (some .boolean))
abbrev MX6_readMeasure : xM := (yX6_readMeasure, cX6_readMeasure, 4, (some .boolean))
abbrev MX6_readOne : xM := (yX6_readOne, cX6_readOne, 5, (some .boolean))
abbrev MX7_allCrossings : xM := (yX7_allCrossings, cX7_allCrossings, 3, (some .int))
abbrev MX7_allLengths : xM := (yX7_allLengths, cX7_allLengths, 3, (some .int))
abbrev MX7_allStores : xM := (yX7_allStores, cX7_allStores, 3, (some .int))
abbrev MX7_atHome : xM := (yX7_atHome, cX7_atHome, 3, (some .int))
abbrev MX7_clear : xM := (yX7_clear, cX7_clear, 3, (none : Option Jvm.ClassFile.FieldType))
abbrev MX7_copy : xM := (yX7_copy, cX7_copy, 3, (none : Option Jvm.ClassFile.FieldType))
abbrev MX7_draw : xM := (yX7_draw, cX7_draw, 2, (some .int))
abbrev MX7_drawDay : xM := (yX7_drawDay, cX7_drawDay, 3, (none : Option Jvm.ClassFile.FieldType))
abbrev MX7_drawDays : xM := (yX7_drawDays, cX7_drawDays, 4, (some .int))
abbrev MX7_goDay : xM := (yX7_goDay, cX7_goDay, 2, (none : Option Jvm.ClassFile.FieldType))
abbrev MX7_goOver : xM := (yX7_goOver, cX7_goOver, 6, (none : Option Jvm.ClassFile.FieldType))
abbrev MX7_grows : xM := (yX7_grows, cX7_grows, 2, (some .boolean))
abbrev MX7_init : xM := (yX7_init, cX7_init, 2, (none : Option Jvm.ClassFile.FieldType))
abbrev MX7_isHome : xM := (yX7_isHome, cX7_isHome, 2, (some .boolean))
abbrev MX7_perform : xM := (yX7_perform, cX7_perform, 6, (none : Option Jvm.ClassFile.FieldType))
abbrev MX7_personsIn : xM := (yX7_personsIn, cX7_personsIn, 4, (some .int))
abbrev MX7_somebodyGrows : xM := (yX7_somebodyGrows, cX7_somebodyGrows, 2, (some .boolean))
abbrev MX7_stuck : xM := (yX7_stuck, cX7_stuck, 3, (some .int))
abbrev MX7_treaties : xM := (yX7_treaties, cX7_treaties, 3, (some .int))
abbrev MX7_turnRoad : xM := (yX7_turnRoad, cX7_turnRoad, 2, (none : Option Jvm.ClassFile.FieldType))
abbrev MX7_whither : xM := (yX7_whither, cX7_whither, 4, (some .int))
abbrev MX7_whyNot : xM := (yX7_whyNot, cX7_whyNot, 5, (some .int))
abbrev MX7_whyNotOver : xM := (yX7_whyNotOver, cX7_whyNotOver, 5, (some .int))
abbrev MX8_add : xM := (yX8_add, cX8_add, 3, (none : Option Jvm.ClassFile.FieldType))
abbrev MX8_addToken : xM := (yX8_addToken, cX8_addToken, 6, (none : Option Jvm.ClassFile.FieldType))
abbrev MX8_atEnd : xM := (yX8_atEnd, cX8_atEnd, 1, (some .boolean))
abbrev MX8_atName : xM := (yX8_atName, cX8_atName, 1, (some .boolean))
abbrev MX8_begin : xM := (yX8_begin, cX8_begin, 5, (none : Option Jvm.ClassFile.FieldType))
abbrev MX8_behindBlanks : xM := (yX8_behindBlanks, cX8_behindBlanks, 3, (some .int))
abbrev MX8_byteOf : xM := (yX8_byteOf, cX8_byteOf, 2, (some .int))
abbrev MX8_init : xM := (yX8_init, cX8_init, 1, (none : Option Jvm.ClassFile.FieldType))
abbrev MX8_isDigit : xM := (yX8_isDigit, cX8_isDigit, 1, (some .boolean))
abbrev MX8_isLetter : xM := (yX8_isLetter, cX8_isLetter, 1, (some .boolean))
abbrev MX8_landHere : xM := (yX8_landHere, cX8_landHere, 3, (some .int))
abbrev MX8_personHere : xM := (yX8_personHere, cX8_personHere, 3, (some .int))
abbrev MX8_readRun : xM := (yX8_readRun, cX8_readRun, 9, (some .int))
abbrev MX8_readToken : xM := (yX8_readToken, cX8_readToken, 4, (some .int))
abbrev MX8_refuse : xM := (yX8_refuse, cX8_refuse, 2, (some .boolean))
abbrev MX8_step : xM := (yX8_step, cX8_step, 1, (none : Option Jvm.ClassFile.FieldType))
abbrev MX8_takeLand : xM := (yX8_takeLand, cX8_takeLand, 3, (some .int))
abbrev MX8_takeNumber : xM := (yX8_takeNumber, cX8_takeNumber, 4, (some .int))
abbrev MX8_takeSign : xM := (yX8_takeSign, cX8_takeSign, 2, (some .boolean))
abbrev MX8_takeWord : xM := (yX8_takeWord, cX8_takeWord, 2, (some .boolean))
abbrev MX8_wordOf : xM := (yX8_wordOf, cX8_wordOf, 3, (some (.object "InchBorders$Word")))
abbrev MX9_countRows : xM := (yX9_countRows, cX9_countRows, 4, (some .int))
abbrev MX9_findWay : xM := (yX9_findWay, cX9_findWay, 6, (some .boolean))
abbrev MX9_goOn : xM := (yX9_goOn, cX9_goOn, 8, (none : Option Jvm.ClassFile.FieldType))
abbrev MX9_init : xM := (yX9_init, cX9_init, 2, (none : Option Jvm.ClassFile.FieldType))
abbrev MX9_likeliestEnd : xM := (yX9_likeliestEnd, cX9_likeliestEnd, 3, (some .int))
abbrev MX9_longestRound : xM := (yX9_longestRound, cX9_longestRound, 3, (some .int))
abbrev MX9_look : xM := (yX9_look, cX9_look, 4, (none : Option Jvm.ClassFile.FieldType))
abbrev MX9_note : xM := (yX9_note, cX9_note, 3, (none : Option Jvm.ClassFile.FieldType))
abbrev MX9_search : xM := (yX9_search, cX9_search, 6, (none : Option Jvm.ClassFile.FieldType))
theorem inG12 : ∀ w ∈ wsX120, w ∈ gtbl := by decide +kernel
section MROWS
variable {G : xG} {μ : xM} {d mc ms : Nat} {Q : xQ} {pc : Nat} {L : List (Option Value)} {st : List Value} {n k : Nat} {a : Nat → Nat} {σ : mS}
theorem tw_1409 : (.fieldLink "InchBordersModel" 1 "InchBordersModel" "thrown" "I" : Cond) ∈ gtbl := gtbl_in (List.mem_of_getElem? (i := 1409) (by decide +kernel)) rfl
theorem mg_thrown (hd : decode μ.2.1 pc = .ok (.getfield 1, 3)) (ho : μ.1.cls = "InchBordersModel") (kk : AW G μ d mc ms Q (pc + 3) L (.int (σ.1 0) :: st) (mW G.2.2.1 a σ) n k) : AW G μ d mc ms Q pc L (.ref (a 60) :: st) (mW G.2.2.1 a σ) n k := aw_get (ci := 10) (q0 := 0) (f := 0) (CN := RX12) (T := TX12) (N := 60) hd inG12 (by rw [ho]; exact tw_1409) rfl (by decide) rfl rfl kk
theorem mp_thrown {x : Int32} (hd : decode μ.2.1 pc = .ok (.putfield 1, 3)) (ho : μ.1.cls = "InchBordersModel") (kk : AW G μ d mc ms Q (pc + 3) L st (mW G.2.2.1 a (mI σ 0 x)) n k) : AW G μ d mc ms Q pc L (.int x :: .ref (a 60) :: st) (mW G.2.2.1 a σ) n k := aw_put (ci := 10) (q0 := 0) (f := 0) (CN := RX12) (T := TX12) (N := 60) (ty0 := tyX12) hd inG12 tyX12_ok nmX12 (by rw [ho]; exact tw_1409) rfl (by decide) rfl rfl rfl rfl (Nat.le_of_ble_eq_true rfl) rfl kk
theorem tw_1410 : (.fieldLink "InchBordersModel" 14 "InchBordersModel" "tape" "[B" : Cond) ∈ gtbl := gtbl_in (List.mem_of_getElem? (i := 1410) (by decide +kernel)) rfl
theorem mg_tape (hd : decode μ.2.1 pc = .ok (.getfield 14, 3)) (ho : μ.1.cls = "InchBordersModel") (kk : AW G μ d mc ms Q (pc + 3) L (.ref (a 1) :: st) (mW G.2.2.1 a σ) n k) : AW G μ d mc ms Q pc L (.ref (a 60) :: st) (mW G.2.2.1 a σ) n k := aw_get (ci := 10) (q0 := 0) (f := 1) (CN := RX12) (T := TX12) (N := 60) hd inG12 (by rw [ho]; exact tw_1410) rfl (by decide) rfl rfl kk
theorem tw_1411 : (.fieldLink "InchBordersModel" 7 "InchBordersModel" "length" "I" : Cond) ∈ gtbl := gtbl_in (List.mem_of_getElem? (i := 1411) (by decide +kernel)) rfl
theorem mg_length (hd : decode μ.2.1 pc = .ok (.getfield 7, 3)) (ho : μ.1.cls = "InchBordersModel") (kk : AW G μ d mc ms Q (pc + 3) L (.int (σ.1 2) :: st) (mW G.2.2.1 a σ) n k) : AW G μ d mc ms Q pc L (.ref (a 60) :: st) (mW G.2.2.1 a σ) n k := aw_get (ci := 10) (q0 := 0) (f := 2) (CN := RX12) (T := TX12) (N := 60) hd inG12 (by rw [ho]; exact tw_1411) rfl (by decide) rfl rfl kk
theorem mp_length {x : Int32} (hd : decode μ.2.1 pc = .ok (.putfield 7, 3)) (ho : μ.1.cls = "InchBordersModel") (kk : AW G μ d mc ms Q (pc + 3) L st (mW G.2.2.1 a (mI σ 2 x)) n k) : AW G μ d mc ms Q pc L (.int x :: .ref (a 60) :: st) (mW G.2.2.1 a σ) n k := aw_put (ci := 10) (q0 := 0) (f := 2) (CN := RX12) (T := TX12) (N := 60) (ty0 := tyX12) hd inG12 tyX12_ok nmX12 (by rw [ho]; exact tw_1411) rfl (by decide) rfl rfl rfl rfl (Nat.le_of_ble_eq_true rfl) rfl kk
theorem tw_1412 : (.fieldLink "InchBordersModel" 18 "InchBordersModel" "size" "I" : Cond) ∈ gtbl := gtbl_in (List.mem_of_getElem? (i := 1412) (by decide +kernel)) rfl
theorem mg_size (hd : decode μ.2.1 pc = .ok (.getfield 18, 3)) (ho : μ.1.cls = "InchBordersModel") (kk : AW G μ d mc ms Q (pc + 3) L (.int (σ.1 3) :: st) (mW G.2.2.1 a σ) n k) : AW G μ d mc ms Q pc L (.ref (a 60) :: st) (mW G.2.2.1 a σ) n k := aw_get (ci := 10) (q0 := 0) (f := 3) (CN := RX12) (T := TX12) (N := 60) hd inG12 (by rw [ho]; exact tw_1412) rfl (by decide) rfl rfl kk
theorem mp_size {x : Int32} (hd : decode μ.2.1 pc = .ok (.putfield 18, 3)) (ho : μ.1.cls = "InchBordersModel") (kk : AW G μ d mc ms Q (pc + 3) L st (mW G.2.2.1 a (mI σ 3 x)) n k) : AW G μ d mc ms Q pc L (.int x :: .ref (a 60) :: st) (mW G.2.2.1 a σ) n k := aw_put (ci := 10) (q0 := 0) (f := 3) (CN := RX12) (T := TX12) (N := 60) (ty0 := tyX12) hd inG12 tyX12_ok nmX12 (by rw [ho]; exact tw_1412) rfl (by decide) rfl rfl rfl rfl (Nat.le_of_ble_eq_true rfl) rfl kk
theorem tw_1413 : (.fieldLink "InchBordersModel" 21 "InchBordersModel" "p" "I" : Cond) ∈ gtbl := gtbl_in (List.mem_of_getElem? (i := 1413) (by decide +kernel)) rfl
theorem mg_p (hd : decode μ.2.1 pc = .ok (.getfield 21, 3)) (ho : μ.1.cls = "InchBordersModel") (kk : AW G μ d mc ms Q (pc + 3) L (.int (σ.1 4) :: st) (mW G.2.2.1 a σ) n k) : AW G μ d mc ms Q pc L (.ref (a 60) :: st) (mW G.2.2.1 a σ) n k := aw_get (ci := 10) (q0 := 0) (f := 4) (CN := RX12) (T := TX12) (N := 60) hd inG12 (by rw [ho]; exact tw_1413) rfl (by decide) rfl rfl kk
theorem mp_p {x : Int32} (hd : decode μ.2.1 pc = .ok (.putfield 21, 3)) (ho : μ.1.cls = "InchBordersModel") (kk : AW G μ d mc ms Q (pc + 3) L st (mW G.2.2.1 a (mI σ 4 x)) n k) : AW G μ d mc ms Q pc L (.int x :: .ref (a 60) :: st) (mW G.2.2.1 a σ) n k := aw_put (ci := 10) (q0 := 0) (f := 4) (CN := RX12) (T := TX12) (N := 60) (ty0 := tyX12) hd inG12 tyX12_ok nmX12 (by rw [ho]; exact tw_1413) rfl (by decide) rfl rfl rfl rfl (Nat.le_of_ble_eq_true rfl) rfl kk
theorem tw_1414 : (.fieldLink "InchBordersModel" 24 "InchBordersModel" "limit" "I" : Cond) ∈ gtbl := gtbl_in (List.mem_of_getElem? (i := 1414) (by decide +kernel)) rfl
theorem mg_limit (hd : decode μ.2.1 pc = .ok (.getfield 24, 3)) (ho : μ.1.cls = "InchBordersModel") (kk : AW G μ d mc ms Q (pc + 3) L (.int (σ.1 5) :: st) (mW G.2.2.1 a σ) n k) : AW G μ d mc ms Q pc L (.ref (a 60) :: st) (mW G.2.2.1 a σ) n k := aw_get (ci := 10) (q0 := 0) (f := 5) (CN := RX12) (T := TX12) (N := 60) hd inG12 (by rw [ho]; exact tw_1414) rfl (by decide) rfl rfl kk
theorem mp_limit {x : Int32} (hd : decode μ.2.1 pc = .ok (.putfield 24, 3)) (ho : μ.1.cls = "InchBordersModel") (kk : AW G μ d mc ms Q (pc + 3) L st (mW G.2.2.1 a (mI σ 5 x)) n k) : AW G μ d mc ms Q pc L (.int x :: .ref (a 60) :: st) (mW G.2.2.1 a σ) n k := aw_put (ci := 10) (q0 := 0) (f := 5) (CN := RX12) (T := TX12) (N := 60) (ty0 := tyX12) hd inG12 tyX12_ok nmX12 (by rw [ho]; exact tw_1414) rfl (by decide) rfl rfl rfl rfl (Nat.le_of_ble_eq_true rfl) rfl kk
theorem tw_1415 : (.fieldLink "InchBordersModel" 33 "InchBordersModel" "s" "[I" : Cond) ∈ gtbl := gtbl_in (List.mem_of_getElem? (i := 1415) (by decide +kernel)) rfl
theorem mg_s (hd : decode μ.2.1 pc = .ok (.getfield 33, 3)) (ho : μ.1.cls = "InchBordersModel") (kk : AW G μ d mc ms Q (pc + 3) L (.ref (a 6) :: st) (mW G.2.2.1 a σ) n k) : AW G μ d mc ms Q pc L (.ref (a 60) :: st) (mW G.2.2.1 a σ) n k := aw_get (ci := 10) (q0 := 0) (f := 6) (CN := RX12) (T := TX12) (N := 60) hd inG12 (by rw [ho]; exact tw_1415) rfl (by decide) rfl rfl kk
theorem tw_1416 : (.fieldLink "InchBordersModel" 37 "InchBordersModel" "h" "[I" : Cond) ∈ gtbl := gtbl_in (List.mem_of_getElem? (i := 1416) (by decide +kernel)) rfl
theorem mg_h (hd : decode μ.2.1 pc = .ok (.getfield 37, 3)) (ho : μ.1.cls = "InchBordersModel") (kk : AW G μ d mc ms Q (pc + 3) L (.ref (a 7) :: st) (mW G.2.2.1 a σ) n k) : AW G μ d mc ms Q pc L (.ref (a 60) :: st) (mW G.2.2.1 a σ) n k := aw_get (ci := 10) (q0 := 0) (f := 7) (CN := RX12) (T := TX12) (N := 60) hd inG12 (by rw [ho]; exact tw_1416) rfl (by decide) rfl rfl kk
theorem tw_1417 : (.fieldLink "InchBordersModel" 40 "InchBordersModel" "read" "[I" : Cond) ∈ gtbl := gtbl_in (List.mem_of_getElem? (i := 1417) (by decide +kernel)) rfl
theorem mg_read (hd : decode μ.2.1 pc = .ok (.getfield 40, 3)) (ho : μ.1.cls = "InchBordersModel") (kk : AW G μ d mc ms Q (pc + 3) L (.ref (a 8) :: st) (mW G.2.2.1 a σ) n k) : AW G μ d mc ms Q pc L (.ref (a 60) :: st) (mW G.2.2.1 a σ) n k := aw_get (ci := 10) (q0 := 0) (f := 8) (CN := RX12) (T := TX12) (N := 60) hd inG12 (by rw [ho]; exact tw_1417) rfl (by decide) rfl rfl kk
theorem tw_1418 : (.fieldLink "InchBordersModel" 43 "InchBordersModel" "names" "[J" : Cond) ∈ gtbl := gtbl_in (List.mem_of_getElem? (i := 1418) (by decide +kernel)) rfl
theorem mg_names (hd : decode μ.2.1 pc = .ok (.getfield 43, 3)) (ho : μ.1.cls = "InchBordersModel") (kk : AW G μ d mc ms Q (pc + 3) L (.ref (a 9) :: st) (mW G.2.2.1 a σ) n k) : AW G μ d mc ms Q pc L (.ref (a 60) :: st) (mW G.2.2.1 a σ) n k := aw_get (ci := 10) (q0 := 0) (f := 9) (CN := RX12) (T := TX12) (N := 60) hd inG12 (by rw [ho]; exact tw_1418) rfl (by decide) rfl rfl kk
theorem tw_1419 : (.fieldLink "InchBordersModel" 47 "InchBordersModel" "reserved" "[J" : Cond) ∈ gtbl := gtbl_in (List.mem_of_getElem? (i := 1419) (by decide +kernel)) rfl
theorem mg_reserved (hd : decode μ.2.1 pc = .ok (.getfield 47, 3)) (ho : μ.1.cls = "InchBordersModel") (kk : AW G μ d mc ms Q (pc + 3) L (.ref (a 10) :: st) (mW G.2.2.1 a σ) n k) : AW G μ d mc ms Q pc L (.ref (a 60) :: st) (mW G.2.2.1 a σ) n k := aw_get (ci := 10) (q0 := 0) (f := 10) (CN := RX12) (T := TX12) (N := 60) hd inG12 (by rw [ho]; exact tw_1419) rfl (by decide) rfl rfl kk
theorem tw_1420 : (.fieldLink "InchBordersModel" 175 "InchBordersModel" "token" "I" : Cond) ∈ gtbl := gtbl_in (List.mem_of_getElem? (i := 1420) (by decide +kernel)) rfl
theorem mg_token (hd : decode μ.2.1 pc = .ok (.getfield 175, 3)) (ho : μ.1.cls = "InchBordersModel") (kk : AW G μ d mc ms Q (pc + 3) L (.int (σ.1 11) :: st) (mW G.2.2.1 a σ) n k) : AW G μ d mc ms Q pc L (.ref (a 60) :: st) (mW G.2.2.1 a σ) n k := aw_get (ci := 10) (q0 := 0) (f := 11) (CN := RX12) (T := TX12) (N := 60) hd inG12 (by rw [ho]; exact tw_1420) rfl (by decide) rfl rfl kk
theorem mp_token {x : Int32} (hd : decode μ.2.1 pc = .ok (.putfield 175, 3)) (ho : μ.1.cls = "InchBordersModel") (kk : AW G μ d mc ms Q (pc + 3) L st (mW G.2.2.1 a (mI σ 11 x)) n k) : AW G μ d mc ms Q pc L (.int x :: .ref (a 60) :: st) (mW G.2.2.1 a σ) n k := aw_put (ci := 10) (q0 := 0) (f := 11) (CN := RX12) (T := TX12) (N := 60) (ty0 := tyX12) hd inG12 tyX12_ok nmX12 (by rw [ho]; exact tw_1420) rfl (by decide) rfl rfl rfl rfl (Nat.le_of_ble_eq_true rfl) rfl kk
theorem tw_1421 : (.fieldLink "InchBordersModel" 169 "InchBordersModel" "at" "I" : Cond) ∈ gtbl := gtbl_in (List.mem_of_getElem? (i := 1421) (by decide +kernel)) rfl
theorem mg_at (hd : decode μ.2.1 pc = .ok (.getfield 169, 3)) (ho : μ.1.cls = "InchBordersModel") (kk : AW G μ d mc ms Q (pc + 3) L (.int (σ.1 12) :: st) (mW G.2.2.1 a σ) n k) : AW G μ d mc ms Q pc L (.ref (a 60) :: st) (mW G.2.2.1 a σ) n k := aw_get (ci := 10) (q0 := 0) (f := 12) (CN := RX12) (T := TX12) (N := 60) hd inG12 (by rw [ho]; exact tw_1421) rfl (by decide) rfl rfl kk
theorem mp_at {x : Int32} (hd : decode μ.2.1 pc = .ok (.putfield 169, 3)) (ho : μ.1.cls = "InchBordersModel") (kk : AW G μ d mc ms Q (pc + 3) L st (mW G.2.2.1 a (mI σ 12 x)) n k) : AW G μ d mc ms Q pc L (.int x :: .ref (a 60) :: st) (mW G.2.2.1 a σ) n k := aw_put (ci := 10) (q0 := 0) (f := 12) (CN := RX12) (T := TX12) (N := 60) (ty0 := tyX12) hd inG12 tyX12_ok nmX12 (by rw [ho]; exact tw_1421) rfl (by decide) rfl rfl rfl rfl (Nat.le_of_ble_eq_true rfl) rfl kk
theorem tw_1422 : (.fieldLink "InchBordersModel" 172 "InchBordersModel" "span" "I" : Cond) ∈ gtbl := gtbl_in (List.mem_of_getElem? (i := 1422) (by decide +kernel)) rfl
theorem mg_span (hd : decode μ.2.1 pc = .ok (.getfield 172, 3)) (ho : μ.1.cls = "InchBordersModel") (kk : AW G μ d mc ms Q (pc + 3) L (.int (σ.1 13) :: st) (mW G.2.2.1 a σ) n k) : AW G μ d mc ms Q pc L (.ref (a 60) :: st) (mW G.2.2.1 a σ) n k := aw_get (ci := 10) (q0 := 0) (f := 13) (CN := RX12) (T := TX12) (N := 60) hd inG12 (by rw [ho]; exact tw_1422) rfl (by decide) rfl rfl kk
theorem mp_span {x : Int32} (hd : decode μ.2.1 pc = .ok (.putfield 172, 3)) (ho : μ.1.cls = "InchBordersModel") (kk : AW G μ d mc ms Q (pc + 3) L st (mW G.2.2.1 a (mI σ 13 x)) n k) : AW G μ d mc ms Q pc L (.int x :: .ref (a 60) :: st) (mW G.2.2.1 a σ) n k := aw_put (ci := 10) (q0 := 0) (f := 13) (CN := RX12) (T := TX12) (N := 60) (ty0 := tyX12) hd inG12 tyX12_ok nmX12 (by rw [ho]; exact tw_1422) rfl (by decide) rfl rfl rfl rfl (Nat.le_of_ble_eq_true rfl) rfl kk
theorem tw_1423 : (.fieldLink "InchBordersModel" 185 "InchBordersModel" "number" "I" : Cond) ∈ gtbl := gtbl_in (List.mem_of_getElem? (i := 1423) (by decide +kernel)) rfl
theorem mg_number (hd : decode μ.2.1 pc = .ok (.getfield 185, 3)) (ho : μ.1.cls = "InchBordersModel") (kk : AW G μ d mc ms Q (pc + 3) L (.int (σ.1 14) :: st) (mW G.2.2.1 a σ) n k) : AW G μ d mc ms Q pc L (.ref (a 60) :: st) (mW G.2.2.1 a σ) n k := aw_get (ci := 10) (q0 := 0) (f := 14) (CN := RX12) (T := TX12) (N := 60) hd inG12 (by rw [ho]; exact tw_1423) rfl (by decide) rfl rfl kk
theorem mp_number {x : Int32} (hd : decode μ.2.1 pc = .ok (.putfield 185, 3)) (ho : μ.1.cls = "InchBordersModel") (kk : AW G μ d mc ms Q (pc + 3) L st (mW G.2.2.1 a (mI σ 14 x)) n k) : AW G μ d mc ms Q pc L (.int x :: .ref (a 60) :: st) (mW G.2.2.1 a σ) n k := aw_put (ci := 10) (q0 := 0) (f := 14) (CN := RX12) (T := TX12) (N := 60) (ty0 := tyX12) hd inG12 tyX12_ok nmX12 (by rw [ho]; exact tw_1423) rfl (by decide) rfl rfl rfl rfl (Nat.le_of_ble_eq_true rfl) rfl kk
theorem tw_1424 : (.fieldLink "InchBordersModel" 192 "InchBordersModel" "fault" "I" : Cond) ∈ gtbl := gtbl_in (List.mem_of_getElem? (i := 1424) (by decide +kernel)) rfl
theorem mg_fault (hd : decode μ.2.1 pc = .ok (.getfield 192, 3)) (ho : μ.1.cls = "InchBordersModel") (kk : AW G μ d mc ms Q (pc + 3) L (.int (σ.1 15) :: st) (mW G.2.2.1 a σ) n k) : AW G μ d mc ms Q pc L (.ref (a 60) :: st) (mW G.2.2.1 a σ) n k := aw_get (ci := 10) (q0 := 0) (f := 15) (CN := RX12) (T := TX12) (N := 60) hd inG12 (by rw [ho]; exact tw_1424) rfl (by decide) rfl rfl kk
theorem mp_fault {x : Int32} (hd : decode μ.2.1 pc = .ok (.putfield 192, 3)) (ho : μ.1.cls = "InchBordersModel") (kk : AW G μ d mc ms Q (pc + 3) L st (mW G.2.2.1 a (mI σ 15 x)) n k) : AW G μ d mc ms Q pc L (.int x :: .ref (a 60) :: st) (mW G.2.2.1 a σ) n k := aw_put (ci := 10) (q0 := 0) (f := 15) (CN := RX12) (T := TX12) (N := 60) (ty0 := tyX12) hd inG12 tyX12_ok nmX12 (by rw [ho]; exact tw_1424) rfl (by decide) rfl rfl rfl rfl (Nat.le_of_ble_eq_true rfl) rfl kk
theorem tw_1425 : (.fieldLink "InchBordersModel" 195 "InchBordersModel" "faultAt" "I" : Cond) ∈ gtbl := gtbl_in (List.mem_of_getElem? (i := 1425) (by decide +kernel)) rfl
theorem mg_faultAt (hd : decode μ.2.1 pc = .ok (.getfield 195, 3)) (ho : μ.1.cls = "InchBordersModel") (kk : AW G μ d mc ms Q (pc + 3) L (.int (σ.1 16) :: st) (mW G.2.2.1 a σ) n k) : AW G μ d mc ms Q pc L (.ref (a 60) :: st) (mW G.2.2.1 a σ) n k := aw_get (ci := 10) (q0 := 0) (f := 16) (CN := RX12) (T := TX12) (N := 60) hd inG12 (by rw [ho]; exact tw_1425) rfl (by decide) rfl rfl kk
theorem mp_faultAt {x : Int32} (hd : decode μ.2.1 pc = .ok (.putfield 195, 3)) (ho : μ.1.cls = "InchBordersModel") (kk : AW G μ d mc ms Q (pc + 3) L st (mW G.2.2.1 a (mI σ 16 x)) n k) : AW G μ d mc ms Q pc L (.int x :: .ref (a 60) :: st) (mW G.2.2.1 a σ) n k := aw_put (ci := 10) (q0 := 0) (f := 16) (CN := RX12) (T := TX12) (N := 60) (ty0 := tyX12) hd inG12 tyX12_ok nmX12 (by rw [ho]; exact tw_1425) rfl (by decide) rfl rfl rfl rfl (Nat.le_of_ble_eq_true rfl) rfl kk
theorem tw_1426 : (.fieldLink "InchBordersModel" 188 "InchBordersModel" "word" "J" : Cond) ∈ gtbl := gtbl_in (List.mem_of_getElem? (i := 1426) (by decide +kernel)) rfl
theorem mg_word (hd : decode μ.2.1 pc = .ok (.getfield 188, 3)) (ho : μ.1.cls = "InchBordersModel") (kk : AW G μ d mc ms Q (pc + 3) L (.long σ.2.2.2.1 :: st) (mW G.2.2.1 a σ) n k) : AW G μ d mc ms Q pc L (.ref (a 60) :: st) (mW G.2.2.1 a σ) n k := aw_get (ci := 10) (q0 := 0) (f := 17) (CN := RX12) (T := TX12) (N := 60) hd inG12 (by rw [ho]; exact tw_1426) rfl (by decide) rfl rfl kk
theorem mp_word {x : Int64} (hd : decode μ.2.1 pc = .ok (.putfield 188, 3)) (ho : μ.1.cls = "InchBordersModel") (kk : AW G μ d mc ms Q (pc + 3) L st (mW G.2.2.1 a (mJ σ x)) n k) : AW G μ d mc ms Q pc L (.long x :: .ref (a 60) :: st) (mW G.2.2.1 a σ) n k := aw_put (ci := 10) (q0 := 0) (f := 17) (CN := RX12) (T := TX12) (N := 60) (ty0 := tyX12) hd inG12 tyX12_ok nmX12 (by rw [ho]; exact tw_1426) rfl (by decide) rfl rfl rfl rfl (Nat.le_of_ble_eq_true rfl) rfl kk
theorem tw_1427 : (.fieldLink "InchBordersModel" 211 "InchBordersModel" "got" "I" : Cond) ∈ gtbl := gtbl_in (List.mem_of_getElem? (i := 1427) (by decide +kernel)) rfl
theorem mg_got (hd : decode μ.2.1 pc = .ok (.getfield 211, 3)) (ho : μ.1.cls = "InchBordersModel") (kk : AW G μ d mc ms Q (pc + 3) L (.int (σ.1 18) :: st) (mW G.2.2.1 a σ) n k) : AW G μ d mc ms Q pc L (.ref (a 60) :: st) (mW G.2.2.1 a σ) n k := aw_get (ci := 10) (q0 := 0) (f := 18) (CN := RX12) (T := TX12) (N := 60) hd inG12 (by rw [ho]; exact tw_1427) rfl (by decide) rfl rfl kk
theorem mp_got {x : Int32} (hd : decode μ.2.1 pc = .ok (.putfield 211, 3)) (ho : μ.1.cls = "InchBordersModel") (kk : AW G μ d mc ms Q (pc + 3) L st (mW G.2.2.1 a (mI σ 18 x)) n k) : AW G μ d mc ms Q pc L (.int x :: .ref (a 60) :: st) (mW G.2.2.1 a σ) n k := aw_put (ci := 10) (q0 := 0) (f := 18) (CN := RX12) (T := TX12) (N := 60) (ty0 := tyX12) hd inG12 tyX12_ok nmX12 (by rw [ho]; exact tw_1427) rfl (by decide) rfl rfl rfl rfl (Nat.le_of_ble_eq_true rfl) rfl kk
theorem tw_1428 : (.fieldLink "InchBordersModel" 266 "InchBordersModel" "lines" "I" : Cond) ∈ gtbl := gtbl_in (List.mem_of_getElem? (i := 1428) (by decide +kernel)) rfl
theorem mg_lines (hd : decode μ.2.1 pc = .ok (.getfield 266, 3)) (ho : μ.1.cls = "InchBordersModel") (kk : AW G μ d mc ms Q (pc + 3) L (.int (σ.1 19) :: st) (mW G.2.2.1 a σ) n k) : AW G μ d mc ms Q pc L (.ref (a 60) :: st) (mW G.2.2.1 a σ) n k := aw_get (ci := 10) (q0 := 0) (f := 19) (CN := RX12) (T := TX12) (N := 60) hd inG12 (by rw [ho]; exact tw_1428) rfl (by decide) rfl rfl kk
theorem mp_lines {x : Int32} (hd : decode μ.2.1 pc = .ok (.putfield 266, 3)) (ho : μ.1.cls = "InchBordersModel") (kk : AW G μ d mc ms Q (pc + 3) L st (mW G.2.2.1 a (mI σ 19 x)) n k) : AW G μ d mc ms Q pc L (.int x :: .ref (a 60) :: st) (mW G.2.2.1 a σ) n k := aw_put (ci := 10) (q0 := 0) (f := 19) (CN := RX12) (T := TX12) (N := 60) (ty0 := tyX12) hd inG12 tyX12_ok nmX12 (by rw [ho]; exact tw_1428) rfl (by decide) rfl rfl rfl rfl (Nat.le_of_ble_eq_true rfl) rfl kk
theorem tw_1429 : (.fieldLink "InchBordersModel" 254 "InchBordersModel" "stored" "I" : Cond) ∈ gtbl := gtbl_in (List.mem_of_getElem? (i := 1429) (by decide +kernel)) rfl
theorem mg_stored (hd : decode μ.2.1 pc = .ok (.getfield 254, 3)) (ho : μ.1.cls = "InchBordersModel") (kk : AW G μ d mc ms Q (pc + 3) L (.int (σ.1 20) :: st) (mW G.2.2.1 a σ) n k) : AW G μ d mc ms Q pc L (.ref (a 60) :: st) (mW G.2.2.1 a σ) n k := aw_get (ci := 10) (q0 := 0) (f := 20) (CN := RX12) (T := TX12) (N := 60) hd inG12 (by rw [ho]; exact tw_1429) rfl (by decide) rfl rfl kk
theorem mp_stored {x : Int32} (hd : decode μ.2.1 pc = .ok (.putfield 254, 3)) (ho : μ.1.cls = "InchBordersModel") (kk : AW G μ d mc ms Q (pc + 3) L st (mW G.2.2.1 a (mI σ 20 x)) n k) : AW G μ d mc ms Q pc L (.int x :: .ref (a 60) :: st) (mW G.2.2.1 a σ) n k := aw_put (ci := 10) (q0 := 0) (f := 20) (CN := RX12) (T := TX12) (N := 60) (ty0 := tyX12) hd inG12 tyX12_ok nmX12 (by rw [ho]; exact tw_1429) rfl (by decide) rfl rfl rfl rfl (Nat.le_of_ble_eq_true rfl) rfl kk
theorem tw_1430 : (.fieldLink "InchBordersModel" 50 "InchBordersModel" "undone" "[I" : Cond) ∈ gtbl := gtbl_in (List.mem_of_getElem? (i := 1430) (by decide +kernel)) rfl
theorem mg_undone (hd : decode μ.2.1 pc = .ok (.getfield 50, 3)) (ho : μ.1.cls = "InchBordersModel") (kk : AW G μ d mc ms Q (pc + 3) L (.ref (a 21) :: st) (mW G.2.2.1 a σ) n k) : AW G μ d mc ms Q pc L (.ref (a 60) :: st) (mW G.2.2.1 a σ) n k := aw_get (ci := 10) (q0 := 0) (f := 21) (CN := RX12) (T := TX12) (N := 60) hd inG12 (by rw [ho]; exact tw_1430) rfl (by decide) rfl rfl kk
theorem tw_1431 : (.fieldLink "InchBordersModel" 53 "InchBordersModel" "before" "[I" : Cond) ∈ gtbl := gtbl_in (List.mem_of_getElem? (i := 1431) (by decide +kernel)) rfl
theorem mg_before (hd : decode μ.2.1 pc = .ok (.getfield 53, 3)) (ho : μ.1.cls = "InchBordersModel") (kk : AW G μ d mc ms Q (pc + 3) L (.ref (a 22) :: st) (mW G.2.2.1 a σ) n k) : AW G μ d mc ms Q pc L (.ref (a 60) :: st) (mW G.2.2.1 a σ) n k := aw_get (ci := 10) (q0 := 0) (f := 22) (CN := RX12) (T := TX12) (N := 60) hd inG12 (by rw [ho]; exact tw_1431) rfl (by decide) rfl rfl kk
theorem tw_1432 : (.fieldLink "InchBordersModel" 275 "InchBordersModel" "undoMany" "I" : Cond) ∈ gtbl := gtbl_in (List.mem_of_getElem? (i := 1432) (by decide +kernel)) rfl
theorem mg_undoMany (hd : decode μ.2.1 pc = .ok (.getfield 275, 3)) (ho : μ.1.cls = "InchBordersModel") (kk : AW G μ d mc ms Q (pc + 3) L (.int (σ.1 23) :: st) (mW G.2.2.1 a σ) n k) : AW G μ d mc ms Q pc L (.ref (a 60) :: st) (mW G.2.2.1 a σ) n k := aw_get (ci := 10) (q0 := 0) (f := 23) (CN := RX12) (T := TX12) (N := 60) hd inG12 (by rw [ho]; exact tw_1432) rfl (by decide) rfl rfl kk
theorem mp_undoMany {x : Int32} (hd : decode μ.2.1 pc = .ok (.putfield 275, 3)) (ho : μ.1.cls = "InchBordersModel") (kk : AW G μ d mc ms Q (pc + 3) L st (mW G.2.2.1 a (mI σ 23 x)) n k) : AW G μ d mc ms Q pc L (.int x :: .ref (a 60) :: st) (mW G.2.2.1 a σ) n k := aw_put (ci := 10) (q0 := 0) (f := 23) (CN := RX12) (T := TX12) (N := 60) (ty0 := tyX12) hd inG12 tyX12_ok nmX12 (by rw [ho]; exact tw_1432) rfl (by decide) rfl rfl rfl rfl (Nat.le_of_ble_eq_true rfl) rfl kk
theorem tw_1433 : (.fieldLink "InchBordersModel" 56 "InchBordersModel" "where" "[I" : Cond) ∈ gtbl := gtbl_in (List.mem_of_getElem? (i := 1433) (by decide +kernel)) rfl
theorem mg_where (hd : decode μ.2.1 pc = .ok (.getfield 56, 3)) (ho : μ.1.cls = "InchBordersModel") (kk : AW G μ d mc ms Q (pc + 3) L (.ref (a 24) :: st) (mW G.2.2.1 a σ) n k) : AW G μ d mc ms Q pc L (.ref (a 60) :: st) (mW G.2.2.1 a σ) n k := aw_get (ci := 10) (q0 := 0) (f := 24) (CN := RX12) (T := TX12) (N := 60) hd inG12 (by rw [ho]; exact tw_1433) rfl (by decide) rfl rfl kk
theorem tw_1434 : (.fieldLink "InchBordersModel" 59 "InchBordersModel" "much" "[I" : Cond) ∈ gtbl := gtbl_in (List.mem_of_getElem? (i := 1434) (by decide +kernel)) rfl
theorem mg_much (hd : decode μ.2.1 pc = .ok (.getfield 59, 3)) (ho : μ.1.cls = "InchBordersModel") (kk : AW G μ d mc ms Q (pc + 3) L (.ref (a 25) :: st) (mW G.2.2.1 a σ) n k) : AW G μ d mc ms Q pc L (.ref (a 60) :: st) (mW G.2.2.1 a σ) n k := aw_get (ci := 10) (q0 := 0) (f := 25) (CN := RX12) (T := TX12) (N := 60) hd inG12 (by rw [ho]; exact tw_1434) rfl (by decide) rfl rfl kk
theorem tw_1435 : (.fieldLink "InchBordersModel" 62 "InchBordersModel" "store" "[I" : Cond) ∈ gtbl := gtbl_in (List.mem_of_getElem? (i := 1435) (by decide +kernel)) rfl
theorem mg_store (hd : decode μ.2.1 pc = .ok (.getfield 62, 3)) (ho : μ.1.cls = "InchBordersModel") (kk : AW G μ d mc ms Q (pc + 3) L (.ref (a 26) :: st) (mW G.2.2.1 a σ) n k) : AW G μ d mc ms Q pc L (.ref (a 60) :: st) (mW G.2.2.1 a σ) n k := aw_get (ci := 10) (q0 := 0) (f := 26) (CN := RX12) (T := TX12) (N := 60) hd inG12 (by rw [ho]; exact tw_1435) rfl (by decide) rfl rfl kk
theorem tw_1436 : (.fieldLink "InchBordersModel" 65 "InchBordersModel" "step" "[I" : Cond) ∈ gtbl := gtbl_in (List.mem_of_getElem? (i := 1436) (by decide +kernel)) rfl
theorem mg_step (hd : decode μ.2.1 pc = .ok (.getfield 65, 3)) (ho : μ.1.cls = "InchBordersModel") (kk : AW G μ d mc ms Q (pc + 3) L (.ref (a 27) :: st) (mW G.2.2.1 a σ) n k) : AW G μ d mc ms Q pc L (.ref (a 60) :: st) (mW G.2.2.1 a σ) n k := aw_get (ci := 10) (q0 := 0) (f := 27) (CN := RX12) (T := TX12) (N := 60) hd inG12 (by rw [ho]; exact tw_1436) rfl (by decide) rfl rfl kk
theorem tw_1437 : (.fieldLink "InchBordersModel" 360 "InchBordersModel" "depth" "I" : Cond) ∈ gtbl := gtbl_in (List.mem_of_getElem? (i := 1437) (by decide +kernel)) rfl
theorem mg_depth (hd : decode μ.2.1 pc = .ok (.getfield 360, 3)) (ho : μ.1.cls = "InchBordersModel") (kk : AW G μ d mc ms Q (pc + 3) L (.int (σ.1 28) :: st) (mW G.2.2.1 a σ) n k) : AW G μ d mc ms Q pc L (.ref (a 60) :: st) (mW G.2.2.1 a σ) n k := aw_get (ci := 10) (q0 := 0) (f := 28) (CN := RX12) (T := TX12) (N := 60) hd inG12 (by rw [ho]; exact tw_1437) rfl (by decide) rfl rfl kk
theorem mp_depth {x : Int32} (hd : decode μ.2.1 pc = .ok (.putfield 360, 3)) (ho : μ.1.cls = "InchBordersModel") (kk : AW G μ d mc ms Q (pc + 3) L st (mW G.2.2.1 a (mI σ 28 x)) n k) : AW G μ d mc ms Q pc L (.int x :: .ref (a 60) :: st) (mW G.2.2.1 a σ) n k := aw_put (ci := 10) (q0 := 0) (f := 28) (CN := RX12) (T := TX12) (N := 60) (ty0 := tyX12) hd inG12 tyX12_ok nmX12 (by rw [ho]; exact tw_1437) rfl (by decide) rfl rfl rfl rfl (Nat.le_of_ble_eq_true rfl) rfl kk
theorem tw_1438 : (.fieldLink "InchBordersModel" 357 "InchBordersModel" "sparing" "I" : Cond) ∈ gtbl := gtbl_in (List.mem_of_getElem? (i := 1438) (by decide +kernel)) rfl
theorem mg_sparing (hd : decode μ.2.1 pc = .ok (.getfield 357, 3)) (ho : μ.1.cls = "InchBordersModel") (kk : AW G μ d mc ms Q (pc + 3) L (.int (σ.1 29) :: st) (mW G.2.2.1 a σ) n k) : AW G μ d mc ms Q pc L (.ref (a 60) :: st) (mW G.2.2.1 a σ) n k := aw_get (ci := 10) (q0 := 0) (f := 29) (CN := RX12) (T := TX12) (N := 60) hd inG12 (by rw [ho]; exact tw_1438) rfl (by decide) rfl rfl kk
theorem mp_sparing {x : Int32} (hd : decode μ.2.1 pc = .ok (.putfield 357, 3)) (ho : μ.1.cls = "InchBordersModel") (kk : AW G μ d mc ms Q (pc + 3) L st (mW G.2.2.1 a (mI σ 29 x)) n k) : AW G μ d mc ms Q pc L (.int x :: .ref (a 60) :: st) (mW G.2.2.1 a σ) n k := aw_put (ci := 10) (q0 := 0) (f := 29) (CN := RX12) (T := TX12) (N := 60) (ty0 := tyX12) hd inG12 tyX12_ok nmX12 (by rw [ho]; exact tw_1438) rfl (by decide) rfl rfl rfl rfl (Nat.le_of_ble_eq_true rfl) rfl kk
theorem tw_1439 : (.fieldLink "InchBordersModel" 354 "InchBordersModel" "home" "I" : Cond) ∈ gtbl := gtbl_in (List.mem_of_getElem? (i := 1439) (by decide +kernel)) rfl
theorem mg_home (hd : decode μ.2.1 pc = .ok (.getfield 354, 3)) (ho : μ.1.cls = "InchBordersModel") (kk : AW G μ d mc ms Q (pc + 3) L (.int (σ.1 30) :: st) (mW G.2.2.1 a σ) n k) : AW G μ d mc ms Q pc L (.ref (a 60) :: st) (mW G.2.2.1 a σ) n k := aw_get (ci := 10) (q0 := 0) (f := 30) (CN := RX12) (T := TX12) (N := 60) hd inG12 (by rw [ho]; exact tw_1439) rfl (by decide) rfl rfl kk
theorem mp_home {x : Int32} (hd : decode μ.2.1 pc = .ok (.putfield 354, 3)) (ho : μ.1.cls = "InchBordersModel") (kk : AW G μ d mc ms Q (pc + 3) L st (mW G.2.2.1 a (mI σ 30 x)) n k) : AW G μ d mc ms Q pc L (.int x :: .ref (a 60) :: st) (mW G.2.2.1 a σ) n k := aw_put (ci := 10) (q0 := 0) (f := 30) (CN := RX12) (T := TX12) (N := 60) (ty0 := tyX12) hd inG12 tyX12_ok nmX12 (by rw [ho]; exact tw_1439) rfl (by decide) rfl rfl rfl rfl (Nat.le_of_ble_eq_true rfl) rfl kk
theorem tw_1440 : (.fieldLink "InchBordersModel" 68 "InchBordersModel" "wayRow" "[I" : Cond) ∈ gtbl := gtbl_in (List.mem_of_getElem? (i := 1440) (by decide +kernel)) rfl
theorem mg_wayRow (hd : decode μ.2.1 pc = .ok (.getfield 68, 3)) (ho : μ.1.cls = "InchBordersModel") (kk : AW G μ d mc ms Q (pc + 3) L (.ref (a 31) :: st) (mW G.2.2.1 a σ) n k) : AW G μ d mc ms Q pc L (.ref (a 60) :: st) (mW G.2.2.1 a σ) n k := aw_get (ci := 10) (q0 := 0) (f := 31) (CN := RX12) (T := TX12) (N := 60) hd inG12 (by rw [ho]; exact tw_1440) rfl (by decide) rfl rfl kk
theorem tw_1441 : (.fieldLink "InchBordersModel" 71 "InchBordersModel" "madeRow" "[I" : Cond) ∈ gtbl := gtbl_in (List.mem_of_getElem? (i := 1441) (by decide +kernel)) rfl
theorem mg_madeRow (hd : decode μ.2.1 pc = .ok (.getfield 71, 3)) (ho : μ.1.cls = "InchBordersModel") (kk : AW G μ d mc ms Q (pc + 3) L (.ref (a 32) :: st) (mW G.2.2.1 a σ) n k) : AW G μ d mc ms Q pc L (.ref (a 60) :: st) (mW G.2.2.1 a σ) n k := aw_get (ci := 10) (q0 := 0) (f := 32) (CN := RX12) (T := TX12) (N := 60) hd inG12 (by rw [ho]; exact tw_1441) rfl (by decide) rfl rfl kk
theorem tw_1442 : (.fieldLink "InchBordersModel" 74 "InchBordersModel" "ends" "[I" : Cond) ∈ gtbl := gtbl_in (List.mem_of_getElem? (i := 1442) (by decide +kernel)) rfl
theorem mg_ends (hd : decode μ.2.1 pc = .ok (.getfield 74, 3)) (ho : μ.1.cls = "InchBordersModel") (kk : AW G μ d mc ms Q (pc + 3) L (.ref (a 33) :: st) (mW G.2.2.1 a σ) n k) : AW G μ d mc ms Q pc L (.ref (a 60) :: st) (mW G.2.2.1 a σ) n k := aw_get (ci := 10) (q0 := 0) (f := 33) (CN := RX12) (T := TX12) (N := 60) hd inG12 (by rw [ho]; exact tw_1442) rfl (by decide) rfl rfl kk
theorem tw_1443 : (.fieldLink "InchBordersModel" 77 "InchBordersModel" "wayMany" "I" : Cond) ∈ gtbl := gtbl_in (List.mem_of_getElem? (i := 1443) (by decide +kernel)) rfl
theorem mg_wayMany (hd : decode μ.2.1 pc = .ok (.getfield 77, 3)) (ho : μ.1.cls = "InchBordersModel") (kk : AW G μ d mc ms Q (pc + 3) L (.int (σ.1 34) :: st) (mW G.2.2.1 a σ) n k) : AW G μ d mc ms Q pc L (.ref (a 60) :: st) (mW G.2.2.1 a σ) n k := aw_get (ci := 10) (q0 := 0) (f := 34) (CN := RX12) (T := TX12) (N := 60) hd inG12 (by rw [ho]; exact tw_1443) rfl (by decide) rfl rfl kk
theorem mp_wayMany {x : Int32} (hd : decode μ.2.1 pc = .ok (.putfield 77, 3)) (ho : μ.1.cls = "InchBordersModel") (kk : AW G μ d mc ms Q (pc + 3) L st (mW G.2.2.1 a (mI σ 34 x)) n k) : AW G μ d mc ms Q pc L (.int x :: .ref (a 60) :: st) (mW G.2.2.1 a σ) n k := aw_put (ci := 10) (q0 := 0) (f := 34) (CN := RX12) (T := TX12) (N := 60) (ty0 := tyX12) hd inG12 tyX12_ok nmX12 (by rw [ho]; exact tw_1443) rfl (by decide) rfl rfl rfl rfl (Nat.le_of_ble_eq_true rfl) rfl kk
theorem tw_1444 : (.fieldLink "InchBordersModel" 80 "InchBordersModel" "madeMany" "I" : Cond) ∈ gtbl := gtbl_in (List.mem_of_getElem? (i := 1444) (by decide +kernel)) rfl
theorem mg_madeMany (hd : decode μ.2.1 pc = .ok (.getfield 80, 3)) (ho : μ.1.cls = "InchBordersModel") (kk : AW G μ d mc ms Q (pc + 3) L (.int (σ.1 35) :: st) (mW G.2.2.1 a σ) n k) : AW G μ d mc ms Q pc L (.ref (a 60) :: st) (mW G.2.2.1 a σ) n k := aw_get (ci := 10) (q0 := 0) (f := 35) (CN := RX12) (T := TX12) (N := 60) hd inG12 (by rw [ho]; exact tw_1444) rfl (by decide) rfl rfl kk
theorem mp_madeMany {x : Int32} (hd : decode μ.2.1 pc = .ok (.putfield 80, 3)) (ho : μ.1.cls = "InchBordersModel") (kk : AW G μ d mc ms Q (pc + 3) L st (mW G.2.2.1 a (mI σ 35 x)) n k) : AW G μ d mc ms Q pc L (.int x :: .ref (a 60) :: st) (mW G.2.2.1 a σ) n k := aw_put (ci := 10) (q0 := 0) (f := 35) (CN := RX12) (T := TX12) (N := 60) (ty0 := tyX12) hd inG12 tyX12_ok nmX12 (by rw [ho]; exact tw_1444) rfl (by decide) rfl rfl rfl rfl (Nat.le_of_ble_eq_true rfl) rfl kk
theorem tw_1445 : (.fieldLink "InchBordersModel" 389 "InchBordersModel" "likelyLand" "I" : Cond) ∈ gtbl := gtbl_in (List.mem_of_getElem? (i := 1445) (by decide +kernel)) rfl
theorem mg_likelyLand (hd : decode μ.2.1 pc = .ok (.getfield 389, 3)) (ho : μ.1.cls = "InchBordersModel") (kk : AW G μ d mc ms Q (pc + 3) L (.int (σ.1 36) :: st) (mW G.2.2.1 a σ) n k) : AW G μ d mc ms Q pc L (.ref (a 60) :: st) (mW G.2.2.1 a σ) n k := aw_get (ci := 10) (q0 := 0) (f := 36) (CN := RX12) (T := TX12) (N := 60) hd inG12 (by rw [ho]; exact tw_1445) rfl (by decide) rfl rfl kk
theorem mp_likelyLand {x : Int32} (hd : decode μ.2.1 pc = .ok (.putfield 389, 3)) (ho : μ.1.cls = "InchBordersModel") (kk : AW G μ d mc ms Q (pc + 3) L st (mW G.2.2.1 a (mI σ 36 x)) n k) : AW G μ d mc ms Q pc L (.int x :: .ref (a 60) :: st) (mW G.2.2.1 a σ) n k := aw_put (ci := 10) (q0 := 0) (f := 36) (CN := RX12) (T := TX12) (N := 60) (ty0 := tyX12) hd inG12 tyX12_ok nmX12 (by rw [ho]; exact tw_1445) rfl (by decide) rfl rfl rfl rfl (Nat.le_of_ble_eq_true rfl) rfl kk
theorem tw_1446 : (.fieldLink "InchBordersModel" 383 "InchBordersModel" "sparedSet" "I" : Cond) ∈ gtbl := gtbl_in (List.mem_of_getElem? (i := 1446) (by decide +kernel)) rfl
theorem mg_sparedSet (hd : decode μ.2.1 pc = .ok (.getfield 383, 3)) (ho : μ.1.cls = "InchBordersModel") (kk : AW G μ d mc ms Q (pc + 3) L (.int (σ.1 37) :: st) (mW G.2.2.1 a σ) n k) : AW G μ d mc ms Q pc L (.ref (a 60) :: st) (mW G.2.2.1 a σ) n k := aw_get (ci := 10) (q0 := 0) (f := 37) (CN := RX12) (T := TX12) (N := 60) hd inG12 (by rw [ho]; exact tw_1446) rfl (by decide) rfl rfl kk
theorem mp_sparedSet {x : Int32} (hd : decode μ.2.1 pc = .ok (.putfield 383, 3)) (ho : μ.1.cls = "InchBordersModel") (kk : AW G μ d mc ms Q (pc + 3) L st (mW G.2.2.1 a (mI σ 37 x)) n k) : AW G μ d mc ms Q pc L (.int x :: .ref (a 60) :: st) (mW G.2.2.1 a σ) n k := aw_put (ci := 10) (q0 := 0) (f := 37) (CN := RX12) (T := TX12) (N := 60) (ty0 := tyX12) hd inG12 tyX12_ok nmX12 (by rw [ho]; exact tw_1446) rfl (by decide) rfl rfl rfl rfl (Nat.le_of_ble_eq_true rfl) rfl kk
theorem tw_1447 : (.fieldLink "InchBordersModel" 379 "InchBordersModel" "hasSpared" "Z" : Cond) ∈ gtbl := gtbl_in (List.mem_of_getElem? (i := 1447) (by decide +kernel)) rfl
theorem mg_hasSpared (hd : decode μ.2.1 pc = .ok (.getfield 379, 3)) (ho : μ.1.cls = "InchBordersModel") (kk : AW G μ d mc ms Q (pc + 3) L (.int (σ.1 38) :: st) (mW G.2.2.1 a σ) n k) : AW G μ d mc ms Q pc L (.ref (a 60) :: st) (mW G.2.2.1 a σ) n k := aw_get (ci := 10) (q0 := 0) (f := 38) (CN := RX12) (T := TX12) (N := 60) hd inG12 (by rw [ho]; exact tw_1447) rfl (by decide) rfl rfl kk
theorem mp_hasSpared {x : Int32} (hd : decode μ.2.1 pc = .ok (.putfield 379, 3)) (ho : μ.1.cls = "InchBordersModel") (hz : narrow .boolean (.int x) = .int x) (hf : fits .boolean (.int x) = true) (kk : AW G μ d mc ms Q (pc + 3) L st (mW G.2.2.1 a (mI σ 38 x)) n k) : AW G μ d mc ms Q pc L (.int x :: .ref (a 60) :: st) (mW G.2.2.1 a σ) n k := aw_put (ci := 10) (q0 := 0) (f := 38) (CN := RX12) (T := TX12) (N := 60) (ty0 := tyX12) hd inG12 tyX12_ok nmX12 (by rw [ho]; exact tw_1447) rfl (by decide) rfl rfl hz hf (Nat.le_of_ble_eq_true rfl) rfl kk
theorem tw_1448 : (.fieldLink "InchBordersModel" 83 "InchBordersModel" "order" "[I" : Cond) ∈ gtbl := gtbl_in (List.mem_of_getElem? (i := 1448) (by decide +kernel)) rfl
theorem mg_order (hd : decode μ.2.1 pc = .ok (.getfield 83, 3)) (ho : μ.1.cls = "InchBordersModel") (kk : AW G μ d mc ms Q (pc + 3) L (.ref (a 39) :: st) (mW G.2.2.1 a σ) n k) : AW G μ d mc ms Q pc L (.ref (a 60) :: st) (mW G.2.2.1 a σ) n k := aw_get (ci := 10) (q0 := 0) (f := 39) (CN := RX12) (T := TX12) (N := 60) hd inG12 (by rw [ho]; exact tw_1448) rfl (by decide) rfl rfl kk
theorem tw_1449 : (.fieldLink "InchBordersModel" 86 "InchBordersModel" "caravanRow" "[I" : Cond) ∈ gtbl := gtbl_in (List.mem_of_getElem? (i := 1449) (by decide +kernel)) rfl
theorem mg_caravanRow (hd : decode μ.2.1 pc = .ok (.getfield 86, 3)) (ho : μ.1.cls = "InchBordersModel") (kk : AW G μ d mc ms Q (pc + 3) L (.ref (a 40) :: st) (mW G.2.2.1 a σ) n k) : AW G μ d mc ms Q pc L (.ref (a 60) :: st) (mW G.2.2.1 a σ) n k := aw_get (ci := 10) (q0 := 0) (f := 40) (CN := RX12) (T := TX12) (N := 60) hd inG12 (by rw [ho]; exact tw_1449) rfl (by decide) rfl rfl kk
theorem tw_1450 : (.fieldLink "InchBordersModel" 89 "InchBordersModel" "caravanMany" "I" : Cond) ∈ gtbl := gtbl_in (List.mem_of_getElem? (i := 1450) (by decide +kernel)) rfl
theorem mg_caravanMany (hd : decode μ.2.1 pc = .ok (.getfield 89, 3)) (ho : μ.1.cls = "InchBordersModel") (kk : AW G μ d mc ms Q (pc + 3) L (.int (σ.1 41) :: st) (mW G.2.2.1 a σ) n k) : AW G μ d mc ms Q pc L (.ref (a 60) :: st) (mW G.2.2.1 a σ) n k := aw_get (ci := 10) (q0 := 0) (f := 41) (CN := RX12) (T := TX12) (N := 60) hd inG12 (by rw [ho]; exact tw_1450) rfl (by decide) rfl rfl kk
theorem mp_caravanMany {x : Int32} (hd : decode μ.2.1 pc = .ok (.putfield 89, 3)) (ho : μ.1.cls = "InchBordersModel") (kk : AW G μ d mc ms Q (pc + 3) L st (mW G.2.2.1 a (mI σ 41 x)) n k) : AW G μ d mc ms Q pc L (.int x :: .ref (a 60) :: st) (mW G.2.2.1 a σ) n k := aw_put (ci := 10) (q0 := 0) (f := 41) (CN := RX12) (T := TX12) (N := 60) (ty0 := tyX12) hd inG12 tyX12_ok nmX12 (by rw [ho]; exact tw_1450) rfl (by decide) rfl rfl rfl rfl (Nat.le_of_ble_eq_true rfl) rfl kk
theorem tw_1451 : (.fieldLink "InchBordersModel" 407 "InchBordersModel" "partSet" "I" : Cond) ∈ gtbl := gtbl_in (List.mem_of_getElem? (i := 1451) (by decide +kernel)) rfl
theorem mg_partSet (hd : decode μ.2.1 pc = .ok (.getfield 407, 3)) (ho : μ.1.cls = "InchBordersModel") (kk : AW G μ d mc ms Q (pc + 3) L (.int (σ.1 42) :: st) (mW G.2.2.1 a σ) n k) : AW G μ d mc ms Q pc L (.ref (a 60) :: st) (mW G.2.2.1 a σ) n k := aw_get (ci := 10) (q0 := 0) (f := 42) (CN := RX12) (T := TX12) (N := 60) hd inG12 (by rw [ho]; exact tw_1451) rfl (by decide) rfl rfl kk
theorem mp_partSet {x : Int32} (hd : decode μ.2.1 pc = .ok (.putfield 407, 3)) (ho : μ.1.cls = "InchBordersModel") (kk : AW G μ d mc ms Q (pc + 3) L st (mW G.2.2.1 a (mI σ 42 x)) n k) : AW G μ d mc ms Q pc L (.int x :: .ref (a 60) :: st) (mW G.2.2.1 a σ) n k := aw_put (ci := 10) (q0 := 0) (f := 42) (CN := RX12) (T := TX12) (N := 60) (ty0 := tyX12) hd inG12 tyX12_ok nmX12 (by rw [ho]; exact tw_1451) rfl (by decide) rfl rfl rfl rfl (Nat.le_of_ble_eq_true rfl) rfl kk
theorem tw_1452 : (.fieldLink "InchBordersModel" 404 "InchBordersModel" "hasPart" "Z" : Cond) ∈ gtbl := gtbl_in (List.mem_of_getElem? (i := 1452) (by decide +kernel)) rfl
theorem mg_hasPart (hd : decode μ.2.1 pc = .ok (.getfield 404, 3)) (ho : μ.1.cls = "InchBordersModel") (kk : AW G μ d mc ms Q (pc + 3) L (.int (σ.1 43) :: st) (mW G.2.2.1 a σ) n k) : AW G μ d mc ms Q pc L (.ref (a 60) :: st) (mW G.2.2.1 a σ) n k := aw_get (ci := 10) (q0 := 0) (f := 43) (CN := RX12) (T := TX12) (N := 60) hd inG12 (by rw [ho]; exact tw_1452) rfl (by decide) rfl rfl kk
theorem mp_hasPart {x : Int32} (hd : decode μ.2.1 pc = .ok (.putfield 404, 3)) (ho : μ.1.cls = "InchBordersModel") (hz : narrow .boolean (.int x) = .int x) (hf : fits .boolean (.int x) = true) (kk : AW G μ d mc ms Q (pc + 3) L st (mW G.2.2.1 a (mI σ 43 x)) n k) : AW G μ d mc ms Q pc L (.int x :: .ref (a 60) :: st) (mW G.2.2.1 a σ) n k := aw_put (ci := 10) (q0 := 0) (f := 43) (CN := RX12) (T := TX12) (N := 60) (ty0 := tyX12) hd inG12 tyX12_ok nmX12 (by rw [ho]; exact tw_1452) rfl (by decide) rfl rfl hz hf (Nat.le_of_ble_eq_true rfl) rfl kk
theorem tw_1453 : (.fieldLink "InchBordersModel" 92 "InchBordersModel" "text" "[B" : Cond) ∈ gtbl := gtbl_in (List.mem_of_getElem? (i := 1453) (by decide +kernel)) rfl
theorem mg_text (hd : decode μ.2.1 pc = .ok (.getfield 92, 3)) (ho : μ.1.cls = "InchBordersModel") (kk : AW G μ d mc ms Q (pc + 3) L (.ref (a 44) :: st) (mW G.2.2.1 a σ) n k) : AW G μ d mc ms Q pc L (.ref (a 60) :: st) (mW G.2.2.1 a σ) n k := aw_get (ci := 10) (q0 := 0) (f := 44) (CN := RX12) (T := TX12) (N := 60) hd inG12 (by rw [ho]; exact tw_1453) rfl (by decide) rfl rfl kk
theorem tw_1454 : (.fieldLink "InchBordersModel" 413 "InchBordersModel" "textMany" "I" : Cond) ∈ gtbl := gtbl_in (List.mem_of_getElem? (i := 1454) (by decide +kernel)) rfl
theorem mg_textMany (hd : decode μ.2.1 pc = .ok (.getfield 413, 3)) (ho : μ.1.cls = "InchBordersModel") (kk : AW G μ d mc ms Q (pc + 3) L (.int (σ.1 45) :: st) (mW G.2.2.1 a σ) n k) : AW G μ d mc ms Q pc L (.ref (a 60) :: st) (mW G.2.2.1 a σ) n k := aw_get (ci := 10) (q0 := 0) (f := 45) (CN := RX12) (T := TX12) (N := 60) hd inG12 (by rw [ho]; exact tw_1454) rfl (by decide) rfl rfl kk
theorem mp_textMany {x : Int32} (hd : decode μ.2.1 pc = .ok (.putfield 413, 3)) (ho : μ.1.cls = "InchBordersModel") (kk : AW G μ d mc ms Q (pc + 3) L st (mW G.2.2.1 a (mI σ 45 x)) n k) : AW G μ d mc ms Q pc L (.int x :: .ref (a 60) :: st) (mW G.2.2.1 a σ) n k := aw_put (ci := 10) (q0 := 0) (f := 45) (CN := RX12) (T := TX12) (N := 60) (ty0 := tyX12) hd inG12 tyX12_ok nmX12 (by rw [ho]; exact tw_1454) rfl (by decide) rfl rfl rfl rfl (Nat.le_of_ble_eq_true rfl) rfl kk
theorem tw_1455 : (.fieldLink "InchBordersModel" 428 "InchBordersModel" "seed" "I" : Cond) ∈ gtbl := gtbl_in (List.mem_of_getElem? (i := 1455) (by decide +kernel)) rfl
theorem mg_seed (hd : decode μ.2.1 pc = .ok (.getfield 428, 3)) (ho : μ.1.cls = "InchBordersModel") (kk : AW G μ d mc ms Q (pc + 3) L (.int (σ.1 46) :: st) (mW G.2.2.1 a σ) n k) : AW G μ d mc ms Q pc L (.ref (a 60) :: st) (mW G.2.2.1 a σ) n k := aw_get (ci := 10) (q0 := 0) (f := 46) (CN := RX12) (T := TX12) (N := 60) hd inG12 (by rw [ho]; exact tw_1455) rfl (by decide) rfl rfl kk
theorem mp_seed {x : Int32} (hd : decode μ.2.1 pc = .ok (.putfield 428, 3)) (ho : μ.1.cls = "InchBordersModel") (kk : AW G μ d mc ms Q (pc + 3) L st (mW G.2.2.1 a (mI σ 46 x)) n k) : AW G μ d mc ms Q pc L (.int x :: .ref (a 60) :: st) (mW G.2.2.1 a σ) n k := aw_put (ci := 10) (q0 := 0) (f := 46) (CN := RX12) (T := TX12) (N := 60) (ty0 := tyX12) hd inG12 tyX12_ok nmX12 (by rw [ho]; exact tw_1455) rfl (by decide) rfl rfl rfl rfl (Nat.le_of_ble_eq_true rfl) rfl kk
theorem tw_1456 : (.fieldLink "InchBordersModel" 438 "InchBordersModel" "toldMany" "I" : Cond) ∈ gtbl := gtbl_in (List.mem_of_getElem? (i := 1456) (by decide +kernel)) rfl
theorem mg_toldMany (hd : decode μ.2.1 pc = .ok (.getfield 438, 3)) (ho : μ.1.cls = "InchBordersModel") (kk : AW G μ d mc ms Q (pc + 3) L (.int (σ.1 47) :: st) (mW G.2.2.1 a σ) n k) : AW G μ d mc ms Q pc L (.ref (a 60) :: st) (mW G.2.2.1 a σ) n k := aw_get (ci := 10) (q0 := 0) (f := 47) (CN := RX12) (T := TX12) (N := 60) hd inG12 (by rw [ho]; exact tw_1456) rfl (by decide) rfl rfl kk
theorem mp_toldMany {x : Int32} (hd : decode μ.2.1 pc = .ok (.putfield 438, 3)) (ho : μ.1.cls = "InchBordersModel") (kk : AW G μ d mc ms Q (pc + 3) L st (mW G.2.2.1 a (mI σ 47 x)) n k) : AW G μ d mc ms Q pc L (.int x :: .ref (a 60) :: st) (mW G.2.2.1 a σ) n k := aw_put (ci := 10) (q0 := 0) (f := 47) (CN := RX12) (T := TX12) (N := 60) (ty0 := tyX12) hd inG12 tyX12_ok nmX12 (by rw [ho]; exact tw_1456) rfl (by decide) rfl rfl rfl rfl (Nat.le_of_ble_eq_true rfl) rfl kk
theorem tw_1457 : (.fieldLink "InchBordersModel" 95 "InchBordersModel" "toldAt" "[I" : Cond) ∈ gtbl := gtbl_in (List.mem_of_getElem? (i := 1457) (by decide +kernel)) rfl
theorem mg_toldAt (hd : decode μ.2.1 pc = .ok (.getfield 95, 3)) (ho : μ.1.cls = "InchBordersModel") (kk : AW G μ d mc ms Q (pc + 3) L (.ref (a 48) :: st) (mW G.2.2.1 a σ) n k) : AW G μ d mc ms Q pc L (.ref (a 60) :: st) (mW G.2.2.1 a σ) n k := aw_get (ci := 10) (q0 := 0) (f := 48) (CN := RX12) (T := TX12) (N := 60) hd inG12 (by rw [ho]; exact tw_1457) rfl (by decide) rfl rfl kk
theorem tw_1458 : (.fieldLink "InchBordersModel" 447 "InchBordersModel" "hasTold" "Z" : Cond) ∈ gtbl := gtbl_in (List.mem_of_getElem? (i := 1458) (by decide +kernel)) rfl
theorem mg_hasTold (hd : decode μ.2.1 pc = .ok (.getfield 447, 3)) (ho : μ.1.cls = "InchBordersModel") (kk : AW G μ d mc ms Q (pc + 3) L (.int (σ.1 49) :: st) (mW G.2.2.1 a σ) n k) : AW G μ d mc ms Q pc L (.ref (a 60) :: st) (mW G.2.2.1 a σ) n k := aw_get (ci := 10) (q0 := 0) (f := 49) (CN := RX12) (T := TX12) (N := 60) hd inG12 (by rw [ho]; exact tw_1458) rfl (by decide) rfl rfl kk
theorem mp_hasTold {x : Int32} (hd : decode μ.2.1 pc = .ok (.putfield 447, 3)) (ho : μ.1.cls = "InchBordersModel") (hz : narrow .boolean (.int x) = .int x) (hf : fits .boolean (.int x) = true) (kk : AW G μ d mc ms Q (pc + 3) L st (mW G.2.2.1 a (mI σ 49 x)) n k) : AW G μ d mc ms Q pc L (.int x :: .ref (a 60) :: st) (mW G.2.2.1 a σ) n k := aw_put (ci := 10) (q0 := 0) (f := 49) (CN := RX12) (T := TX12) (N := 60) (ty0 := tyX12) hd inG12 tyX12_ok nmX12 (by rw [ho]; exact tw_1458) rfl (by decide) rfl rfl hz hf (Nat.le_of_ble_eq_true rfl) rfl kk
theorem tw_1459 : (.fieldLink "InchBordersModel" 98 "InchBordersModel" "stack" "[I" : Cond) ∈ gtbl := gtbl_in (List.mem_of_getElem? (i := 1459) (by decide +kernel)) rfl
theorem mg_stack (hd : decode μ.2.1 pc = .ok (.getfield 98, 3)) (ho : μ.1.cls = "InchBordersModel") (kk : AW G μ d mc ms Q (pc + 3) L (.ref (a 50) :: st) (mW G.2.2.1 a σ) n k) : AW G μ d mc ms Q pc L (.ref (a 60) :: st) (mW G.2.2.1 a σ) n k := aw_get (ci := 10) (q0 := 0) (f := 50) (CN := RX12) (T := TX12) (N := 60) hd inG12 (by rw [ho]; exact tw_1459) rfl (by decide) rfl rfl kk
theorem tw_1460 : (.fieldLink "InchBordersModel" 450 "InchBordersModel" "codes" "I" : Cond) ∈ gtbl := gtbl_in (List.mem_of_getElem? (i := 1460) (by decide +kernel)) rfl
theorem mg_codes (hd : decode μ.2.1 pc = .ok (.getfield 450, 3)) (ho : μ.1.cls = "InchBordersModel") (kk : AW G μ d mc ms Q (pc + 3) L (.int (σ.1 51) :: st) (mW G.2.2.1 a σ) n k) : AW G μ d mc ms Q pc L (.ref (a 60) :: st) (mW G.2.2.1 a σ) n k := aw_get (ci := 10) (q0 := 0) (f := 51) (CN := RX12) (T := TX12) (N := 60) hd inG12 (by rw [ho]; exact tw_1460) rfl (by decide) rfl rfl kk
theorem mp_codes {x : Int32} (hd : decode μ.2.1 pc = .ok (.putfield 450, 3)) (ho : μ.1.cls = "InchBordersModel") (kk : AW G μ d mc ms Q (pc + 3) L st (mW G.2.2.1 a (mI σ 51 x)) n k) : AW G μ d mc ms Q pc L (.int x :: .ref (a 60) :: st) (mW G.2.2.1 a σ) n k := aw_put (ci := 10) (q0 := 0) (f := 51) (CN := RX12) (T := TX12) (N := 60) (ty0 := tyX12) hd inG12 tyX12_ok nmX12 (by rw [ho]; exact tw_1460) rfl (by decide) rfl rfl rfl rfl (Nat.le_of_ble_eq_true rfl) rfl kk
theorem tw_1461 : (.fieldLink "InchBordersModel" 465 "InchBordersModel" "ones" "I" : Cond) ∈ gtbl := gtbl_in (List.mem_of_getElem? (i := 1461) (by decide +kernel)) rfl
theorem mg_ones (hd : decode μ.2.1 pc = .ok (.getfield 465, 3)) (ho : μ.1.cls = "InchBordersModel") (kk : AW G μ d mc ms Q (pc + 3) L (.int (σ.1 52) :: st) (mW G.2.2.1 a σ) n k) : AW G μ d mc ms Q pc L (.ref (a 60) :: st) (mW G.2.2.1 a σ) n k := aw_get (ci := 10) (q0 := 0) (f := 52) (CN := RX12) (T := TX12) (N := 60) hd inG12 (by rw [ho]; exact tw_1461) rfl (by decide) rfl rfl kk
theorem mp_ones {x : Int32} (hd : decode μ.2.1 pc = .ok (.putfield 465, 3)) (ho : μ.1.cls = "InchBordersModel") (kk : AW G μ d mc ms Q (pc + 3) L st (mW G.2.2.1 a (mI σ 52 x)) n k) : AW G μ d mc ms Q pc L (.int x :: .ref (a 60) :: st) (mW G.2.2.1 a σ) n k := aw_put (ci := 10) (q0 := 0) (f := 52) (CN := RX12) (T := TX12) (N := 60) (ty0 := tyX12) hd inG12 tyX12_ok nmX12 (by rw [ho]; exact tw_1461) rfl (by decide) rfl rfl rfl rfl (Nat.le_of_ble_eq_true rfl) rfl kk
theorem tw_1462 : (.fieldLink "InchBordersModel" 453 "InchBordersModel" "top" "I" : Cond) ∈ gtbl := gtbl_in (List.mem_of_getElem? (i := 1462) (by decide +kernel)) rfl
theorem mg_top (hd : decode μ.2.1 pc = .ok (.getfield 453, 3)) (ho : μ.1.cls = "InchBordersModel") (kk : AW G μ d mc ms Q (pc + 3) L (.int (σ.1 53) :: st) (mW G.2.2.1 a σ) n k) : AW G μ d mc ms Q pc L (.ref (a 60) :: st) (mW G.2.2.1 a σ) n k := aw_get (ci := 10) (q0 := 0) (f := 53) (CN := RX12) (T := TX12) (N := 60) hd inG12 (by rw [ho]; exact tw_1462) rfl (by decide) rfl rfl kk
theorem mp_top {x : Int32} (hd : decode μ.2.1 pc = .ok (.putfield 453, 3)) (ho : μ.1.cls = "InchBordersModel") (kk : AW G μ d mc ms Q (pc + 3) L st (mW G.2.2.1 a (mI σ 53 x)) n k) : AW G μ d mc ms Q pc L (.int x :: .ref (a 60) :: st) (mW G.2.2.1 a σ) n k := aw_put (ci := 10) (q0 := 0) (f := 53) (CN := RX12) (T := TX12) (N := 60) (ty0 := tyX12) hd inG12 tyX12_ok nmX12 (by rw [ho]; exact tw_1462) rfl (by decide) rfl rfl rfl rfl (Nat.le_of_ble_eq_true rfl) rfl kk
theorem tw_1463 : (.fieldLink "InchBordersModel" 459 "InchBordersModel" "deep" "I" : Cond) ∈ gtbl := gtbl_in (List.mem_of_getElem? (i := 1463) (by decide +kernel)) rfl
theorem mg_deep (hd : decode μ.2.1 pc = .ok (.getfield 459, 3)) (ho : μ.1.cls = "InchBordersModel") (kk : AW G μ d mc ms Q (pc + 3) L (.int (σ.1 54) :: st) (mW G.2.2.1 a σ) n k) : AW G μ d mc ms Q pc L (.ref (a 60) :: st) (mW G.2.2.1 a σ) n k := aw_get (ci := 10) (q0 := 0) (f := 54) (CN := RX12) (T := TX12) (N := 60) hd inG12 (by rw [ho]; exact tw_1463) rfl (by decide) rfl rfl kk
theorem mp_deep {x : Int32} (hd : decode μ.2.1 pc = .ok (.putfield 459, 3)) (ho : μ.1.cls = "InchBordersModel") (kk : AW G μ d mc ms Q (pc + 3) L st (mW G.2.2.1 a (mI σ 54 x)) n k) : AW G μ d mc ms Q pc L (.int x :: .ref (a 60) :: st) (mW G.2.2.1 a σ) n k := aw_put (ci := 10) (q0 := 0) (f := 54) (CN := RX12) (T := TX12) (N := 60) (ty0 := tyX12) hd inG12 tyX12_ok nmX12 (by rw [ho]; exact tw_1463) rfl (by decide) rfl rfl rfl rfl (Nat.le_of_ble_eq_true rfl) rfl kk
theorem tw_1464 : (.fieldLink "InchBordersModel" 468 "InchBordersModel" "isWhole" "Z" : Cond) ∈ gtbl := gtbl_in (List.mem_of_getElem? (i := 1464) (by decide +kernel)) rfl
theorem mg_isWhole (hd : decode μ.2.1 pc = .ok (.getfield 468, 3)) (ho : μ.1.cls = "InchBordersModel") (kk : AW G μ d mc ms Q (pc + 3) L (.int (σ.1 55) :: st) (mW G.2.2.1 a σ) n k) : AW G μ d mc ms Q pc L (.ref (a 60) :: st) (mW G.2.2.1 a σ) n k := aw_get (ci := 10) (q0 := 0) (f := 55) (CN := RX12) (T := TX12) (N := 60) hd inG12 (by rw [ho]; exact tw_1464) rfl (by decide) rfl rfl kk
theorem mp_isWhole {x : Int32} (hd : decode μ.2.1 pc = .ok (.putfield 468, 3)) (ho : μ.1.cls = "InchBordersModel") (hz : narrow .boolean (.int x) = .int x) (hf : fits .boolean (.int x) = true) (kk : AW G μ d mc ms Q (pc + 3) L st (mW G.2.2.1 a (mI σ 55 x)) n k) : AW G μ d mc ms Q pc L (.int x :: .ref (a 60) :: st) (mW G.2.2.1 a σ) n k := aw_put (ci := 10) (q0 := 0) (f := 55) (CN := RX12) (T := TX12) (N := 60) (ty0 := tyX12) hd inG12 tyX12_ok nmX12 (by rw [ho]; exact tw_1464) rfl (by decide) rfl rfl hz hf (Nat.le_of_ble_eq_true rfl) rfl kk
theorem tw_1465 : (.fieldLink "InchBordersModel" 101 "InchBordersModel" "truths" "[Z" : Cond) ∈ gtbl := gtbl_in (List.mem_of_getElem? (i := 1465) (by decide +kernel)) rfl
theorem mg_truths (hd : decode μ.2.1 pc = .ok (.getfield 101, 3)) (ho : μ.1.cls = "InchBordersModel") (kk : AW G μ d mc ms Q (pc + 3) L (.ref (a 56) :: st) (mW G.2.2.1 a σ) n k) : AW G μ d mc ms Q pc L (.ref (a 60) :: st) (mW G.2.2.1 a σ) n k := aw_get (ci := 10) (q0 := 0) (f := 56) (CN := RX12) (T := TX12) (N := 60) hd inG12 (by rw [ho]; exact tw_1465) rfl (by decide) rfl rfl kk
theorem tw_1466 : (.fieldLink "InchBordersModel" 105 "InchBordersModel" "imaged" "[I" : Cond) ∈ gtbl := gtbl_in (List.mem_of_getElem? (i := 1466) (by decide +kernel)) rfl
theorem mg_imaged (hd : decode μ.2.1 pc = .ok (.getfield 105, 3)) (ho : μ.1.cls = "InchBordersModel") (kk : AW G μ d mc ms Q (pc + 3) L (.ref (a 57) :: st) (mW G.2.2.1 a σ) n k) : AW G μ d mc ms Q pc L (.ref (a 60) :: st) (mW G.2.2.1 a σ) n k := aw_get (ci := 10) (q0 := 0) (f := 57) (CN := RX12) (T := TX12) (N := 60) hd inG12 (by rw [ho]; exact tw_1466) rfl (by decide) rfl rfl kk
theorem tw_1467 : (.fieldLink "InchBordersModel" 108 "InchBordersModel" "namesKept" "[J" : Cond) ∈ gtbl := gtbl_in (List.mem_of_getElem? (i := 1467) (by decide +kernel)) rfl
theorem mg_namesKept (hd : decode μ.2.1 pc = .ok (.getfield 108, 3)) (ho : μ.1.cls = "InchBordersModel") (kk : AW G μ d mc ms Q (pc + 3) L (.ref (a 58) :: st) (mW G.2.2.1 a σ) n k) : AW G μ d mc ms Q pc L (.ref (a 60) :: st) (mW G.2.2.1 a σ) n k := aw_get (ci := 10) (q0 := 0) (f := 58) (CN := RX12) (T := TX12) (N := 60) hd inG12 (by rw [ho]; exact tw_1467) rfl (by decide) rfl rfl kk
theorem tw_1468 : (.fieldLink "InchBordersModel" 111 "InchBordersModel" "areKept" "[Z" : Cond) ∈ gtbl := gtbl_in (List.mem_of_getElem? (i := 1468) (by decide +kernel)) rfl
theorem mg_areKept (hd : decode μ.2.1 pc = .ok (.getfield 111, 3)) (ho : μ.1.cls = "InchBordersModel") (kk : AW G μ d mc ms Q (pc + 3) L (.ref (a 59) :: st) (mW G.2.2.1 a σ) n k) : AW G μ d mc ms Q pc L (.ref (a 60) :: st) (mW G.2.2.1 a σ) n k := aw_get (ci := 10) (q0 := 0) (f := 59) (CN := RX12) (T := TX12) (N := 60) hd inG12 (by rw [ho]; exact tw_1468) rfl (by decide) rfl rfl kk
theorem mn_set (g : Nat → ClassId) (a : Nat → Nat) (σ : mS) (k i v : Nat) : mN σ k i v = (σ.1, upN σ.2.1 k (upN (σ.2.1 k) i v), σ.2.2) := rfl
theorem ml_tape {j : Nat} (hd : decode μ.2.1 pc = .ok (.baload, 1)) (hj : j < 940) (kk : AW G μ d mc ms Q (pc + 1) L (.int (σ.2.2.1 1 j) :: st) (mW G.2.2.1 a σ) n k) : AW G μ d mc ms Q pc L (.int (nI j) :: .ref (a 1) :: st) (mW G.2.2.1 a σ) n k := aw_bald (q0 := 1) hd rfl (vp_in_nI hj (by decide)) (by rw [nI_clamp (Nat.lt_trans hj (by decide))]; exact kk)
theorem ms_tape {j : Nat} {v : Int32} (hd : decode μ.2.1 pc = .ok (.bastore, 1)) (hj : j < 940) (kk : AW G μ d mc ms Q (pc + 1) L st (mW G.2.2.1 a (mA σ 1 j (vp_nar .byte v))) n k) : AW G μ d mc ms Q pc L (.int v :: .int (nI j) :: .ref (a 1) :: st) (mW G.2.2.1 a σ) n k := aw_bast (q0 := 1) hd rfl (vp_in_nI hj (by decide)) (by rw [nI_clamp (Nat.lt_trans hj (by decide))]; rfl) kk
theorem ml_s {j : Nat} (hd : decode μ.2.1 pc = .ok (.iaload, 1)) (hj : j < 319) (kk : AW G μ d mc ms Q (pc + 1) L (.int (nI (σ.2.1 6 j)) :: st) (mW G.2.2.1 a σ) n k) : AW G μ d mc ms Q pc L (.int (nI j) :: .ref (a 6) :: st) (mW G.2.2.1 a σ) n k := aw_iald (q0 := 2) hd rfl (vp_in_nI hj (by decide)) (by rw [nI_clamp (Nat.lt_trans hj (by decide))]; exact kk)
theorem ms_s {j v : Nat} (hd : decode μ.2.1 pc = .ok (.iastore, 1)) (hj : j < 319) (kk : AW G μ d mc ms Q (pc + 1) L st (mW G.2.2.1 a (mN σ 6 j v)) n k) : AW G μ d mc ms Q pc L (.int (nI v) :: .int (nI j) :: .ref (a 6) :: st) (mW G.2.2.1 a σ) n k := aw_iast (q0 := 2) hd rfl (vp_in_nI hj (by decide)) (by rw [nI_clamp (Nat.lt_trans hj (by decide)), upd_nI]; rfl) kk
theorem ml_h {j : Nat} (hd : decode μ.2.1 pc = .ok (.iaload, 1)) (hj : j < 91) (kk : AW G μ d mc ms Q (pc + 1) L (.int (nI (σ.2.1 7 j)) :: st) (mW G.2.2.1 a σ) n k) : AW G μ d mc ms Q pc L (.int (nI j) :: .ref (a 7) :: st) (mW G.2.2.1 a σ) n k := aw_iald (q0 := 3) hd rfl (vp_in_nI hj (by decide)) (by rw [nI_clamp (Nat.lt_trans hj (by decide))]; exact kk)
theorem ms_h {j v : Nat} (hd : decode μ.2.1 pc = .ok (.iastore, 1)) (hj : j < 91) (kk : AW G μ d mc ms Q (pc + 1) L st (mW G.2.2.1 a (mN σ 7 j v)) n k) : AW G μ d mc ms Q pc L (.int (nI v) :: .int (nI j) :: .ref (a 7) :: st) (mW G.2.2.1 a σ) n k := aw_iast (q0 := 3) hd rfl (vp_in_nI hj (by decide)) (by rw [nI_clamp (Nat.lt_trans hj (by decide)), upd_nI]; rfl) kk
theorem ml_read {j : Nat} (hd : decode μ.2.1 pc = .ok (.iaload, 1)) (hj : j < 160) (kk : AW G μ d mc ms Q (pc + 1) L (.int (nI (σ.2.1 8 j)) :: st) (mW G.2.2.1 a σ) n k) : AW G μ d mc ms Q pc L (.int (nI j) :: .ref (a 8) :: st) (mW G.2.2.1 a σ) n k := aw_iald (q0 := 4) hd rfl (vp_in_nI hj (by decide)) (by rw [nI_clamp (Nat.lt_trans hj (by decide))]; exact kk)
theorem ms_read {j v : Nat} (hd : decode μ.2.1 pc = .ok (.iastore, 1)) (hj : j < 160) (kk : AW G μ d mc ms Q (pc + 1) L st (mW G.2.2.1 a (mN σ 8 j v)) n k) : AW G μ d mc ms Q pc L (.int (nI v) :: .int (nI j) :: .ref (a 8) :: st) (mW G.2.2.1 a σ) n k := aw_iast (q0 := 4) hd rfl (vp_in_nI hj (by decide)) (by rw [nI_clamp (Nat.lt_trans hj (by decide)), upd_nI]; rfl) kk
theorem ml_names {j : Nat} (hd : decode μ.2.1 pc = .ok (.laload, 1)) (hj : j < 26) (kk : AW G μ d mc ms Q (pc + 1) L (.long (σ.2.2.2.2 9 j) :: st) (mW G.2.2.1 a σ) n k) : AW G μ d mc ms Q pc L (.int (nI j) :: .ref (a 9) :: st) (mW G.2.2.1 a σ) n k := aw_lald (q0 := 5) hd rfl (vp_in_nI hj (by decide)) (by rw [nI_clamp (Nat.lt_trans hj (by decide))]; exact kk)
theorem ms_names {j : Nat} {v : Int64} (hd : decode μ.2.1 pc = .ok (.lastore, 1)) (hj : j < 26) (kk : AW G μ d mc ms Q (pc + 1) L st (mW G.2.2.1 a (mL σ 9 j v)) n k) : AW G μ d mc ms Q pc L (.long v :: .int (nI j) :: .ref (a 9) :: st) (mW G.2.2.1 a σ) n k := aw_last (q0 := 5) hd rfl (vp_in_nI hj (by decide)) (by rw [nI_clamp (Nat.lt_trans hj (by decide))]; rfl) kk
theorem ml_reserved {j : Nat} (hd : decode μ.2.1 pc = .ok (.laload, 1)) (hj : j < 24) (kk : AW G μ d mc ms Q (pc + 1) L (.long (σ.2.2.2.2 10 j) :: st) (mW G.2.2.1 a σ) n k) : AW G μ d mc ms Q pc L (.int (nI j) :: .ref (a 10) :: st) (mW G.2.2.1 a σ) n k := aw_lald (q0 := 6) hd rfl (vp_in_nI hj (by decide)) (by rw [nI_clamp (Nat.lt_trans hj (by decide))]; exact kk)
theorem ms_reserved {j : Nat} {v : Int64} (hd : decode μ.2.1 pc = .ok (.lastore, 1)) (hj : j < 24) (kk : AW G μ d mc ms Q (pc + 1) L st (mW G.2.2.1 a (mL σ 10 j v)) n k) : AW G μ d mc ms Q pc L (.long v :: .int (nI j) :: .ref (a 10) :: st) (mW G.2.2.1 a σ) n k := aw_last (q0 := 6) hd rfl (vp_in_nI hj (by decide)) (by rw [nI_clamp (Nat.lt_trans hj (by decide))]; rfl) kk
theorem ml_undone {j : Nat} (hd : decode μ.2.1 pc = .ok (.iaload, 1)) (hj : j < 376) (kk : AW G μ d mc ms Q (pc + 1) L (.int (nI (σ.2.1 21 j)) :: st) (mW G.2.2.1 a σ) n k) : AW G μ d mc ms Q pc L (.int (nI j) :: .ref (a 21) :: st) (mW G.2.2.1 a σ) n k := aw_iald (q0 := 7) hd rfl (vp_in_nI hj (by decide)) (by rw [nI_clamp (Nat.lt_trans hj (by decide))]; exact kk)
theorem ms_undone {j v : Nat} (hd : decode μ.2.1 pc = .ok (.iastore, 1)) (hj : j < 376) (kk : AW G μ d mc ms Q (pc + 1) L st (mW G.2.2.1 a (mN σ 21 j v)) n k) : AW G μ d mc ms Q pc L (.int (nI v) :: .int (nI j) :: .ref (a 21) :: st) (mW G.2.2.1 a σ) n k := aw_iast (q0 := 7) hd rfl (vp_in_nI hj (by decide)) (by rw [nI_clamp (Nat.lt_trans hj (by decide)), upd_nI]; rfl) kk
theorem ml_before {j : Nat} (hd : decode μ.2.1 pc = .ok (.iaload, 1)) (hj : j < 47) (kk : AW G μ d mc ms Q (pc + 1) L (.int (nI (σ.2.1 22 j)) :: st) (mW G.2.2.1 a σ) n k) : AW G μ d mc ms Q pc L (.int (nI j) :: .ref (a 22) :: st) (mW G.2.2.1 a σ) n k := aw_iald (q0 := 8) hd rfl (vp_in_nI hj (by decide)) (by rw [nI_clamp (Nat.lt_trans hj (by decide))]; exact kk)
theorem ms_before {j v : Nat} (hd : decode μ.2.1 pc = .ok (.iastore, 1)) (hj : j < 47) (kk : AW G μ d mc ms Q (pc + 1) L st (mW G.2.2.1 a (mN σ 22 j v)) n k) : AW G μ d mc ms Q pc L (.int (nI v) :: .int (nI j) :: .ref (a 22) :: st) (mW G.2.2.1 a σ) n k := aw_iast (q0 := 8) hd rfl (vp_in_nI hj (by decide)) (by rw [nI_clamp (Nat.lt_trans hj (by decide)), upd_nI]; rfl) kk
theorem ml_where {j : Nat} (hd : decode μ.2.1 pc = .ok (.iaload, 1)) (hj : j < 6) (kk : AW G μ d mc ms Q (pc + 1) L (.int (nI (σ.2.1 24 j)) :: st) (mW G.2.2.1 a σ) n k) : AW G μ d mc ms Q pc L (.int (nI j) :: .ref (a 24) :: st) (mW G.2.2.1 a σ) n k := aw_iald (q0 := 9) hd rfl (vp_in_nI hj (by decide)) (by rw [nI_clamp (Nat.lt_trans hj (by decide))]; exact kk)
theorem ms_where {j v : Nat} (hd : decode μ.2.1 pc = .ok (.iastore, 1)) (hj : j < 6) (kk : AW G μ d mc ms Q (pc + 1) L st (mW G.2.2.1 a (mN σ 24 j v)) n k) : AW G μ d mc ms Q pc L (.int (nI v) :: .int (nI j) :: .ref (a 24) :: st) (mW G.2.2.1 a σ) n k := aw_iast (q0 := 9) hd rfl (vp_in_nI hj (by decide)) (by rw [nI_clamp (Nat.lt_trans hj (by decide)), upd_nI]; rfl) kk
theorem ml_much {j : Nat} (hd : decode μ.2.1 pc = .ok (.iaload, 1)) (hj : j < 6) (kk : AW G μ d mc ms Q (pc + 1) L (.int (nI (σ.2.1 25 j)) :: st) (mW G.2.2.1 a σ) n k) : AW G μ d mc ms Q pc L (.int (nI j) :: .ref (a 25) :: st) (mW G.2.2.1 a σ) n k := aw_iald (q0 := 10) hd rfl (vp_in_nI hj (by decide)) (by rw [nI_clamp (Nat.lt_trans hj (by decide))]; exact kk)
theorem ms_much {j v : Nat} (hd : decode μ.2.1 pc = .ok (.iastore, 1)) (hj : j < 6) (kk : AW G μ d mc ms Q (pc + 1) L st (mW G.2.2.1 a (mN σ 25 j v)) n k) : AW G μ d mc ms Q pc L (.int (nI v) :: .int (nI j) :: .ref (a 25) :: st) (mW G.2.2.1 a σ) n k := aw_iast (q0 := 10) hd rfl (vp_in_nI hj (by decide)) (by rw [nI_clamp (Nat.lt_trans hj (by decide)), upd_nI]; rfl) kk
theorem ml_store {j : Nat} (hd : decode μ.2.1 pc = .ok (.iaload, 1)) (hj : j < 6) (kk : AW G μ d mc ms Q (pc + 1) L (.int (nI (σ.2.1 26 j)) :: st) (mW G.2.2.1 a σ) n k) : AW G μ d mc ms Q pc L (.int (nI j) :: .ref (a 26) :: st) (mW G.2.2.1 a σ) n k := aw_iald (q0 := 11) hd rfl (vp_in_nI hj (by decide)) (by rw [nI_clamp (Nat.lt_trans hj (by decide))]; exact kk)
theorem ms_store {j v : Nat} (hd : decode μ.2.1 pc = .ok (.iastore, 1)) (hj : j < 6) (kk : AW G μ d mc ms Q (pc + 1) L st (mW G.2.2.1 a (mN σ 26 j v)) n k) : AW G μ d mc ms Q pc L (.int (nI v) :: .int (nI j) :: .ref (a 26) :: st) (mW G.2.2.1 a σ) n k := aw_iast (q0 := 11) hd rfl (vp_in_nI hj (by decide)) (by rw [nI_clamp (Nat.lt_trans hj (by decide)), upd_nI]; rfl) kk
theorem ml_step {j : Nat} (hd : decode μ.2.1 pc = .ok (.iaload, 1)) (hj : j < 6) (kk : AW G μ d mc ms Q (pc + 1) L (.int (σ.2.2.1 27 j) :: st) (mW G.2.2.1 a σ) n k) : AW G μ d mc ms Q pc L (.int (nI j) :: .ref (a 27) :: st) (mW G.2.2.1 a σ) n k := aw_iald (q0 := 12) hd rfl (vp_in_nI hj (by decide)) (by rw [nI_clamp (Nat.lt_trans hj (by decide))]; exact kk)
theorem ms_step {j : Nat} {v : Int32} (hd : decode μ.2.1 pc = .ok (.iastore, 1)) (hj : j < 6) (kk : AW G μ d mc ms Q (pc + 1) L st (mW G.2.2.1 a (mA σ 27 j v)) n k) : AW G μ d mc ms Q pc L (.int v :: .int (nI j) :: .ref (a 27) :: st) (mW G.2.2.1 a σ) n k := aw_iast (q0 := 12) hd rfl (vp_in_nI hj (by decide)) (by rw [nI_clamp (Nat.lt_trans hj (by decide))]; rfl) kk
theorem ml_wayRow {j : Nat} (hd : decode μ.2.1 pc = .ok (.iaload, 1)) (hj : j < 5) (kk : AW G μ d mc ms Q (pc + 1) L (.int (nI (σ.2.1 31 j)) :: st) (mW G.2.2.1 a σ) n k) : AW G μ d mc ms Q pc L (.int (nI j) :: .ref (a 31) :: st) (mW G.2.2.1 a σ) n k := aw_iald (q0 := 13) hd rfl (vp_in_nI hj (by decide)) (by rw [nI_clamp (Nat.lt_trans hj (by decide))]; exact kk)
theorem ms_wayRow {j v : Nat} (hd : decode μ.2.1 pc = .ok (.iastore, 1)) (hj : j < 5) (kk : AW G μ d mc ms Q (pc + 1) L st (mW G.2.2.1 a (mN σ 31 j v)) n k) : AW G μ d mc ms Q pc L (.int (nI v) :: .int (nI j) :: .ref (a 31) :: st) (mW G.2.2.1 a σ) n k := aw_iast (q0 := 13) hd rfl (vp_in_nI hj (by decide)) (by rw [nI_clamp (Nat.lt_trans hj (by decide)), upd_nI]; rfl) kk
theorem ml_madeRow {j : Nat} (hd : decode μ.2.1 pc = .ok (.iaload, 1)) (hj : j < 4) (kk : AW G μ d mc ms Q (pc + 1) L (.int (nI (σ.2.1 32 j)) :: st) (mW G.2.2.1 a σ) n k) : AW G μ d mc ms Q pc L (.int (nI j) :: .ref (a 32) :: st) (mW G.2.2.1 a σ) n k := aw_iald (q0 := 14) hd rfl (vp_in_nI hj (by decide)) (by rw [nI_clamp (Nat.lt_trans hj (by decide))]; exact kk)
theorem ms_madeRow {j v : Nat} (hd : decode μ.2.1 pc = .ok (.iastore, 1)) (hj : j < 4) (kk : AW G μ d mc ms Q (pc + 1) L st (mW G.2.2.1 a (mN σ 32 j v)) n k) : AW G μ d mc ms Q pc L (.int (nI v) :: .int (nI j) :: .ref (a 32) :: st) (mW G.2.2.1 a σ) n k := aw_iast (q0 := 14) hd rfl (vp_in_nI hj (by decide)) (by rw [nI_clamp (Nat.lt_trans hj (by decide)), upd_nI]; rfl) kk
theorem ml_ends {j : Nat} (hd : decode μ.2.1 pc = .ok (.iaload, 1)) (hj : j < 7) (kk : AW G μ d mc ms Q (pc + 1) L (.int (nI (σ.2.1 33 j)) :: st) (mW G.2.2.1 a σ) n k) : AW G μ d mc ms Q pc L (.int (nI j) :: .ref (a 33) :: st) (mW G.2.2.1 a σ) n k := aw_iald (q0 := 15) hd rfl (vp_in_nI hj (by decide)) (by rw [nI_clamp (Nat.lt_trans hj (by decide))]; exact kk)
theorem ms_ends {j v : Nat} (hd : decode μ.2.1 pc = .ok (.iastore, 1)) (hj : j < 7) (kk : AW G μ d mc ms Q (pc + 1) L st (mW G.2.2.1 a (mN σ 33 j v)) n k) : AW G μ d mc ms Q pc L (.int (nI v) :: .int (nI j) :: .ref (a 33) :: st) (mW G.2.2.1 a σ) n k := aw_iast (q0 := 15) hd rfl (vp_in_nI hj (by decide)) (by rw [nI_clamp (Nat.lt_trans hj (by decide)), upd_nI]; rfl) kk
theorem ml_order {j : Nat} (hd : decode μ.2.1 pc = .ok (.iaload, 1)) (hj : j < 6) (kk : AW G μ d mc ms Q (pc + 1) L (.int (nI (σ.2.1 39 j)) :: st) (mW G.2.2.1 a σ) n k) : AW G μ d mc ms Q pc L (.int (nI j) :: .ref (a 39) :: st) (mW G.2.2.1 a σ) n k := aw_iald (q0 := 16) hd rfl (vp_in_nI hj (by decide)) (by rw [nI_clamp (Nat.lt_trans hj (by decide))]; exact kk)
theorem ms_order {j v : Nat} (hd : decode μ.2.1 pc = .ok (.iastore, 1)) (hj : j < 6) (kk : AW G μ d mc ms Q (pc + 1) L st (mW G.2.2.1 a (mN σ 39 j v)) n k) : AW G μ d mc ms Q pc L (.int (nI v) :: .int (nI j) :: .ref (a 39) :: st) (mW G.2.2.1 a σ) n k := aw_iast (q0 := 16) hd rfl (vp_in_nI hj (by decide)) (by rw [nI_clamp (Nat.lt_trans hj (by decide)), upd_nI]; rfl) kk
theorem ml_caravanRow {j : Nat} (hd : decode μ.2.1 pc = .ok (.iaload, 1)) (hj : j < 6) (kk : AW G μ d mc ms Q (pc + 1) L (.int (nI (σ.2.1 40 j)) :: st) (mW G.2.2.1 a σ) n k) : AW G μ d mc ms Q pc L (.int (nI j) :: .ref (a 40) :: st) (mW G.2.2.1 a σ) n k := aw_iald (q0 := 17) hd rfl (vp_in_nI hj (by decide)) (by rw [nI_clamp (Nat.lt_trans hj (by decide))]; exact kk)
theorem ms_caravanRow {j v : Nat} (hd : decode μ.2.1 pc = .ok (.iastore, 1)) (hj : j < 6) (kk : AW G μ d mc ms Q (pc + 1) L st (mW G.2.2.1 a (mN σ 40 j v)) n k) : AW G μ d mc ms Q pc L (.int (nI v) :: .int (nI j) :: .ref (a 40) :: st) (mW G.2.2.1 a σ) n k := aw_iast (q0 := 17) hd rfl (vp_in_nI hj (by decide)) (by rw [nI_clamp (Nat.lt_trans hj (by decide)), upd_nI]; rfl) kk
theorem ml_text {j : Nat} (hd : decode μ.2.1 pc = .ok (.baload, 1)) (hj : j < 40) (kk : AW G μ d mc ms Q (pc + 1) L (.int (nI (σ.2.1 44 j)) :: st) (mW G.2.2.1 a σ) n k) : AW G μ d mc ms Q pc L (.int (nI j) :: .ref (a 44) :: st) (mW G.2.2.1 a σ) n k := aw_bald (q0 := 18) hd rfl (vp_in_nI hj (by decide)) (by rw [nI_clamp (Nat.lt_trans hj (by decide))]; exact kk)
theorem ms_text {j v : Nat} (hd : decode μ.2.1 pc = .ok (.bastore, 1)) (hj : j < 40) (hv : vp_nar .byte (nI v) = nI v) (kk : AW G μ d mc ms Q (pc + 1) L st (mW G.2.2.1 a (mN σ 44 j v)) n k) : AW G μ d mc ms Q pc L (.int (nI v) :: .int (nI j) :: .ref (a 44) :: st) (mW G.2.2.1 a σ) n k := aw_bast (q0 := 18) hd rfl (vp_in_nI hj (by decide)) (by rw [nI_clamp (Nat.lt_trans hj (by decide)), hv, upd_nI]; rfl) kk
theorem ml_toldAt {j : Nat} (hd : decode μ.2.1 pc = .ok (.iaload, 1)) (hj : j < 4) (kk : AW G μ d mc ms Q (pc + 1) L (.int (nI (σ.2.1 48 j)) :: st) (mW G.2.2.1 a σ) n k) : AW G μ d mc ms Q pc L (.int (nI j) :: .ref (a 48) :: st) (mW G.2.2.1 a σ) n k := aw_iald (q0 := 19) hd rfl (vp_in_nI hj (by decide)) (by rw [nI_clamp (Nat.lt_trans hj (by decide))]; exact kk)
theorem ms_toldAt {j v : Nat} (hd : decode μ.2.1 pc = .ok (.iastore, 1)) (hj : j < 4) (kk : AW G μ d mc ms Q (pc + 1) L st (mW G.2.2.1 a (mN σ 48 j v)) n k) : AW G μ d mc ms Q pc L (.int (nI v) :: .int (nI j) :: .ref (a 48) :: st) (mW G.2.2.1 a σ) n k := aw_iast (q0 := 19) hd rfl (vp_in_nI hj (by decide)) (by rw [nI_clamp (Nat.lt_trans hj (by decide)), upd_nI]; rfl) kk
theorem ml_stack {j : Nat} (hd : decode μ.2.1 pc = .ok (.iaload, 1)) (hj : j < 45) (kk : AW G μ d mc ms Q (pc + 1) L (.int (nI (σ.2.1 50 j)) :: st) (mW G.2.2.1 a σ) n k) : AW G μ d mc ms Q pc L (.int (nI j) :: .ref (a 50) :: st) (mW G.2.2.1 a σ) n k := aw_iald (q0 := 20) hd rfl (vp_in_nI hj (by decide)) (by rw [nI_clamp (Nat.lt_trans hj (by decide))]; exact kk)
theorem ms_stack {j v : Nat} (hd : decode μ.2.1 pc = .ok (.iastore, 1)) (hj : j < 45) (kk : AW G μ d mc ms Q (pc + 1) L st (mW G.2.2.1 a (mN σ 50 j v)) n k) : AW G μ d mc ms Q pc L (.int (nI v) :: .int (nI j) :: .ref (a 50) :: st) (mW G.2.2.1 a σ) n k := aw_iast (q0 := 20) hd rfl (vp_in_nI hj (by decide)) (by rw [nI_clamp (Nat.lt_trans hj (by decide)), upd_nI]; rfl) kk
theorem ml_truths {j : Nat} (hd : decode μ.2.1 pc = .ok (.baload, 1)) (hj : j < 45) (kk : AW G μ d mc ms Q (pc + 1) L (.int (nI (σ.2.1 56 j)) :: st) (mW G.2.2.1 a σ) n k) : AW G μ d mc ms Q pc L (.int (nI j) :: .ref (a 56) :: st) (mW G.2.2.1 a σ) n k := aw_zald (q0 := 21) hd rfl (vp_in_nI hj (by decide)) (by rw [nI_clamp (Nat.lt_trans hj (by decide))]; exact kk)
theorem ms_truths {j v : Nat} (hd : decode μ.2.1 pc = .ok (.bastore, 1)) (hj : j < 45) (hv : vp_nar .boolean (nI v) = nI v) (kk : AW G μ d mc ms Q (pc + 1) L st (mW G.2.2.1 a (mN σ 56 j v)) n k) : AW G μ d mc ms Q pc L (.int (nI v) :: .int (nI j) :: .ref (a 56) :: st) (mW G.2.2.1 a σ) n k := aw_zast (q0 := 21) hd rfl (vp_in_nI hj (by decide)) (by rw [nI_clamp (Nat.lt_trans hj (by decide)), hv, upd_nI]; rfl) kk
theorem ml_imaged {j : Nat} (hd : decode μ.2.1 pc = .ok (.iaload, 1)) (hj : j < 638) (kk : AW G μ d mc ms Q (pc + 1) L (.int (nI (σ.2.1 57 j)) :: st) (mW G.2.2.1 a σ) n k) : AW G μ d mc ms Q pc L (.int (nI j) :: .ref (a 57) :: st) (mW G.2.2.1 a σ) n k := aw_iald (q0 := 22) hd rfl (vp_in_nI hj (by decide)) (by rw [nI_clamp (Nat.lt_trans hj (by decide))]; exact kk)
theorem ms_imaged {j v : Nat} (hd : decode μ.2.1 pc = .ok (.iastore, 1)) (hj : j < 638) (kk : AW G μ d mc ms Q (pc + 1) L st (mW G.2.2.1 a (mN σ 57 j v)) n k) : AW G μ d mc ms Q pc L (.int (nI v) :: .int (nI j) :: .ref (a 57) :: st) (mW G.2.2.1 a σ) n k := aw_iast (q0 := 22) hd rfl (vp_in_nI hj (by decide)) (by rw [nI_clamp (Nat.lt_trans hj (by decide)), upd_nI]; rfl) kk
theorem ml_namesKept {j : Nat} (hd : decode μ.2.1 pc = .ok (.laload, 1)) (hj : j < 26) (kk : AW G μ d mc ms Q (pc + 1) L (.long (σ.2.2.2.2 58 j) :: st) (mW G.2.2.1 a σ) n k) : AW G μ d mc ms Q pc L (.int (nI j) :: .ref (a 58) :: st) (mW G.2.2.1 a σ) n k := aw_lald (q0 := 23) hd rfl (vp_in_nI hj (by decide)) (by rw [nI_clamp (Nat.lt_trans hj (by decide))]; exact kk)
theorem ms_namesKept {j : Nat} {v : Int64} (hd : decode μ.2.1 pc = .ok (.lastore, 1)) (hj : j < 26) (kk : AW G μ d mc ms Q (pc + 1) L st (mW G.2.2.1 a (mL σ 58 j v)) n k) : AW G μ d mc ms Q pc L (.long v :: .int (nI j) :: .ref (a 58) :: st) (mW G.2.2.1 a σ) n k := aw_last (q0 := 23) hd rfl (vp_in_nI hj (by decide)) (by rw [nI_clamp (Nat.lt_trans hj (by decide))]; rfl) kk
theorem ml_areKept {j : Nat} (hd : decode μ.2.1 pc = .ok (.baload, 1)) (hj : j < 2) (kk : AW G μ d mc ms Q (pc + 1) L (.int (nI (σ.2.1 59 j)) :: st) (mW G.2.2.1 a σ) n k) : AW G μ d mc ms Q pc L (.int (nI j) :: .ref (a 59) :: st) (mW G.2.2.1 a σ) n k := aw_zald (q0 := 24) hd rfl (vp_in_nI hj (by decide)) (by rw [nI_clamp (Nat.lt_trans hj (by decide))]; exact kk)
theorem ms_areKept {j v : Nat} (hd : decode μ.2.1 pc = .ok (.bastore, 1)) (hj : j < 2) (hv : vp_nar .boolean (nI v) = nI v) (kk : AW G μ d mc ms Q (pc + 1) L st (mW G.2.2.1 a (mN σ 59 j v)) n k) : AW G μ d mc ms Q pc L (.int (nI v) :: .int (nI j) :: .ref (a 59) :: st) (mW G.2.2.1 a σ) n k := aw_zast (q0 := 24) hd rfl (vp_in_nI hj (by decide)) (by rw [nI_clamp (Nat.lt_trans hj (by decide)), hv, upd_nI]; rfl) kk
end MROWS
theorem tw_1371 : (.code ⟨"InchBordersModel", "four", "(I)V"⟩ prog_14_method_4_code 3 (none : Option Jvm.ClassFile.FieldType) : Cond) ∈ gtbl := gtbl_in (List.mem_of_getElem? (i := 1371) (by decide +kernel)) rfl
theorem tw_1367 : (.methodLink "InchBordersModel" 10 ⟨"InchBordersModel", "four", "(I)V"⟩ : Cond) ∈ gtbl := gtbl_in (List.mem_of_getElem? (i := 1367) (by decide +kernel)) rfl
theorem tw_119 : (.initialized "InchBordersModel" : Cond) ∈ gtbl := gtbl_in (List.mem_of_getElem? (i := 119) (by decide +kernel)) rfl
theorem tw_1369 : (.instanceMethod ⟨"InchBordersModel", "four", "(I)V"⟩ : Cond) ∈ gtbl := gtbl_in (List.mem_of_getElem? (i := 1369) (by decide +kernel)) rfl
theorem tw_40 : (.selects "InchBordersModel" ⟨"InchBordersModel", "four", "(I)V"⟩ ⟨"InchBordersModel", "four", "(I)V"⟩ : Cond) ∈ gtbl := gtbl_in (List.mem_of_getElem? (i := 40) (by decide +kernel)) rfl
theorem ok_X12_10 : xVok "InchBordersModel" MX12_four 10 1 := ⟨tw_1371, tw_1367, tw_1369, tw_40, tw_119, by decide +kernel, by decide⟩
theorem tw_1408 : (.code ⟨"InchBordersModel", "clears", "()V"⟩ prog_14_method_14_code 2 (none : Option Jvm.ClassFile.FieldType) : Cond) ∈ gtbl := gtbl_in (List.mem_of_getElem? (i := 1408) (by decide +kernel)) rfl
theorem tw_1405 : (.methodLink "InchBordersModel" 162 ⟨"InchBordersModel", "clears", "()V"⟩ : Cond) ∈ gtbl := gtbl_in (List.mem_of_getElem? (i := 1405) (by decide +kernel)) rfl
theorem tw_1407 : (.instanceMethod ⟨"InchBordersModel", "clears", "()V"⟩ : Cond) ∈ gtbl := gtbl_in (List.mem_of_getElem? (i := 1407) (by decide +kernel)) rfl
theorem tw_41 : (.selects "InchBordersModel" ⟨"InchBordersModel", "clears", "()V"⟩ ⟨"InchBordersModel", "clears", "()V"⟩ : Cond) ∈ gtbl := gtbl_in (List.mem_of_getElem? (i := 41) (by decide +kernel)) rfl
theorem ok_X12_162 : xVok "InchBordersModel" MX12_clears 162 0 := ⟨tw_1408, tw_1405, tw_1407, tw_41, tw_119, by decide +kernel, by decide⟩
theorem tw_1606 : (.code ⟨"InchBordersModel", "peek", "()I"⟩ prog_14_method_15_code 1 (some .int) : Cond) ∈ gtbl := gtbl_in (List.mem_of_getElem? (i := 1606) (by decide +kernel)) rfl
theorem tw_1603 : (.methodLink "InchBordersModel" 165 ⟨"InchBordersModel", "peek", "()I"⟩ : Cond) ∈ gtbl := gtbl_in (List.mem_of_getElem? (i := 1603) (by decide +kernel)) rfl
theorem tw_1605 : (.instanceMethod ⟨"InchBordersModel", "peek", "()I"⟩ : Cond) ∈ gtbl := gtbl_in (List.mem_of_getElem? (i := 1605) (by decide +kernel)) rfl
theorem tw_44 : (.selects "InchBordersModel" ⟨"InchBordersModel", "peek", "()I"⟩ ⟨"InchBordersModel", "peek", "()I"⟩ : Cond) ∈ gtbl := gtbl_in (List.mem_of_getElem? (i := 44) (by decide +kernel)) rfl
theorem ok_X12_165 : xVok "InchBordersModel" MX12_peek 165 0 := ⟨tw_1606, tw_1603, tw_1605, tw_44, tw_119, by decide +kernel, by decide⟩
theorem tw_1609 : (.code ⟨"InchBordersModel", "isSmall", "(I)Z"⟩ prog_14_method_16_code 1 (some .boolean) : Cond) ∈ gtbl := gtbl_in (List.mem_of_getElem? (i := 1609) (by decide +kernel)) rfl
theorem tw_1607 : (.methodLink "InchBordersModel" 178 ⟨"InchBordersModel", "isSmall", "(I)Z"⟩ : Cond) ∈ gtbl := gtbl_in (List.mem_of_getElem? (i := 1607) (by decide +kernel)) rfl
theorem tw_1608 : (.static ⟨"InchBordersModel", "isSmall", "(I)Z"⟩ : Cond) ∈ gtbl := gtbl_in (List.mem_of_getElem? (i := 1608) (by decide +kernel)) rfl
theorem ok_X12_178 : xSok "InchBordersModel" MX12_isSmall 178 1 := ⟨tw_1609, tw_1607, tw_1608, tw_119, by decide +kernel, by decide⟩
theorem tw_1612 : (.code ⟨"InchBordersModel", "isDigit", "(I)Z"⟩ prog_14_method_17_code 1 (some .boolean) : Cond) ∈ gtbl := gtbl_in (List.mem_of_getElem? (i := 1612) (by decide +kernel)) rfl
theorem tw_1610 : (.methodLink "InchBordersModel" 182 ⟨"InchBordersModel", "isDigit", "(I)Z"⟩ : Cond) ∈ gtbl := gtbl_in (List.mem_of_getElem? (i := 1610) (by decide +kernel)) rfl
theorem tw_1611 : (.static ⟨"InchBordersModel", "isDigit", "(I)Z"⟩ : Cond) ∈ gtbl := gtbl_in (List.mem_of_getElem? (i := 1611) (by decide +kernel)) rfl
theorem ok_X12_182 : xSok "InchBordersModel" MX12_isDigit 182 1 := ⟨tw_1612, tw_1610, tw_1611, tw_119, by decide +kernel, by decide⟩
theorem tw_1686 : (.code ⟨"InchBordersModel", "isSign", "(I)Z"⟩ prog_14_method_21_code 2 (some .boolean) : Cond) ∈ gtbl := gtbl_in (List.mem_of_getElem? (i := 1686) (by decide +kernel)) rfl
theorem tw_1683 : (.methodLink "InchBordersModel" 198 ⟨"InchBordersModel", "isSign", "(I)Z"⟩ : Cond) ∈ gtbl := gtbl_in (List.mem_of_getElem? (i := 1683) (by decide +kernel)) rfl
theorem tw_1685 : (.instanceMethod ⟨"InchBordersModel", "isSign", "(I)Z"⟩ : Cond) ∈ gtbl := gtbl_in (List.mem_of_getElem? (i := 1685) (by decide +kernel)) rfl
theorem tw_61 : (.selects "InchBordersModel" ⟨"InchBordersModel", "isSign", "(I)Z"⟩ ⟨"InchBordersModel", "isSign", "(I)Z"⟩ : Cond) ∈ gtbl := gtbl_in (List.mem_of_getElem? (i := 61) (by decide +kernel)) rfl
theorem ok_X12_198 : xVok "InchBordersModel" MX12_isSign 198 1 := ⟨tw_1686, tw_1683, tw_1685, tw_61, tw_119, by decide +kernel, by decide⟩
theorem tw_1628 : (.code ⟨"InchBordersModel", "bad", "(I)Z"⟩ prog_14_method_19_code 2 (some .boolean) : Cond) ∈ gtbl := gtbl_in (List.mem_of_getElem? (i := 1628) (by decide +kernel)) rfl
theorem tw_1625 : (.methodLink "InchBordersModel" 201 ⟨"InchBordersModel", "bad", "(I)Z"⟩ : Cond) ∈ gtbl := gtbl_in (List.mem_of_getElem? (i := 1625) (by decide +kernel)) rfl
theorem tw_1627 : (.instanceMethod ⟨"InchBordersModel", "bad", "(I)Z"⟩ : Cond) ∈ gtbl := gtbl_in (List.mem_of_getElem? (i := 1627) (by decide +kernel)) rfl
theorem tw_48 : (.selects "InchBordersModel" ⟨"InchBordersModel", "bad", "(I)Z"⟩ ⟨"InchBordersModel", "bad", "(I)Z"⟩ : Cond) ∈ gtbl := gtbl_in (List.mem_of_getElem? (i := 48) (by decide +kernel)) rfl
theorem ok_X12_201 : xVok "InchBordersModel" MX12_bad 201 1 := ⟨tw_1628, tw_1625, tw_1627, tw_48, tw_119, by decide +kernel, by decide⟩
theorem tw_1602 : (.code ⟨"InchBordersModel", "next", "()V"⟩ prog_14_method_18_code 4 (none : Option Jvm.ClassFile.FieldType) : Cond) ∈ gtbl := gtbl_in (List.mem_of_getElem? (i := 1602) (by decide +kernel)) rfl
theorem tw_1599 : (.methodLink "InchBordersModel" 204 ⟨"InchBordersModel", "next", "()V"⟩ : Cond) ∈ gtbl := gtbl_in (List.mem_of_getElem? (i := 1599) (by decide +kernel)) rfl
theorem tw_1601 : (.instanceMethod ⟨"InchBordersModel", "next", "()V"⟩ : Cond) ∈ gtbl := gtbl_in (List.mem_of_getElem? (i := 1601) (by decide +kernel)) rfl
theorem tw_43 : (.selects "InchBordersModel" ⟨"InchBordersModel", "next", "()V"⟩ ⟨"InchBordersModel", "next", "()V"⟩ : Cond) ∈ gtbl := gtbl_in (List.mem_of_getElem? (i := 43) (by decide +kernel)) rfl
theorem ok_X12_204 : xVok "InchBordersModel" MX12_next 204 0 := ⟨tw_1602, tw_1599, tw_1601, tw_43, tw_119, by decide +kernel, by decide⟩
theorem tw_1651 : (.code ⟨"InchBordersModel", "isIn", "(III)Z"⟩ prog_14_method_7_code 3 (some .boolean) : Cond) ∈ gtbl := gtbl_in (List.mem_of_getElem? (i := 1651) (by decide +kernel)) rfl
theorem tw_1649 : (.methodLink "InchBordersModel" 207 ⟨"InchBordersModel", "isIn", "(III)Z"⟩ : Cond) ∈ gtbl := gtbl_in (List.mem_of_getElem? (i := 1649) (by decide +kernel)) rfl
theorem tw_1650 : (.static ⟨"InchBordersModel", "isIn", "(III)Z"⟩ : Cond) ∈ gtbl := gtbl_in (List.mem_of_getElem? (i := 1650) (by decide +kernel)) rfl
theorem ok_X12_207 : xSok "InchBordersModel" MX12_isIn 207 3 := ⟨tw_1651, tw_1649, tw_1650, tw_119, by decide +kernel, by decide⟩
theorem tw_1648 : (.code ⟨"InchBordersModel", "takes", "(II)Z"⟩ prog_14_method_24_code 3 (some .boolean) : Cond) ∈ gtbl := gtbl_in (List.mem_of_getElem? (i := 1648) (by decide +kernel)) rfl
theorem tw_1645 : (.methodLink "InchBordersModel" 214 ⟨"InchBordersModel", "takes", "(II)Z"⟩ : Cond) ∈ gtbl := gtbl_in (List.mem_of_getElem? (i := 1645) (by decide +kernel)) rfl
theorem tw_1647 : (.instanceMethod ⟨"InchBordersModel", "takes", "(II)Z"⟩ : Cond) ∈ gtbl := gtbl_in (List.mem_of_getElem? (i := 1647) (by decide +kernel)) rfl
theorem tw_53 : (.selects "InchBordersModel" ⟨"InchBordersModel", "takes", "(II)Z"⟩ ⟨"InchBordersModel", "takes", "(II)Z"⟩ : Cond) ∈ gtbl := gtbl_in (List.mem_of_getElem? (i := 53) (by decide +kernel)) rfl
theorem ok_X12_214 : xVok "InchBordersModel" MX12_takes 214 2 := ⟨tw_1648, tw_1645, tw_1647, tw_53, tw_119, by decide +kernel, by decide⟩
theorem tw_1636 : (.code ⟨"InchBordersModel", "isName", "()Z"⟩ prog_14_method_23_code 3 (some .boolean) : Cond) ∈ gtbl := gtbl_in (List.mem_of_getElem? (i := 1636) (by decide +kernel)) rfl
theorem tw_1633 : (.methodLink "InchBordersModel" 218 ⟨"InchBordersModel", "isName", "()Z"⟩ : Cond) ∈ gtbl := gtbl_in (List.mem_of_getElem? (i := 1633) (by decide +kernel)) rfl
theorem tw_1635 : (.instanceMethod ⟨"InchBordersModel", "isName", "()Z"⟩ : Cond) ∈ gtbl := gtbl_in (List.mem_of_getElem? (i := 1635) (by decide +kernel)) rfl
theorem tw_50 : (.selects "InchBordersModel" ⟨"InchBordersModel", "isName", "()Z"⟩ ⟨"InchBordersModel", "isName", "()Z"⟩ : Cond) ∈ gtbl := gtbl_in (List.mem_of_getElem? (i := 50) (by decide +kernel)) rfl
theorem ok_X12_218 : xVok "InchBordersModel" MX12_isName 218 0 := ⟨tw_1636, tw_1633, tw_1635, tw_50, tw_119, by decide +kernel, by decide⟩
theorem tw_1640 : (.code ⟨"InchBordersModel", "find", "(II)I"⟩ prog_14_method_26_code 4 (some .int) : Cond) ∈ gtbl := gtbl_in (List.mem_of_getElem? (i := 1640) (by decide +kernel)) rfl
theorem tw_1637 : (.methodLink "InchBordersModel" 222 ⟨"InchBordersModel", "find", "(II)I"⟩ : Cond) ∈ gtbl := gtbl_in (List.mem_of_getElem? (i := 1637) (by decide +kernel)) rfl
theorem tw_1639 : (.instanceMethod ⟨"InchBordersModel", "find", "(II)I"⟩ : Cond) ∈ gtbl := gtbl_in (List.mem_of_getElem? (i := 1639) (by decide +kernel)) rfl
theorem tw_51 : (.selects "InchBordersModel" ⟨"InchBordersModel", "find", "(II)I"⟩ ⟨"InchBordersModel", "find", "(II)I"⟩ : Cond) ∈ gtbl := gtbl_in (List.mem_of_getElem? (i := 51) (by decide +kernel)) rfl
theorem ok_X12_222 : xVok "InchBordersModel" MX12_find 222 2 := ⟨tw_1640, tw_1637, tw_1639, tw_51, tw_119, by decide +kernel, by decide⟩
theorem tw_1659 : (.code ⟨"InchBordersModel", "looksAt", "(II)Z"⟩ prog_14_method_28_code 3 (some .boolean) : Cond) ∈ gtbl := gtbl_in (List.mem_of_getElem? (i := 1659) (by decide +kernel)) rfl
theorem tw_1656 : (.methodLink "InchBordersModel" 226 ⟨"InchBordersModel", "looksAt", "(II)Z"⟩ : Cond) ∈ gtbl := gtbl_in (List.mem_of_getElem? (i := 1656) (by decide +kernel)) rfl
theorem tw_1658 : (.instanceMethod ⟨"InchBordersModel", "looksAt", "(II)Z"⟩ : Cond) ∈ gtbl := gtbl_in (List.mem_of_getElem? (i := 1658) (by decide +kernel)) rfl
theorem tw_55 : (.selects "InchBordersModel" ⟨"InchBordersModel", "looksAt", "(II)Z"⟩ ⟨"InchBordersModel", "looksAt", "(II)Z"⟩ : Cond) ∈ gtbl := gtbl_in (List.mem_of_getElem? (i := 55) (by decide +kernel)) rfl
theorem ok_X12_226 : xVok "InchBordersModel" MX12_looksAt 226 2 := ⟨tw_1659, tw_1656, tw_1658, tw_55, tw_119, by decide +kernel, by decide⟩
theorem tw_1620 : (.code ⟨"InchBordersModel", "isWord", "(J)Z"⟩ prog_14_method_20_code 3 (some .boolean) : Cond) ∈ gtbl := gtbl_in (List.mem_of_getElem? (i := 1620) (by decide +kernel)) rfl
theorem tw_1617 : (.methodLink "InchBordersModel" 229 ⟨"InchBordersModel", "isWord", "(J)Z"⟩ : Cond) ∈ gtbl := gtbl_in (List.mem_of_getElem? (i := 1617) (by decide +kernel)) rfl
theorem tw_1619 : (.instanceMethod ⟨"InchBordersModel", "isWord", "(J)Z"⟩ : Cond) ∈ gtbl := gtbl_in (List.mem_of_getElem? (i := 1619) (by decide +kernel)) rfl
theorem tw_46 : (.selects "InchBordersModel" ⟨"InchBordersModel", "isWord", "(J)Z"⟩ ⟨"InchBordersModel", "isWord", "(J)Z"⟩ : Cond) ∈ gtbl := gtbl_in (List.mem_of_getElem? (i := 46) (by decide +kernel)) rfl
theorem ok_X12_229 : xVok "InchBordersModel" MX12_isWord 229 1 := ⟨tw_1620, tw_1617, tw_1619, tw_46, tw_119, by decide +kernel, by decide⟩
theorem tw_1624 : (.code ⟨"InchBordersModel", "readLand", "()Z"⟩ prog_14_method_31_code 2 (some .boolean) : Cond) ∈ gtbl := gtbl_in (List.mem_of_getElem? (i := 1624) (by decide +kernel)) rfl
theorem tw_1621 : (.methodLink "InchBordersModel" 233 ⟨"InchBordersModel", "readLand", "()Z"⟩ : Cond) ∈ gtbl := gtbl_in (List.mem_of_getElem? (i := 1621) (by decide +kernel)) rfl
theorem tw_1623 : (.instanceMethod ⟨"InchBordersModel", "readLand", "()Z"⟩ : Cond) ∈ gtbl := gtbl_in (List.mem_of_getElem? (i := 1623) (by decide +kernel)) rfl
theorem tw_47 : (.selects "InchBordersModel" ⟨"InchBordersModel", "readLand", "()Z"⟩ ⟨"InchBordersModel", "readLand", "()Z"⟩ : Cond) ∈ gtbl := gtbl_in (List.mem_of_getElem? (i := 47) (by decide +kernel)) rfl
theorem ok_X12_233 : xVok "InchBordersModel" MX12_readLand 233 0 := ⟨tw_1624, tw_1621, tw_1623, tw_47, tw_119, by decide +kernel, by decide⟩
theorem tw_1655 : (.code ⟨"InchBordersModel", "readStore", "()Z"⟩ prog_14_method_32_code 2 (some .boolean) : Cond) ∈ gtbl := gtbl_in (List.mem_of_getElem? (i := 1655) (by decide +kernel)) rfl
theorem tw_1652 : (.methodLink "InchBordersModel" 236 ⟨"InchBordersModel", "readStore", "()Z"⟩ : Cond) ∈ gtbl := gtbl_in (List.mem_of_getElem? (i := 1652) (by decide +kernel)) rfl
theorem tw_1654 : (.instanceMethod ⟨"InchBordersModel", "readStore", "()Z"⟩ : Cond) ∈ gtbl := gtbl_in (List.mem_of_getElem? (i := 1654) (by decide +kernel)) rfl
theorem tw_54 : (.selects "InchBordersModel" ⟨"InchBordersModel", "readStore", "()Z"⟩ ⟨"InchBordersModel", "readStore", "()Z"⟩ : Cond) ∈ gtbl := gtbl_in (List.mem_of_getElem? (i := 54) (by decide +kernel)) rfl
theorem ok_X12_236 : xVok "InchBordersModel" MX12_readStore 236 0 := ⟨tw_1655, tw_1652, tw_1654, tw_54, tw_119, by decide +kernel, by decide⟩
theorem tw_1666 : (.code ⟨"InchBordersModel", "readRoad", "()Z"⟩ prog_14_method_33_code 4 (some .boolean) : Cond) ∈ gtbl := gtbl_in (List.mem_of_getElem? (i := 1666) (by decide +kernel)) rfl
theorem tw_1663 : (.methodLink "InchBordersModel" 239 ⟨"InchBordersModel", "readRoad", "()Z"⟩ : Cond) ∈ gtbl := gtbl_in (List.mem_of_getElem? (i := 1663) (by decide +kernel)) rfl
theorem tw_1665 : (.instanceMethod ⟨"InchBordersModel", "readRoad", "()Z"⟩ : Cond) ∈ gtbl := gtbl_in (List.mem_of_getElem? (i := 1665) (by decide +kernel)) rfl
theorem tw_56 : (.selects "InchBordersModel" ⟨"InchBordersModel", "readRoad", "()Z"⟩ ⟨"InchBordersModel", "readRoad", "()Z"⟩ : Cond) ∈ gtbl := gtbl_in (List.mem_of_getElem? (i := 56) (by decide +kernel)) rfl
theorem ok_X12_239 : xVok "InchBordersModel" MX12_readRoad 239 0 := ⟨tw_1666, tw_1663, tw_1665, tw_56, tw_119, by decide +kernel, by decide⟩
theorem tw_1674 : (.code ⟨"InchBordersModel", "readTreaty", "()Z"⟩ prog_14_method_34_code 2 (some .boolean) : Cond) ∈ gtbl := gtbl_in (List.mem_of_getElem? (i := 1674) (by decide +kernel)) rfl
theorem tw_1671 : (.methodLink "InchBordersModel" 242 ⟨"InchBordersModel", "readTreaty", "()Z"⟩ : Cond) ∈ gtbl := gtbl_in (List.mem_of_getElem? (i := 1671) (by decide +kernel)) rfl
theorem tw_1673 : (.instanceMethod ⟨"InchBordersModel", "readTreaty", "()Z"⟩ : Cond) ∈ gtbl := gtbl_in (List.mem_of_getElem? (i := 1673) (by decide +kernel)) rfl
theorem tw_58 : (.selects "InchBordersModel" ⟨"InchBordersModel", "readTreaty", "()Z"⟩ ⟨"InchBordersModel", "readTreaty", "()Z"⟩ : Cond) ∈ gtbl := gtbl_in (List.mem_of_getElem? (i := 58) (by decide +kernel)) rfl
theorem ok_X12_242 : xVok "InchBordersModel" MX12_readTreaty 242 0 := ⟨tw_1674, tw_1671, tw_1673, tw_58, tw_119, by decide +kernel, by decide⟩
theorem tw_1678 : (.code ⟨"InchBordersModel", "readPerson", "()Z"⟩ prog_14_method_35_code 2 (some .boolean) : Cond) ∈ gtbl := gtbl_in (List.mem_of_getElem? (i := 1678) (by decide +kernel)) rfl
theorem tw_1675 : (.methodLink "InchBordersModel" 245 ⟨"InchBordersModel", "readPerson", "()Z"⟩ : Cond) ∈ gtbl := gtbl_in (List.mem_of_getElem? (i := 1675) (by decide +kernel)) rfl
theorem tw_1677 : (.instanceMethod ⟨"InchBordersModel", "readPerson", "()Z"⟩ : Cond) ∈ gtbl := gtbl_in (List.mem_of_getElem? (i := 1677) (by decide +kernel)) rfl
theorem tw_59 : (.selects "InchBordersModel" ⟨"InchBordersModel", "readPerson", "()Z"⟩ ⟨"InchBordersModel", "readPerson", "()Z"⟩ : Cond) ∈ gtbl := gtbl_in (List.mem_of_getElem? (i := 59) (by decide +kernel)) rfl
theorem ok_X12_245 : xVok "InchBordersModel" MX12_readPerson 245 0 := ⟨tw_1678, tw_1675, tw_1677, tw_59, tw_119, by decide +kernel, by decide⟩
theorem tw_1632 : (.code ⟨"InchBordersModel", "fresh", "(I)Z"⟩ prog_14_method_27_code 2 (some .boolean) : Cond) ∈ gtbl := gtbl_in (List.mem_of_getElem? (i := 1632) (by decide +kernel)) rfl
theorem tw_1629 : (.methodLink "InchBordersModel" 248 ⟨"InchBordersModel", "fresh", "(I)Z"⟩ : Cond) ∈ gtbl := gtbl_in (List.mem_of_getElem? (i := 1629) (by decide +kernel)) rfl
theorem tw_1631 : (.instanceMethod ⟨"InchBordersModel", "fresh", "(I)Z"⟩ : Cond) ∈ gtbl := gtbl_in (List.mem_of_getElem? (i := 1631) (by decide +kernel)) rfl
theorem tw_49 : (.selects "InchBordersModel" ⟨"InchBordersModel", "fresh", "(I)Z"⟩ ⟨"InchBordersModel", "fresh", "(I)Z"⟩ : Cond) ∈ gtbl := gtbl_in (List.mem_of_getElem? (i := 49) (by decide +kernel)) rfl
theorem ok_X12_248 : xVok "InchBordersModel" MX12_fresh 248 1 := ⟨tw_1632, tw_1629, tw_1631, tw_49, tw_119, by decide +kernel, by decide⟩
theorem tw_1644 : (.code ⟨"InchBordersModel", "puts", "(III)Z"⟩ prog_14_method_25_code 4 (some .boolean) : Cond) ∈ gtbl := gtbl_in (List.mem_of_getElem? (i := 1644) (by decide +kernel)) rfl
theorem tw_1641 : (.methodLink "InchBordersModel" 251 ⟨"InchBordersModel", "puts", "(III)Z"⟩ : Cond) ∈ gtbl := gtbl_in (List.mem_of_getElem? (i := 1641) (by decide +kernel)) rfl
theorem tw_1643 : (.instanceMethod ⟨"InchBordersModel", "puts", "(III)Z"⟩ : Cond) ∈ gtbl := gtbl_in (List.mem_of_getElem? (i := 1643) (by decide +kernel)) rfl
theorem tw_52 : (.selects "InchBordersModel" ⟨"InchBordersModel", "puts", "(III)Z"⟩ ⟨"InchBordersModel", "puts", "(III)Z"⟩ : Cond) ∈ gtbl := gtbl_in (List.mem_of_getElem? (i := 52) (by decide +kernel)) rfl
theorem ok_X12_251 : xVok "InchBordersModel" MX12_puts 251 3 := ⟨tw_1644, tw_1641, tw_1643, tw_52, tw_119, by decide +kernel, by decide⟩
theorem tw_1662 : (.code ⟨"InchBordersModel", "bitOf", "(II)Z"⟩ prog_14_method_8_code 2 (some .boolean) : Cond) ∈ gtbl := gtbl_in (List.mem_of_getElem? (i := 1662) (by decide +kernel)) rfl
theorem tw_1660 : (.methodLink "InchBordersModel" 257 ⟨"InchBordersModel", "bitOf", "(II)Z"⟩ : Cond) ∈ gtbl := gtbl_in (List.mem_of_getElem? (i := 1660) (by decide +kernel)) rfl
theorem tw_1661 : (.static ⟨"InchBordersModel", "bitOf", "(II)Z"⟩ : Cond) ∈ gtbl := gtbl_in (List.mem_of_getElem? (i := 1661) (by decide +kernel)) rfl
theorem ok_X12_257 : xSok "InchBordersModel" MX12_bitOf 257 2 := ⟨tw_1662, tw_1660, tw_1661, tw_119, by decide +kernel, by decide⟩
theorem tw_1670 : (.code ⟨"InchBordersModel", "takesName", "(II)Z"⟩ prog_14_method_29_code 3 (some .boolean) : Cond) ∈ gtbl := gtbl_in (List.mem_of_getElem? (i := 1670) (by decide +kernel)) rfl
theorem tw_1667 : (.methodLink "InchBordersModel" 260 ⟨"InchBordersModel", "takesName", "(II)Z"⟩ : Cond) ∈ gtbl := gtbl_in (List.mem_of_getElem? (i := 1667) (by decide +kernel)) rfl
theorem tw_1669 : (.instanceMethod ⟨"InchBordersModel", "takesName", "(II)Z"⟩ : Cond) ∈ gtbl := gtbl_in (List.mem_of_getElem? (i := 1669) (by decide +kernel)) rfl
theorem tw_57 : (.selects "InchBordersModel" ⟨"InchBordersModel", "takesName", "(II)Z"⟩ ⟨"InchBordersModel", "takesName", "(II)Z"⟩ : Cond) ∈ gtbl := gtbl_in (List.mem_of_getElem? (i := 57) (by decide +kernel)) rfl
theorem ok_X12_260 : xVok "InchBordersModel" MX12_takesName 260 2 := ⟨tw_1670, tw_1667, tw_1669, tw_57, tw_119, by decide +kernel, by decide⟩
theorem tw_1598 : (.code ⟨"InchBordersModel", "taken", "(I)V"⟩ prog_14_method_6_code 2 (none : Option Jvm.ClassFile.FieldType) : Cond) ∈ gtbl := gtbl_in (List.mem_of_getElem? (i := 1598) (by decide +kernel)) rfl
theorem tw_1595 : (.methodLink "InchBordersModel" 263 ⟨"InchBordersModel", "taken", "(I)V"⟩ : Cond) ∈ gtbl := gtbl_in (List.mem_of_getElem? (i := 1595) (by decide +kernel)) rfl
theorem tw_1597 : (.instanceMethod ⟨"InchBordersModel", "taken", "(I)V"⟩ : Cond) ∈ gtbl := gtbl_in (List.mem_of_getElem? (i := 1597) (by decide +kernel)) rfl
theorem tw_42 : (.selects "InchBordersModel" ⟨"InchBordersModel", "taken", "(I)V"⟩ ⟨"InchBordersModel", "taken", "(I)V"⟩ : Cond) ∈ gtbl := gtbl_in (List.mem_of_getElem? (i := 42) (by decide +kernel)) rfl
theorem ok_X12_263 : xVok "InchBordersModel" MX12_taken 263 1 := ⟨tw_1598, tw_1595, tw_1597, tw_42, tw_119, by decide +kernel, by decide⟩
theorem tw_1616 : (.code ⟨"InchBordersModel", "line", "()Z"⟩ prog_14_method_30_code 1 (some .boolean) : Cond) ∈ gtbl := gtbl_in (List.mem_of_getElem? (i := 1616) (by decide +kernel)) rfl
theorem tw_1613 : (.methodLink "InchBordersModel" 269 ⟨"InchBordersModel", "line", "()Z"⟩ : Cond) ∈ gtbl := gtbl_in (List.mem_of_getElem? (i := 1613) (by decide +kernel)) rfl
theorem tw_1615 : (.instanceMethod ⟨"InchBordersModel", "line", "()Z"⟩ : Cond) ∈ gtbl := gtbl_in (List.mem_of_getElem? (i := 1615) (by decide +kernel)) rfl
theorem tw_45 : (.selects "InchBordersModel" ⟨"InchBordersModel", "line", "()Z"⟩ ⟨"InchBordersModel", "line", "()Z"⟩ : Cond) ∈ gtbl := gtbl_in (List.mem_of_getElem? (i := 45) (by decide +kernel)) rfl
theorem ok_X12_269 : xVok "InchBordersModel" MX12_line 269 0 := ⟨tw_1616, tw_1613, tw_1615, tw_45, tw_119, by decide +kernel, by decide⟩
theorem tw_1682 : (.code ⟨"InchBordersModel", "sign", "(I)Z"⟩ prog_14_method_22_code 2 (some .boolean) : Cond) ∈ gtbl := gtbl_in (List.mem_of_getElem? (i := 1682) (by decide +kernel)) rfl
theorem tw_1679 : (.methodLink "InchBordersModel" 272 ⟨"InchBordersModel", "sign", "(I)Z"⟩ : Cond) ∈ gtbl := gtbl_in (List.mem_of_getElem? (i := 1679) (by decide +kernel)) rfl
theorem tw_1681 : (.instanceMethod ⟨"InchBordersModel", "sign", "(I)Z"⟩ : Cond) ∈ gtbl := gtbl_in (List.mem_of_getElem? (i := 1681) (by decide +kernel)) rfl
theorem tw_60 : (.selects "InchBordersModel" ⟨"InchBordersModel", "sign", "(I)Z"⟩ ⟨"InchBordersModel", "sign", "(I)Z"⟩ : Cond) ∈ gtbl := gtbl_in (List.mem_of_getElem? (i := 60) (by decide +kernel)) rfl
theorem ok_X12_272 : xVok "InchBordersModel" MX12_sign 272 1 := ⟨tw_1682, tw_1679, tw_1681, tw_60, tw_119, by decide +kernel, by decide⟩
theorem tw_1722 : (.code ⟨"InchBordersModel", "roadOf", "(II)I"⟩ prog_14_method_41_code 4 (some .int) : Cond) ∈ gtbl := gtbl_in (List.mem_of_getElem? (i := 1722) (by decide +kernel)) rfl
theorem tw_1719 : (.methodLink "InchBordersModel" 278 ⟨"InchBordersModel", "roadOf", "(II)I"⟩ : Cond) ∈ gtbl := gtbl_in (List.mem_of_getElem? (i := 1719) (by decide +kernel)) rfl
theorem tw_1721 : (.instanceMethod ⟨"InchBordersModel", "roadOf", "(II)I"⟩ : Cond) ∈ gtbl := gtbl_in (List.mem_of_getElem? (i := 1721) (by decide +kernel)) rfl
theorem tw_68 : (.selects "InchBordersModel" ⟨"InchBordersModel", "roadOf", "(II)I"⟩ ⟨"InchBordersModel", "roadOf", "(II)I"⟩ : Cond) ∈ gtbl := gtbl_in (List.mem_of_getElem? (i := 68) (by decide +kernel)) rfl
theorem ok_X12_278 : xVok "InchBordersModel" MX12_roadOf 278 2 := ⟨tw_1722, tw_1719, tw_1721, tw_68, tw_119, by decide +kernel, by decide⟩
theorem tw_1726 : (.code ⟨"InchBordersModel", "isOpen", "(I)Z"⟩ prog_14_method_40_code 2 (some .boolean) : Cond) ∈ gtbl := gtbl_in (List.mem_of_getElem? (i := 1726) (by decide +kernel)) rfl
theorem tw_1723 : (.methodLink "InchBordersModel" 281 ⟨"InchBordersModel", "isOpen", "(I)Z"⟩ : Cond) ∈ gtbl := gtbl_in (List.mem_of_getElem? (i := 1723) (by decide +kernel)) rfl
theorem tw_1725 : (.instanceMethod ⟨"InchBordersModel", "isOpen", "(I)Z"⟩ : Cond) ∈ gtbl := gtbl_in (List.mem_of_getElem? (i := 1725) (by decide +kernel)) rfl
theorem tw_69 : (.selects "InchBordersModel" ⟨"InchBordersModel", "isOpen", "(I)Z"⟩ ⟨"InchBordersModel", "isOpen", "(I)Z"⟩ : Cond) ∈ gtbl := gtbl_in (List.mem_of_getElem? (i := 69) (by decide +kernel)) rfl
theorem ok_X12_281 : xVok "InchBordersModel" MX12_isOpen 281 1 := ⟨tw_1726, tw_1723, tw_1725, tw_69, tw_119, by decide +kernel, by decide⟩
theorem tw_1714 : (.code ⟨"InchBordersModel", "sparedIn", "(I)I"⟩ prog_14_method_42_code 2 (some .int) : Cond) ∈ gtbl := gtbl_in (List.mem_of_getElem? (i := 1714) (by decide +kernel)) rfl
theorem tw_1711 : (.methodLink "InchBordersModel" 284 ⟨"InchBordersModel", "sparedIn", "(I)I"⟩ : Cond) ∈ gtbl := gtbl_in (List.mem_of_getElem? (i := 1711) (by decide +kernel)) rfl
theorem tw_1713 : (.instanceMethod ⟨"InchBordersModel", "sparedIn", "(I)I"⟩ : Cond) ∈ gtbl := gtbl_in (List.mem_of_getElem? (i := 1713) (by decide +kernel)) rfl
theorem tw_66 : (.selects "InchBordersModel" ⟨"InchBordersModel", "sparedIn", "(I)I"⟩ ⟨"InchBordersModel", "sparedIn", "(I)I"⟩ : Cond) ∈ gtbl := gtbl_in (List.mem_of_getElem? (i := 66) (by decide +kernel)) rfl
theorem ok_X12_284 : xVok "InchBordersModel" MX12_sparedIn 284 1 := ⟨tw_1714, tw_1711, tw_1713, tw_66, tw_119, by decide +kernel, by decide⟩
theorem tw_1718 : (.code ⟨"InchBordersModel", "whyBy", "(IIII)I"⟩ prog_14_method_43_code 6 (some .int) : Cond) ∈ gtbl := gtbl_in (List.mem_of_getElem? (i := 1718) (by decide +kernel)) rfl
theorem tw_1715 : (.methodLink "InchBordersModel" 288 ⟨"InchBordersModel", "whyBy", "(IIII)I"⟩ : Cond) ∈ gtbl := gtbl_in (List.mem_of_getElem? (i := 1715) (by decide +kernel)) rfl
theorem tw_1717 : (.instanceMethod ⟨"InchBordersModel", "whyBy", "(IIII)I"⟩ : Cond) ∈ gtbl := gtbl_in (List.mem_of_getElem? (i := 1717) (by decide +kernel)) rfl
theorem tw_67 : (.selects "InchBordersModel" ⟨"InchBordersModel", "whyBy", "(IIII)I"⟩ ⟨"InchBordersModel", "whyBy", "(IIII)I"⟩ : Cond) ∈ gtbl := gtbl_in (List.mem_of_getElem? (i := 67) (by decide +kernel)) rfl
theorem ok_X12_288 : xVok "InchBordersModel" MX12_whyBy 288 4 := ⟨tw_1718, tw_1715, tw_1717, tw_67, tw_119, by decide +kernel, by decide⟩
theorem tw_1710 : (.code ⟨"InchBordersModel", "whyCross", "(II)I"⟩ prog_14_method_44_code 3 (some .int) : Cond) ∈ gtbl := gtbl_in (List.mem_of_getElem? (i := 1710) (by decide +kernel)) rfl
theorem tw_1707 : (.methodLink "InchBordersModel" 292 ⟨"InchBordersModel", "whyCross", "(II)I"⟩ : Cond) ∈ gtbl := gtbl_in (List.mem_of_getElem? (i := 1707) (by decide +kernel)) rfl
theorem tw_1709 : (.instanceMethod ⟨"InchBordersModel", "whyCross", "(II)I"⟩ : Cond) ∈ gtbl := gtbl_in (List.mem_of_getElem? (i := 1709) (by decide +kernel)) rfl
theorem tw_65 : (.selects "InchBordersModel" ⟨"InchBordersModel", "whyCross", "(II)I"⟩ ⟨"InchBordersModel", "whyCross", "(II)I"⟩ : Cond) ∈ gtbl := gtbl_in (List.mem_of_getElem? (i := 65) (by decide +kernel)) rfl
theorem ok_X12_292 : xVok "InchBordersModel" MX12_whyCross 292 2 := ⟨tw_1710, tw_1707, tw_1709, tw_65, tw_119, by decide +kernel, by decide⟩
theorem tw_1768 : (.code ⟨"InchBordersModel", "lesser", "(II)I"⟩ prog_14_method_9_code 2 (some .int) : Cond) ∈ gtbl := gtbl_in (List.mem_of_getElem? (i := 1768) (by decide +kernel)) rfl
theorem tw_1766 : (.methodLink "InchBordersModel" 295 ⟨"InchBordersModel", "lesser", "(II)I"⟩ : Cond) ∈ gtbl := gtbl_in (List.mem_of_getElem? (i := 1766) (by decide +kernel)) rfl
theorem tw_1767 : (.static ⟨"InchBordersModel", "lesser", "(II)I"⟩ : Cond) ∈ gtbl := gtbl_in (List.mem_of_getElem? (i := 1767) (by decide +kernel)) rfl
theorem ok_X12_295 : xSok "InchBordersModel" MX12_lesser 295 2 := ⟨tw_1768, tw_1766, tw_1767, tw_119, by decide +kernel, by decide⟩
theorem tw_1765 : (.code ⟨"InchBordersModel", "given", "(III)I"⟩ prog_14_method_46_code 4 (some .int) : Cond) ∈ gtbl := gtbl_in (List.mem_of_getElem? (i := 1765) (by decide +kernel)) rfl
theorem tw_1762 : (.methodLink "InchBordersModel" 298 ⟨"InchBordersModel", "given", "(III)I"⟩ : Cond) ∈ gtbl := gtbl_in (List.mem_of_getElem? (i := 1762) (by decide +kernel)) rfl
theorem tw_1764 : (.instanceMethod ⟨"InchBordersModel", "given", "(III)I"⟩ : Cond) ∈ gtbl := gtbl_in (List.mem_of_getElem? (i := 1764) (by decide +kernel)) rfl
theorem tw_74 : (.selects "InchBordersModel" ⟨"InchBordersModel", "given", "(III)I"⟩ ⟨"InchBordersModel", "given", "(III)I"⟩ : Cond) ∈ gtbl := gtbl_in (List.mem_of_getElem? (i := 74) (by decide +kernel)) rfl
theorem ok_X12_298 : xVok "InchBordersModel" MX12_given 298 3 := ⟨tw_1765, tw_1762, tw_1764, tw_74, tw_119, by decide +kernel, by decide⟩
theorem tw_1698 : (.code ⟨"InchBordersModel", "isPerson", "(I)Z"⟩ prog_14_method_39_code 2 (some .boolean) : Cond) ∈ gtbl := gtbl_in (List.mem_of_getElem? (i := 1698) (by decide +kernel)) rfl
theorem tw_1695 : (.methodLink "InchBordersModel" 302 ⟨"InchBordersModel", "isPerson", "(I)Z"⟩ : Cond) ∈ gtbl := gtbl_in (List.mem_of_getElem? (i := 1695) (by decide +kernel)) rfl
theorem tw_1697 : (.instanceMethod ⟨"InchBordersModel", "isPerson", "(I)Z"⟩ : Cond) ∈ gtbl := gtbl_in (List.mem_of_getElem? (i := 1697) (by decide +kernel)) rfl
theorem tw_62 : (.selects "InchBordersModel" ⟨"InchBordersModel", "isPerson", "(I)Z"⟩ ⟨"InchBordersModel", "isPerson", "(I)Z"⟩ : Cond) ∈ gtbl := gtbl_in (List.mem_of_getElem? (i := 62) (by decide +kernel)) rfl
theorem ok_X12_302 : xVok "InchBordersModel" MX12_isPerson 302 1 := ⟨tw_1698, tw_1695, tw_1697, tw_62, tw_119, by decide +kernel, by decide⟩
theorem tw_1702 : (.code ⟨"InchBordersModel", "throwsIf", "(Z)Z"⟩ prog_14_method_2_code 2 (some .boolean) : Cond) ∈ gtbl := gtbl_in (List.mem_of_getElem? (i := 1702) (by decide +kernel)) rfl
theorem tw_1699 : (.methodLink "InchBordersModel" 305 ⟨"InchBordersModel", "throwsIf", "(Z)Z"⟩ : Cond) ∈ gtbl := gtbl_in (List.mem_of_getElem? (i := 1699) (by decide +kernel)) rfl
theorem tw_1701 : (.instanceMethod ⟨"InchBordersModel", "throwsIf", "(Z)Z"⟩ : Cond) ∈ gtbl := gtbl_in (List.mem_of_getElem? (i := 1701) (by decide +kernel)) rfl
theorem tw_63 : (.selects "InchBordersModel" ⟨"InchBordersModel", "throwsIf", "(Z)Z"⟩ ⟨"InchBordersModel", "throwsIf", "(Z)Z"⟩ : Cond) ∈ gtbl := gtbl_in (List.mem_of_getElem? (i := 63) (by decide +kernel)) rfl
theorem ok_X12_305 : xVok "InchBordersModel" MX12_throwsIf 305 1 := ⟨tw_1702, tw_1699, tw_1701, tw_63, tw_119, by decide +kernel, by decide⟩
theorem tw_1706 : (.code ⟨"InchBordersModel", "couldOf", "(I)I"⟩ prog_14_method_45_code 4 (some .int) : Cond) ∈ gtbl := gtbl_in (List.mem_of_getElem? (i := 1706) (by decide +kernel)) rfl
theorem tw_1703 : (.methodLink "InchBordersModel" 309 ⟨"InchBordersModel", "couldOf", "(I)I"⟩ : Cond) ∈ gtbl := gtbl_in (List.mem_of_getElem? (i := 1703) (by decide +kernel)) rfl
theorem tw_1705 : (.instanceMethod ⟨"InchBordersModel", "couldOf", "(I)I"⟩ : Cond) ∈ gtbl := gtbl_in (List.mem_of_getElem? (i := 1705) (by decide +kernel)) rfl
theorem tw_64 : (.selects "InchBordersModel" ⟨"InchBordersModel", "couldOf", "(I)I"⟩ ⟨"InchBordersModel", "couldOf", "(I)I"⟩ : Cond) ∈ gtbl := gtbl_in (List.mem_of_getElem? (i := 64) (by decide +kernel)) rfl
theorem ok_X12_309 : xVok "InchBordersModel" MX12_couldOf 309 1 := ⟨tw_1706, tw_1703, tw_1705, tw_64, tw_119, by decide +kernel, by decide⟩
theorem tw_1734 : (.code ⟨"InchBordersModel", "isLand", "(I)Z"⟩ prog_14_method_38_code 2 (some .boolean) : Cond) ∈ gtbl := gtbl_in (List.mem_of_getElem? (i := 1734) (by decide +kernel)) rfl
theorem tw_1731 : (.methodLink "InchBordersModel" 312 ⟨"InchBordersModel", "isLand", "(I)Z"⟩ : Cond) ∈ gtbl := gtbl_in (List.mem_of_getElem? (i := 1731) (by decide +kernel)) rfl
theorem tw_1733 : (.instanceMethod ⟨"InchBordersModel", "isLand", "(I)Z"⟩ : Cond) ∈ gtbl := gtbl_in (List.mem_of_getElem? (i := 1733) (by decide +kernel)) rfl
theorem tw_70 : (.selects "InchBordersModel" ⟨"InchBordersModel", "isLand", "(I)Z"⟩ ⟨"InchBordersModel", "isLand", "(I)Z"⟩ : Cond) ∈ gtbl := gtbl_in (List.mem_of_getElem? (i := 70) (by decide +kernel)) rfl
theorem ok_X12_312 : xVok "InchBordersModel" MX12_isLand 312 1 := ⟨tw_1734, tw_1731, tw_1733, tw_70, tw_119, by decide +kernel, by decide⟩
theorem tw_1745 : (.code ⟨"InchBordersModel", "bits", "(I)I"⟩ prog_14_method_11_code 3 (some .int) : Cond) ∈ gtbl := gtbl_in (List.mem_of_getElem? (i := 1745) (by decide +kernel)) rfl
theorem tw_1743 : (.methodLink "InchBordersModel" 315 ⟨"InchBordersModel", "bits", "(I)I"⟩ : Cond) ∈ gtbl := gtbl_in (List.mem_of_getElem? (i := 1743) (by decide +kernel)) rfl
theorem tw_1744 : (.static ⟨"InchBordersModel", "bits", "(I)I"⟩ : Cond) ∈ gtbl := gtbl_in (List.mem_of_getElem? (i := 1744) (by decide +kernel)) rfl
theorem ok_X12_315 : xSok "InchBordersModel" MX12_bits 315 1 := ⟨tw_1745, tw_1743, tw_1744, tw_119, by decide +kernel, by decide⟩
theorem tw_1749 : (.code ⟨"InchBordersModel", "allLong", "()I"⟩ prog_14_method_48_code 3 (some .int) : Cond) ∈ gtbl := gtbl_in (List.mem_of_getElem? (i := 1749) (by decide +kernel)) rfl
theorem tw_1746 : (.methodLink "InchBordersModel" 318 ⟨"InchBordersModel", "allLong", "()I"⟩ : Cond) ∈ gtbl := gtbl_in (List.mem_of_getElem? (i := 1746) (by decide +kernel)) rfl
theorem tw_1748 : (.instanceMethod ⟨"InchBordersModel", "allLong", "()I"⟩ : Cond) ∈ gtbl := gtbl_in (List.mem_of_getElem? (i := 1748) (by decide +kernel)) rfl
theorem tw_71 : (.selects "InchBordersModel" ⟨"InchBordersModel", "allLong", "()I"⟩ ⟨"InchBordersModel", "allLong", "()I"⟩ : Cond) ∈ gtbl := gtbl_in (List.mem_of_getElem? (i := 71) (by decide +kernel)) rfl
theorem ok_X12_318 : xVok "InchBordersModel" MX12_allLong 318 0 := ⟨tw_1749, tw_1746, tw_1748, tw_71, tw_119, by decide +kernel, by decide⟩
theorem tw_1824 : (.code ⟨"InchBordersModel", "grows", "(I)Z"⟩ prog_14_method_57_code 2 (some .boolean) : Cond) ∈ gtbl := gtbl_in (List.mem_of_getElem? (i := 1824) (by decide +kernel)) rfl
theorem tw_1821 : (.methodLink "InchBordersModel" 321 ⟨"InchBordersModel", "grows", "(I)Z"⟩ : Cond) ∈ gtbl := gtbl_in (List.mem_of_getElem? (i := 1821) (by decide +kernel)) rfl
theorem tw_1823 : (.instanceMethod ⟨"InchBordersModel", "grows", "(I)Z"⟩ : Cond) ∈ gtbl := gtbl_in (List.mem_of_getElem? (i := 1823) (by decide +kernel)) rfl
theorem tw_82 : (.selects "InchBordersModel" ⟨"InchBordersModel", "grows", "(I)Z"⟩ ⟨"InchBordersModel", "grows", "(I)Z"⟩ : Cond) ∈ gtbl := gtbl_in (List.mem_of_getElem? (i := 82) (by decide +kernel)) rfl
theorem ok_X12_321 : xVok "InchBordersModel" MX12_grows 321 1 := ⟨tw_1824, tw_1821, tw_1823, tw_82, tw_119, by decide +kernel, by decide⟩
theorem tw_1820 : (.code ⟨"InchBordersModel", "day", "()V"⟩ prog_14_method_58_code 2 (none : Option Jvm.ClassFile.FieldType) : Cond) ∈ gtbl := gtbl_in (List.mem_of_getElem? (i := 1820) (by decide +kernel)) rfl
theorem tw_1817 : (.methodLink "InchBordersModel" 324 ⟨"InchBordersModel", "day", "()V"⟩ : Cond) ∈ gtbl := gtbl_in (List.mem_of_getElem? (i := 1817) (by decide +kernel)) rfl
theorem tw_1819 : (.instanceMethod ⟨"InchBordersModel", "day", "()V"⟩ : Cond) ∈ gtbl := gtbl_in (List.mem_of_getElem? (i := 1819) (by decide +kernel)) rfl
theorem tw_81 : (.selects "InchBordersModel" ⟨"InchBordersModel", "day", "()V"⟩ ⟨"InchBordersModel", "day", "()V"⟩ : Cond) ∈ gtbl := gtbl_in (List.mem_of_getElem? (i := 81) (by decide +kernel)) rfl
theorem ok_X12_324 : xVok "InchBordersModel" MX12_day 324 0 := ⟨tw_1820, tw_1817, tw_1819, tw_81, tw_119, by decide +kernel, by decide⟩
theorem tw_1757 : (.code ⟨"InchBordersModel", "keep", "()V"⟩ prog_14_method_68_code 2 (none : Option Jvm.ClassFile.FieldType) : Cond) ∈ gtbl := gtbl_in (List.mem_of_getElem? (i := 1757) (by decide +kernel)) rfl
theorem tw_1754 : (.methodLink "InchBordersModel" 327 ⟨"InchBordersModel", "keep", "()V"⟩ : Cond) ∈ gtbl := gtbl_in (List.mem_of_getElem? (i := 1754) (by decide +kernel)) rfl
theorem tw_1756 : (.instanceMethod ⟨"InchBordersModel", "keep", "()V"⟩ : Cond) ∈ gtbl := gtbl_in (List.mem_of_getElem? (i := 1756) (by decide +kernel)) rfl
theorem tw_72 : (.selects "InchBordersModel" ⟨"InchBordersModel", "keep", "()V"⟩ ⟨"InchBordersModel", "keep", "()V"⟩ : Cond) ∈ gtbl := gtbl_in (List.mem_of_getElem? (i := 72) (by decide +kernel)) rfl
theorem ok_X12_327 : xVok "InchBordersModel" MX12_keep 327 0 := ⟨tw_1757, tw_1754, tw_1756, tw_72, tw_119, by decide +kernel, by decide⟩
theorem tw_1761 : (.code ⟨"InchBordersModel", "crosses", "(II)V"⟩ prog_14_method_47_code 4 (none : Option Jvm.ClassFile.FieldType) : Cond) ∈ gtbl := gtbl_in (List.mem_of_getElem? (i := 1761) (by decide +kernel)) rfl
theorem tw_1758 : (.methodLink "InchBordersModel" 330 ⟨"InchBordersModel", "crosses", "(II)V"⟩ : Cond) ∈ gtbl := gtbl_in (List.mem_of_getElem? (i := 1758) (by decide +kernel)) rfl
theorem tw_1760 : (.instanceMethod ⟨"InchBordersModel", "crosses", "(II)V"⟩ : Cond) ∈ gtbl := gtbl_in (List.mem_of_getElem? (i := 1760) (by decide +kernel)) rfl
theorem tw_73 : (.selects "InchBordersModel" ⟨"InchBordersModel", "crosses", "(II)V"⟩ ⟨"InchBordersModel", "crosses", "(II)V"⟩ : Cond) ∈ gtbl := gtbl_in (List.mem_of_getElem? (i := 73) (by decide +kernel)) rfl
theorem ok_X12_330 : xVok "InchBordersModel" MX12_crosses 330 2 := ⟨tw_1761, tw_1758, tw_1760, tw_73, tw_119, by decide +kernel, by decide⟩
theorem tw_1776 : (.code ⟨"InchBordersModel", "whyPact", "(II)I"⟩ prog_14_method_53_code 3 (some .int) : Cond) ∈ gtbl := gtbl_in (List.mem_of_getElem? (i := 1776) (by decide +kernel)) rfl
theorem tw_1773 : (.methodLink "InchBordersModel" 334 ⟨"InchBordersModel", "whyPact", "(II)I"⟩ : Cond) ∈ gtbl := gtbl_in (List.mem_of_getElem? (i := 1773) (by decide +kernel)) rfl
theorem tw_1775 : (.instanceMethod ⟨"InchBordersModel", "whyPact", "(II)I"⟩ : Cond) ∈ gtbl := gtbl_in (List.mem_of_getElem? (i := 1775) (by decide +kernel)) rfl
theorem tw_75 : (.selects "InchBordersModel" ⟨"InchBordersModel", "whyPact", "(II)I"⟩ ⟨"InchBordersModel", "whyPact", "(II)I"⟩ : Cond) ∈ gtbl := gtbl_in (List.mem_of_getElem? (i := 75) (by decide +kernel)) rfl
theorem ok_X12_334 : xVok "InchBordersModel" MX12_whyPact 334 2 := ⟨tw_1776, tw_1773, tw_1775, tw_75, tw_119, by decide +kernel, by decide⟩
theorem tw_1792 : (.code ⟨"InchBordersModel", "whyTurn", "(IZ)I"⟩ prog_14_method_54_code 3 (some .int) : Cond) ∈ gtbl := gtbl_in (List.mem_of_getElem? (i := 1792) (by decide +kernel)) rfl
theorem tw_1789 : (.methodLink "InchBordersModel" 337 ⟨"InchBordersModel", "whyTurn", "(IZ)I"⟩ : Cond) ∈ gtbl := gtbl_in (List.mem_of_getElem? (i := 1789) (by decide +kernel)) rfl
theorem tw_1791 : (.instanceMethod ⟨"InchBordersModel", "whyTurn", "(IZ)I"⟩ : Cond) ∈ gtbl := gtbl_in (List.mem_of_getElem? (i := 1791) (by decide +kernel)) rfl
theorem tw_77 : (.selects "InchBordersModel" ⟨"InchBordersModel", "whyTurn", "(IZ)I"⟩ ⟨"InchBordersModel", "whyTurn", "(IZ)I"⟩ : Cond) ∈ gtbl := gtbl_in (List.mem_of_getElem? (i := 77) (by decide +kernel)) rfl
theorem ok_X12_337 : xVok "InchBordersModel" MX12_whyTurn 337 2 := ⟨tw_1792, tw_1789, tw_1791, tw_77, tw_119, by decide +kernel, by decide⟩
theorem tw_1788 : (.code ⟨"InchBordersModel", "turns", "(IZ)I"⟩ prog_14_method_63_code 4 (some .int) : Cond) ∈ gtbl := gtbl_in (List.mem_of_getElem? (i := 1788) (by decide +kernel)) rfl
theorem tw_1785 : (.methodLink "InchBordersModel" 341 ⟨"InchBordersModel", "turns", "(IZ)I"⟩ : Cond) ∈ gtbl := gtbl_in (List.mem_of_getElem? (i := 1785) (by decide +kernel)) rfl
theorem tw_1787 : (.instanceMethod ⟨"InchBordersModel", "turns", "(IZ)I"⟩ : Cond) ∈ gtbl := gtbl_in (List.mem_of_getElem? (i := 1787) (by decide +kernel)) rfl
theorem tw_76 : (.selects "InchBordersModel" ⟨"InchBordersModel", "turns", "(IZ)I"⟩ ⟨"InchBordersModel", "turns", "(IZ)I"⟩ : Cond) ∈ gtbl := gtbl_in (List.mem_of_getElem? (i := 76) (by decide +kernel)) rfl
theorem ok_X12_341 : xVok "InchBordersModel" MX12_turns 341 2 := ⟨tw_1788, tw_1785, tw_1787, tw_76, tw_119, by decide +kernel, by decide⟩
theorem tw_1804 : (.code ⟨"InchBordersModel", "whyLend", "(III)I"⟩ prog_14_method_55_code 4 (some .int) : Cond) ∈ gtbl := gtbl_in (List.mem_of_getElem? (i := 1804) (by decide +kernel)) rfl
theorem tw_1801 : (.methodLink "InchBordersModel" 344 ⟨"InchBordersModel", "whyLend", "(III)I"⟩ : Cond) ∈ gtbl := gtbl_in (List.mem_of_getElem? (i := 1801) (by decide +kernel)) rfl
theorem tw_1803 : (.instanceMethod ⟨"InchBordersModel", "whyLend", "(III)I"⟩ : Cond) ∈ gtbl := gtbl_in (List.mem_of_getElem? (i := 1803) (by decide +kernel)) rfl
theorem tw_78 : (.selects "InchBordersModel" ⟨"InchBordersModel", "whyLend", "(III)I"⟩ ⟨"InchBordersModel", "whyLend", "(III)I"⟩ : Cond) ∈ gtbl := gtbl_in (List.mem_of_getElem? (i := 78) (by decide +kernel)) rfl
theorem ok_X12_344 : xVok "InchBordersModel" MX12_whyLend 344 3 := ⟨tw_1804, tw_1801, tw_1803, tw_78, tw_119, by decide +kernel, by decide⟩
theorem tw_1808 : (.code ⟨"InchBordersModel", "lends", "(III)V"⟩ prog_14_method_56_code 4 (none : Option Jvm.ClassFile.FieldType) : Cond) ∈ gtbl := gtbl_in (List.mem_of_getElem? (i := 1808) (by decide +kernel)) rfl
theorem tw_1805 : (.methodLink "InchBordersModel" 347 ⟨"InchBordersModel", "lends", "(III)V"⟩ : Cond) ∈ gtbl := gtbl_in (List.mem_of_getElem? (i := 1805) (by decide +kernel)) rfl
theorem tw_1807 : (.instanceMethod ⟨"InchBordersModel", "lends", "(III)V"⟩ : Cond) ∈ gtbl := gtbl_in (List.mem_of_getElem? (i := 1807) (by decide +kernel)) rfl
theorem tw_79 : (.selects "InchBordersModel" ⟨"InchBordersModel", "lends", "(III)V"⟩ ⟨"InchBordersModel", "lends", "(III)V"⟩ : Cond) ∈ gtbl := gtbl_in (List.mem_of_getElem? (i := 79) (by decide +kernel)) rfl
theorem ok_X12_347 : xVok "InchBordersModel" MX12_lends 347 3 := ⟨tw_1808, tw_1805, tw_1807, tw_79, tw_119, by decide +kernel, by decide⟩
theorem tw_1816 : (.code ⟨"InchBordersModel", "goesOn", "(I)I"⟩ prog_14_method_59_code 3 (some .int) : Cond) ∈ gtbl := gtbl_in (List.mem_of_getElem? (i := 1816) (by decide +kernel)) rfl
theorem tw_1813 : (.methodLink "InchBordersModel" 351 ⟨"InchBordersModel", "goesOn", "(I)I"⟩ : Cond) ∈ gtbl := gtbl_in (List.mem_of_getElem? (i := 1813) (by decide +kernel)) rfl
theorem tw_1815 : (.instanceMethod ⟨"InchBordersModel", "goesOn", "(I)I"⟩ : Cond) ∈ gtbl := gtbl_in (List.mem_of_getElem? (i := 1815) (by decide +kernel)) rfl
theorem tw_80 : (.selects "InchBordersModel" ⟨"InchBordersModel", "goesOn", "(I)I"⟩ ⟨"InchBordersModel", "goesOn", "(I)I"⟩ : Cond) ∈ gtbl := gtbl_in (List.mem_of_getElem? (i := 80) (by decide +kernel)) rfl
theorem ok_X12_351 : xVok "InchBordersModel" MX12_goesOn 351 1 := ⟨tw_1816, tw_1813, tw_1815, tw_80, tw_119, by decide +kernel, by decide⟩
theorem tw_1848 : (.code ⟨"InchBordersModel", "steps", "(I)Z"⟩ prog_14_method_73_code 4 (some .boolean) : Cond) ∈ gtbl := gtbl_in (List.mem_of_getElem? (i := 1848) (by decide +kernel)) rfl
theorem tw_1845 : (.methodLink "InchBordersModel" 363 ⟨"InchBordersModel", "steps", "(I)Z"⟩ : Cond) ∈ gtbl := gtbl_in (List.mem_of_getElem? (i := 1845) (by decide +kernel)) rfl
theorem tw_1847 : (.instanceMethod ⟨"InchBordersModel", "steps", "(I)Z"⟩ : Cond) ∈ gtbl := gtbl_in (List.mem_of_getElem? (i := 1847) (by decide +kernel)) rfl
theorem tw_86 : (.selects "InchBordersModel" ⟨"InchBordersModel", "steps", "(I)Z"⟩ ⟨"InchBordersModel", "steps", "(I)Z"⟩ : Cond) ∈ gtbl := gtbl_in (List.mem_of_getElem? (i := 86) (by decide +kernel)) rfl
theorem ok_X12_363 : xVok "InchBordersModel" MX12_steps 363 1 := ⟨tw_1848, tw_1845, tw_1847, tw_86, tw_119, by decide +kernel, by decide⟩
theorem tw_1840 : (.code ⟨"InchBordersModel", "starts", "(I)V"⟩ prog_14_method_72_code 2 (none : Option Jvm.ClassFile.FieldType) : Cond) ∈ gtbl := gtbl_in (List.mem_of_getElem? (i := 1840) (by decide +kernel)) rfl
theorem tw_1837 : (.methodLink "InchBordersModel" 366 ⟨"InchBordersModel", "starts", "(I)V"⟩ : Cond) ∈ gtbl := gtbl_in (List.mem_of_getElem? (i := 1837) (by decide +kernel)) rfl
theorem tw_1839 : (.instanceMethod ⟨"InchBordersModel", "starts", "(I)V"⟩ : Cond) ∈ gtbl := gtbl_in (List.mem_of_getElem? (i := 1839) (by decide +kernel)) rfl
theorem tw_84 : (.selects "InchBordersModel" ⟨"InchBordersModel", "starts", "(I)V"⟩ ⟨"InchBordersModel", "starts", "(I)V"⟩ : Cond) ∈ gtbl := gtbl_in (List.mem_of_getElem? (i := 84) (by decide +kernel)) rfl
theorem ok_X12_366 : xVok "InchBordersModel" MX12_starts 366 1 := ⟨tw_1840, tw_1837, tw_1839, tw_84, tw_119, by decide +kernel, by decide⟩
theorem tw_1844 : (.code ⟨"InchBordersModel", "goesTo", "(I)Z"⟩ prog_14_method_74_code 2 (some .boolean) : Cond) ∈ gtbl := gtbl_in (List.mem_of_getElem? (i := 1844) (by decide +kernel)) rfl
theorem tw_1841 : (.methodLink "InchBordersModel" 369 ⟨"InchBordersModel", "goesTo", "(I)Z"⟩ : Cond) ∈ gtbl := gtbl_in (List.mem_of_getElem? (i := 1841) (by decide +kernel)) rfl
theorem tw_1843 : (.instanceMethod ⟨"InchBordersModel", "goesTo", "(I)Z"⟩ : Cond) ∈ gtbl := gtbl_in (List.mem_of_getElem? (i := 1843) (by decide +kernel)) rfl
theorem tw_85 : (.selects "InchBordersModel" ⟨"InchBordersModel", "goesTo", "(I)Z"⟩ ⟨"InchBordersModel", "goesTo", "(I)Z"⟩ : Cond) ∈ gtbl := gtbl_in (List.mem_of_getElem? (i := 85) (by decide +kernel)) rfl
theorem ok_X12_369 : xVok "InchBordersModel" MX12_goesTo 369 1 := ⟨tw_1844, tw_1841, tw_1843, tw_85, tw_119, by decide +kernel, by decide⟩
theorem tw_1836 : (.code ⟨"InchBordersModel", "fewest", "(IIII)I"⟩ prog_14_method_75_code 6 (some .int) : Cond) ∈ gtbl := gtbl_in (List.mem_of_getElem? (i := 1836) (by decide +kernel)) rfl
theorem tw_1833 : (.methodLink "InchBordersModel" 373 ⟨"InchBordersModel", "fewest", "(IIII)I"⟩ : Cond) ∈ gtbl := gtbl_in (List.mem_of_getElem? (i := 1833) (by decide +kernel)) rfl
theorem tw_1835 : (.instanceMethod ⟨"InchBordersModel", "fewest", "(IIII)I"⟩ : Cond) ∈ gtbl := gtbl_in (List.mem_of_getElem? (i := 1835) (by decide +kernel)) rfl
theorem tw_83 : (.selects "InchBordersModel" ⟨"InchBordersModel", "fewest", "(IIII)I"⟩ ⟨"InchBordersModel", "fewest", "(IIII)I"⟩ : Cond) ∈ gtbl := gtbl_in (List.mem_of_getElem? (i := 83) (by decide +kernel)) rfl
theorem ok_X12_373 : xVok "InchBordersModel" MX12_fewest 373 4 := ⟨tw_1836, tw_1833, tw_1835, tw_83, tw_119, by decide +kernel, by decide⟩
theorem tw_1860 : (.code ⟨"InchBordersModel", "greater", "(II)I"⟩ prog_14_method_10_code 2 (some .int) : Cond) ∈ gtbl := gtbl_in (List.mem_of_getElem? (i := 1860) (by decide +kernel)) rfl
theorem tw_1858 : (.methodLink "InchBordersModel" 376 ⟨"InchBordersModel", "greater", "(II)I"⟩ : Cond) ∈ gtbl := gtbl_in (List.mem_of_getElem? (i := 1858) (by decide +kernel)) rfl
theorem tw_1859 : (.static ⟨"InchBordersModel", "greater", "(II)I"⟩ : Cond) ∈ gtbl := gtbl_in (List.mem_of_getElem? (i := 1859) (by decide +kernel)) rfl
theorem ok_X12_376 : xSok "InchBordersModel" MX12_greater 376 2 := ⟨tw_1860, tw_1858, tw_1859, tw_119, by decide +kernel, by decide⟩
theorem tw_1876 : (.code ⟨"InchBordersModel", "octet", "(I)I"⟩ prog_14_method_12_code 2 (some .int) : Cond) ∈ gtbl := gtbl_in (List.mem_of_getElem? (i := 1876) (by decide +kernel)) rfl
theorem tw_1873 : (.methodLink "InchBordersModel" 386 ⟨"InchBordersModel", "octet", "(I)I"⟩ : Cond) ∈ gtbl := gtbl_in (List.mem_of_getElem? (i := 1873) (by decide +kernel)) rfl
theorem tw_1875 : (.instanceMethod ⟨"InchBordersModel", "octet", "(I)I"⟩ : Cond) ∈ gtbl := gtbl_in (List.mem_of_getElem? (i := 1875) (by decide +kernel)) rfl
theorem tw_87 : (.selects "InchBordersModel" ⟨"InchBordersModel", "octet", "(I)I"⟩ ⟨"InchBordersModel", "octet", "(I)I"⟩ : Cond) ∈ gtbl := gtbl_in (List.mem_of_getElem? (i := 87) (by decide +kernel)) rfl
theorem ok_X12_386 : xVok "InchBordersModel" MX12_octet 386 1 := ⟨tw_1876, tw_1873, tw_1875, tw_87, tw_119, by decide +kernel, by decide⟩
theorem tw_1892 : (.code ⟨"InchBordersModel", "tries", "()V"⟩ prog_14_method_70_code 2 (none : Option Jvm.ClassFile.FieldType) : Cond) ∈ gtbl := gtbl_in (List.mem_of_getElem? (i := 1892) (by decide +kernel)) rfl
theorem tw_1889 : (.methodLink "InchBordersModel" 392 ⟨"InchBordersModel", "tries", "()V"⟩ : Cond) ∈ gtbl := gtbl_in (List.mem_of_getElem? (i := 1889) (by decide +kernel)) rfl
theorem tw_1891 : (.instanceMethod ⟨"InchBordersModel", "tries", "()V"⟩ : Cond) ∈ gtbl := gtbl_in (List.mem_of_getElem? (i := 1891) (by decide +kernel)) rfl
theorem tw_88 : (.selects "InchBordersModel" ⟨"InchBordersModel", "tries", "()V"⟩ ⟨"InchBordersModel", "tries", "()V"⟩ : Cond) ∈ gtbl := gtbl_in (List.mem_of_getElem? (i := 88) (by decide +kernel)) rfl
theorem ok_X12_392 : xVok "InchBordersModel" MX12_tries 392 0 := ⟨tw_1892, tw_1889, tw_1891, tw_88, tw_119, by decide +kernel, by decide⟩
theorem tw_1896 : (.code ⟨"InchBordersModel", "back", "()V"⟩ prog_14_method_71_code 2 (none : Option Jvm.ClassFile.FieldType) : Cond) ∈ gtbl := gtbl_in (List.mem_of_getElem? (i := 1896) (by decide +kernel)) rfl
theorem tw_1893 : (.methodLink "InchBordersModel" 395 ⟨"InchBordersModel", "back", "()V"⟩ : Cond) ∈ gtbl := gtbl_in (List.mem_of_getElem? (i := 1893) (by decide +kernel)) rfl
theorem tw_1895 : (.instanceMethod ⟨"InchBordersModel", "back", "()V"⟩ : Cond) ∈ gtbl := gtbl_in (List.mem_of_getElem? (i := 1895) (by decide +kernel)) rfl
theorem tw_89 : (.selects "InchBordersModel" ⟨"InchBordersModel", "back", "()V"⟩ ⟨"InchBordersModel", "back", "()V"⟩ : Cond) ∈ gtbl := gtbl_in (List.mem_of_getElem? (i := 89) (by decide +kernel)) rfl
theorem ok_X12_395 : xVok "InchBordersModel" MX12_back 395 0 := ⟨tw_1896, tw_1893, tw_1895, tw_89, tw_119, by decide +kernel, by decide⟩
theorem tw_1900 : (.code ⟨"InchBordersModel", "reorders", "(I)Z"⟩ prog_14_method_84_code 7 (some .boolean) : Cond) ∈ gtbl := gtbl_in (List.mem_of_getElem? (i := 1900) (by decide +kernel)) rfl
theorem tw_1897 : (.methodLink "InchBordersModel" 398 ⟨"InchBordersModel", "reorders", "(I)Z"⟩ : Cond) ∈ gtbl := gtbl_in (List.mem_of_getElem? (i := 1897) (by decide +kernel)) rfl
theorem tw_1899 : (.instanceMethod ⟨"InchBordersModel", "reorders", "(I)Z"⟩ : Cond) ∈ gtbl := gtbl_in (List.mem_of_getElem? (i := 1899) (by decide +kernel)) rfl
theorem tw_90 : (.selects "InchBordersModel" ⟨"InchBordersModel", "reorders", "(I)Z"⟩ ⟨"InchBordersModel", "reorders", "(I)Z"⟩ : Cond) ∈ gtbl := gtbl_in (List.mem_of_getElem? (i := 90) (by decide +kernel)) rfl
theorem ok_X12_398 : xVok "InchBordersModel" MX12_reorders 398 1 := ⟨tw_1900, tw_1897, tw_1899, tw_90, tw_119, by decide +kernel, by decide⟩
theorem tw_1912 : (.code ⟨"InchBordersModel", "areParted", "(III)Z"⟩ prog_14_method_87_code 7 (some .boolean) : Cond) ∈ gtbl := gtbl_in (List.mem_of_getElem? (i := 1912) (by decide +kernel)) rfl
theorem tw_1909 : (.methodLink "InchBordersModel" 401 ⟨"InchBordersModel", "areParted", "(III)Z"⟩ : Cond) ∈ gtbl := gtbl_in (List.mem_of_getElem? (i := 1909) (by decide +kernel)) rfl
theorem tw_1911 : (.instanceMethod ⟨"InchBordersModel", "areParted", "(III)Z"⟩ : Cond) ∈ gtbl := gtbl_in (List.mem_of_getElem? (i := 1911) (by decide +kernel)) rfl
theorem tw_91 : (.selects "InchBordersModel" ⟨"InchBordersModel", "areParted", "(III)Z"⟩ ⟨"InchBordersModel", "areParted", "(III)Z"⟩ : Cond) ∈ gtbl := gtbl_in (List.mem_of_getElem? (i := 91) (by decide +kernel)) rfl
theorem ok_X12_401 : xVok "InchBordersModel" MX12_areParted 401 3 := ⟨tw_1912, tw_1909, tw_1911, tw_91, tw_119, by decide +kernel, by decide⟩
theorem tw_1924 : (.code ⟨"InchBordersModel", "isRest", "()Z"⟩ prog_14_method_90_code 3 (some .boolean) : Cond) ∈ gtbl := gtbl_in (List.mem_of_getElem? (i := 1924) (by decide +kernel)) rfl
theorem tw_1921 : (.methodLink "InchBordersModel" 410 ⟨"InchBordersModel", "isRest", "()Z"⟩ : Cond) ∈ gtbl := gtbl_in (List.mem_of_getElem? (i := 1921) (by decide +kernel)) rfl
theorem tw_1923 : (.instanceMethod ⟨"InchBordersModel", "isRest", "()Z"⟩ : Cond) ∈ gtbl := gtbl_in (List.mem_of_getElem? (i := 1923) (by decide +kernel)) rfl
theorem tw_92 : (.selects "InchBordersModel" ⟨"InchBordersModel", "isRest", "()Z"⟩ ⟨"InchBordersModel", "isRest", "()Z"⟩ : Cond) ∈ gtbl := gtbl_in (List.mem_of_getElem? (i := 92) (by decide +kernel)) rfl
theorem ok_X12_410 : xVok "InchBordersModel" MX12_isRest 410 0 := ⟨tw_1924, tw_1921, tw_1923, tw_92, tw_119, by decide +kernel, by decide⟩
theorem tw_1937 : (.code ⟨"InchBordersModel", "lays", "(I)V"⟩ prog_14_method_92_code 2 (none : Option Jvm.ClassFile.FieldType) : Cond) ∈ gtbl := gtbl_in (List.mem_of_getElem? (i := 1937) (by decide +kernel)) rfl
theorem tw_1934 : (.methodLink "InchBordersModel" 418 ⟨"InchBordersModel", "lays", "(I)V"⟩ : Cond) ∈ gtbl := gtbl_in (List.mem_of_getElem? (i := 1934) (by decide +kernel)) rfl
theorem tw_1936 : (.instanceMethod ⟨"InchBordersModel", "lays", "(I)V"⟩ : Cond) ∈ gtbl := gtbl_in (List.mem_of_getElem? (i := 1936) (by decide +kernel)) rfl
theorem tw_94 : (.selects "InchBordersModel" ⟨"InchBordersModel", "lays", "(I)V"⟩ ⟨"InchBordersModel", "lays", "(I)V"⟩ : Cond) ∈ gtbl := gtbl_in (List.mem_of_getElem? (i := 94) (by decide +kernel)) rfl
theorem ok_X12_418 : xVok "InchBordersModel" MX12_lays 418 1 := ⟨tw_1937, tw_1934, tw_1936, tw_94, tw_119, by decide +kernel, by decide⟩
theorem tw_1932 : (.code ⟨"InchBordersModel", "spells", "(J)V"⟩ prog_14_method_93_code 4 (none : Option Jvm.ClassFile.FieldType) : Cond) ∈ gtbl := gtbl_in (List.mem_of_getElem? (i := 1932) (by decide +kernel)) rfl
theorem tw_1929 : (.methodLink "InchBordersModel" 421 ⟨"InchBordersModel", "spells", "(J)V"⟩ : Cond) ∈ gtbl := gtbl_in (List.mem_of_getElem? (i := 1929) (by decide +kernel)) rfl
theorem tw_1931 : (.instanceMethod ⟨"InchBordersModel", "spells", "(J)V"⟩ : Cond) ∈ gtbl := gtbl_in (List.mem_of_getElem? (i := 1931) (by decide +kernel)) rfl
theorem tw_93 : (.selects "InchBordersModel" ⟨"InchBordersModel", "spells", "(J)V"⟩ ⟨"InchBordersModel", "spells", "(J)V"⟩ : Cond) ∈ gtbl := gtbl_in (List.mem_of_getElem? (i := 93) (by decide +kernel)) rfl
theorem ok_X12_421 : xVok "InchBordersModel" MX12_spells 421 1 := ⟨tw_1932, tw_1929, tw_1931, tw_93, tw_119, by decide +kernel, by decide⟩
theorem tw_1941 : (.code ⟨"InchBordersModel", "says", "(J)V"⟩ prog_14_method_94_code 3 (none : Option Jvm.ClassFile.FieldType) : Cond) ∈ gtbl := gtbl_in (List.mem_of_getElem? (i := 1941) (by decide +kernel)) rfl
theorem tw_1938 : (.methodLink "InchBordersModel" 425 ⟨"InchBordersModel", "says", "(J)V"⟩ : Cond) ∈ gtbl := gtbl_in (List.mem_of_getElem? (i := 1938) (by decide +kernel)) rfl
theorem tw_1940 : (.instanceMethod ⟨"InchBordersModel", "says", "(J)V"⟩ : Cond) ∈ gtbl := gtbl_in (List.mem_of_getElem? (i := 1940) (by decide +kernel)) rfl
theorem tw_95 : (.selects "InchBordersModel" ⟨"InchBordersModel", "says", "(J)V"⟩ ⟨"InchBordersModel", "says", "(J)V"⟩ : Cond) ∈ gtbl := gtbl_in (List.mem_of_getElem? (i := 95) (by decide +kernel)) rfl
theorem ok_X12_425 : xVok "InchBordersModel" MX12_says 425 1 := ⟨tw_1941, tw_1938, tw_1940, tw_95, tw_119, by decide +kernel, by decide⟩
theorem tw_1957 : (.code ⟨"InchBordersModel", "draw", "(I)I"⟩ prog_14_method_97_code 2 (some .int) : Cond) ∈ gtbl := gtbl_in (List.mem_of_getElem? (i := 1957) (by decide +kernel)) rfl
theorem tw_1954 : (.methodLink "InchBordersModel" 432 ⟨"InchBordersModel", "draw", "(I)I"⟩ : Cond) ∈ gtbl := gtbl_in (List.mem_of_getElem? (i := 1954) (by decide +kernel)) rfl
theorem tw_1956 : (.instanceMethod ⟨"InchBordersModel", "draw", "(I)I"⟩ : Cond) ∈ gtbl := gtbl_in (List.mem_of_getElem? (i := 1956) (by decide +kernel)) rfl
theorem tw_97 : (.selects "InchBordersModel" ⟨"InchBordersModel", "draw", "(I)I"⟩ ⟨"InchBordersModel", "draw", "(I)I"⟩ : Cond) ∈ gtbl := gtbl_in (List.mem_of_getElem? (i := 97) (by decide +kernel)) rfl
theorem ok_X12_432 : xVok "InchBordersModel" MX12_draw 432 1 := ⟨tw_1957, tw_1954, tw_1956, tw_97, tw_119, by decide +kernel, by decide⟩
theorem tw_1953 : (.code ⟨"InchBordersModel", "draws", "(II)I"⟩ prog_14_method_98_code 6 (some .int) : Cond) ∈ gtbl := gtbl_in (List.mem_of_getElem? (i := 1953) (by decide +kernel)) rfl
theorem tw_1950 : (.methodLink "InchBordersModel" 435 ⟨"InchBordersModel", "draws", "(II)I"⟩ : Cond) ∈ gtbl := gtbl_in (List.mem_of_getElem? (i := 1950) (by decide +kernel)) rfl
theorem tw_1952 : (.instanceMethod ⟨"InchBordersModel", "draws", "(II)I"⟩ : Cond) ∈ gtbl := gtbl_in (List.mem_of_getElem? (i := 1952) (by decide +kernel)) rfl
theorem tw_96 : (.selects "InchBordersModel" ⟨"InchBordersModel", "draws", "(II)I"⟩ ⟨"InchBordersModel", "draws", "(II)I"⟩ : Cond) ∈ gtbl := gtbl_in (List.mem_of_getElem? (i := 96) (by decide +kernel)) rfl
theorem ok_X12_435 : xVok "InchBordersModel" MX12_draws 435 2 := ⟨tw_1953, tw_1950, tw_1952, tw_96, tw_119, by decide +kernel, by decide⟩
theorem tw_1970 : (.code ⟨"InchBordersModel", "bookLine", "()Z"⟩ prog_14_method_101_code 5 (some .boolean) : Cond) ∈ gtbl := gtbl_in (List.mem_of_getElem? (i := 1970) (by decide +kernel)) rfl
theorem tw_1967 : (.methodLink "InchBordersModel" 441 ⟨"InchBordersModel", "bookLine", "()Z"⟩ : Cond) ∈ gtbl := gtbl_in (List.mem_of_getElem? (i := 1967) (by decide +kernel)) rfl
theorem tw_1969 : (.instanceMethod ⟨"InchBordersModel", "bookLine", "()Z"⟩ : Cond) ∈ gtbl := gtbl_in (List.mem_of_getElem? (i := 1969) (by decide +kernel)) rfl
theorem tw_98 : (.selects "InchBordersModel" ⟨"InchBordersModel", "bookLine", "()Z"⟩ ⟨"InchBordersModel", "bookLine", "()Z"⟩ : Cond) ∈ gtbl := gtbl_in (List.mem_of_getElem? (i := 98) (by decide +kernel)) rfl
theorem ok_X12_441 : xVok "InchBordersModel" MX12_bookLine 441 0 := ⟨tw_1970, tw_1967, tw_1969, tw_98, tw_119, by decide +kernel, by decide⟩
theorem tw_1974 : (.code ⟨"InchBordersModel", "does", "(IIII)I"⟩ prog_14_method_102_code 6 (some .int) : Cond) ∈ gtbl := gtbl_in (List.mem_of_getElem? (i := 1974) (by decide +kernel)) rfl
theorem tw_1971 : (.methodLink "InchBordersModel" 444 ⟨"InchBordersModel", "does", "(IIII)I"⟩ : Cond) ∈ gtbl := gtbl_in (List.mem_of_getElem? (i := 1971) (by decide +kernel)) rfl
theorem tw_1973 : (.instanceMethod ⟨"InchBordersModel", "does", "(IIII)I"⟩ : Cond) ∈ gtbl := gtbl_in (List.mem_of_getElem? (i := 1973) (by decide +kernel)) rfl
theorem tw_99 : (.selects "InchBordersModel" ⟨"InchBordersModel", "does", "(IIII)I"⟩ ⟨"InchBordersModel", "does", "(IIII)I"⟩ : Cond) ∈ gtbl := gtbl_in (List.mem_of_getElem? (i := 99) (by decide +kernel)) rfl
theorem ok_X12_444 : xVok "InchBordersModel" MX12_does 444 4 := ⟨tw_1974, tw_1971, tw_1973, tw_99, tw_119, by decide +kernel, by decide⟩
theorem tw_1990 : (.code ⟨"InchBordersModel", "code", "(III)V"⟩ prog_14_method_105_code 4 (none : Option Jvm.ClassFile.FieldType) : Cond) ∈ gtbl := gtbl_in (List.mem_of_getElem? (i := 1990) (by decide +kernel)) rfl
theorem tw_1987 : (.methodLink "InchBordersModel" 456 ⟨"InchBordersModel", "code", "(III)V"⟩ : Cond) ∈ gtbl := gtbl_in (List.mem_of_getElem? (i := 1987) (by decide +kernel)) rfl
theorem tw_1989 : (.instanceMethod ⟨"InchBordersModel", "code", "(III)V"⟩ : Cond) ∈ gtbl := gtbl_in (List.mem_of_getElem? (i := 1989) (by decide +kernel)) rfl
theorem tw_101 : (.selects "InchBordersModel" ⟨"InchBordersModel", "code", "(III)V"⟩ ⟨"InchBordersModel", "code", "(III)V"⟩ : Cond) ∈ gtbl := gtbl_in (List.mem_of_getElem? (i := 101) (by decide +kernel)) rfl
theorem ok_X12_456 : xVok "InchBordersModel" MX12_code 456 3 := ⟨tw_1990, tw_1987, tw_1989, tw_101, tw_119, by decide +kernel, by decide⟩
theorem tw_2006 : (.code ⟨"InchBordersModel", "leafOf", "()I"⟩ prog_14_method_108_code 1 (some .int) : Cond) ∈ gtbl := gtbl_in (List.mem_of_getElem? (i := 2006) (by decide +kernel)) rfl
theorem tw_2003 : (.methodLink "InchBordersModel" 462 ⟨"InchBordersModel", "leafOf", "()I"⟩ : Cond) ∈ gtbl := gtbl_in (List.mem_of_getElem? (i := 2003) (by decide +kernel)) rfl
theorem tw_2005 : (.instanceMethod ⟨"InchBordersModel", "leafOf", "()I"⟩ : Cond) ∈ gtbl := gtbl_in (List.mem_of_getElem? (i := 2005) (by decide +kernel)) rfl
theorem tw_105 : (.selects "InchBordersModel" ⟨"InchBordersModel", "leafOf", "()I"⟩ ⟨"InchBordersModel", "leafOf", "()I"⟩ : Cond) ∈ gtbl := gtbl_in (List.mem_of_getElem? (i := 105) (by decide +kernel)) rfl
theorem ok_X12_462 : xVok "InchBordersModel" MX12_leafOf 462 0 := ⟨tw_2006, tw_2003, tw_2005, tw_105, tw_119, by decide +kernel, by decide⟩
theorem tw_1986 : (.code ⟨"InchBordersModel", "nots", "()V"⟩ prog_14_method_107_code 1 (none : Option Jvm.ClassFile.FieldType) : Cond) ∈ gtbl := gtbl_in (List.mem_of_getElem? (i := 1986) (by decide +kernel)) rfl
theorem tw_1983 : (.methodLink "InchBordersModel" 471 ⟨"InchBordersModel", "nots", "()V"⟩ : Cond) ∈ gtbl := gtbl_in (List.mem_of_getElem? (i := 1983) (by decide +kernel)) rfl
theorem tw_1985 : (.instanceMethod ⟨"InchBordersModel", "nots", "()V"⟩ : Cond) ∈ gtbl := gtbl_in (List.mem_of_getElem? (i := 1985) (by decide +kernel)) rfl
theorem tw_100 : (.selects "InchBordersModel" ⟨"InchBordersModel", "nots", "()V"⟩ ⟨"InchBordersModel", "nots", "()V"⟩ : Cond) ∈ gtbl := gtbl_in (List.mem_of_getElem? (i := 100) (by decide +kernel)) rfl
theorem ok_X12_471 : xVok "InchBordersModel" MX12_nots 471 0 := ⟨tw_1986, tw_1983, tw_1985, tw_100, tw_119, by decide +kernel, by decide⟩
theorem tw_1994 : (.code ⟨"InchBordersModel", "joins", "(I)V"⟩ prog_14_method_106_code 2 (none : Option Jvm.ClassFile.FieldType) : Cond) ∈ gtbl := gtbl_in (List.mem_of_getElem? (i := 1994) (by decide +kernel)) rfl
theorem tw_1991 : (.methodLink "InchBordersModel" 474 ⟨"InchBordersModel", "joins", "(I)V"⟩ : Cond) ∈ gtbl := gtbl_in (List.mem_of_getElem? (i := 1991) (by decide +kernel)) rfl
theorem tw_1993 : (.instanceMethod ⟨"InchBordersModel", "joins", "(I)V"⟩ : Cond) ∈ gtbl := gtbl_in (List.mem_of_getElem? (i := 1993) (by decide +kernel)) rfl
theorem tw_102 : (.selects "InchBordersModel" ⟨"InchBordersModel", "joins", "(I)V"⟩ ⟨"InchBordersModel", "joins", "(I)V"⟩ : Cond) ∈ gtbl := gtbl_in (List.mem_of_getElem? (i := 102) (by decide +kernel)) rfl
theorem ok_X12_474 : xVok "InchBordersModel" MX12_joins 474 1 := ⟨tw_1994, tw_1991, tw_1993, tw_102, tw_119, by decide +kernel, by decide⟩
theorem tw_1998 : (.code ⟨"InchBordersModel", "behind", "()Z"⟩ prog_14_method_110_code 1 (some .boolean) : Cond) ∈ gtbl := gtbl_in (List.mem_of_getElem? (i := 1998) (by decide +kernel)) rfl
theorem tw_1995 : (.methodLink "InchBordersModel" 477 ⟨"InchBordersModel", "behind", "()Z"⟩ : Cond) ∈ gtbl := gtbl_in (List.mem_of_getElem? (i := 1995) (by decide +kernel)) rfl
theorem tw_1997 : (.instanceMethod ⟨"InchBordersModel", "behind", "()Z"⟩ : Cond) ∈ gtbl := gtbl_in (List.mem_of_getElem? (i := 1997) (by decide +kernel)) rfl
theorem tw_103 : (.selects "InchBordersModel" ⟨"InchBordersModel", "behind", "()Z"⟩ ⟨"InchBordersModel", "behind", "()Z"⟩ : Cond) ∈ gtbl := gtbl_in (List.mem_of_getElem? (i := 103) (by decide +kernel)) rfl
theorem ok_X12_477 : xVok "InchBordersModel" MX12_behind 477 0 := ⟨tw_1998, tw_1995, tw_1997, tw_103, tw_119, by decide +kernel, by decide⟩
theorem tw_2002 : (.code ⟨"InchBordersModel", "operand", "()Z"⟩ prog_14_method_109_code 5 (some .boolean) : Cond) ∈ gtbl := gtbl_in (List.mem_of_getElem? (i := 2002) (by decide +kernel)) rfl
theorem tw_1999 : (.methodLink "InchBordersModel" 480 ⟨"InchBordersModel", "operand", "()Z"⟩ : Cond) ∈ gtbl := gtbl_in (List.mem_of_getElem? (i := 1999) (by decide +kernel)) rfl
theorem tw_2001 : (.instanceMethod ⟨"InchBordersModel", "operand", "()Z"⟩ : Cond) ∈ gtbl := gtbl_in (List.mem_of_getElem? (i := 2001) (by decide +kernel)) rfl
theorem tw_104 : (.selects "InchBordersModel" ⟨"InchBordersModel", "operand", "()Z"⟩ ⟨"InchBordersModel", "operand", "()Z"⟩ : Cond) ∈ gtbl := gtbl_in (List.mem_of_getElem? (i := 104) (by decide +kernel)) rfl
theorem ok_X12_480 : xVok "InchBordersModel" MX12_operand 480 0 := ⟨tw_2002, tw_1999, tw_2001, tw_104, tw_119, by decide +kernel, by decide⟩
theorem tw_2018 : (.code ⟨"InchBordersModel", "isLeaf", "(IIII)Z"⟩ prog_14_method_112_code 6 (some .boolean) : Cond) ∈ gtbl := gtbl_in (List.mem_of_getElem? (i := 2018) (by decide +kernel)) rfl
theorem tw_2015 : (.methodLink "InchBordersModel" 483 ⟨"InchBordersModel", "isLeaf", "(IIII)Z"⟩ : Cond) ∈ gtbl := gtbl_in (List.mem_of_getElem? (i := 2015) (by decide +kernel)) rfl
theorem tw_2017 : (.instanceMethod ⟨"InchBordersModel", "isLeaf", "(IIII)Z"⟩ : Cond) ∈ gtbl := gtbl_in (List.mem_of_getElem? (i := 2017) (by decide +kernel)) rfl
theorem tw_107 : (.selects "InchBordersModel" ⟨"InchBordersModel", "isLeaf", "(IIII)Z"⟩ ⟨"InchBordersModel", "isLeaf", "(IIII)Z"⟩ : Cond) ∈ gtbl := gtbl_in (List.mem_of_getElem? (i := 107) (by decide +kernel)) rfl
theorem ok_X12_483 : xVok "InchBordersModel" MX12_isLeaf 483 4 := ⟨tw_2018, tw_2015, tw_2017, tw_107, tw_119, by decide +kernel, by decide⟩
theorem tw_2014 : (.code ⟨"InchBordersModel", "isSaid", "(I)Z"⟩ prog_14_method_113_code 5 (some .boolean) : Cond) ∈ gtbl := gtbl_in (List.mem_of_getElem? (i := 2014) (by decide +kernel)) rfl
theorem tw_2011 : (.methodLink "InchBordersModel" 487 ⟨"InchBordersModel", "isSaid", "(I)Z"⟩ : Cond) ∈ gtbl := gtbl_in (List.mem_of_getElem? (i := 2011) (by decide +kernel)) rfl
theorem tw_2013 : (.instanceMethod ⟨"InchBordersModel", "isSaid", "(I)Z"⟩ : Cond) ∈ gtbl := gtbl_in (List.mem_of_getElem? (i := 2013) (by decide +kernel)) rfl
theorem tw_106 : (.selects "InchBordersModel" ⟨"InchBordersModel", "isSaid", "(I)Z"⟩ ⟨"InchBordersModel", "isSaid", "(I)Z"⟩ : Cond) ∈ gtbl := gtbl_in (List.mem_of_getElem? (i := 106) (by decide +kernel)) rfl
theorem ok_X12_487 : xVok "InchBordersModel" MX12_isSaid 487 1 := ⟨tw_2014, tw_2011, tw_2013, tw_106, tw_119, by decide +kernel, by decide⟩
theorem tw_1381 : (.constantLong "InchBordersModel" 114 (1818324580 : Int64) : Cond) ∈ gtbl := gtbl_in (List.mem_of_getElem? (i := 1381) (by decide +kernel)) rfl
theorem tw_1382 : (.constantLong "InchBordersModel" 116 (495874699877 : Int64) : Cond) ∈ gtbl := gtbl_in (List.mem_of_getElem? (i := 1382) (by decide +kernel)) rfl
theorem tw_1383 : (.constantLong "InchBordersModel" 118 (1919902052 : Int64) : Cond) ∈ gtbl := gtbl_in (List.mem_of_getElem? (i := 1383) (by decide +kernel)) rfl
theorem tw_1384 : (.constantLong "InchBordersModel" 120 (128034675979385 : Int64) : Cond) ∈ gtbl := gtbl_in (List.mem_of_getElem? (i := 1384) (by decide +kernel)) rfl
theorem tw_1385 : (.constantLong "InchBordersModel" 122 (123581014175598 : Int64) : Cond) ∈ gtbl := gtbl_in (List.mem_of_getElem? (i := 1385) (by decide +kernel)) rfl
theorem tw_1386 : (.constantLong "InchBordersModel" 124 (27991845698233715 : Int64) : Cond) ∈ gtbl := gtbl_in (List.mem_of_getElem? (i := 1386) (by decide +kernel)) rfl
theorem tw_1387 : (.constantLong "InchBordersModel" 126 (1885430644 : Int64) : Cond) ∈ gtbl := gtbl_in (List.mem_of_getElem? (i := 1387) (by decide +kernel)) rfl
theorem tw_1388 : (.constantLong "InchBordersModel" 128 (422826041707 : Int64) : Cond) ∈ gtbl := gtbl_in (List.mem_of_getElem? (i := 1388) (by decide +kernel)) rfl
theorem tw_1389 : (.constantLong "InchBordersModel" 130 (427021005669 : Int64) : Cond) ∈ gtbl := gtbl_in (List.mem_of_getElem? (i := 1389) (by decide +kernel)) rfl
theorem tw_1390 : (.constantLong "InchBordersModel" 132 (1869636974 : Int64) : Cond) ∈ gtbl := gtbl_in (List.mem_of_getElem? (i := 1390) (by decide +kernel)) rfl
theorem tw_1391 : (.constantLong "InchBordersModel" 134 (1818586724 : Int64) : Cond) ∈ gtbl := gtbl_in (List.mem_of_getElem? (i := 1391) (by decide +kernel)) rfl
theorem tw_1392 : (.constantLong "InchBordersModel" 136 (6578553 : Int64) : Cond) ∈ gtbl := gtbl_in (List.mem_of_getElem? (i := 1392) (by decide +kernel)) rfl
theorem tw_1393 : (.constantLong "InchBordersModel" 138 (28530 : Int64) : Cond) ∈ gtbl := gtbl_in (List.mem_of_getElem? (i := 1393) (by decide +kernel)) rfl
theorem tw_1394 : (.constantLong "InchBordersModel" 140 (6385252 : Int64) : Cond) ∈ gtbl := gtbl_in (List.mem_of_getElem? (i := 1394) (by decide +kernel)) rfl
theorem tw_1395 : (.constantLong "InchBordersModel" 142 (7237492 : Int64) : Cond) ∈ gtbl := gtbl_in (List.mem_of_getElem? (i := 1395) (by decide +kernel)) rfl
theorem tw_1396 : (.constantLong "InchBordersModel" 144 (1752132965 : Int64) : Cond) ∈ gtbl := gtbl_in (List.mem_of_getElem? (i := 1396) (by decide +kernel)) rfl
theorem tw_1397 : (.constantLong "InchBordersModel" 146 (495875089259 : Int64) : Cond) ∈ gtbl := gtbl_in (List.mem_of_getElem? (i := 1397) (by decide +kernel)) rfl
theorem tw_1398 : (.constantLong "InchBordersModel" 148 (26990 : Int64) : Cond) ∈ gtbl := gtbl_in (List.mem_of_getElem? (i := 1398) (by decide +kernel)) rfl
theorem tw_1399 : (.constantLong "InchBordersModel" 150 (28518 : Int64) : Cond) ∈ gtbl := gtbl_in (List.mem_of_getElem? (i := 1399) (by decide +kernel)) rfl
theorem tw_1400 : (.constantLong "InchBordersModel" 152 (1718773093 : Int64) : Cond) ∈ gtbl := gtbl_in (List.mem_of_getElem? (i := 1400) (by decide +kernel)) rfl
theorem tw_1401 : (.constantLong "InchBordersModel" 154 (119182899770472 : Int64) : Cond) ∈ gtbl := gtbl_in (List.mem_of_getElem? (i := 1401) (by decide +kernel)) rfl
theorem tw_1402 : (.constantLong "InchBordersModel" 156 (499850634606 : Int64) : Cond) ∈ gtbl := gtbl_in (List.mem_of_getElem? (i := 1402) (by decide +kernel)) rfl
theorem tw_1403 : (.constantLong "InchBordersModel" 158 (27991845698233700 : Int64) : Cond) ∈ gtbl := gtbl_in (List.mem_of_getElem? (i := 1403) (by decide +kernel)) rfl
theorem tw_1404 : (.constantLong "InchBordersModel" 160 (121450625394034 : Int64) : Cond) ∈ gtbl := gtbl_in (List.mem_of_getElem? (i := 1404) (by decide +kernel)) rfl
theorem tw_1933 : (.constantLong "InchBordersModel" 416 (255 : Int64) : Cond) ∈ gtbl := gtbl_in (List.mem_of_getElem? (i := 1933) (by decide +kernel)) rfl
theorem bipush_m2 : (Int8.ofInt (-2)).toInt32 = (-2 : Int32) := by decide
theorem bipush_6 : (Int8.ofInt (6)).toInt32 = nI 6 := by decide
theorem bipush_7 : (Int8.ofInt (7)).toInt32 = nI 7 := by decide
theorem bipush_8 : (Int8.ofInt (8)).toInt32 = nI 8 := by decide
theorem bipush_9 : (Int8.ofInt (9)).toInt32 = nI 9 := by decide
theorem bipush_10 : (Int8.ofInt (10)).toInt32 = nI 10 := by decide
theorem bipush_11 : (Int8.ofInt (11)).toInt32 = nI 11 := by decide
theorem bipush_12 : (Int8.ofInt (12)).toInt32 = nI 12 := by decide
theorem bipush_13 : (Int8.ofInt (13)).toInt32 = nI 13 := by decide
theorem bipush_14 : (Int8.ofInt (14)).toInt32 = nI 14 := by decide
theorem bipush_15 : (Int8.ofInt (15)).toInt32 = nI 15 := by decide
theorem bipush_16 : (Int8.ofInt (16)).toInt32 = nI 16 := by decide
theorem bipush_17 : (Int8.ofInt (17)).toInt32 = nI 17 := by decide
theorem bipush_18 : (Int8.ofInt (18)).toInt32 = nI 18 := by decide
theorem bipush_19 : (Int8.ofInt (19)).toInt32 = nI 19 := by decide
theorem bipush_20 : (Int8.ofInt (20)).toInt32 = nI 20 := by decide
theorem bipush_21 : (Int8.ofInt (21)).toInt32 = nI 21 := by decide
theorem bipush_22 : (Int8.ofInt (22)).toInt32 = nI 22 := by decide
theorem bipush_23 : (Int8.ofInt (23)).toInt32 = nI 23 := by decide
theorem bipush_24 : (Int8.ofInt (24)).toInt32 = nI 24 := by decide
theorem bipush_26 : (Int8.ofInt (26)).toInt32 = nI 26 := by decide
theorem bipush_30 : (Int8.ofInt (30)).toInt32 = nI 30 := by decide
theorem bipush_31 : (Int8.ofInt (31)).toInt32 = nI 31 := by decide
theorem bipush_32 : (Int8.ofInt (32)).toInt32 = nI 32 := by decide
theorem bipush_36 : (Int8.ofInt (36)).toInt32 = nI 36 := by decide
theorem bipush_40 : (Int8.ofInt (40)).toInt32 = nI 40 := by decide
theorem bipush_41 : (Int8.ofInt (41)).toInt32 = nI 41 := by decide
theorem bipush_45 : (Int8.ofInt (45)).toInt32 = nI 45 := by decide
theorem bipush_47 : (Int8.ofInt (47)).toInt32 = nI 47 := by decide
theorem bipush_48 : (Int8.ofInt (48)).toInt32 = nI 48 := by decide
theorem bipush_49 : (Int8.ofInt (49)).toInt32 = nI 49 := by decide
theorem bipush_56 : (Int8.ofInt (56)).toInt32 = nI 56 := by decide
theorem bipush_57 : (Int8.ofInt (57)).toInt32 = nI 57 := by decide
theorem bipush_59 : (Int8.ofInt (59)).toInt32 = nI 59 := by decide
theorem bipush_60 : (Int8.ofInt (60)).toInt32 = nI 60 := by decide
theorem bipush_61 : (Int8.ofInt (61)).toInt32 = nI 61 := by decide
theorem bipush_62 : (Int8.ofInt (62)).toInt32 = nI 62 := by decide
theorem bipush_63 : (Int8.ofInt (63)).toInt32 = nI 63 := by decide
theorem bipush_72 : (Int8.ofInt (72)).toInt32 = nI 72 := by decide
theorem bipush_79 : (Int8.ofInt (79)).toInt32 = nI 79 := by decide
theorem bipush_85 : (Int8.ofInt (85)).toInt32 = nI 85 := by decide
theorem bipush_91 : (Int8.ofInt (91)).toInt32 = nI 91 := by decide
theorem bipush_92 : (Int8.ofInt (92)).toInt32 = nI 92 := by decide
theorem bipush_93 : (Int8.ofInt (93)).toInt32 = nI 93 := by decide
theorem bipush_94 : (Int8.ofInt (94)).toInt32 = nI 94 := by decide
theorem bipush_96 : (Int8.ofInt (96)).toInt32 = nI 96 := by decide
theorem bipush_97 : (Int8.ofInt (97)).toInt32 = nI 97 := by decide
theorem bipush_99 : (Int8.ofInt (99)).toInt32 = nI 99 := by decide
theorem bipush_100 : (Int8.ofInt (100)).toInt32 = nI 100 := by decide
theorem bipush_101 : (Int8.ofInt (101)).toInt32 = nI 101 := by decide
theorem bipush_108 : (Int8.ofInt (108)).toInt32 = nI 108 := by decide
theorem bipush_114 : (Int8.ofInt (114)).toInt32 = nI 114 := by decide
theorem bipush_120 : (Int8.ofInt (120)).toInt32 = nI 120 := by decide
theorem bipush_122 : (Int8.ofInt (122)).toInt32 = nI 122 := by decide
theorem bipush_126 : (Int8.ofInt (126)).toInt32 = nI 126 := by decide
theorem iconst_m1 : Int32.ofInt (-1) = (-1 : Int32) := by decide
theorem iconst_0 : Int32.ofInt (0) = nI 0 := by decide
theorem iconst_1 : Int32.ofInt (1) = nI 1 := by decide
theorem iconst_2 : Int32.ofInt (2) = nI 2 := by decide
theorem iconst_3 : Int32.ofInt (3) = nI 3 := by decide
theorem iconst_4 : Int32.ofInt (4) = nI 4 := by decide
theorem iconst_5 : Int32.ofInt (5) = nI 5 := by decide
theorem sipush_m1000 : (Int16.ofInt (-1000)).toInt32 = (-1000 : Int32) := by decide
theorem sipush_132 : (Int16.ofInt (132)).toInt32 = nI 132 := by decide
theorem sipush_138 : (Int16.ofInt (138)).toInt32 = nI 138 := by decide
theorem sipush_139 : (Int16.ofInt (139)).toInt32 = nI 139 := by decide
theorem sipush_160 : (Int16.ofInt (160)).toInt32 = nI 160 := by decide
theorem sipush_200 : (Int16.ofInt (200)).toInt32 = nI 200 := by decide
theorem sipush_240 : (Int16.ofInt (240)).toInt32 = nI 240 := by decide
theorem sipush_255 : (Int16.ofInt (255)).toInt32 = nI 255 := by decide
theorem sipush_319 : (Int16.ofInt (319)).toInt32 = nI 319 := by decide
theorem sipush_329 : (Int16.ofInt (329)).toInt32 = nI 329 := by decide
theorem sipush_376 : (Int16.ofInt (376)).toInt32 = nI 376 := by decide
theorem sipush_400 : (Int16.ofInt (400)).toInt32 = nI 400 := by decide
theorem sipush_638 : (Int16.ofInt (638)).toInt32 = nI 638 := by decide
theorem sipush_900 : (Int16.ofInt (900)).toInt32 = nI 900 := by decide
theorem sipush_940 : (Int16.ofInt (940)).toInt32 = nI 940 := by decide
theorem sipush_941 : (Int16.ofInt (941)).toInt32 = nI 941 := by decide
theorem sipush_999 : (Int16.ofInt (999)).toInt32 = nI 999 := by decide
theorem sipush_12345 : (Int16.ofInt (12345)).toInt32 = nI 12345 := by decide
