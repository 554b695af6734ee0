theorem dX12_thrown_0 : decode cX12_thrown 0 = .ok (.aload_n 0, 1) := by decide +kernel
theorem dX12_thrown_1 : decode cX12_thrown 1 = .ok (.getfield 1, 3) := by decide +kernel
theorem dX12_thrown_4 : decode cX12_thrown 4 = .ok (.ireturn, 1) := by decide +kernel
theorem dX12_throwsIf_0 : decode cX12_throwsIf 0 = .ok (.aload_n 0, 1) := by decide +kernel
theorem dX12_throwsIf_1 : decode cX12_throwsIf 1 = .ok (.iload_n 1, 1) := by decide +kernel
theorem dX12_throwsIf_2 : decode cX12_throwsIf 2 = .ok (.ifCond .eq 7, 3) := by decide +kernel
theorem dX12_throwsIf_5 : decode cX12_throwsIf 5 = .ok (.iconst 1, 1) := by decide +kernel
theorem dX12_throwsIf_6 : decode cX12_throwsIf 6 = .ok (.goto 4, 3) := by decide +kernel
theorem dX12_throwsIf_9 : decode cX12_throwsIf 9 = .ok (.iconst 0, 1) := by decide +kernel
theorem dX12_throwsIf_10 : decode cX12_throwsIf 10 = .ok (.putfield 1, 3) := by decide +kernel
theorem dX12_throwsIf_13 : decode cX12_throwsIf 13 = .ok (.iload_n 1, 1) := by decide +kernel
theorem dX12_throwsIf_14 : decode cX12_throwsIf 14 = .ok (.ireturn, 1) := by decide +kernel
theorem dX12_feed_0 : decode cX12_feed 0 = .ok (.aload_n 0, 1) := by decide +kernel
theorem dX12_feed_1 : decode cX12_feed 1 = .ok (.iconst 0, 1) := by decide +kernel
theorem dX12_feed_2 : decode cX12_feed 2 = .ok (.putfield 1, 3) := by decide +kernel
theorem dX12_feed_5 : decode cX12_feed 5 = .ok (.aload_n 0, 1) := by decide +kernel
theorem dX12_feed_6 : decode cX12_feed 6 = .ok (.getfield 7, 3) := by decide +kernel
theorem dX12_feed_9 : decode cX12_feed 9 = .ok (.bipush 20, 2) := by decide +kernel
theorem dX12_feed_11 : decode cX12_feed 11 = .ok (.iadd, 1) := by decide +kernel
theorem dX12_feed_12 : decode cX12_feed 12 = .ok (.sipush 940, 3) := by decide +kernel
theorem dX12_feed_15 : decode cX12_feed 15 = .ok (.if_icmp .le 5, 3) := by decide +kernel
theorem dX12_feed_18 : decode cX12_feed 18 = .ok (.iconst (-1), 1) := by decide +kernel
theorem dX12_feed_19 : decode cX12_feed 19 = .ok (.ireturn, 1) := by decide +kernel
theorem dX12_feed_20 : decode cX12_feed 20 = .ok (.aload_n 0, 1) := by decide +kernel
theorem dX12_feed_21 : decode cX12_feed 21 = .ok (.iload_n 1, 1) := by decide +kernel
theorem dX12_feed_22 : decode cX12_feed 22 = .ok (.invokevirtual 10, 3) := by decide +kernel
theorem dX12_feed_25 : decode cX12_feed 25 = .ok (.aload_n 0, 1) := by decide +kernel
theorem dX12_feed_26 : decode cX12_feed 26 = .ok (.iload_n 2, 1) := by decide +kernel
theorem dX12_feed_27 : decode cX12_feed 27 = .ok (.invokevirtual 10, 3) := by decide +kernel
theorem dX12_feed_30 : decode cX12_feed 30 = .ok (.aload_n 0, 1) := by decide +kernel
theorem dX12_feed_31 : decode cX12_feed 31 = .ok (.iload_n 3, 1) := by decide +kernel
theorem dX12_feed_32 : decode cX12_feed 32 = .ok (.invokevirtual 10, 3) := by decide +kernel
theorem dX12_feed_35 : decode cX12_feed 35 = .ok (.aload_n 0, 1) := by decide +kernel
theorem dX12_feed_36 : decode cX12_feed 36 = .ok (.iload 4, 2) := by decide +kernel
theorem dX12_feed_38 : decode cX12_feed 38 = .ok (.invokevirtual 10, 3) := by decide +kernel
theorem dX12_feed_41 : decode cX12_feed 41 = .ok (.aload_n 0, 1) := by decide +kernel
theorem dX12_feed_42 : decode cX12_feed 42 = .ok (.iload 5, 2) := by decide +kernel
theorem dX12_feed_44 : decode cX12_feed 44 = .ok (.invokevirtual 10, 3) := by decide +kernel
theorem dX12_feed_47 : decode cX12_feed 47 = .ok (.aload_n 0, 1) := by decide +kernel
theorem dX12_feed_48 : decode cX12_feed 48 = .ok (.getfield 7, 3) := by decide +kernel
theorem dX12_feed_51 : decode cX12_feed 51 = .ok (.ireturn, 1) := by decide +kernel
theorem dX12_four_0 : decode cX12_four 0 = .ok (.bipush 24, 2) := by decide +kernel
theorem dX12_four_2 : decode cX12_four 2 = .ok (.istore_n 2, 1) := by decide +kernel
theorem dX12_four_3 : decode cX12_four 3 = .ok (.iload_n 2, 1) := by decide +kernel
theorem dX12_four_4 : decode cX12_four 4 = .ok (.ifCond .lt 32, 3) := by decide +kernel
theorem dX12_four_7 : decode cX12_four 7 = .ok (.aload_n 0, 1) := by decide +kernel
theorem dX12_four_8 : decode cX12_four 8 = .ok (.getfield 14, 3) := by decide +kernel
theorem dX12_four_11 : decode cX12_four 11 = .ok (.aload_n 0, 1) := by decide +kernel
theorem dX12_four_12 : decode cX12_four 12 = .ok (.getfield 7, 3) := by decide +kernel
theorem dX12_four_15 : decode cX12_four 15 = .ok (.iload_n 1, 1) := by decide +kernel
theorem dX12_four_16 : decode cX12_four 16 = .ok (.iload_n 2, 1) := by decide +kernel
theorem dX12_four_17 : decode cX12_four 17 = .ok (.ishr, 1) := by decide +kernel
theorem dX12_four_18 : decode cX12_four 18 = .ok (.i2b, 1) := by decide +kernel
theorem dX12_four_19 : decode cX12_four 19 = .ok (.bastore, 1) := by decide +kernel
theorem dX12_four_20 : decode cX12_four 20 = .ok (.aload_n 0, 1) := by decide +kernel
theorem dX12_four_21 : decode cX12_four 21 = .ok (.dup, 1) := by decide +kernel
theorem dX12_four_22 : decode cX12_four 22 = .ok (.getfield 7, 3) := by decide +kernel
theorem dX12_four_25 : decode cX12_four 25 = .ok (.iconst 1, 1) := by decide +kernel
theorem dX12_four_26 : decode cX12_four 26 = .ok (.iadd, 1) := by decide +kernel
theorem dX12_four_27 : decode cX12_four 27 = .ok (.putfield 7, 3) := by decide +kernel
theorem dX12_four_30 : decode cX12_four 30 = .ok (.iinc 2 (-8), 3) := by decide +kernel
theorem dX12_four_33 : decode cX12_four 33 = .ok (.goto (-30), 3) := by decide +kernel
theorem dX12_four_36 : decode cX12_four 36 = .ok (.return_, 1) := by decide +kernel
theorem dX12_end_0 : decode cX12_end 0 = .ok (.aload_n 0, 1) := by decide +kernel
theorem dX12_end_1 : decode cX12_end 1 = .ok (.iconst 0, 1) := by decide +kernel
theorem dX12_end_2 : decode cX12_end 2 = .ok (.putfield 1, 3) := by decide +kernel
theorem dX12_end_5 : decode cX12_end 5 = .ok (.iload_n 1, 1) := by decide +kernel
theorem dX12_end_6 : decode cX12_end 6 = .ok (.ifCond .lt 11, 3) := by decide +kernel
theorem dX12_end_9 : decode cX12_end 9 = .ok (.iload_n 1, 1) := by decide +kernel
theorem dX12_end_10 : decode cX12_end 10 = .ok (.aload_n 0, 1) := by decide +kernel
theorem dX12_end_11 : decode cX12_end 11 = .ok (.getfield 7, 3) := by decide +kernel
theorem dX12_end_14 : decode cX12_end 14 = .ok (.if_icmp .le 5, 3) := by decide +kernel
theorem dX12_end_17 : decode cX12_end 17 = .ok (.iconst 0, 1) := by decide +kernel
theorem dX12_end_18 : decode cX12_end 18 = .ok (.ireturn, 1) := by decide +kernel
theorem dX12_end_19 : decode cX12_end 19 = .ok (.aload_n 0, 1) := by decide +kernel
theorem dX12_end_20 : decode cX12_end 20 = .ok (.iload_n 1, 1) := by decide +kernel
theorem dX12_end_21 : decode cX12_end 21 = .ok (.putfield 7, 3) := by decide +kernel
theorem dX12_end_24 : decode cX12_end 24 = .ok (.iconst 1, 1) := by decide +kernel
theorem dX12_end_25 : decode cX12_end 25 = .ok (.ireturn, 1) := by decide +kernel
theorem dX12_taken_0 : decode cX12_taken 0 = .ok (.aload_n 0, 1) := by decide +kernel
theorem dX12_taken_1 : decode cX12_taken 1 = .ok (.aload_n 0, 1) := by decide +kernel
theorem dX12_taken_2 : decode cX12_taken 2 = .ok (.getfield 7, 3) := by decide +kernel
theorem dX12_taken_5 : decode cX12_taken 5 = .ok (.putfield 18, 3) := by decide +kernel
theorem dX12_taken_8 : decode cX12_taken 8 = .ok (.aload_n 0, 1) := by decide +kernel
theorem dX12_taken_9 : decode cX12_taken 9 = .ok (.iconst 0, 1) := by decide +kernel
theorem dX12_taken_10 : decode cX12_taken 10 = .ok (.putfield 7, 3) := by decide +kernel
theorem dX12_taken_13 : decode cX12_taken 13 = .ok (.aload_n 0, 1) := by decide +kernel
theorem dX12_taken_14 : decode cX12_taken 14 = .ok (.iconst 0, 1) := by decide +kernel
theorem dX12_taken_15 : decode cX12_taken 15 = .ok (.putfield 21, 3) := by decide +kernel
theorem dX12_taken_18 : decode cX12_taken 18 = .ok (.aload_n 0, 1) := by decide +kernel
theorem dX12_taken_19 : decode cX12_taken 19 = .ok (.iload_n 1, 1) := by decide +kernel
theorem dX12_taken_20 : decode cX12_taken 20 = .ok (.putfield 24, 3) := by decide +kernel
theorem dX12_taken_23 : decode cX12_taken 23 = .ok (.return_, 1) := by decide +kernel
theorem dX12_isIn_0 : decode cX12_isIn 0 = .ok (.iload_n 0, 1) := by decide +kernel
theorem dX12_isIn_1 : decode cX12_isIn 1 = .ok (.iload_n 1, 1) := by decide +kernel
theorem dX12_isIn_2 : decode cX12_isIn 2 = .ok (.if_icmp .lt 12, 3) := by decide +kernel
theorem dX12_isIn_5 : decode cX12_isIn 5 = .ok (.iload_n 0, 1) := by decide +kernel
theorem dX12_isIn_6 : decode cX12_isIn 6 = .ok (.iload_n 2, 1) := by decide +kernel
theorem dX12_isIn_7 : decode cX12_isIn 7 = .ok (.if_icmp .gt 7, 3) := by decide +kernel
theorem dX12_isIn_10 : decode cX12_isIn 10 = .ok (.iconst 1, 1) := by decide +kernel
theorem dX12_isIn_11 : decode cX12_isIn 11 = .ok (.goto 4, 3) := by decide +kernel
theorem dX12_isIn_14 : decode cX12_isIn 14 = .ok (.iconst 0, 1) := by decide +kernel
theorem dX12_isIn_15 : decode cX12_isIn 15 = .ok (.ireturn, 1) := by decide +kernel
theorem dX12_bitOf_0 : decode cX12_bitOf 0 = .ok (.iload_n 0, 1) := by decide +kernel
theorem dX12_bitOf_1 : decode cX12_bitOf 1 = .ok (.iload_n 1, 1) := by decide +kernel
theorem dX12_bitOf_2 : decode cX12_bitOf 2 = .ok (.ishr, 1) := by decide +kernel
theorem dX12_bitOf_3 : decode cX12_bitOf 3 = .ok (.iconst 1, 1) := by decide +kernel
theorem dX12_bitOf_4 : decode cX12_bitOf 4 = .ok (.iand, 1) := by decide +kernel
theorem dX12_bitOf_5 : decode cX12_bitOf 5 = .ok (.iconst 1, 1) := by decide +kernel
theorem dX12_bitOf_6 : decode cX12_bitOf 6 = .ok (.if_icmp .ne 7, 3) := by decide +kernel
theorem dX12_bitOf_9 : decode cX12_bitOf 9 = .ok (.iconst 1, 1) := by decide +kernel
theorem dX12_bitOf_10 : decode cX12_bitOf 10 = .ok (.goto 4, 3) := by decide +kernel
theorem dX12_bitOf_13 : decode cX12_bitOf 13 = .ok (.iconst 0, 1) := by decide +kernel
theorem dX12_bitOf_14 : decode cX12_bitOf 14 = .ok (.ireturn, 1) := by decide +kernel
theorem dX12_lesser_0 : decode cX12_lesser 0 = .ok (.iload_n 0, 1) := by decide +kernel
theorem dX12_lesser_1 : decode cX12_lesser 1 = .ok (.iload_n 1, 1) := by decide +kernel
theorem dX12_lesser_2 : decode cX12_lesser 2 = .ok (.if_icmp .ge 7, 3) := by decide +kernel
theorem dX12_lesser_5 : decode cX12_lesser 5 = .ok (.iload_n 0, 1) := by decide +kernel
theorem dX12_lesser_6 : decode cX12_lesser 6 = .ok (.goto 4, 3) := by decide +kernel
theorem dX12_lesser_9 : decode cX12_lesser 9 = .ok (.iload_n 1, 1) := by decide +kernel
theorem dX12_lesser_10 : decode cX12_lesser 10 = .ok (.ireturn, 1) := by decide +kernel
theorem dX12_greater_0 : decode cX12_greater 0 = .ok (.iload_n 0, 1) := by decide +kernel
theorem dX12_greater_1 : decode cX12_greater 1 = .ok (.iload_n 1, 1) := by decide +kernel
theorem dX12_greater_2 : decode cX12_greater 2 = .ok (.if_icmp .le 7, 3) := by decide +kernel
theorem dX12_greater_5 : decode cX12_greater 5 = .ok (.iload_n 0, 1) := by decide +kernel
theorem dX12_greater_6 : decode cX12_greater 6 = .ok (.goto 4, 3) := by decide +kernel
theorem dX12_greater_9 : decode cX12_greater 9 = .ok (.iload_n 1, 1) := by decide +kernel
theorem dX12_greater_10 : decode cX12_greater 10 = .ok (.ireturn, 1) := by decide +kernel
theorem dX12_bits_0 : decode cX12_bits 0 = .ok (.iconst 0, 1) := by decide +kernel
theorem dX12_bits_1 : decode cX12_bits 1 = .ok (.istore_n 1, 1) := by decide +kernel
theorem dX12_bits_2 : decode cX12_bits 2 = .ok (.iload_n 0, 1) := by decide +kernel
theorem dX12_bits_3 : decode cX12_bits 3 = .ok (.istore_n 2, 1) := by decide +kernel
theorem dX12_bits_4 : decode cX12_bits 4 = .ok (.iload_n 2, 1) := by decide +kernel
theorem dX12_bits_5 : decode cX12_bits 5 = .ok (.ifCond .eq 15, 3) := by decide +kernel
theorem dX12_bits_8 : decode cX12_bits 8 = .ok (.iinc 1 1, 3) := by decide +kernel
theorem dX12_bits_11 : decode cX12_bits 11 = .ok (.iload_n 2, 1) := by decide +kernel
theorem dX12_bits_12 : decode cX12_bits 12 = .ok (.iload_n 2, 1) := by decide +kernel
theorem dX12_bits_13 : decode cX12_bits 13 = .ok (.iconst 1, 1) := by decide +kernel
theorem dX12_bits_14 : decode cX12_bits 14 = .ok (.isub, 1) := by decide +kernel
theorem dX12_bits_15 : decode cX12_bits 15 = .ok (.iand, 1) := by decide +kernel
theorem dX12_bits_16 : decode cX12_bits 16 = .ok (.istore_n 2, 1) := by decide +kernel
theorem dX12_bits_17 : decode cX12_bits 17 = .ok (.goto (-13), 3) := by decide +kernel
theorem dX12_bits_20 : decode cX12_bits 20 = .ok (.iload_n 1, 1) := by decide +kernel
theorem dX12_bits_21 : decode cX12_bits 21 = .ok (.ireturn, 1) := by decide +kernel
theorem dX12_octet_0 : decode cX12_octet 0 = .ok (.aload_n 0, 1) := by decide +kernel
theorem dX12_octet_1 : decode cX12_octet 1 = .ok (.getfield 14, 3) := by decide +kernel
theorem dX12_octet_4 : decode cX12_octet 4 = .ok (.iload_n 1, 1) := by decide +kernel
theorem dX12_octet_5 : decode cX12_octet 5 = .ok (.baload, 1) := by decide +kernel
theorem dX12_octet_6 : decode cX12_octet 6 = .ok (.sipush 255, 3) := by decide +kernel
theorem dX12_octet_9 : decode cX12_octet 9 = .ok (.iand, 1) := by decide +kernel
theorem dX12_octet_10 : decode cX12_octet 10 = .ok (.ireturn, 1) := by decide +kernel
theorem dX12_init_0 : decode cX12_init 0 = .ok (.aload_n 0, 1) := by decide +kernel
theorem dX12_init_1 : decode cX12_init 1 = .ok (.invokespecial 27, 3) := by decide +kernel
theorem dX12_init_4 : decode cX12_init 4 = .ok (.aload_n 0, 1) := by decide +kernel
theorem dX12_init_5 : decode cX12_init 5 = .ok (.sipush 940, 3) := by decide +kernel
theorem dX12_init_8 : decode cX12_init 8 = .ok (.newarray .byte, 2) := by decide +kernel
theorem dX12_init_10 : decode cX12_init 10 = .ok (.putfield 14, 3) := by decide +kernel
theorem dX12_init_13 : decode cX12_init 13 = .ok (.aload_n 0, 1) := by decide +kernel
theorem dX12_init_14 : decode cX12_init 14 = .ok (.sipush 319, 3) := by decide +kernel
theorem dX12_init_17 : decode cX12_init 17 = .ok (.newarray .int, 2) := by decide +kernel
theorem dX12_init_19 : decode cX12_init 19 = .ok (.putfield 33, 3) := by decide +kernel
theorem dX12_init_22 : decode cX12_init 22 = .ok (.aload_n 0, 1) := by decide +kernel
theorem dX12_init_23 : decode cX12_init 23 = .ok (.bipush 91, 2) := by decide +kernel
theorem dX12_init_25 : decode cX12_init 25 = .ok (.newarray .int, 2) := by decide +kernel
theorem dX12_init_27 : decode cX12_init 27 = .ok (.putfield 37, 3) := by decide +kernel
theorem dX12_init_30 : decode cX12_init 30 = .ok (.aload_n 0, 1) := by decide +kernel
theorem dX12_init_31 : decode cX12_init 31 = .ok (.sipush 160, 3) := by decide +kernel
theorem dX12_init_34 : decode cX12_init 34 = .ok (.newarray .int, 2) := by decide +kernel
theorem dX12_init_36 : decode cX12_init 36 = .ok (.putfield 40, 3) := by decide +kernel
theorem dX12_init_39 : decode cX12_init 39 = .ok (.aload_n 0, 1) := by decide +kernel
theorem dX12_init_40 : decode cX12_init 40 = .ok (.bipush 26, 2) := by decide +kernel
theorem dX12_init_42 : decode cX12_init 42 = .ok (.newarray .long, 2) := by decide +kernel
theorem dX12_init_44 : decode cX12_init 44 = .ok (.putfield 43, 3) := by decide +kernel
theorem dX12_init_47 : decode cX12_init 47 = .ok (.aload_n 0, 1) := by decide +kernel
theorem dX12_init_48 : decode cX12_init 48 = .ok (.bipush 24, 2) := by decide +kernel
theorem dX12_init_50 : decode cX12_init 50 = .ok (.newarray .long, 2) := by decide +kernel
theorem dX12_init_52 : decode cX12_init 52 = .ok (.putfield 47, 3) := by decide +kernel
theorem dX12_init_55 : decode cX12_init 55 = .ok (.aload_n 0, 1) := by decide +kernel
theorem dX12_init_56 : decode cX12_init 56 = .ok (.sipush 376, 3) := by decide +kernel
theorem dX12_init_59 : decode cX12_init 59 = .ok (.newarray .int, 2) := by decide +kernel
theorem dX12_init_61 : decode cX12_init 61 = .ok (.putfield 50, 3) := by decide +kernel
theorem dX12_init_64 : decode cX12_init 64 = .ok (.aload_n 0, 1) := by decide +kernel
theorem dX12_init_65 : decode cX12_init 65 = .ok (.bipush 47, 2) := by decide +kernel
theorem dX12_init_67 : decode cX12_init 67 = .ok (.newarray .int, 2) := by decide +kernel
theorem dX12_init_69 : decode cX12_init 69 = .ok (.putfield 53, 3) := by decide +kernel
theorem dX12_init_72 : decode cX12_init 72 = .ok (.aload_n 0, 1) := by decide +kernel
theorem dX12_init_73 : decode cX12_init 73 = .ok (.bipush 6, 2) := by decide +kernel
theorem dX12_init_75 : decode cX12_init 75 = .ok (.newarray .int, 2) := by decide +kernel
theorem dX12_init_77 : decode cX12_init 77 = .ok (.putfield 56, 3) := by decide +kernel
theorem dX12_init_80 : decode cX12_init 80 = .ok (.aload_n 0, 1) := by decide +kernel
theorem dX12_init_81 : decode cX12_init 81 = .ok (.bipush 6, 2) := by decide +kernel
theorem dX12_init_83 : decode cX12_init 83 = .ok (.newarray .int, 2) := by decide +kernel
theorem dX12_init_85 : decode cX12_init 85 = .ok (.putfield 59, 3) := by decide +kernel
theorem dX12_init_88 : decode cX12_init 88 = .ok (.aload_n 0, 1) := by decide +kernel
theorem dX12_init_89 : decode cX12_init 89 = .ok (.bipush 6, 2) := by decide +kernel
theorem dX12_init_91 : decode cX12_init 91 = .ok (.newarray .int, 2) := by decide +kernel
theorem dX12_init_93 : decode cX12_init 93 = .ok (.putfield 62, 3) := by decide +kernel
theorem dX12_init_96 : decode cX12_init 96 = .ok (.aload_n 0, 1) := by decide +kernel
theorem dX12_init_97 : decode cX12_init 97 = .ok (.bipush 6, 2) := by decide +kernel
theorem dX12_init_99 : decode cX12_init 99 = .ok (.newarray .int, 2) := by decide +kernel
theorem dX12_init_101 : decode cX12_init 101 = .ok (.putfield 65, 3) := by decide +kernel
theorem dX12_init_104 : decode cX12_init 104 = .ok (.aload_n 0, 1) := by decide +kernel
theorem dX12_init_105 : decode cX12_init 105 = .ok (.iconst 5, 1) := by decide +kernel
theorem dX12_init_106 : decode cX12_init 106 = .ok (.newarray .int, 2) := by decide +kernel
theorem dX12_init_108 : decode cX12_init 108 = .ok (.putfield 68, 3) := by decide +kernel
theorem dX12_init_111 : decode cX12_init 111 = .ok (.aload_n 0, 1) := by decide +kernel
theorem dX12_init_112 : decode cX12_init 112 = .ok (.iconst 4, 1) := by decide +kernel
theorem dX12_init_113 : decode cX12_init 113 = .ok (.newarray .int, 2) := by decide +kernel
theorem dX12_init_115 : decode cX12_init 115 = .ok (.putfield 71, 3) := by decide +kernel
theorem dX12_init_118 : decode cX12_init 118 = .ok (.aload_n 0, 1) := by decide +kernel
theorem dX12_init_119 : decode cX12_init 119 = .ok (.bipush 7, 2) := by decide +kernel
theorem dX12_init_121 : decode cX12_init 121 = .ok (.newarray .int, 2) := by decide +kernel
theorem dX12_init_123 : decode cX12_init 123 = .ok (.putfield 74, 3) := by decide +kernel
theorem dX12_init_126 : decode cX12_init 126 = .ok (.aload_n 0, 1) := by decide +kernel
theorem dX12_init_127 : decode cX12_init 127 = .ok (.iconst (-1), 1) := by decide +kernel
theorem dX12_init_128 : decode cX12_init 128 = .ok (.putfield 77, 3) := by decide +kernel
theorem dX12_init_131 : decode cX12_init 131 = .ok (.aload_n 0, 1) := by decide +kernel
theorem dX12_init_132 : decode cX12_init 132 = .ok (.iconst (-1), 1) := by decide +kernel
theorem dX12_init_133 : decode cX12_init 133 = .ok (.putfield 80, 3) := by decide +kernel
theorem dX12_init_136 : decode cX12_init 136 = .ok (.aload_n 0, 1) := by decide +kernel
theorem dX12_init_137 : decode cX12_init 137 = .ok (.bipush 6, 2) := by decide +kernel
theorem dX12_init_139 : decode cX12_init 139 = .ok (.newarray .int, 2) := by decide +kernel
theorem dX12_init_141 : decode cX12_init 141 = .ok (.putfield 83, 3) := by decide +kernel
theorem dX12_init_144 : decode cX12_init 144 = .ok (.aload_n 0, 1) := by decide +kernel
theorem dX12_init_145 : decode cX12_init 145 = .ok (.bipush 6, 2) := by decide +kernel
theorem dX12_init_147 : decode cX12_init 147 = .ok (.newarray .int, 2) := by decide +kernel
theorem dX12_init_149 : decode cX12_init 149 = .ok (.putfield 86, 3) := by decide +kernel
theorem dX12_init_152 : decode cX12_init 152 = .ok (.aload_n 0, 1) := by decide +kernel
theorem dX12_init_153 : decode cX12_init 153 = .ok (.iconst (-1), 1) := by decide +kernel
theorem dX12_init_154 : decode cX12_init 154 = .ok (.putfield 89, 3) := by decide +kernel
theorem dX12_init_157 : decode cX12_init 157 = .ok (.aload_n 0, 1) := by decide +kernel
theorem dX12_init_158 : decode cX12_init 158 = .ok (.bipush 40, 2) := by decide +kernel
theorem dX12_init_160 : decode cX12_init 160 = .ok (.newarray .byte, 2) := by decide +kernel
theorem dX12_init_162 : decode cX12_init 162 = .ok (.putfield 92, 3) := by decide +kernel
theorem dX12_init_165 : decode cX12_init 165 = .ok (.aload_n 0, 1) := by decide +kernel
theorem dX12_init_166 : decode cX12_init 166 = .ok (.iconst 4, 1) := by decide +kernel
theorem dX12_init_167 : decode cX12_init 167 = .ok (.newarray .int, 2) := by decide +kernel
theorem dX12_init_169 : decode cX12_init 169 = .ok (.putfield 95, 3) := by decide +kernel
theorem dX12_init_172 : decode cX12_init 172 = .ok (.aload_n 0, 1) := by decide +kernel
theorem dX12_init_173 : decode cX12_init 173 = .ok (.bipush 45, 2) := by decide +kernel
theorem dX12_init_175 : decode cX12_init 175 = .ok (.newarray .int, 2) := by decide +kernel
theorem dX12_init_177 : decode cX12_init 177 = .ok (.putfield 98, 3) := by decide +kernel
theorem dX12_init_180 : decode cX12_init 180 = .ok (.aload_n 0, 1) := by decide +kernel
theorem dX12_init_181 : decode cX12_init 181 = .ok (.bipush 45, 2) := by decide +kernel
theorem dX12_init_183 : decode cX12_init 183 = .ok (.newarray .boolean, 2) := by decide +kernel
theorem dX12_init_185 : decode cX12_init 185 = .ok (.putfield 101, 3) := by decide +kernel
theorem dX12_init_188 : decode cX12_init 188 = .ok (.aload_n 0, 1) := by decide +kernel
theorem dX12_init_189 : decode cX12_init 189 = .ok (.sipush 638, 3) := by decide +kernel
theorem dX12_init_192 : decode cX12_init 192 = .ok (.newarray .int, 2) := by decide +kernel
theorem dX12_init_194 : decode cX12_init 194 = .ok (.putfield 105, 3) := by decide +kernel
theorem dX12_init_197 : decode cX12_init 197 = .ok (.aload_n 0, 1) := by decide +kernel
theorem dX12_init_198 : decode cX12_init 198 = .ok (.bipush 26, 2) := by decide +kernel
theorem dX12_init_200 : decode cX12_init 200 = .ok (.newarray .long, 2) := by decide +kernel
theorem dX12_init_202 : decode cX12_init 202 = .ok (.putfield 108, 3) := by decide +kernel
theorem dX12_init_205 : decode cX12_init 205 = .ok (.aload_n 0, 1) := by decide +kernel
theorem dX12_init_206 : decode cX12_init 206 = .ok (.iconst 2, 1) := by decide +kernel
theorem dX12_init_207 : decode cX12_init 207 = .ok (.newarray .boolean, 2) := by decide +kernel
theorem dX12_init_209 : decode cX12_init 209 = .ok (.putfield 111, 3) := by decide +kernel
theorem dX12_init_212 : decode cX12_init 212 = .ok (.aload_n 0, 1) := by decide +kernel
theorem dX12_init_213 : decode cX12_init 213 = .ok (.getfield 47, 3) := by decide +kernel
theorem dX12_init_216 : decode cX12_init 216 = .ok (.iconst 0, 1) := by decide +kernel
theorem dX12_init_217 : decode cX12_init 217 = .ok (.ldc2_w 114, 3) := by decide +kernel
theorem dX12_init_220 : decode cX12_init 220 = .ok (.lastore, 1) := by decide +kernel
theorem dX12_init_221 : decode cX12_init 221 = .ok (.aload_n 0, 1) := by decide +kernel
theorem dX12_init_222 : decode cX12_init 222 = .ok (.getfield 47, 3) := by decide +kernel
theorem dX12_init_225 : decode cX12_init 225 = .ok (.iconst 1, 1) := by decide +kernel
theorem dX12_init_226 : decode cX12_init 226 = .ok (.ldc2_w 116, 3) := by decide +kernel
theorem dX12_init_229 : decode cX12_init 229 = .ok (.lastore, 1) := by decide +kernel
theorem dX12_init_230 : decode cX12_init 230 = .ok (.aload_n 0, 1) := by decide +kernel
theorem dX12_init_231 : decode cX12_init 231 = .ok (.getfield 47, 3) := by decide +kernel
theorem dX12_init_234 : decode cX12_init 234 = .ok (.iconst 2, 1) := by decide +kernel
theorem dX12_init_235 : decode cX12_init 235 = .ok (.ldc2_w 118, 3) := by decide +kernel
theorem dX12_init_238 : decode cX12_init 238 = .ok (.lastore, 1) := by decide +kernel
theorem dX12_init_239 : decode cX12_init 239 = .ok (.aload_n 0, 1) := by decide +kernel
theorem dX12_init_240 : decode cX12_init 240 = .ok (.getfield 47, 3) := by decide +kernel
theorem dX12_init_243 : decode cX12_init 243 = .ok (.iconst 3, 1) := by decide +kernel
theorem dX12_init_244 : decode cX12_init 244 = .ok (.ldc2_w 120, 3) := by decide +kernel
theorem dX12_init_247 : decode cX12_init 247 = .ok (.lastore, 1) := by decide +kernel
theorem dX12_init_248 : decode cX12_init 248 = .ok (.aload_n 0, 1) := by decide +kernel
theorem dX12_init_249 : decode cX12_init 249 = .ok (.getfield 47, 3) := by decide +kernel
theorem dX12_init_252 : decode cX12_init 252 = .ok (.iconst 4, 1) := by decide +kernel
theorem dX12_init_253 : decode cX12_init 253 = .ok (.ldc2_w 122, 3) := by decide +kernel
theorem dX12_init_256 : decode cX12_init 256 = .ok (.lastore, 1) := by decide +kernel
theorem dX12_init_257 : decode cX12_init 257 = .ok (.aload_n 0, 1) := by decide +kernel
theorem dX12_init_258 : decode cX12_init 258 = .ok (.getfield 47, 3) := by decide +kernel
theorem dX12_init_261 : decode cX12_init 261 = .ok (.iconst 5, 1) := by decide +kernel
theorem dX12_init_262 : decode cX12_init 262 = .ok (.ldc2_w 124, 3) := by decide +kernel
theorem dX12_init_265 : decode cX12_init 265 = .ok (.lastore, 1) := by decide +kernel
theorem dX12_init_266 : decode cX12_init 266 = .ok (.aload_n 0, 1) := by decide +kernel
theorem dX12_init_267 : decode cX12_init 267 = .ok (.getfield 47, 3) := by decide +kernel
theorem dX12_init_270 : decode cX12_init 270 = .ok (.bipush 6, 2) := by decide +kernel
theorem dX12_init_272 : decode cX12_init 272 = .ok (.ldc2_w 126, 3) := by decide +kernel
theorem dX12_init_275 : decode cX12_init 275 = .ok (.lastore, 1) := by decide +kernel
theorem dX12_init_276 : decode cX12_init 276 = .ok (.aload_n 0, 1) := by decide +kernel
theorem dX12_init_277 : decode cX12_init 277 = .ok (.getfield 47, 3) := by decide +kernel
theorem dX12_init_280 : decode cX12_init 280 = .ok (.bipush 7, 2) := by decide +kernel
theorem dX12_init_282 : decode cX12_init 282 = .ok (.ldc2_w 128, 3) := by decide +kernel
theorem dX12_init_285 : decode cX12_init 285 = .ok (.lastore, 1) := by decide +kernel
theorem dX12_init_286 : decode cX12_init 286 = .ok (.aload_n 0, 1) := by decide +kernel
theorem dX12_init_287 : decode cX12_init 287 = .ok (.getfield 47, 3) := by decide +kernel
theorem dX12_init_290 : decode cX12_init 290 = .ok (.bipush 8, 2) := by decide +kernel
theorem dX12_init_292 : decode cX12_init 292 = .ok (.ldc2_w 130, 3) := by decide +kernel
theorem dX12_init_295 : decode cX12_init 295 = .ok (.lastore, 1) := by decide +kernel
theorem dX12_init_296 : decode cX12_init 296 = .ok (.aload_n 0, 1) := by decide +kernel
theorem dX12_init_297 : decode cX12_init 297 = .ok (.getfield 47, 3) := by decide +kernel
theorem dX12_init_300 : decode cX12_init 300 = .ok (.bipush 9, 2) := by decide +kernel
theorem dX12_init_302 : decode cX12_init 302 = .ok (.ldc2_w 132, 3) := by decide +kernel
theorem dX12_init_305 : decode cX12_init 305 = .ok (.lastore, 1) := by decide +kernel
theorem dX12_init_306 : decode cX12_init 306 = .ok (.aload_n 0, 1) := by decide +kernel
theorem dX12_init_307 : decode cX12_init 307 = .ok (.getfield 47, 3) := by decide +kernel
theorem dX12_init_310 : decode cX12_init 310 = .ok (.bipush 10, 2) := by decide +kernel
theorem dX12_init_312 : decode cX12_init 312 = .ok (.ldc2_w 134, 3) := by decide +kernel
theorem dX12_init_315 : decode cX12_init 315 = .ok (.lastore, 1) := by decide +kernel
theorem dX12_init_316 : decode cX12_init 316 = .ok (.aload_n 0, 1) := by decide +kernel
theorem dX12_init_317 : decode cX12_init 317 = .ok (.getfield 47, 3) := by decide +kernel
theorem dX12_init_320 : decode cX12_init 320 = .ok (.bipush 11, 2) := by decide +kernel
theorem dX12_init_322 : decode cX12_init 322 = .ok (.ldc2_w 136, 3) := by decide +kernel
theorem dX12_init_325 : decode cX12_init 325 = .ok (.lastore, 1) := by decide +kernel
theorem dX12_init_326 : decode cX12_init 326 = .ok (.aload_n 0, 1) := by decide +kernel
theorem dX12_init_327 : decode cX12_init 327 = .ok (.getfield 47, 3) := by decide +kernel
theorem dX12_init_330 : decode cX12_init 330 = .ok (.bipush 12, 2) := by decide +kernel
theorem dX12_init_332 : decode cX12_init 332 = .ok (.ldc2_w 138, 3) := by decide +kernel
theorem dX12_init_335 : decode cX12_init 335 = .ok (.lastore, 1) := by decide +kernel
theorem dX12_init_336 : decode cX12_init 336 = .ok (.aload_n 0, 1) := by decide +kernel
theorem dX12_init_337 : decode cX12_init 337 = .ok (.getfield 47, 3) := by decide +kernel
theorem dX12_init_340 : decode cX12_init 340 = .ok (.bipush 13, 2) := by decide +kernel
theorem dX12_init_342 : decode cX12_init 342 = .ok (.ldc2_w 140, 3) := by decide +kernel
theorem dX12_init_345 : decode cX12_init 345 = .ok (.lastore, 1) := by decide +kernel
theorem dX12_init_346 : decode cX12_init 346 = .ok (.aload_n 0, 1) := by decide +kernel
theorem dX12_init_347 : decode cX12_init 347 = .ok (.getfield 47, 3) := by decide +kernel
theorem dX12_init_350 : decode cX12_init 350 = .ok (.bipush 14, 2) := by decide +kernel
theorem dX12_init_352 : decode cX12_init 352 = .ok (.ldc2_w 142, 3) := by decide +kernel
theorem dX12_init_355 : decode cX12_init 355 = .ok (.lastore, 1) := by decide +kernel
theorem dX12_init_356 : decode cX12_init 356 = .ok (.aload_n 0, 1) := by decide +kernel
theorem dX12_init_357 : decode cX12_init 357 = .ok (.getfield 47, 3) := by decide +kernel
theorem dX12_init_360 : decode cX12_init 360 = .ok (.bipush 15, 2) := by decide +kernel
theorem dX12_init_362 : decode cX12_init 362 = .ok (.ldc2_w 144, 3) := by decide +kernel
theorem dX12_init_365 : decode cX12_init 365 = .ok (.lastore, 1) := by decide +kernel
theorem dX12_init_366 : decode cX12_init 366 = .ok (.aload_n 0, 1) := by decide +kernel
theorem dX12_init_367 : decode cX12_init 367 = .ok (.getfield 47, 3) := by decide +kernel
theorem dX12_init_370 : decode cX12_init 370 = .ok (.bipush 16, 2) := by decide +kernel
theorem dX12_init_372 : decode cX12_init 372 = .ok (.ldc2_w 146, 3) := by decide +kernel
theorem dX12_init_375 : decode cX12_init 375 = .ok (.lastore, 1) := by decide +kernel
theorem dX12_init_376 : decode cX12_init 376 = .ok (.aload_n 0, 1) := by decide +kernel
theorem dX12_init_377 : decode cX12_init 377 = .ok (.getfield 47, 3) := by decide +kernel
theorem dX12_init_380 : decode cX12_init 380 = .ok (.bipush 17, 2) := by decide +kernel
theorem dX12_init_382 : decode cX12_init 382 = .ok (.ldc2_w 148, 3) := by decide +kernel
theorem dX12_init_385 : decode cX12_init 385 = .ok (.lastore, 1) := by decide +kernel
theorem dX12_init_386 : decode cX12_init 386 = .ok (.aload_n 0, 1) := by decide +kernel
theorem dX12_init_387 : decode cX12_init 387 = .ok (.getfield 47, 3) := by decide +kernel
theorem dX12_init_390 : decode cX12_init 390 = .ok (.bipush 18, 2) := by decide +kernel
theorem dX12_init_392 : decode cX12_init 392 = .ok (.ldc2_w 150, 3) := by decide +kernel
theorem dX12_init_395 : decode cX12_init 395 = .ok (.lastore, 1) := by decide +kernel
theorem dX12_init_396 : decode cX12_init 396 = .ok (.aload_n 0, 1) := by decide +kernel
theorem dX12_init_397 : decode cX12_init 397 = .ok (.getfield 47, 3) := by decide +kernel
theorem dX12_init_400 : decode cX12_init 400 = .ok (.bipush 19, 2) := by decide +kernel
theorem dX12_init_402 : decode cX12_init 402 = .ok (.ldc2_w 152, 3) := by decide +kernel
theorem dX12_init_405 : decode cX12_init 405 = .ok (.lastore, 1) := by decide +kernel
theorem dX12_init_406 : decode cX12_init 406 = .ok (.aload_n 0, 1) := by decide +kernel
theorem dX12_init_407 : decode cX12_init 407 = .ok (.getfield 47, 3) := by decide +kernel
theorem dX12_init_410 : decode cX12_init 410 = .ok (.bipush 20, 2) := by decide +kernel
theorem dX12_init_412 : decode cX12_init 412 = .ok (.ldc2_w 154, 3) := by decide +kernel
theorem dX12_init_415 : decode cX12_init 415 = .ok (.lastore, 1) := by decide +kernel
theorem dX12_init_416 : decode cX12_init 416 = .ok (.aload_n 0, 1) := by decide +kernel
theorem dX12_init_417 : decode cX12_init 417 = .ok (.getfield 47, 3) := by decide +kernel
theorem dX12_init_420 : decode cX12_init 420 = .ok (.bipush 21, 2) := by decide +kernel
theorem dX12_init_422 : decode cX12_init 422 = .ok (.ldc2_w 156, 3) := by decide +kernel
theorem dX12_init_425 : decode cX12_init 425 = .ok (.lastore, 1) := by decide +kernel
theorem dX12_init_426 : decode cX12_init 426 = .ok (.aload_n 0, 1) := by decide +kernel
theorem dX12_init_427 : decode cX12_init 427 = .ok (.getfield 47, 3) := by decide +kernel
theorem dX12_init_430 : decode cX12_init 430 = .ok (.bipush 22, 2) := by decide +kernel
theorem dX12_init_432 : decode cX12_init 432 = .ok (.ldc2_w 158, 3) := by decide +kernel
theorem dX12_init_435 : decode cX12_init 435 = .ok (.lastore, 1) := by decide +kernel
theorem dX12_init_436 : decode cX12_init 436 = .ok (.aload_n 0, 1) := by decide +kernel
theorem dX12_init_437 : decode cX12_init 437 = .ok (.getfield 47, 3) := by decide +kernel
theorem dX12_init_440 : decode cX12_init 440 = .ok (.bipush 23, 2) := by decide +kernel
theorem dX12_init_442 : decode cX12_init 442 = .ok (.ldc2_w 160, 3) := by decide +kernel
theorem dX12_init_445 : decode cX12_init 445 = .ok (.lastore, 1) := by decide +kernel
theorem dX12_init_446 : decode cX12_init 446 = .ok (.aload_n 0, 1) := by decide +kernel
theorem dX12_init_447 : decode cX12_init 447 = .ok (.invokevirtual 162, 3) := by decide +kernel
theorem dX12_init_450 : decode cX12_init 450 = .ok (.iconst 0, 1) := by decide +kernel
theorem dX12_init_451 : decode cX12_init 451 = .ok (.istore_n 1, 1) := by decide +kernel
theorem dX12_init_452 : decode cX12_init 452 = .ok (.iload_n 1, 1) := by decide +kernel
theorem dX12_init_453 : decode cX12_init 453 = .ok (.bipush 91, 2) := by decide +kernel
theorem dX12_init_455 : decode cX12_init 455 = .ok (.if_icmp .ge 21, 3) := by decide +kernel
theorem dX12_init_458 : decode cX12_init 458 = .ok (.aload_n 0, 1) := by decide +kernel
theorem dX12_init_459 : decode cX12_init 459 = .ok (.getfield 33, 3) := by decide +kernel
theorem dX12_init_462 : decode cX12_init 462 = .ok (.iload_n 1, 1) := by decide +kernel
theorem dX12_init_463 : decode cX12_init 463 = .ok (.aload_n 0, 1) := by decide +kernel
theorem dX12_init_464 : decode cX12_init 464 = .ok (.getfield 37, 3) := by decide +kernel
theorem dX12_init_467 : decode cX12_init 467 = .ok (.iload_n 1, 1) := by decide +kernel
theorem dX12_init_468 : decode cX12_init 468 = .ok (.iaload, 1) := by decide +kernel
theorem dX12_init_469 : decode cX12_init 469 = .ok (.iastore, 1) := by decide +kernel
theorem dX12_init_470 : decode cX12_init 470 = .ok (.iinc 1 1, 3) := by decide +kernel
theorem dX12_init_473 : decode cX12_init 473 = .ok (.goto (-21), 3) := by decide +kernel
theorem dX12_init_476 : decode cX12_init 476 = .ok (.return_, 1) := by decide +kernel
theorem dX12_clears_0 : decode cX12_clears 0 = .ok (.iconst 0, 1) := by decide +kernel
theorem dX12_clears_1 : decode cX12_clears 1 = .ok (.istore_n 1, 1) := by decide +kernel
theorem dX12_clears_2 : decode cX12_clears 2 = .ok (.iload_n 1, 1) := by decide +kernel
theorem dX12_clears_3 : decode cX12_clears 3 = .ok (.bipush 91, 2) := by decide +kernel
theorem dX12_clears_5 : decode cX12_clears 5 = .ok (.if_icmp .ge 16, 3) := by decide +kernel
theorem dX12_clears_8 : decode cX12_clears 8 = .ok (.aload_n 0, 1) := by decide +kernel
theorem dX12_clears_9 : decode cX12_clears 9 = .ok (.getfield 37, 3) := by decide +kernel
theorem dX12_clears_12 : decode cX12_clears 12 = .ok (.iload_n 1, 1) := by decide +kernel
theorem dX12_clears_13 : decode cX12_clears 13 = .ok (.iconst 0, 1) := by decide +kernel
theorem dX12_clears_14 : decode cX12_clears 14 = .ok (.iastore, 1) := by decide +kernel
theorem dX12_clears_15 : decode cX12_clears 15 = .ok (.iinc 1 1, 3) := by decide +kernel
theorem dX12_clears_18 : decode cX12_clears 18 = .ok (.goto (-16), 3) := by decide +kernel
theorem dX12_clears_21 : decode cX12_clears 21 = .ok (.return_, 1) := by decide +kernel
theorem dX12_peek_0 : decode cX12_peek 0 = .ok (.aload_n 0, 1) := by decide +kernel
theorem dX12_peek_1 : decode cX12_peek 1 = .ok (.getfield 21, 3) := by decide +kernel
theorem dX12_peek_4 : decode cX12_peek 4 = .ok (.aload_n 0, 1) := by decide +kernel
theorem dX12_peek_5 : decode cX12_peek 5 = .ok (.getfield 18, 3) := by decide +kernel
theorem dX12_peek_8 : decode cX12_peek 8 = .ok (.if_icmp .ge 19, 3) := by decide +kernel
theorem dX12_peek_11 : decode cX12_peek 11 = .ok (.aload_n 0, 1) := by decide +kernel
theorem dX12_peek_12 : decode cX12_peek 12 = .ok (.getfield 14, 3) := by decide +kernel
theorem dX12_peek_15 : decode cX12_peek 15 = .ok (.aload_n 0, 1) := by decide +kernel
theorem dX12_peek_16 : decode cX12_peek 16 = .ok (.getfield 21, 3) := by decide +kernel
theorem dX12_peek_19 : decode cX12_peek 19 = .ok (.baload, 1) := by decide +kernel
theorem dX12_peek_20 : decode cX12_peek 20 = .ok (.sipush 255, 3) := by decide +kernel
theorem dX12_peek_23 : decode cX12_peek 23 = .ok (.iand, 1) := by decide +kernel
theorem dX12_peek_24 : decode cX12_peek 24 = .ok (.goto 4, 3) := by decide +kernel
theorem dX12_peek_27 : decode cX12_peek 27 = .ok (.iconst (-1), 1) := by decide +kernel
theorem dX12_peek_28 : decode cX12_peek 28 = .ok (.ireturn, 1) := by decide +kernel
theorem dX12_isSmall_0 : decode cX12_isSmall 0 = .ok (.iload_n 0, 1) := by decide +kernel
theorem dX12_isSmall_1 : decode cX12_isSmall 1 = .ok (.bipush 97, 2) := by decide +kernel
theorem dX12_isSmall_3 : decode cX12_isSmall 3 = .ok (.if_icmp .lt 13, 3) := by decide +kernel
theorem dX12_isSmall_6 : decode cX12_isSmall 6 = .ok (.iload_n 0, 1) := by decide +kernel
theorem dX12_isSmall_7 : decode cX12_isSmall 7 = .ok (.bipush 122, 2) := by decide +kernel
theorem dX12_isSmall_9 : decode cX12_isSmall 9 = .ok (.if_icmp .gt 7, 3) := by decide +kernel
theorem dX12_isSmall_12 : decode cX12_isSmall 12 = .ok (.iconst 1, 1) := by decide +kernel
theorem dX12_isSmall_13 : decode cX12_isSmall 13 = .ok (.goto 4, 3) := by decide +kernel
theorem dX12_isSmall_16 : decode cX12_isSmall 16 = .ok (.iconst 0, 1) := by decide +kernel
theorem dX12_isSmall_17 : decode cX12_isSmall 17 = .ok (.ireturn, 1) := by decide +kernel
theorem dX12_isDigit_0 : decode cX12_isDigit 0 = .ok (.iload_n 0, 1) := by decide +kernel
theorem dX12_isDigit_1 : decode cX12_isDigit 1 = .ok (.bipush 48, 2) := by decide +kernel
theorem dX12_isDigit_3 : decode cX12_isDigit 3 = .ok (.if_icmp .lt 13, 3) := by decide +kernel
theorem dX12_isDigit_6 : decode cX12_isDigit 6 = .ok (.iload_n 0, 1) := by decide +kernel
theorem dX12_isDigit_7 : decode cX12_isDigit 7 = .ok (.bipush 57, 2) := by decide +kernel
theorem dX12_isDigit_9 : decode cX12_isDigit 9 = .ok (.if_icmp .gt 7, 3) := by decide +kernel
theorem dX12_isDigit_12 : decode cX12_isDigit 12 = .ok (.iconst 1, 1) := by decide +kernel
theorem dX12_isDigit_13 : decode cX12_isDigit 13 = .ok (.goto 4, 3) := by decide +kernel
theorem dX12_isDigit_16 : decode cX12_isDigit 16 = .ok (.iconst 0, 1) := by decide +kernel
theorem dX12_isDigit_17 : decode cX12_isDigit 17 = .ok (.ireturn, 1) := by decide +kernel
theorem dX12_next_0 : decode cX12_next 0 = .ok (.aload_n 0, 1) := by decide +kernel
theorem dX12_next_1 : decode cX12_next 1 = .ok (.invokevirtual 165, 3) := by decide +kernel
theorem dX12_next_4 : decode cX12_next 4 = .ok (.bipush 32, 2) := by decide +kernel
theorem dX12_next_6 : decode cX12_next 6 = .ok (.if_icmp .eq 12, 3) := by decide +kernel
theorem dX12_next_9 : decode cX12_next 9 = .ok (.aload_n 0, 1) := by decide +kernel
theorem dX12_next_10 : decode cX12_next 10 = .ok (.invokevirtual 165, 3) := by decide +kernel
theorem dX12_next_13 : decode cX12_next 13 = .ok (.bipush 10, 2) := by decide +kernel
theorem dX12_next_15 : decode cX12_next 15 = .ok (.if_icmp .ne 16, 3) := by decide +kernel
theorem dX12_next_18 : decode cX12_next 18 = .ok (.aload_n 0, 1) := by decide +kernel
theorem dX12_next_19 : decode cX12_next 19 = .ok (.dup, 1) := by decide +kernel
theorem dX12_next_20 : decode cX12_next 20 = .ok (.getfield 21, 3) := by decide +kernel
theorem dX12_next_23 : decode cX12_next 23 = .ok (.iconst 1, 1) := by decide +kernel
theorem dX12_next_24 : decode cX12_next 24 = .ok (.iadd, 1) := by decide +kernel
theorem dX12_next_25 : decode cX12_next 25 = .ok (.putfield 21, 3) := by decide +kernel
theorem dX12_next_28 : decode cX12_next 28 = .ok (.goto (-28), 3) := by decide +kernel
theorem dX12_next_31 : decode cX12_next 31 = .ok (.aload_n 0, 1) := by decide +kernel
theorem dX12_next_32 : decode cX12_next 32 = .ok (.aload_n 0, 1) := by decide +kernel
theorem dX12_next_33 : decode cX12_next 33 = .ok (.getfield 21, 3) := by decide +kernel
theorem dX12_next_36 : decode cX12_next 36 = .ok (.putfield 169, 3) := by decide +kernel
theorem dX12_next_39 : decode cX12_next 39 = .ok (.aload_n 0, 1) := by decide +kernel
theorem dX12_next_40 : decode cX12_next 40 = .ok (.iconst 0, 1) := by decide +kernel
theorem dX12_next_41 : decode cX12_next 41 = .ok (.putfield 172, 3) := by decide +kernel
theorem dX12_next_44 : decode cX12_next 44 = .ok (.aload_n 0, 1) := by decide +kernel
theorem dX12_next_45 : decode cX12_next 45 = .ok (.getfield 18, 3) := by decide +kernel
theorem dX12_next_48 : decode cX12_next 48 = .ok (.aload_n 0, 1) := by decide +kernel
theorem dX12_next_49 : decode cX12_next 49 = .ok (.getfield 24, 3) := by decide +kernel
theorem dX12_next_52 : decode cX12_next 52 = .ok (.if_icmp .le 28, 3) := by decide +kernel
theorem dX12_next_55 : decode cX12_next 55 = .ok (.aload_n 0, 1) := by decide +kernel
theorem dX12_next_56 : decode cX12_next 56 = .ok (.getfield 21, 3) := by decide +kernel
theorem dX12_next_59 : decode cX12_next 59 = .ok (.aload_n 0, 1) := by decide +kernel
theorem dX12_next_60 : decode cX12_next 60 = .ok (.getfield 24, 3) := by decide +kernel
theorem dX12_next_63 : decode cX12_next 63 = .ok (.if_icmp .lt 17, 3) := by decide +kernel
theorem dX12_next_66 : decode cX12_next 66 = .ok (.aload_n 0, 1) := by decide +kernel
theorem dX12_next_67 : decode cX12_next 67 = .ok (.aload_n 0, 1) := by decide +kernel
theorem dX12_next_68 : decode cX12_next 68 = .ok (.getfield 24, 3) := by decide +kernel
theorem dX12_next_71 : decode cX12_next 71 = .ok (.putfield 169, 3) := by decide +kernel
theorem dX12_next_74 : decode cX12_next 74 = .ok (.aload_n 0, 1) := by decide +kernel
theorem dX12_next_75 : decode cX12_next 75 = .ok (.iconst 4, 1) := by decide +kernel
theorem dX12_next_76 : decode cX12_next 76 = .ok (.putfield 175, 3) := by decide +kernel
theorem dX12_next_79 : decode cX12_next 79 = .ok (.return_, 1) := by decide +kernel
theorem dX12_next_80 : decode cX12_next 80 = .ok (.aload_n 0, 1) := by decide +kernel
theorem dX12_next_81 : decode cX12_next 81 = .ok (.invokevirtual 165, 3) := by decide +kernel
theorem dX12_next_84 : decode cX12_next 84 = .ok (.istore_n 1, 1) := by decide +kernel
theorem dX12_next_85 : decode cX12_next 85 = .ok (.iload_n 1, 1) := by decide +kernel
theorem dX12_next_86 : decode cX12_next 86 = .ok (.ifCond .ge 9, 3) := by decide +kernel
theorem dX12_next_89 : decode cX12_next 89 = .ok (.aload_n 0, 1) := by decide +kernel
theorem dX12_next_90 : decode cX12_next 90 = .ok (.iconst 0, 1) := by decide +kernel
theorem dX12_next_91 : decode cX12_next 91 = .ok (.putfield 175, 3) := by decide +kernel
theorem dX12_next_94 : decode cX12_next 94 = .ok (.return_, 1) := by decide +kernel
theorem dX12_next_95 : decode cX12_next 95 = .ok (.iload_n 1, 1) := by decide +kernel
theorem dX12_next_96 : decode cX12_next 96 = .ok (.invokestatic 178, 3) := by decide +kernel
theorem dX12_next_99 : decode cX12_next 99 = .ok (.ifCond .ne 65, 3) := by decide +kernel
theorem dX12_next_102 : decode cX12_next 102 = .ok (.iload_n 1, 1) := by decide +kernel
theorem dX12_next_103 : decode cX12_next 103 = .ok (.invokestatic 182, 3) := by decide +kernel
theorem dX12_next_106 : decode cX12_next 106 = .ok (.ifCond .ne 58, 3) := by decide +kernel
theorem dX12_next_109 : decode cX12_next 109 = .ok (.aload_n 0, 1) := by decide +kernel
theorem dX12_next_110 : decode cX12_next 110 = .ok (.iload_n 1, 1) := by decide +kernel
theorem dX12_next_111 : decode cX12_next 111 = .ok (.bipush 59, 2) := by decide +kernel
theorem dX12_next_113 : decode cX12_next 113 = .ok (.if_icmp .eq 27, 3) := by decide +kernel
theorem dX12_next_116 : decode cX12_next 116 = .ok (.iload_n 1, 1) := by decide +kernel
theorem dX12_next_117 : decode cX12_next 117 = .ok (.bipush 40, 2) := by decide +kernel
theorem dX12_next_119 : decode cX12_next 119 = .ok (.if_icmp .eq 21, 3) := by decide +kernel
theorem dX12_next_122 : decode cX12_next 122 = .ok (.iload_n 1, 1) := by decide +kernel
theorem dX12_next_123 : decode cX12_next 123 = .ok (.bipush 41, 2) := by decide +kernel
theorem dX12_next_125 : decode cX12_next 125 = .ok (.if_icmp .eq 15, 3) := by decide +kernel
theorem dX12_next_128 : decode cX12_next 128 = .ok (.iload_n 1, 1) := by decide +kernel
theorem dX12_next_129 : decode cX12_next 129 = .ok (.bipush 60, 2) := by decide +kernel
theorem dX12_next_131 : decode cX12_next 131 = .ok (.if_icmp .lt 13, 3) := by decide +kernel
theorem dX12_next_134 : decode cX12_next 134 = .ok (.iload_n 1, 1) := by decide +kernel
theorem dX12_next_135 : decode cX12_next 135 = .ok (.bipush 62, 2) := by decide +kernel
theorem dX12_next_137 : decode cX12_next 137 = .ok (.if_icmp .gt 7, 3) := by decide +kernel
theorem dX12_next_140 : decode cX12_next 140 = .ok (.iconst 3, 1) := by decide +kernel
theorem dX12_next_141 : decode cX12_next 141 = .ok (.goto 4, 3) := by decide +kernel
theorem dX12_next_144 : decode cX12_next 144 = .ok (.iconst 4, 1) := by decide +kernel
theorem dX12_next_145 : decode cX12_next 145 = .ok (.putfield 175, 3) := by decide +kernel
theorem dX12_next_148 : decode cX12_next 148 = .ok (.aload_n 0, 1) := by decide +kernel
theorem dX12_next_149 : decode cX12_next 149 = .ok (.iload_n 1, 1) := by decide +kernel
theorem dX12_next_150 : decode cX12_next 150 = .ok (.putfield 185, 3) := by decide +kernel
theorem dX12_next_153 : decode cX12_next 153 = .ok (.aload_n 0, 1) := by decide +kernel
theorem dX12_next_154 : decode cX12_next 154 = .ok (.dup, 1) := by decide +kernel
theorem dX12_next_155 : decode cX12_next 155 = .ok (.getfield 21, 3) := by decide +kernel
theorem dX12_next_158 : decode cX12_next 158 = .ok (.iconst 1, 1) := by decide +kernel
theorem dX12_next_159 : decode cX12_next 159 = .ok (.iadd, 1) := by decide +kernel
theorem dX12_next_160 : decode cX12_next 160 = .ok (.putfield 21, 3) := by decide +kernel
theorem dX12_next_163 : decode cX12_next 163 = .ok (.return_, 1) := by decide +kernel
theorem dX12_next_164 : decode cX12_next 164 = .ok (.iload_n 1, 1) := by decide +kernel
theorem dX12_next_165 : decode cX12_next 165 = .ok (.invokestatic 178, 3) := by decide +kernel
theorem dX12_next_168 : decode cX12_next 168 = .ok (.istore_n 2, 1) := by decide +kernel
theorem dX12_next_169 : decode cX12_next 169 = .ok (.iconst 1, 1) := by decide +kernel
theorem dX12_next_170 : decode cX12_next 170 = .ok (.istore_n 3, 1) := by decide +kernel
theorem dX12_next_171 : decode cX12_next 171 = .ok (.aload_n 0, 1) := by decide +kernel
theorem dX12_next_172 : decode cX12_next 172 = .ok (.lconst 0, 1) := by decide +kernel
theorem dX12_next_173 : decode cX12_next 173 = .ok (.putfield 188, 3) := by decide +kernel
theorem dX12_next_176 : decode cX12_next 176 = .ok (.aload_n 0, 1) := by decide +kernel
theorem dX12_next_177 : decode cX12_next 177 = .ok (.iconst 0, 1) := by decide +kernel
theorem dX12_next_178 : decode cX12_next 178 = .ok (.putfield 185, 3) := by decide +kernel
theorem dX12_next_181 : decode cX12_next 181 = .ok (.aload_n 0, 1) := by decide +kernel
theorem dX12_next_182 : decode cX12_next 182 = .ok (.invokevirtual 165, 3) := by decide +kernel
theorem dX12_next_185 : decode cX12_next 185 = .ok (.invokestatic 178, 3) := by decide +kernel
theorem dX12_next_188 : decode cX12_next 188 = .ok (.ifCond .ne 13, 3) := by decide +kernel
theorem dX12_next_191 : decode cX12_next 191 = .ok (.aload_n 0, 1) := by decide +kernel
theorem dX12_next_192 : decode cX12_next 192 = .ok (.invokevirtual 165, 3) := by decide +kernel
theorem dX12_next_195 : decode cX12_next 195 = .ok (.invokestatic 182, 3) := by decide +kernel
theorem dX12_next_198 : decode cX12_next 198 = .ok (.ifCond .eq 100, 3) := by decide +kernel
theorem dX12_next_201 : decode cX12_next 201 = .ok (.iload_n 3, 1) := by decide +kernel
theorem dX12_next_202 : decode cX12_next 202 = .ok (.ifCond .eq 18, 3) := by decide +kernel
theorem dX12_next_205 : decode cX12_next 205 = .ok (.aload_n 0, 1) := by decide +kernel
theorem dX12_next_206 : decode cX12_next 206 = .ok (.invokevirtual 165, 3) := by decide +kernel
theorem dX12_next_209 : decode cX12_next 209 = .ok (.invokestatic 178, 3) := by decide +kernel
theorem dX12_next_212 : decode cX12_next 212 = .ok (.iload_n 2, 1) := by decide +kernel
theorem dX12_next_213 : decode cX12_next 213 = .ok (.if_icmp .ne 7, 3) := by decide +kernel
theorem dX12_next_216 : decode cX12_next 216 = .ok (.iconst 1, 1) := by decide +kernel
theorem dX12_next_217 : decode cX12_next 217 = .ok (.goto 4, 3) := by decide +kernel
theorem dX12_next_220 : decode cX12_next 220 = .ok (.iconst 0, 1) := by decide +kernel
theorem dX12_next_221 : decode cX12_next 221 = .ok (.istore_n 3, 1) := by decide +kernel
theorem dX12_next_222 : decode cX12_next 222 = .ok (.aload_n 0, 1) := by decide +kernel
theorem dX12_next_223 : decode cX12_next 223 = .ok (.getfield 172, 3) := by decide +kernel
theorem dX12_next_226 : decode cX12_next 226 = .ok (.bipush 7, 2) := by decide +kernel
theorem dX12_next_228 : decode cX12_next 228 = .ok (.if_icmp .ge 20, 3) := by decide +kernel
theorem dX12_next_231 : decode cX12_next 231 = .ok (.aload_n 0, 1) := by decide +kernel
theorem dX12_next_232 : decode cX12_next 232 = .ok (.aload_n 0, 1) := by decide +kernel
theorem dX12_next_233 : decode cX12_next 233 = .ok (.getfield 188, 3) := by decide +kernel
theorem dX12_next_236 : decode cX12_next 236 = .ok (.bipush 8, 2) := by decide +kernel
theorem dX12_next_238 : decode cX12_next 238 = .ok (.lshl, 1) := by decide +kernel
theorem dX12_next_239 : decode cX12_next 239 = .ok (.aload_n 0, 1) := by decide +kernel
theorem dX12_next_240 : decode cX12_next 240 = .ok (.invokevirtual 165, 3) := by decide +kernel
theorem dX12_next_243 : decode cX12_next 243 = .ok (.i2l, 1) := by decide +kernel
theorem dX12_next_244 : decode cX12_next 244 = .ok (.lor, 1) := by decide +kernel
theorem dX12_next_245 : decode cX12_next 245 = .ok (.putfield 188, 3) := by decide +kernel
theorem dX12_next_248 : decode cX12_next 248 = .ok (.aload_n 0, 1) := by decide +kernel
theorem dX12_next_249 : decode cX12_next 249 = .ok (.getfield 172, 3) := by decide +kernel
theorem dX12_next_252 : decode cX12_next 252 = .ok (.iconst 3, 1) := by decide +kernel
theorem dX12_next_253 : decode cX12_next 253 = .ok (.if_icmp .ge 22, 3) := by decide +kernel
theorem dX12_next_256 : decode cX12_next 256 = .ok (.aload_n 0, 1) := by decide +kernel
theorem dX12_next_257 : decode cX12_next 257 = .ok (.bipush 10, 2) := by decide +kernel
theorem dX12_next_259 : decode cX12_next 259 = .ok (.aload_n 0, 1) := by decide +kernel
theorem dX12_next_260 : decode cX12_next 260 = .ok (.getfield 185, 3) := by decide +kernel
theorem dX12_next_263 : decode cX12_next 263 = .ok (.imul, 1) := by decide +kernel
theorem dX12_next_264 : decode cX12_next 264 = .ok (.aload_n 0, 1) := by decide +kernel
theorem dX12_next_265 : decode cX12_next 265 = .ok (.invokevirtual 165, 3) := by decide +kernel
theorem dX12_next_268 : decode cX12_next 268 = .ok (.iadd, 1) := by decide +kernel
theorem dX12_next_269 : decode cX12_next 269 = .ok (.bipush 48, 2) := by decide +kernel
theorem dX12_next_271 : decode cX12_next 271 = .ok (.isub, 1) := by decide +kernel
theorem dX12_next_272 : decode cX12_next 272 = .ok (.putfield 185, 3) := by decide +kernel
theorem dX12_next_275 : decode cX12_next 275 = .ok (.aload_n 0, 1) := by decide +kernel
theorem dX12_next_276 : decode cX12_next 276 = .ok (.dup, 1) := by decide +kernel
theorem dX12_next_277 : decode cX12_next 277 = .ok (.getfield 172, 3) := by decide +kernel
theorem dX12_next_280 : decode cX12_next 280 = .ok (.iconst 1, 1) := by decide +kernel
theorem dX12_next_281 : decode cX12_next 281 = .ok (.iadd, 1) := by decide +kernel
theorem dX12_next_282 : decode cX12_next 282 = .ok (.putfield 172, 3) := by decide +kernel
theorem dX12_next_285 : decode cX12_next 285 = .ok (.aload_n 0, 1) := by decide +kernel
theorem dX12_next_286 : decode cX12_next 286 = .ok (.dup, 1) := by decide +kernel
theorem dX12_next_287 : decode cX12_next 287 = .ok (.getfield 21, 3) := by decide +kernel
theorem dX12_next_290 : decode cX12_next 290 = .ok (.iconst 1, 1) := by decide +kernel
theorem dX12_next_291 : decode cX12_next 291 = .ok (.iadd, 1) := by decide +kernel
theorem dX12_next_292 : decode cX12_next 292 = .ok (.putfield 21, 3) := by decide +kernel
theorem dX12_next_295 : decode cX12_next 295 = .ok (.goto (-114), 3) := by decide +kernel
theorem dX12_next_298 : decode cX12_next 298 = .ok (.aload_n 0, 1) := by decide +kernel
theorem dX12_next_299 : decode cX12_next 299 = .ok (.iload_n 3, 1) := by decide +kernel
theorem dX12_next_300 : decode cX12_next 300 = .ok (.ifCond .eq 20, 3) := by decide +kernel
theorem dX12_next_303 : decode cX12_next 303 = .ok (.aload_n 0, 1) := by decide +kernel
theorem dX12_next_304 : decode cX12_next 304 = .ok (.getfield 172, 3) := by decide +kernel
theorem dX12_next_307 : decode cX12_next 307 = .ok (.iload_n 2, 1) := by decide +kernel
theorem dX12_next_308 : decode cX12_next 308 = .ok (.ifCond .eq 8, 3) := by decide +kernel
theorem dX12_next_311 : decode cX12_next 311 = .ok (.bipush 7, 2) := by decide +kernel
theorem dX12_next_313 : decode cX12_next 313 = .ok (.goto 4, 3) := by decide +kernel
theorem dX12_next_316 : decode cX12_next 316 = .ok (.iconst 3, 1) := by decide +kernel
theorem dX12_next_317 : decode cX12_next 317 = .ok (.if_icmp .le 7, 3) := by decide +kernel
theorem dX12_next_320 : decode cX12_next 320 = .ok (.iconst 4, 1) := by decide +kernel
theorem dX12_next_321 : decode cX12_next 321 = .ok (.goto 12, 3) := by decide +kernel
theorem dX12_next_324 : decode cX12_next 324 = .ok (.iload_n 2, 1) := by decide +kernel
theorem dX12_next_325 : decode cX12_next 325 = .ok (.ifCond .eq 7, 3) := by decide +kernel
theorem dX12_next_328 : decode cX12_next 328 = .ok (.iconst 1, 1) := by decide +kernel
theorem dX12_next_329 : decode cX12_next 329 = .ok (.goto 4, 3) := by decide +kernel
theorem dX12_next_332 : decode cX12_next 332 = .ok (.iconst 2, 1) := by decide +kernel
theorem dX12_next_333 : decode cX12_next 333 = .ok (.putfield 175, 3) := by decide +kernel
theorem dX12_next_336 : decode cX12_next 336 = .ok (.return_, 1) := by decide +kernel
theorem dX12_bad_0 : decode cX12_bad 0 = .ok (.aload_n 0, 1) := by decide +kernel
theorem dX12_bad_1 : decode cX12_bad 1 = .ok (.iload_n 1, 1) := by decide +kernel
theorem dX12_bad_2 : decode cX12_bad 2 = .ok (.putfield 192, 3) := by decide +kernel
theorem dX12_bad_5 : decode cX12_bad 5 = .ok (.aload_n 0, 1) := by decide +kernel
theorem dX12_bad_6 : decode cX12_bad 6 = .ok (.aload_n 0, 1) := by decide +kernel
theorem dX12_bad_7 : decode cX12_bad 7 = .ok (.getfield 169, 3) := by decide +kernel
theorem dX12_bad_10 : decode cX12_bad 10 = .ok (.putfield 195, 3) := by decide +kernel
theorem dX12_bad_13 : decode cX12_bad 13 = .ok (.iconst 0, 1) := by decide +kernel
theorem dX12_bad_14 : decode cX12_bad 14 = .ok (.ireturn, 1) := by decide +kernel
theorem dX12_isWord_0 : decode cX12_isWord 0 = .ok (.aload_n 0, 1) := by decide +kernel
theorem dX12_isWord_1 : decode cX12_isWord 1 = .ok (.getfield 175, 3) := by decide +kernel
theorem dX12_isWord_4 : decode cX12_isWord 4 = .ok (.iconst 1, 1) := by decide +kernel
theorem dX12_isWord_5 : decode cX12_isWord 5 = .ok (.if_icmp .ne 16, 3) := by decide +kernel
theorem dX12_isWord_8 : decode cX12_isWord 8 = .ok (.aload_n 0, 1) := by decide +kernel
theorem dX12_isWord_9 : decode cX12_isWord 9 = .ok (.getfield 188, 3) := by decide +kernel
theorem dX12_isWord_12 : decode cX12_isWord 12 = .ok (.lload_n 1, 1) := by decide +kernel
theorem dX12_isWord_13 : decode cX12_isWord 13 = .ok (.lcmp, 1) := by decide +kernel
theorem dX12_isWord_14 : decode cX12_isWord 14 = .ok (.ifCond .ne 7, 3) := by decide +kernel
theorem dX12_isWord_17 : decode cX12_isWord 17 = .ok (.iconst 1, 1) := by decide +kernel
theorem dX12_isWord_18 : decode cX12_isWord 18 = .ok (.goto 4, 3) := by decide +kernel
theorem dX12_isWord_21 : decode cX12_isWord 21 = .ok (.iconst 0, 1) := by decide +kernel
theorem dX12_isWord_22 : decode cX12_isWord 22 = .ok (.ireturn, 1) := by decide +kernel
theorem dX12_isSign_0 : decode cX12_isSign 0 = .ok (.aload_n 0, 1) := by decide +kernel
theorem dX12_isSign_1 : decode cX12_isSign 1 = .ok (.getfield 175, 3) := by decide +kernel
theorem dX12_isSign_4 : decode cX12_isSign 4 = .ok (.iconst 3, 1) := by decide +kernel
theorem dX12_isSign_5 : decode cX12_isSign 5 = .ok (.if_icmp .ne 15, 3) := by decide +kernel
theorem dX12_isSign_8 : decode cX12_isSign 8 = .ok (.aload_n 0, 1) := by decide +kernel
theorem dX12_isSign_9 : decode cX12_isSign 9 = .ok (.getfield 185, 3) := by decide +kernel
theorem dX12_isSign_12 : decode cX12_isSign 12 = .ok (.iload_n 1, 1) := by decide +kernel
theorem dX12_isSign_13 : decode cX12_isSign 13 = .ok (.if_icmp .ne 7, 3) := by decide +kernel
theorem dX12_isSign_16 : decode cX12_isSign 16 = .ok (.iconst 1, 1) := by decide +kernel
theorem dX12_isSign_17 : decode cX12_isSign 17 = .ok (.goto 4, 3) := by decide +kernel
theorem dX12_isSign_20 : decode cX12_isSign 20 = .ok (.iconst 0, 1) := by decide +kernel
theorem dX12_isSign_21 : decode cX12_isSign 21 = .ok (.ireturn, 1) := by decide +kernel
theorem dX12_sign_0 : decode cX12_sign 0 = .ok (.aload_n 0, 1) := by decide +kernel
theorem dX12_sign_1 : decode cX12_sign 1 = .ok (.iload_n 1, 1) := by decide +kernel
theorem dX12_sign_2 : decode cX12_sign 2 = .ok (.invokevirtual 198, 3) := by decide +kernel
theorem dX12_sign_5 : decode cX12_sign 5 = .ok (.ifCond .ne 9, 3) := by decide +kernel
theorem dX12_sign_8 : decode cX12_sign 8 = .ok (.aload_n 0, 1) := by decide +kernel
theorem dX12_sign_9 : decode cX12_sign 9 = .ok (.iconst 1, 1) := by decide +kernel
theorem dX12_sign_10 : decode cX12_sign 10 = .ok (.invokevirtual 201, 3) := by decide +kernel
theorem dX12_sign_13 : decode cX12_sign 13 = .ok (.ireturn, 1) := by decide +kernel
theorem dX12_sign_14 : decode cX12_sign 14 = .ok (.aload_n 0, 1) := by decide +kernel
theorem dX12_sign_15 : decode cX12_sign 15 = .ok (.invokevirtual 204, 3) := by decide +kernel
theorem dX12_sign_18 : decode cX12_sign 18 = .ok (.iconst 1, 1) := by decide +kernel
theorem dX12_sign_19 : decode cX12_sign 19 = .ok (.ireturn, 1) := by decide +kernel
theorem dX12_isName_0 : decode cX12_isName 0 = .ok (.aload_n 0, 1) := by decide +kernel
theorem dX12_isName_1 : decode cX12_isName 1 = .ok (.getfield 175, 3) := by decide +kernel
theorem dX12_isName_4 : decode cX12_isName 4 = .ok (.iconst 1, 1) := by decide +kernel
theorem dX12_isName_5 : decode cX12_isName 5 = .ok (.if_icmp .ne 7, 3) := by decide +kernel
theorem dX12_isName_8 : decode cX12_isName 8 = .ok (.iconst 1, 1) := by decide +kernel
theorem dX12_isName_9 : decode cX12_isName 9 = .ok (.goto 4, 3) := by decide +kernel
theorem dX12_isName_12 : decode cX12_isName 12 = .ok (.iconst 0, 1) := by decide +kernel
theorem dX12_isName_13 : decode cX12_isName 13 = .ok (.istore_n 1, 1) := by decide +kernel
theorem dX12_isName_14 : decode cX12_isName 14 = .ok (.iconst 0, 1) := by decide +kernel
theorem dX12_isName_15 : decode cX12_isName 15 = .ok (.istore_n 2, 1) := by decide +kernel
theorem dX12_isName_16 : decode cX12_isName 16 = .ok (.iload_n 2, 1) := by decide +kernel
theorem dX12_isName_17 : decode cX12_isName 17 = .ok (.bipush 24, 2) := by decide +kernel
theorem dX12_isName_19 : decode cX12_isName 19 = .ok (.if_icmp .ge 33, 3) := by decide +kernel
theorem dX12_isName_22 : decode cX12_isName 22 = .ok (.iload_n 1, 1) := by decide +kernel
theorem dX12_isName_23 : decode cX12_isName 23 = .ok (.ifCond .eq 21, 3) := by decide +kernel
theorem dX12_isName_26 : decode cX12_isName 26 = .ok (.aload_n 0, 1) := by decide +kernel
theorem dX12_isName_27 : decode cX12_isName 27 = .ok (.getfield 188, 3) := by decide +kernel
theorem dX12_isName_30 : decode cX12_isName 30 = .ok (.aload_n 0, 1) := by decide +kernel
theorem dX12_isName_31 : decode cX12_isName 31 = .ok (.getfield 47, 3) := by decide +kernel
theorem dX12_isName_34 : decode cX12_isName 34 = .ok (.iload_n 2, 1) := by decide +kernel
theorem dX12_isName_35 : decode cX12_isName 35 = .ok (.laload, 1) := by decide +kernel
theorem dX12_isName_36 : decode cX12_isName 36 = .ok (.lcmp, 1) := by decide +kernel
theorem dX12_isName_37 : decode cX12_isName 37 = .ok (.ifCond .eq 7, 3) := by decide +kernel
theorem dX12_isName_40 : decode cX12_isName 40 = .ok (.iconst 1, 1) := by decide +kernel
theorem dX12_isName_41 : decode cX12_isName 41 = .ok (.goto 4, 3) := by decide +kernel
theorem dX12_isName_44 : decode cX12_isName 44 = .ok (.iconst 0, 1) := by decide +kernel
theorem dX12_isName_45 : decode cX12_isName 45 = .ok (.istore_n 1, 1) := by decide +kernel
theorem dX12_isName_46 : decode cX12_isName 46 = .ok (.iinc 2 1, 3) := by decide +kernel
theorem dX12_isName_49 : decode cX12_isName 49 = .ok (.goto (-33), 3) := by decide +kernel
theorem dX12_isName_52 : decode cX12_isName 52 = .ok (.iload_n 1, 1) := by decide +kernel
theorem dX12_isName_53 : decode cX12_isName 53 = .ok (.ireturn, 1) := by decide +kernel
theorem dX12_takes_0 : decode cX12_takes 0 = .ok (.aload_n 0, 1) := by decide +kernel
theorem dX12_takes_1 : decode cX12_takes 1 = .ok (.getfield 175, 3) := by decide +kernel
theorem dX12_takes_4 : decode cX12_takes 4 = .ok (.iconst 2, 1) := by decide +kernel
theorem dX12_takes_5 : decode cX12_takes 5 = .ok (.if_icmp .eq 9, 3) := by decide +kernel
theorem dX12_takes_8 : decode cX12_takes 8 = .ok (.aload_n 0, 1) := by decide +kernel
theorem dX12_takes_9 : decode cX12_takes 9 = .ok (.iconst 1, 1) := by decide +kernel
theorem dX12_takes_10 : decode cX12_takes 10 = .ok (.invokevirtual 201, 3) := by decide +kernel
theorem dX12_takes_13 : decode cX12_takes 13 = .ok (.ireturn, 1) := by decide +kernel
theorem dX12_takes_14 : decode cX12_takes 14 = .ok (.aload_n 0, 1) := by decide +kernel
theorem dX12_takes_15 : decode cX12_takes 15 = .ok (.getfield 185, 3) := by decide +kernel
theorem dX12_takes_18 : decode cX12_takes 18 = .ok (.iload_n 1, 1) := by decide +kernel
theorem dX12_takes_19 : decode cX12_takes 19 = .ok (.iload_n 2, 1) := by decide +kernel
theorem dX12_takes_20 : decode cX12_takes 20 = .ok (.invokestatic 207, 3) := by decide +kernel
theorem dX12_takes_23 : decode cX12_takes 23 = .ok (.ifCond .ne 9, 3) := by decide +kernel
theorem dX12_takes_26 : decode cX12_takes 26 = .ok (.aload_n 0, 1) := by decide +kernel
theorem dX12_takes_27 : decode cX12_takes 27 = .ok (.iconst 2, 1) := by decide +kernel
theorem dX12_takes_28 : decode cX12_takes 28 = .ok (.invokevirtual 201, 3) := by decide +kernel
theorem dX12_takes_31 : decode cX12_takes 31 = .ok (.ireturn, 1) := by decide +kernel
theorem dX12_takes_32 : decode cX12_takes 32 = .ok (.aload_n 0, 1) := by decide +kernel
theorem dX12_takes_33 : decode cX12_takes 33 = .ok (.aload_n 0, 1) := by decide +kernel
theorem dX12_takes_34 : decode cX12_takes 34 = .ok (.getfield 185, 3) := by decide +kernel
theorem dX12_takes_37 : decode cX12_takes 37 = .ok (.putfield 211, 3) := by decide +kernel
theorem dX12_takes_40 : decode cX12_takes 40 = .ok (.aload_n 0, 1) := by decide +kernel
theorem dX12_takes_41 : decode cX12_takes 41 = .ok (.invokevirtual 204, 3) := by decide +kernel
theorem dX12_takes_44 : decode cX12_takes 44 = .ok (.iconst 1, 1) := by decide +kernel
theorem dX12_takes_45 : decode cX12_takes 45 = .ok (.ireturn, 1) := by decide +kernel
theorem dX12_puts_0 : decode cX12_puts 0 = .ok (.aload_n 0, 1) := by decide +kernel
theorem dX12_puts_1 : decode cX12_puts 1 = .ok (.iload_n 2, 1) := by decide +kernel
theorem dX12_puts_2 : decode cX12_puts 2 = .ok (.iload_n 3, 1) := by decide +kernel
theorem dX12_puts_3 : decode cX12_puts 3 = .ok (.invokevirtual 214, 3) := by decide +kernel
theorem dX12_puts_6 : decode cX12_puts 6 = .ok (.ifCond .ne 5, 3) := by decide +kernel
theorem dX12_puts_9 : decode cX12_puts 9 = .ok (.iconst 0, 1) := by decide +kernel
theorem dX12_puts_10 : decode cX12_puts 10 = .ok (.ireturn, 1) := by decide +kernel
theorem dX12_puts_11 : decode cX12_puts 11 = .ok (.aload_n 0, 1) := by decide +kernel
theorem dX12_puts_12 : decode cX12_puts 12 = .ok (.getfield 37, 3) := by decide +kernel
theorem dX12_puts_15 : decode cX12_puts 15 = .ok (.iload_n 1, 1) := by decide +kernel
theorem dX12_puts_16 : decode cX12_puts 16 = .ok (.aload_n 0, 1) := by decide +kernel
theorem dX12_puts_17 : decode cX12_puts 17 = .ok (.getfield 211, 3) := by decide +kernel
theorem dX12_puts_20 : decode cX12_puts 20 = .ok (.iastore, 1) := by decide +kernel
theorem dX12_puts_21 : decode cX12_puts 21 = .ok (.iconst 1, 1) := by decide +kernel
theorem dX12_puts_22 : decode cX12_puts 22 = .ok (.ireturn, 1) := by decide +kernel
theorem dX12_find_0 : decode cX12_find 0 = .ok (.iconst 0, 1) := by decide +kernel
theorem dX12_find_1 : decode cX12_find 1 = .ok (.istore_n 3, 1) := by decide +kernel
theorem dX12_find_2 : decode cX12_find 2 = .ok (.iload_n 3, 1) := by decide +kernel
theorem dX12_find_3 : decode cX12_find 3 = .ok (.iload_n 2, 1) := by decide +kernel
theorem dX12_find_4 : decode cX12_find 4 = .ok (.if_icmp .ge 27, 3) := by decide +kernel
theorem dX12_find_7 : decode cX12_find 7 = .ok (.aload_n 0, 1) := by decide +kernel
theorem dX12_find_8 : decode cX12_find 8 = .ok (.getfield 43, 3) := by decide +kernel
theorem dX12_find_11 : decode cX12_find 11 = .ok (.iload_n 1, 1) := by decide +kernel
theorem dX12_find_12 : decode cX12_find 12 = .ok (.iload_n 3, 1) := by decide +kernel
theorem dX12_find_13 : decode cX12_find 13 = .ok (.iadd, 1) := by decide +kernel
theorem dX12_find_14 : decode cX12_find 14 = .ok (.laload, 1) := by decide +kernel
theorem dX12_find_15 : decode cX12_find 15 = .ok (.aload_n 0, 1) := by decide +kernel
theorem dX12_find_16 : decode cX12_find 16 = .ok (.getfield 188, 3) := by decide +kernel
theorem dX12_find_19 : decode cX12_find 19 = .ok (.lcmp, 1) := by decide +kernel
theorem dX12_find_20 : decode cX12_find 20 = .ok (.ifCond .ne 5, 3) := by decide +kernel
theorem dX12_find_23 : decode cX12_find 23 = .ok (.iload_n 3, 1) := by decide +kernel
theorem dX12_find_24 : decode cX12_find 24 = .ok (.ireturn, 1) := by decide +kernel
theorem dX12_find_25 : decode cX12_find 25 = .ok (.iinc 3 1, 3) := by decide +kernel
theorem dX12_find_28 : decode cX12_find 28 = .ok (.goto (-26), 3) := by decide +kernel
theorem dX12_find_31 : decode cX12_find 31 = .ok (.iconst (-1), 1) := by decide +kernel
theorem dX12_find_32 : decode cX12_find 32 = .ok (.ireturn, 1) := by decide +kernel
theorem dX12_fresh_0 : decode cX12_fresh 0 = .ok (.aload_n 0, 1) := by decide +kernel
theorem dX12_fresh_1 : decode cX12_fresh 1 = .ok (.invokevirtual 218, 3) := by decide +kernel
theorem dX12_fresh_4 : decode cX12_fresh 4 = .ok (.ifCond .ne 9, 3) := by decide +kernel
theorem dX12_fresh_7 : decode cX12_fresh 7 = .ok (.aload_n 0, 1) := by decide +kernel
theorem dX12_fresh_8 : decode cX12_fresh 8 = .ok (.iconst 1, 1) := by decide +kernel
theorem dX12_fresh_9 : decode cX12_fresh 9 = .ok (.invokevirtual 201, 3) := by decide +kernel
theorem dX12_fresh_12 : decode cX12_fresh 12 = .ok (.ireturn, 1) := by decide +kernel
theorem dX12_fresh_13 : decode cX12_fresh 13 = .ok (.aload_n 0, 1) := by decide +kernel
theorem dX12_fresh_14 : decode cX12_fresh 14 = .ok (.bipush 13, 2) := by decide +kernel
theorem dX12_fresh_16 : decode cX12_fresh 16 = .ok (.aload_n 0, 1) := by decide +kernel
theorem dX12_fresh_17 : decode cX12_fresh 17 = .ok (.getfield 37, 3) := by decide +kernel
theorem dX12_fresh_20 : decode cX12_fresh 20 = .ok (.iconst 0, 1) := by decide +kernel
theorem dX12_fresh_21 : decode cX12_fresh 21 = .ok (.iaload, 1) := by decide +kernel
theorem dX12_fresh_22 : decode cX12_fresh 22 = .ok (.invokevirtual 222, 3) := by decide +kernel
theorem dX12_fresh_25 : decode cX12_fresh 25 = .ok (.ifCond .ge 18, 3) := by decide +kernel
theorem dX12_fresh_28 : decode cX12_fresh 28 = .ok (.aload_n 0, 1) := by decide +kernel
theorem dX12_fresh_29 : decode cX12_fresh 29 = .ok (.bipush 20, 2) := by decide +kernel
theorem dX12_fresh_31 : decode cX12_fresh 31 = .ok (.aload_n 0, 1) := by decide +kernel
theorem dX12_fresh_32 : decode cX12_fresh 32 = .ok (.getfield 37, 3) := by decide +kernel
theorem dX12_fresh_35 : decode cX12_fresh 35 = .ok (.iconst 2, 1) := by decide +kernel
theorem dX12_fresh_36 : decode cX12_fresh 36 = .ok (.iaload, 1) := by decide +kernel
theorem dX12_fresh_37 : decode cX12_fresh 37 = .ok (.invokevirtual 222, 3) := by decide +kernel
theorem dX12_fresh_40 : decode cX12_fresh 40 = .ok (.ifCond .lt 9, 3) := by decide +kernel
theorem dX12_fresh_43 : decode cX12_fresh 43 = .ok (.aload_n 0, 1) := by decide +kernel
theorem dX12_fresh_44 : decode cX12_fresh 44 = .ok (.iconst 3, 1) := by decide +kernel
theorem dX12_fresh_45 : decode cX12_fresh 45 = .ok (.invokevirtual 201, 3) := by decide +kernel
theorem dX12_fresh_48 : decode cX12_fresh 48 = .ok (.ireturn, 1) := by decide +kernel
theorem dX12_fresh_49 : decode cX12_fresh 49 = .ok (.aload_n 0, 1) := by decide +kernel
theorem dX12_fresh_50 : decode cX12_fresh 50 = .ok (.getfield 43, 3) := by decide +kernel
theorem dX12_fresh_53 : decode cX12_fresh 53 = .ok (.iload_n 1, 1) := by decide +kernel
theorem dX12_fresh_54 : decode cX12_fresh 54 = .ok (.aload_n 0, 1) := by decide +kernel
theorem dX12_fresh_55 : decode cX12_fresh 55 = .ok (.getfield 188, 3) := by decide +kernel
theorem dX12_fresh_58 : decode cX12_fresh 58 = .ok (.lastore, 1) := by decide +kernel
theorem dX12_fresh_59 : decode cX12_fresh 59 = .ok (.aload_n 0, 1) := by decide +kernel
theorem dX12_fresh_60 : decode cX12_fresh 60 = .ok (.invokevirtual 204, 3) := by decide +kernel
theorem dX12_fresh_63 : decode cX12_fresh 63 = .ok (.iconst 1, 1) := by decide +kernel
theorem dX12_fresh_64 : decode cX12_fresh 64 = .ok (.ireturn, 1) := by decide +kernel
theorem dX12_looksAt_0 : decode cX12_looksAt 0 = .ok (.aload_n 0, 1) := by decide +kernel
theorem dX12_looksAt_1 : decode cX12_looksAt 1 = .ok (.invokevirtual 218, 3) := by decide +kernel
theorem dX12_looksAt_4 : decode cX12_looksAt 4 = .ok (.ifCond .ne 9, 3) := by decide +kernel
theorem dX12_looksAt_7 : decode cX12_looksAt 7 = .ok (.aload_n 0, 1) := by decide +kernel
theorem dX12_looksAt_8 : decode cX12_looksAt 8 = .ok (.iconst 1, 1) := by decide +kernel
theorem dX12_looksAt_9 : decode cX12_looksAt 9 = .ok (.invokevirtual 201, 3) := by decide +kernel
theorem dX12_looksAt_12 : decode cX12_looksAt 12 = .ok (.ireturn, 1) := by decide +kernel
theorem dX12_looksAt_13 : decode cX12_looksAt 13 = .ok (.aload_n 0, 1) := by decide +kernel
theorem dX12_looksAt_14 : decode cX12_looksAt 14 = .ok (.aload_n 0, 1) := by decide +kernel
theorem dX12_looksAt_15 : decode cX12_looksAt 15 = .ok (.iload_n 1, 1) := by decide +kernel
theorem dX12_looksAt_16 : decode cX12_looksAt 16 = .ok (.iload_n 2, 1) := by decide +kernel
theorem dX12_looksAt_17 : decode cX12_looksAt 17 = .ok (.invokevirtual 222, 3) := by decide +kernel
theorem dX12_looksAt_20 : decode cX12_looksAt 20 = .ok (.putfield 211, 3) := by decide +kernel
theorem dX12_looksAt_23 : decode cX12_looksAt 23 = .ok (.aload_n 0, 1) := by decide +kernel
theorem dX12_looksAt_24 : decode cX12_looksAt 24 = .ok (.getfield 211, 3) := by decide +kernel
theorem dX12_looksAt_27 : decode cX12_looksAt 27 = .ok (.ifCond .ge 11, 3) := by decide +kernel
theorem dX12_looksAt_30 : decode cX12_looksAt 30 = .ok (.aload_n 0, 1) := by decide +kernel
theorem dX12_looksAt_31 : decode cX12_looksAt 31 = .ok (.iconst 3, 1) := by decide +kernel
theorem dX12_looksAt_32 : decode cX12_looksAt 32 = .ok (.invokevirtual 201, 3) := by decide +kernel
theorem dX12_looksAt_35 : decode cX12_looksAt 35 = .ok (.ifCond .eq 7, 3) := by decide +kernel
theorem dX12_looksAt_38 : decode cX12_looksAt 38 = .ok (.iconst 1, 1) := by decide +kernel
theorem dX12_looksAt_39 : decode cX12_looksAt 39 = .ok (.goto 4, 3) := by decide +kernel
theorem dX12_looksAt_42 : decode cX12_looksAt 42 = .ok (.iconst 0, 1) := by decide +kernel
theorem dX12_looksAt_43 : decode cX12_looksAt 43 = .ok (.ireturn, 1) := by decide +kernel
theorem dX12_takesName_0 : decode cX12_takesName 0 = .ok (.aload_n 0, 1) := by decide +kernel
theorem dX12_takesName_1 : decode cX12_takesName 1 = .ok (.iload_n 1, 1) := by decide +kernel
theorem dX12_takesName_2 : decode cX12_takesName 2 = .ok (.iload_n 2, 1) := by decide +kernel
theorem dX12_takesName_3 : decode cX12_takesName 3 = .ok (.invokevirtual 226, 3) := by decide +kernel
theorem dX12_takesName_6 : decode cX12_takesName 6 = .ok (.ifCond .ne 5, 3) := by decide +kernel
theorem dX12_takesName_9 : decode cX12_takesName 9 = .ok (.iconst 0, 1) := by decide +kernel
theorem dX12_takesName_10 : decode cX12_takesName 10 = .ok (.ireturn, 1) := by decide +kernel
theorem dX12_takesName_11 : decode cX12_takesName 11 = .ok (.aload_n 0, 1) := by decide +kernel
theorem dX12_takesName_12 : decode cX12_takesName 12 = .ok (.invokevirtual 204, 3) := by decide +kernel
theorem dX12_takesName_15 : decode cX12_takesName 15 = .ok (.iconst 1, 1) := by decide +kernel
theorem dX12_takesName_16 : decode cX12_takesName 16 = .ok (.ireturn, 1) := by decide +kernel
theorem dX12_line_0 : decode cX12_line 0 = .ok (.aload_n 0, 1) := by decide +kernel
theorem dX12_line_1 : decode cX12_line 1 = .ok (.ldc2_w 114, 3) := by decide +kernel
theorem dX12_line_4 : decode cX12_line 4 = .ok (.invokevirtual 229, 3) := by decide +kernel
theorem dX12_line_7 : decode cX12_line 7 = .ok (.ifCond .eq 8, 3) := by decide +kernel
theorem dX12_line_10 : decode cX12_line 10 = .ok (.aload_n 0, 1) := by decide +kernel
theorem dX12_line_11 : decode cX12_line 11 = .ok (.invokevirtual 233, 3) := by decide +kernel
theorem dX12_line_14 : decode cX12_line 14 = .ok (.ireturn, 1) := by decide +kernel
theorem dX12_line_15 : decode cX12_line 15 = .ok (.aload_n 0, 1) := by decide +kernel
theorem dX12_line_16 : decode cX12_line 16 = .ok (.ldc2_w 116, 3) := by decide +kernel
theorem dX12_line_19 : decode cX12_line 19 = .ok (.invokevirtual 229, 3) := by decide +kernel
theorem dX12_line_22 : decode cX12_line 22 = .ok (.ifCond .eq 8, 3) := by decide +kernel
theorem dX12_line_25 : decode cX12_line 25 = .ok (.aload_n 0, 1) := by decide +kernel
theorem dX12_line_26 : decode cX12_line 26 = .ok (.invokevirtual 236, 3) := by decide +kernel
theorem dX12_line_29 : decode cX12_line 29 = .ok (.ireturn, 1) := by decide +kernel
theorem dX12_line_30 : decode cX12_line 30 = .ok (.aload_n 0, 1) := by decide +kernel
theorem dX12_line_31 : decode cX12_line 31 = .ok (.ldc2_w 118, 3) := by decide +kernel
theorem dX12_line_34 : decode cX12_line 34 = .ok (.invokevirtual 229, 3) := by decide +kernel
theorem dX12_line_37 : decode cX12_line 37 = .ok (.ifCond .eq 8, 3) := by decide +kernel
theorem dX12_line_40 : decode cX12_line 40 = .ok (.aload_n 0, 1) := by decide +kernel
theorem dX12_line_41 : decode cX12_line 41 = .ok (.invokevirtual 239, 3) := by decide +kernel
theorem dX12_line_44 : decode cX12_line 44 = .ok (.ireturn, 1) := by decide +kernel
theorem dX12_line_45 : decode cX12_line 45 = .ok (.aload_n 0, 1) := by decide +kernel
theorem dX12_line_46 : decode cX12_line 46 = .ok (.ldc2_w 120, 3) := by decide +kernel
theorem dX12_line_49 : decode cX12_line 49 = .ok (.invokevirtual 229, 3) := by decide +kernel
theorem dX12_line_52 : decode cX12_line 52 = .ok (.ifCond .eq 8, 3) := by decide +kernel
theorem dX12_line_55 : decode cX12_line 55 = .ok (.aload_n 0, 1) := by decide +kernel
theorem dX12_line_56 : decode cX12_line 56 = .ok (.invokevirtual 242, 3) := by decide +kernel
theorem dX12_line_59 : decode cX12_line 59 = .ok (.ireturn, 1) := by decide +kernel
theorem dX12_line_60 : decode cX12_line 60 = .ok (.aload_n 0, 1) := by decide +kernel
theorem dX12_line_61 : decode cX12_line 61 = .ok (.ldc2_w 122, 3) := by decide +kernel
theorem dX12_line_64 : decode cX12_line 64 = .ok (.invokevirtual 229, 3) := by decide +kernel
theorem dX12_line_67 : decode cX12_line 67 = .ok (.ifCond .eq 10, 3) := by decide +kernel
theorem dX12_line_70 : decode cX12_line 70 = .ok (.aload_n 0, 1) := by decide +kernel
theorem dX12_line_71 : decode cX12_line 71 = .ok (.invokevirtual 245, 3) := by decide +kernel
theorem dX12_line_74 : decode cX12_line 74 = .ok (.goto 8, 3) := by decide +kernel
theorem dX12_line_77 : decode cX12_line 77 = .ok (.aload_n 0, 1) := by decide +kernel
theorem dX12_line_78 : decode cX12_line 78 = .ok (.iconst 1, 1) := by decide +kernel
theorem dX12_line_79 : decode cX12_line 79 = .ok (.invokevirtual 201, 3) := by decide +kernel
theorem dX12_line_82 : decode cX12_line 82 = .ok (.ireturn, 1) := by decide +kernel
theorem dX12_readLand_0 : decode cX12_readLand 0 = .ok (.aload_n 0, 1) := by decide +kernel
theorem dX12_readLand_1 : decode cX12_readLand 1 = .ok (.getfield 37, 3) := by decide +kernel
theorem dX12_readLand_4 : decode cX12_readLand 4 = .ok (.iconst 0, 1) := by decide +kernel
theorem dX12_readLand_5 : decode cX12_readLand 5 = .ok (.iaload, 1) := by decide +kernel
theorem dX12_readLand_6 : decode cX12_readLand 6 = .ok (.istore_n 1, 1) := by decide +kernel
theorem dX12_readLand_7 : decode cX12_readLand 7 = .ok (.iload_n 1, 1) := by decide +kernel
theorem dX12_readLand_8 : decode cX12_readLand 8 = .ok (.bipush 7, 2) := by decide +kernel
theorem dX12_readLand_10 : decode cX12_readLand 10 = .ok (.if_icmp .ne 9, 3) := by decide +kernel
theorem dX12_readLand_13 : decode cX12_readLand 13 = .ok (.aload_n 0, 1) := by decide +kernel
theorem dX12_readLand_14 : decode cX12_readLand 14 = .ok (.iconst 4, 1) := by decide +kernel
theorem dX12_readLand_15 : decode cX12_readLand 15 = .ok (.invokevirtual 201, 3) := by decide +kernel
theorem dX12_readLand_18 : decode cX12_readLand 18 = .ok (.ireturn, 1) := by decide +kernel
theorem dX12_readLand_19 : decode cX12_readLand 19 = .ok (.aload_n 0, 1) := by decide +kernel
theorem dX12_readLand_20 : decode cX12_readLand 20 = .ok (.invokevirtual 204, 3) := by decide +kernel
theorem dX12_readLand_23 : decode cX12_readLand 23 = .ok (.aload_n 0, 1) := by decide +kernel
theorem dX12_readLand_24 : decode cX12_readLand 24 = .ok (.bipush 13, 2) := by decide +kernel
theorem dX12_readLand_26 : decode cX12_readLand 26 = .ok (.iload_n 1, 1) := by decide +kernel
theorem dX12_readLand_27 : decode cX12_readLand 27 = .ok (.iadd, 1) := by decide +kernel
theorem dX12_readLand_28 : decode cX12_readLand 28 = .ok (.invokevirtual 248, 3) := by decide +kernel
theorem dX12_readLand_31 : decode cX12_readLand 31 = .ok (.ifCond .eq 30, 3) := by decide +kernel
theorem dX12_readLand_34 : decode cX12_readLand 34 = .ok (.aload_n 0, 1) := by decide +kernel
theorem dX12_readLand_35 : decode cX12_readLand 35 = .ok (.iconst 3, 1) := by decide +kernel
theorem dX12_readLand_36 : decode cX12_readLand 36 = .ok (.iload_n 1, 1) := by decide +kernel
theorem dX12_readLand_37 : decode cX12_readLand 37 = .ok (.iadd, 1) := by decide +kernel
theorem dX12_readLand_38 : decode cX12_readLand 38 = .ok (.iconst 0, 1) := by decide +kernel
theorem dX12_readLand_39 : decode cX12_readLand 39 = .ok (.bipush 20, 2) := by decide +kernel
theorem dX12_readLand_41 : decode cX12_readLand 41 = .ok (.invokevirtual 251, 3) := by decide +kernel
theorem dX12_readLand_44 : decode cX12_readLand 44 = .ok (.ifCond .eq 17, 3) := by decide +kernel
theorem dX12_readLand_47 : decode cX12_readLand 47 = .ok (.aload_n 0, 1) := by decide +kernel
theorem dX12_readLand_48 : decode cX12_readLand 48 = .ok (.bipush 10, 2) := by decide +kernel
theorem dX12_readLand_50 : decode cX12_readLand 50 = .ok (.iload_n 1, 1) := by decide +kernel
theorem dX12_readLand_51 : decode cX12_readLand 51 = .ok (.iadd, 1) := by decide +kernel
theorem dX12_readLand_52 : decode cX12_readLand 52 = .ok (.iconst 0, 1) := by decide +kernel
theorem dX12_readLand_53 : decode cX12_readLand 53 = .ok (.bipush 20, 2) := by decide +kernel
theorem dX12_readLand_55 : decode cX12_readLand 55 = .ok (.invokevirtual 251, 3) := by decide +kernel
theorem dX12_readLand_58 : decode cX12_readLand 58 = .ok (.ifCond .ne 5, 3) := by decide +kernel
theorem dX12_readLand_61 : decode cX12_readLand 61 = .ok (.iconst 0, 1) := by decide +kernel
theorem dX12_readLand_62 : decode cX12_readLand 62 = .ok (.ireturn, 1) := by decide +kernel
theorem dX12_readLand_63 : decode cX12_readLand 63 = .ok (.aload_n 0, 1) := by decide +kernel
theorem dX12_readLand_64 : decode cX12_readLand 64 = .ok (.getfield 37, 3) := by decide +kernel
theorem dX12_readLand_67 : decode cX12_readLand 67 = .ok (.iconst 0, 1) := by decide +kernel
theorem dX12_readLand_68 : decode cX12_readLand 68 = .ok (.dup2, 1) := by decide +kernel
theorem dX12_readLand_69 : decode cX12_readLand 69 = .ok (.iaload, 1) := by decide +kernel
theorem dX12_readLand_70 : decode cX12_readLand 70 = .ok (.iconst 1, 1) := by decide +kernel
theorem dX12_readLand_71 : decode cX12_readLand 71 = .ok (.iadd, 1) := by decide +kernel
theorem dX12_readLand_72 : decode cX12_readLand 72 = .ok (.iastore, 1) := by decide +kernel
theorem dX12_readLand_73 : decode cX12_readLand 73 = .ok (.iconst 1, 1) := by decide +kernel
theorem dX12_readLand_74 : decode cX12_readLand 74 = .ok (.ireturn, 1) := by decide +kernel
theorem dX12_readStore_0 : decode cX12_readStore 0 = .ok (.aload_n 0, 1) := by decide +kernel
theorem dX12_readStore_1 : decode cX12_readStore 1 = .ok (.invokevirtual 204, 3) := by decide +kernel
theorem dX12_readStore_4 : decode cX12_readStore 4 = .ok (.aload_n 0, 1) := by decide +kernel
theorem dX12_readStore_5 : decode cX12_readStore 5 = .ok (.bipush 13, 2) := by decide +kernel
theorem dX12_readStore_7 : decode cX12_readStore 7 = .ok (.aload_n 0, 1) := by decide +kernel
theorem dX12_readStore_8 : decode cX12_readStore 8 = .ok (.getfield 37, 3) := by decide +kernel
theorem dX12_readStore_11 : decode cX12_readStore 11 = .ok (.iconst 0, 1) := by decide +kernel
theorem dX12_readStore_12 : decode cX12_readStore 12 = .ok (.iaload, 1) := by decide +kernel
theorem dX12_readStore_13 : decode cX12_readStore 13 = .ok (.invokevirtual 226, 3) := by decide +kernel
theorem dX12_readStore_16 : decode cX12_readStore 16 = .ok (.ifCond .ne 5, 3) := by decide +kernel
theorem dX12_readStore_19 : decode cX12_readStore 19 = .ok (.iconst 0, 1) := by decide +kernel
theorem dX12_readStore_20 : decode cX12_readStore 20 = .ok (.ireturn, 1) := by decide +kernel
theorem dX12_readStore_21 : decode cX12_readStore 21 = .ok (.aload_n 0, 1) := by decide +kernel
theorem dX12_readStore_22 : decode cX12_readStore 22 = .ok (.getfield 211, 3) := by decide +kernel
theorem dX12_readStore_25 : decode cX12_readStore 25 = .ok (.istore_n 1, 1) := by decide +kernel
theorem dX12_readStore_26 : decode cX12_readStore 26 = .ok (.aload_n 0, 1) := by decide +kernel
theorem dX12_readStore_27 : decode cX12_readStore 27 = .ok (.getfield 254, 3) := by decide +kernel
theorem dX12_readStore_30 : decode cX12_readStore 30 = .ok (.iload_n 1, 1) := by decide +kernel
theorem dX12_readStore_31 : decode cX12_readStore 31 = .ok (.invokestatic 257, 3) := by decide +kernel
theorem dX12_readStore_34 : decode cX12_readStore 34 = .ok (.ifCond .eq 9, 3) := by decide +kernel
theorem dX12_readStore_37 : decode cX12_readStore 37 = .ok (.aload_n 0, 1) := by decide +kernel
theorem dX12_readStore_38 : decode cX12_readStore 38 = .ok (.iconst 3, 1) := by decide +kernel
theorem dX12_readStore_39 : decode cX12_readStore 39 = .ok (.invokevirtual 201, 3) := by decide +kernel
theorem dX12_readStore_42 : decode cX12_readStore 42 = .ok (.ireturn, 1) := by decide +kernel
theorem dX12_readStore_43 : decode cX12_readStore 43 = .ok (.aload_n 0, 1) := by decide +kernel
theorem dX12_readStore_44 : decode cX12_readStore 44 = .ok (.dup, 1) := by decide +kernel
theorem dX12_readStore_45 : decode cX12_readStore 45 = .ok (.getfield 254, 3) := by decide +kernel
theorem dX12_readStore_48 : decode cX12_readStore 48 = .ok (.iconst 1, 1) := by decide +kernel
theorem dX12_readStore_49 : decode cX12_readStore 49 = .ok (.iload_n 1, 1) := by decide +kernel
theorem dX12_readStore_50 : decode cX12_readStore 50 = .ok (.ishl, 1) := by decide +kernel
theorem dX12_readStore_51 : decode cX12_readStore 51 = .ok (.ior, 1) := by decide +kernel
theorem dX12_readStore_52 : decode cX12_readStore 52 = .ok (.putfield 254, 3) := by decide +kernel
theorem dX12_readStore_55 : decode cX12_readStore 55 = .ok (.aload_n 0, 1) := by decide +kernel
theorem dX12_readStore_56 : decode cX12_readStore 56 = .ok (.invokevirtual 204, 3) := by decide +kernel
theorem dX12_readStore_59 : decode cX12_readStore 59 = .ok (.aload_n 0, 1) := by decide +kernel
theorem dX12_readStore_60 : decode cX12_readStore 60 = .ok (.bipush 17, 2) := by decide +kernel
theorem dX12_readStore_62 : decode cX12_readStore 62 = .ok (.iload_n 1, 1) := by decide +kernel
theorem dX12_readStore_63 : decode cX12_readStore 63 = .ok (.iadd, 1) := by decide +kernel
theorem dX12_readStore_64 : decode cX12_readStore 64 = .ok (.iconst 0, 1) := by decide +kernel
theorem dX12_readStore_65 : decode cX12_readStore 65 = .ok (.bipush 99, 2) := by decide +kernel
theorem dX12_readStore_67 : decode cX12_readStore 67 = .ok (.invokevirtual 251, 3) := by decide +kernel
theorem dX12_readStore_70 : decode cX12_readStore 70 = .ok (.ireturn, 1) := by decide +kernel
theorem dX12_readRoad_0 : decode cX12_readRoad 0 = .ok (.aload_n 0, 1) := by decide +kernel
theorem dX12_readRoad_1 : decode cX12_readRoad 1 = .ok (.getfield 37, 3) := by decide +kernel
theorem dX12_readRoad_4 : decode cX12_readRoad 4 = .ok (.iconst 1, 1) := by decide +kernel
theorem dX12_readRoad_5 : decode cX12_readRoad 5 = .ok (.iaload, 1) := by decide +kernel
theorem dX12_readRoad_6 : decode cX12_readRoad 6 = .ok (.istore_n 1, 1) := by decide +kernel
theorem dX12_readRoad_7 : decode cX12_readRoad 7 = .ok (.iload_n 1, 1) := by decide +kernel
theorem dX12_readRoad_8 : decode cX12_readRoad 8 = .ok (.bipush 12, 2) := by decide +kernel
theorem dX12_readRoad_10 : decode cX12_readRoad 10 = .ok (.if_icmp .ne 9, 3) := by decide +kernel
theorem dX12_readRoad_13 : decode cX12_readRoad 13 = .ok (.aload_n 0, 1) := by decide +kernel
theorem dX12_readRoad_14 : decode cX12_readRoad 14 = .ok (.iconst 4, 1) := by decide +kernel
theorem dX12_readRoad_15 : decode cX12_readRoad 15 = .ok (.invokevirtual 201, 3) := by decide +kernel
theorem dX12_readRoad_18 : decode cX12_readRoad 18 = .ok (.ireturn, 1) := by decide +kernel
theorem dX12_readRoad_19 : decode cX12_readRoad 19 = .ok (.aload_n 0, 1) := by decide +kernel
theorem dX12_readRoad_20 : decode cX12_readRoad 20 = .ok (.invokevirtual 204, 3) := by decide +kernel
theorem dX12_readRoad_23 : decode cX12_readRoad 23 = .ok (.aload_n 0, 1) := by decide +kernel
theorem dX12_readRoad_24 : decode cX12_readRoad 24 = .ok (.bipush 13, 2) := by decide +kernel
theorem dX12_readRoad_26 : decode cX12_readRoad 26 = .ok (.aload_n 0, 1) := by decide +kernel
theorem dX12_readRoad_27 : decode cX12_readRoad 27 = .ok (.getfield 37, 3) := by decide +kernel
theorem dX12_readRoad_30 : decode cX12_readRoad 30 = .ok (.iconst 0, 1) := by decide +kernel
theorem dX12_readRoad_31 : decode cX12_readRoad 31 = .ok (.iaload, 1) := by decide +kernel
theorem dX12_readRoad_32 : decode cX12_readRoad 32 = .ok (.invokevirtual 260, 3) := by decide +kernel
theorem dX12_readRoad_35 : decode cX12_readRoad 35 = .ok (.ifCond .ne 5, 3) := by decide +kernel
theorem dX12_readRoad_38 : decode cX12_readRoad 38 = .ok (.iconst 0, 1) := by decide +kernel
theorem dX12_readRoad_39 : decode cX12_readRoad 39 = .ok (.ireturn, 1) := by decide +kernel
theorem dX12_readRoad_40 : decode cX12_readRoad 40 = .ok (.aload_n 0, 1) := by decide +kernel
theorem dX12_readRoad_41 : decode cX12_readRoad 41 = .ok (.getfield 211, 3) := by decide +kernel
theorem dX12_readRoad_44 : decode cX12_readRoad 44 = .ok (.istore_n 2, 1) := by decide +kernel
theorem dX12_readRoad_45 : decode cX12_readRoad 45 = .ok (.aload_n 0, 1) := by decide +kernel
theorem dX12_readRoad_46 : decode cX12_readRoad 46 = .ok (.bipush 13, 2) := by decide +kernel
theorem dX12_readRoad_48 : decode cX12_readRoad 48 = .ok (.aload_n 0, 1) := by decide +kernel
theorem dX12_readRoad_49 : decode cX12_readRoad 49 = .ok (.getfield 37, 3) := by decide +kernel
theorem dX12_readRoad_52 : decode cX12_readRoad 52 = .ok (.iconst 0, 1) := by decide +kernel
theorem dX12_readRoad_53 : decode cX12_readRoad 53 = .ok (.iaload, 1) := by decide +kernel
theorem dX12_readRoad_54 : decode cX12_readRoad 54 = .ok (.invokevirtual 226, 3) := by decide +kernel
theorem dX12_readRoad_57 : decode cX12_readRoad 57 = .ok (.ifCond .ne 5, 3) := by decide +kernel
theorem dX12_readRoad_60 : decode cX12_readRoad 60 = .ok (.iconst 0, 1) := by decide +kernel
theorem dX12_readRoad_61 : decode cX12_readRoad 61 = .ok (.ireturn, 1) := by decide +kernel
theorem dX12_readRoad_62 : decode cX12_readRoad 62 = .ok (.aload_n 0, 1) := by decide +kernel
theorem dX12_readRoad_63 : decode cX12_readRoad 63 = .ok (.getfield 211, 3) := by decide +kernel
theorem dX12_readRoad_66 : decode cX12_readRoad 66 = .ok (.iload_n 2, 1) := by decide +kernel
theorem dX12_readRoad_67 : decode cX12_readRoad 67 = .ok (.if_icmp .ne 9, 3) := by decide +kernel
theorem dX12_readRoad_70 : decode cX12_readRoad 70 = .ok (.aload_n 0, 1) := by decide +kernel
theorem dX12_readRoad_71 : decode cX12_readRoad 71 = .ok (.iconst 3, 1) := by decide +kernel
theorem dX12_readRoad_72 : decode cX12_readRoad 72 = .ok (.invokevirtual 201, 3) := by decide +kernel
theorem dX12_readRoad_75 : decode cX12_readRoad 75 = .ok (.ireturn, 1) := by decide +kernel
theorem dX12_readRoad_76 : decode cX12_readRoad 76 = .ok (.iconst 0, 1) := by decide +kernel
theorem dX12_readRoad_77 : decode cX12_readRoad 77 = .ok (.istore_n 3, 1) := by decide +kernel
theorem dX12_readRoad_78 : decode cX12_readRoad 78 = .ok (.iload_n 3, 1) := by decide +kernel
theorem dX12_readRoad_79 : decode cX12_readRoad 79 = .ok (.iload_n 1, 1) := by decide +kernel
theorem dX12_readRoad_80 : decode cX12_readRoad 80 = .ok (.if_icmp .ge 73, 3) := by decide +kernel
theorem dX12_readRoad_83 : decode cX12_readRoad 83 = .ok (.aload_n 0, 1) := by decide +kernel
theorem dX12_readRoad_84 : decode cX12_readRoad 84 = .ok (.getfield 37, 3) := by decide +kernel
theorem dX12_readRoad_87 : decode cX12_readRoad 87 = .ok (.bipush 24, 2) := by decide +kernel
theorem dX12_readRoad_89 : decode cX12_readRoad 89 = .ok (.iload_n 3, 1) := by decide +kernel
theorem dX12_readRoad_90 : decode cX12_readRoad 90 = .ok (.iadd, 1) := by decide +kernel
theorem dX12_readRoad_91 : decode cX12_readRoad 91 = .ok (.iaload, 1) := by decide +kernel
theorem dX12_readRoad_92 : decode cX12_readRoad 92 = .ok (.iload_n 2, 1) := by decide +kernel
theorem dX12_readRoad_93 : decode cX12_readRoad 93 = .ok (.if_icmp .ne 19, 3) := by decide +kernel
theorem dX12_readRoad_96 : decode cX12_readRoad 96 = .ok (.aload_n 0, 1) := by decide +kernel
theorem dX12_readRoad_97 : decode cX12_readRoad 97 = .ok (.getfield 37, 3) := by decide +kernel
theorem dX12_readRoad_100 : decode cX12_readRoad 100 = .ok (.bipush 36, 2) := by decide +kernel
theorem dX12_readRoad_102 : decode cX12_readRoad 102 = .ok (.iload_n 3, 1) := by decide +kernel
theorem dX12_readRoad_103 : decode cX12_readRoad 103 = .ok (.iadd, 1) := by decide +kernel
theorem dX12_readRoad_104 : decode cX12_readRoad 104 = .ok (.iaload, 1) := by decide +kernel
theorem dX12_readRoad_105 : decode cX12_readRoad 105 = .ok (.aload_n 0, 1) := by decide +kernel
theorem dX12_readRoad_106 : decode cX12_readRoad 106 = .ok (.getfield 211, 3) := by decide +kernel
theorem dX12_readRoad_109 : decode cX12_readRoad 109 = .ok (.if_icmp .eq 32, 3) := by decide +kernel
theorem dX12_readRoad_112 : decode cX12_readRoad 112 = .ok (.aload_n 0, 1) := by decide +kernel
theorem dX12_readRoad_113 : decode cX12_readRoad 113 = .ok (.getfield 37, 3) := by decide +kernel
theorem dX12_readRoad_116 : decode cX12_readRoad 116 = .ok (.bipush 24, 2) := by decide +kernel
theorem dX12_readRoad_118 : decode cX12_readRoad 118 = .ok (.iload_n 3, 1) := by decide +kernel
theorem dX12_readRoad_119 : decode cX12_readRoad 119 = .ok (.iadd, 1) := by decide +kernel
theorem dX12_readRoad_120 : decode cX12_readRoad 120 = .ok (.iaload, 1) := by decide +kernel
theorem dX12_readRoad_121 : decode cX12_readRoad 121 = .ok (.aload_n 0, 1) := by decide +kernel
theorem dX12_readRoad_122 : decode cX12_readRoad 122 = .ok (.getfield 211, 3) := by decide +kernel
theorem dX12_readRoad_125 : decode cX12_readRoad 125 = .ok (.if_icmp .ne 22, 3) := by decide +kernel
theorem dX12_readRoad_128 : decode cX12_readRoad 128 = .ok (.aload_n 0, 1) := by decide +kernel
theorem dX12_readRoad_129 : decode cX12_readRoad 129 = .ok (.getfield 37, 3) := by decide +kernel
theorem dX12_readRoad_132 : decode cX12_readRoad 132 = .ok (.bipush 36, 2) := by decide +kernel
theorem dX12_readRoad_134 : decode cX12_readRoad 134 = .ok (.iload_n 3, 1) := by decide +kernel
theorem dX12_readRoad_135 : decode cX12_readRoad 135 = .ok (.iadd, 1) := by decide +kernel
theorem dX12_readRoad_136 : decode cX12_readRoad 136 = .ok (.iaload, 1) := by decide +kernel
theorem dX12_readRoad_137 : decode cX12_readRoad 137 = .ok (.iload_n 2, 1) := by decide +kernel
theorem dX12_readRoad_138 : decode cX12_readRoad 138 = .ok (.if_icmp .ne 9, 3) := by decide +kernel
theorem dX12_readRoad_141 : decode cX12_readRoad 141 = .ok (.aload_n 0, 1) := by decide +kernel
theorem dX12_readRoad_142 : decode cX12_readRoad 142 = .ok (.iconst 3, 1) := by decide +kernel
theorem dX12_readRoad_143 : decode cX12_readRoad 143 = .ok (.invokevirtual 201, 3) := by decide +kernel
theorem dX12_readRoad_146 : decode cX12_readRoad 146 = .ok (.ireturn, 1) := by decide +kernel
theorem dX12_readRoad_147 : decode cX12_readRoad 147 = .ok (.iinc 3 1, 3) := by decide +kernel
theorem dX12_readRoad_150 : decode cX12_readRoad 150 = .ok (.goto (-72), 3) := by decide +kernel
theorem dX12_readRoad_153 : decode cX12_readRoad 153 = .ok (.aload_n 0, 1) := by decide +kernel
theorem dX12_readRoad_154 : decode cX12_readRoad 154 = .ok (.getfield 37, 3) := by decide +kernel
theorem dX12_readRoad_157 : decode cX12_readRoad 157 = .ok (.bipush 24, 2) := by decide +kernel
theorem dX12_readRoad_159 : decode cX12_readRoad 159 = .ok (.iload_n 1, 1) := by decide +kernel
theorem dX12_readRoad_160 : decode cX12_readRoad 160 = .ok (.iadd, 1) := by decide +kernel
theorem dX12_readRoad_161 : decode cX12_readRoad 161 = .ok (.iload_n 2, 1) := by decide +kernel
theorem dX12_readRoad_162 : decode cX12_readRoad 162 = .ok (.iastore, 1) := by decide +kernel
theorem dX12_readRoad_163 : decode cX12_readRoad 163 = .ok (.aload_n 0, 1) := by decide +kernel
theorem dX12_readRoad_164 : decode cX12_readRoad 164 = .ok (.getfield 37, 3) := by decide +kernel
theorem dX12_readRoad_167 : decode cX12_readRoad 167 = .ok (.bipush 36, 2) := by decide +kernel
theorem dX12_readRoad_169 : decode cX12_readRoad 169 = .ok (.iload_n 1, 1) := by decide +kernel
theorem dX12_readRoad_170 : decode cX12_readRoad 170 = .ok (.iadd, 1) := by decide +kernel
theorem dX12_readRoad_171 : decode cX12_readRoad 171 = .ok (.aload_n 0, 1) := by decide +kernel
theorem dX12_readRoad_172 : decode cX12_readRoad 172 = .ok (.getfield 211, 3) := by decide +kernel
theorem dX12_readRoad_175 : decode cX12_readRoad 175 = .ok (.iastore, 1) := by decide +kernel
theorem dX12_readRoad_176 : decode cX12_readRoad 176 = .ok (.aload_n 0, 1) := by decide +kernel
theorem dX12_readRoad_177 : decode cX12_readRoad 177 = .ok (.invokevirtual 204, 3) := by decide +kernel
theorem dX12_readRoad_180 : decode cX12_readRoad 180 = .ok (.aload_n 0, 1) := by decide +kernel
theorem dX12_readRoad_181 : decode cX12_readRoad 181 = .ok (.bipush 48, 2) := by decide +kernel
theorem dX12_readRoad_183 : decode cX12_readRoad 183 = .ok (.iload_n 1, 1) := by decide +kernel
theorem dX12_readRoad_184 : decode cX12_readRoad 184 = .ok (.iadd, 1) := by decide +kernel
theorem dX12_readRoad_185 : decode cX12_readRoad 185 = .ok (.iconst 0, 1) := by decide +kernel
theorem dX12_readRoad_186 : decode cX12_readRoad 186 = .ok (.sipush 240, 3) := by decide +kernel
theorem dX12_readRoad_189 : decode cX12_readRoad 189 = .ok (.invokevirtual 251, 3) := by decide +kernel
theorem dX12_readRoad_192 : decode cX12_readRoad 192 = .ok (.ifCond .eq 26, 3) := by decide +kernel
theorem dX12_readRoad_195 : decode cX12_readRoad 195 = .ok (.aload_n 0, 1) := by decide +kernel
theorem dX12_readRoad_196 : decode cX12_readRoad 196 = .ok (.bipush 60, 2) := by decide +kernel
theorem dX12_readRoad_198 : decode cX12_readRoad 198 = .ok (.iload_n 1, 1) := by decide +kernel
theorem dX12_readRoad_199 : decode cX12_readRoad 199 = .ok (.iadd, 1) := by decide +kernel
theorem dX12_readRoad_200 : decode cX12_readRoad 200 = .ok (.aload_n 0, 1) := by decide +kernel
theorem dX12_readRoad_201 : decode cX12_readRoad 201 = .ok (.getfield 37, 3) := by decide +kernel
theorem dX12_readRoad_204 : decode cX12_readRoad 204 = .ok (.bipush 48, 2) := by decide +kernel
theorem dX12_readRoad_206 : decode cX12_readRoad 206 = .ok (.iload_n 1, 1) := by decide +kernel
theorem dX12_readRoad_207 : decode cX12_readRoad 207 = .ok (.iadd, 1) := by decide +kernel
theorem dX12_readRoad_208 : decode cX12_readRoad 208 = .ok (.iaload, 1) := by decide +kernel
theorem dX12_readRoad_209 : decode cX12_readRoad 209 = .ok (.sipush 240, 3) := by decide +kernel
theorem dX12_readRoad_212 : decode cX12_readRoad 212 = .ok (.invokevirtual 251, 3) := by decide +kernel
theorem dX12_readRoad_215 : decode cX12_readRoad 215 = .ok (.ifCond .ne 5, 3) := by decide +kernel
theorem dX12_readRoad_218 : decode cX12_readRoad 218 = .ok (.iconst 0, 1) := by decide +kernel
theorem dX12_readRoad_219 : decode cX12_readRoad 219 = .ok (.ireturn, 1) := by decide +kernel
theorem dX12_readRoad_220 : decode cX12_readRoad 220 = .ok (.aload_n 0, 1) := by decide +kernel
theorem dX12_readRoad_221 : decode cX12_readRoad 221 = .ok (.getfield 37, 3) := by decide +kernel
theorem dX12_readRoad_224 : decode cX12_readRoad 224 = .ok (.iconst 1, 1) := by decide +kernel
theorem dX12_readRoad_225 : decode cX12_readRoad 225 = .ok (.dup2, 1) := by decide +kernel
theorem dX12_readRoad_226 : decode cX12_readRoad 226 = .ok (.iaload, 1) := by decide +kernel
theorem dX12_readRoad_227 : decode cX12_readRoad 227 = .ok (.iconst 1, 1) := by decide +kernel
theorem dX12_readRoad_228 : decode cX12_readRoad 228 = .ok (.iadd, 1) := by decide +kernel
theorem dX12_readRoad_229 : decode cX12_readRoad 229 = .ok (.iastore, 1) := by decide +kernel
theorem dX12_readRoad_230 : decode cX12_readRoad 230 = .ok (.iconst 1, 1) := by decide +kernel
theorem dX12_readRoad_231 : decode cX12_readRoad 231 = .ok (.ireturn, 1) := by decide +kernel
theorem dX12_readTreaty_0 : decode cX12_readTreaty 0 = .ok (.aload_n 0, 1) := by decide +kernel
theorem dX12_readTreaty_1 : decode cX12_readTreaty 1 = .ok (.invokevirtual 204, 3) := by decide +kernel
theorem dX12_readTreaty_4 : decode cX12_readTreaty 4 = .ok (.aload_n 0, 1) := by decide +kernel
theorem dX12_readTreaty_5 : decode cX12_readTreaty 5 = .ok (.bipush 13, 2) := by decide +kernel
theorem dX12_readTreaty_7 : decode cX12_readTreaty 7 = .ok (.aload_n 0, 1) := by decide +kernel
theorem dX12_readTreaty_8 : decode cX12_readTreaty 8 = .ok (.getfield 37, 3) := by decide +kernel
theorem dX12_readTreaty_11 : decode cX12_readTreaty 11 = .ok (.iconst 0, 1) := by decide +kernel
theorem dX12_readTreaty_12 : decode cX12_readTreaty 12 = .ok (.iaload, 1) := by decide +kernel
theorem dX12_readTreaty_13 : decode cX12_readTreaty 13 = .ok (.invokevirtual 260, 3) := by decide +kernel
theorem dX12_readTreaty_16 : decode cX12_readTreaty 16 = .ok (.ifCond .ne 5, 3) := by decide +kernel
theorem dX12_readTreaty_19 : decode cX12_readTreaty 19 = .ok (.iconst 0, 1) := by decide +kernel
theorem dX12_readTreaty_20 : decode cX12_readTreaty 20 = .ok (.ireturn, 1) := by decide +kernel
theorem dX12_readTreaty_21 : decode cX12_readTreaty 21 = .ok (.aload_n 0, 1) := by decide +kernel
theorem dX12_readTreaty_22 : decode cX12_readTreaty 22 = .ok (.getfield 211, 3) := by decide +kernel
theorem dX12_readTreaty_25 : decode cX12_readTreaty 25 = .ok (.istore_n 1, 1) := by decide +kernel
theorem dX12_readTreaty_26 : decode cX12_readTreaty 26 = .ok (.aload_n 0, 1) := by decide +kernel
theorem dX12_readTreaty_27 : decode cX12_readTreaty 27 = .ok (.bipush 13, 2) := by decide +kernel
theorem dX12_readTreaty_29 : decode cX12_readTreaty 29 = .ok (.aload_n 0, 1) := by decide +kernel
theorem dX12_readTreaty_30 : decode cX12_readTreaty 30 = .ok (.getfield 37, 3) := by decide +kernel
theorem dX12_readTreaty_33 : decode cX12_readTreaty 33 = .ok (.iconst 0, 1) := by decide +kernel
theorem dX12_readTreaty_34 : decode cX12_readTreaty 34 = .ok (.iaload, 1) := by decide +kernel
theorem dX12_readTreaty_35 : decode cX12_readTreaty 35 = .ok (.invokevirtual 226, 3) := by decide +kernel
theorem dX12_readTreaty_38 : decode cX12_readTreaty 38 = .ok (.ifCond .ne 5, 3) := by decide +kernel
theorem dX12_readTreaty_41 : decode cX12_readTreaty 41 = .ok (.iconst 0, 1) := by decide +kernel
theorem dX12_readTreaty_42 : decode cX12_readTreaty 42 = .ok (.ireturn, 1) := by decide +kernel
theorem dX12_readTreaty_43 : decode cX12_readTreaty 43 = .ok (.aload_n 0, 1) := by decide +kernel
theorem dX12_readTreaty_44 : decode cX12_readTreaty 44 = .ok (.getfield 211, 3) := by decide +kernel
theorem dX12_readTreaty_47 : decode cX12_readTreaty 47 = .ok (.iload_n 1, 1) := by decide +kernel
theorem dX12_readTreaty_48 : decode cX12_readTreaty 48 = .ok (.if_icmp .eq 22, 3) := by decide +kernel
theorem dX12_readTreaty_51 : decode cX12_readTreaty 51 = .ok (.aload_n 0, 1) := by decide +kernel
theorem dX12_readTreaty_52 : decode cX12_readTreaty 52 = .ok (.getfield 37, 3) := by decide +kernel
theorem dX12_readTreaty_55 : decode cX12_readTreaty 55 = .ok (.bipush 72, 2) := by decide +kernel
theorem dX12_readTreaty_57 : decode cX12_readTreaty 57 = .ok (.iload_n 1, 1) := by decide +kernel
theorem dX12_readTreaty_58 : decode cX12_readTreaty 58 = .ok (.iadd, 1) := by decide +kernel
theorem dX12_readTreaty_59 : decode cX12_readTreaty 59 = .ok (.iaload, 1) := by decide +kernel
theorem dX12_readTreaty_60 : decode cX12_readTreaty 60 = .ok (.aload_n 0, 1) := by decide +kernel
theorem dX12_readTreaty_61 : decode cX12_readTreaty 61 = .ok (.getfield 211, 3) := by decide +kernel
theorem dX12_readTreaty_64 : decode cX12_readTreaty 64 = .ok (.invokestatic 257, 3) := by decide +kernel
theorem dX12_readTreaty_67 : decode cX12_readTreaty 67 = .ok (.ifCond .eq 9, 3) := by decide +kernel
theorem dX12_readTreaty_70 : decode cX12_readTreaty 70 = .ok (.aload_n 0, 1) := by decide +kernel
theorem dX12_readTreaty_71 : decode cX12_readTreaty 71 = .ok (.iconst 3, 1) := by decide +kernel
theorem dX12_readTreaty_72 : decode cX12_readTreaty 72 = .ok (.invokevirtual 201, 3) := by decide +kernel
theorem dX12_readTreaty_75 : decode cX12_readTreaty 75 = .ok (.ireturn, 1) := by decide +kernel
theorem dX12_readTreaty_76 : decode cX12_readTreaty 76 = .ok (.aload_n 0, 1) := by decide +kernel
theorem dX12_readTreaty_77 : decode cX12_readTreaty 77 = .ok (.getfield 37, 3) := by decide +kernel
theorem dX12_readTreaty_80 : decode cX12_readTreaty 80 = .ok (.bipush 72, 2) := by decide +kernel
theorem dX12_readTreaty_82 : decode cX12_readTreaty 82 = .ok (.iload_n 1, 1) := by decide +kernel
theorem dX12_readTreaty_83 : decode cX12_readTreaty 83 = .ok (.iadd, 1) := by decide +kernel
theorem dX12_readTreaty_84 : decode cX12_readTreaty 84 = .ok (.dup2, 1) := by decide +kernel
theorem dX12_readTreaty_85 : decode cX12_readTreaty 85 = .ok (.iaload, 1) := by decide +kernel
theorem dX12_readTreaty_86 : decode cX12_readTreaty 86 = .ok (.iconst 1, 1) := by decide +kernel
theorem dX12_readTreaty_87 : decode cX12_readTreaty 87 = .ok (.aload_n 0, 1) := by decide +kernel
theorem dX12_readTreaty_88 : decode cX12_readTreaty 88 = .ok (.getfield 211, 3) := by decide +kernel
theorem dX12_readTreaty_91 : decode cX12_readTreaty 91 = .ok (.ishl, 1) := by decide +kernel
theorem dX12_readTreaty_92 : decode cX12_readTreaty 92 = .ok (.ior, 1) := by decide +kernel
theorem dX12_readTreaty_93 : decode cX12_readTreaty 93 = .ok (.iastore, 1) := by decide +kernel
theorem dX12_readTreaty_94 : decode cX12_readTreaty 94 = .ok (.aload_n 0, 1) := by decide +kernel
theorem dX12_readTreaty_95 : decode cX12_readTreaty 95 = .ok (.invokevirtual 204, 3) := by decide +kernel
theorem dX12_readTreaty_98 : decode cX12_readTreaty 98 = .ok (.iconst 1, 1) := by decide +kernel
theorem dX12_readTreaty_99 : decode cX12_readTreaty 99 = .ok (.ireturn, 1) := by decide +kernel
theorem dX12_readPerson_0 : decode cX12_readPerson 0 = .ok (.aload_n 0, 1) := by decide +kernel
theorem dX12_readPerson_1 : decode cX12_readPerson 1 = .ok (.getfield 37, 3) := by decide +kernel
theorem dX12_readPerson_4 : decode cX12_readPerson 4 = .ok (.iconst 2, 1) := by decide +kernel
theorem dX12_readPerson_5 : decode cX12_readPerson 5 = .ok (.iaload, 1) := by decide +kernel
theorem dX12_readPerson_6 : decode cX12_readPerson 6 = .ok (.istore_n 1, 1) := by decide +kernel
theorem dX12_readPerson_7 : decode cX12_readPerson 7 = .ok (.iload_n 1, 1) := by decide +kernel
theorem dX12_readPerson_8 : decode cX12_readPerson 8 = .ok (.bipush 6, 2) := by decide +kernel
theorem dX12_readPerson_10 : decode cX12_readPerson 10 = .ok (.if_icmp .ne 9, 3) := by decide +kernel
theorem dX12_readPerson_13 : decode cX12_readPerson 13 = .ok (.aload_n 0, 1) := by decide +kernel
theorem dX12_readPerson_14 : decode cX12_readPerson 14 = .ok (.iconst 4, 1) := by decide +kernel
theorem dX12_readPerson_15 : decode cX12_readPerson 15 = .ok (.invokevirtual 201, 3) := by decide +kernel
theorem dX12_readPerson_18 : decode cX12_readPerson 18 = .ok (.ireturn, 1) := by decide +kernel
theorem dX12_readPerson_19 : decode cX12_readPerson 19 = .ok (.aload_n 0, 1) := by decide +kernel
theorem dX12_readPerson_20 : decode cX12_readPerson 20 = .ok (.invokevirtual 204, 3) := by decide +kernel
theorem dX12_readPerson_23 : decode cX12_readPerson 23 = .ok (.aload_n 0, 1) := by decide +kernel
theorem dX12_readPerson_24 : decode cX12_readPerson 24 = .ok (.bipush 20, 2) := by decide +kernel
theorem dX12_readPerson_26 : decode cX12_readPerson 26 = .ok (.iload_n 1, 1) := by decide +kernel
theorem dX12_readPerson_27 : decode cX12_readPerson 27 = .ok (.iadd, 1) := by decide +kernel
theorem dX12_readPerson_28 : decode cX12_readPerson 28 = .ok (.invokevirtual 248, 3) := by decide +kernel
theorem dX12_readPerson_31 : decode cX12_readPerson 31 = .ok (.ifCond .eq 18, 3) := by decide +kernel
theorem dX12_readPerson_34 : decode cX12_readPerson 34 = .ok (.aload_n 0, 1) := by decide +kernel
theorem dX12_readPerson_35 : decode cX12_readPerson 35 = .ok (.bipush 13, 2) := by decide +kernel
theorem dX12_readPerson_37 : decode cX12_readPerson 37 = .ok (.aload_n 0, 1) := by decide +kernel
theorem dX12_readPerson_38 : decode cX12_readPerson 38 = .ok (.getfield 37, 3) := by decide +kernel
theorem dX12_readPerson_41 : decode cX12_readPerson 41 = .ok (.iconst 0, 1) := by decide +kernel
theorem dX12_readPerson_42 : decode cX12_readPerson 42 = .ok (.iaload, 1) := by decide +kernel
theorem dX12_readPerson_43 : decode cX12_readPerson 43 = .ok (.invokevirtual 260, 3) := by decide +kernel
theorem dX12_readPerson_46 : decode cX12_readPerson 46 = .ok (.ifCond .ne 5, 3) := by decide +kernel
theorem dX12_readPerson_49 : decode cX12_readPerson 49 = .ok (.iconst 0, 1) := by decide +kernel
theorem dX12_readPerson_50 : decode cX12_readPerson 50 = .ok (.ireturn, 1) := by decide +kernel
theorem dX12_readPerson_51 : decode cX12_readPerson 51 = .ok (.aload_n 0, 1) := by decide +kernel
theorem dX12_readPerson_52 : decode cX12_readPerson 52 = .ok (.getfield 37, 3) := by decide +kernel
theorem dX12_readPerson_55 : decode cX12_readPerson 55 = .ok (.bipush 79, 2) := by decide +kernel
theorem dX12_readPerson_57 : decode cX12_readPerson 57 = .ok (.iload_n 1, 1) := by decide +kernel
theorem dX12_readPerson_58 : decode cX12_readPerson 58 = .ok (.iadd, 1) := by decide +kernel
theorem dX12_readPerson_59 : decode cX12_readPerson 59 = .ok (.aload_n 0, 1) := by decide +kernel
theorem dX12_readPerson_60 : decode cX12_readPerson 60 = .ok (.getfield 211, 3) := by decide +kernel
theorem dX12_readPerson_63 : decode cX12_readPerson 63 = .ok (.iastore, 1) := by decide +kernel
theorem dX12_readPerson_64 : decode cX12_readPerson 64 = .ok (.aload_n 0, 1) := by decide +kernel
theorem dX12_readPerson_65 : decode cX12_readPerson 65 = .ok (.bipush 85, 2) := by decide +kernel
theorem dX12_readPerson_67 : decode cX12_readPerson 67 = .ok (.iload_n 1, 1) := by decide +kernel
theorem dX12_readPerson_68 : decode cX12_readPerson 68 = .ok (.iadd, 1) := by decide +kernel
theorem dX12_readPerson_69 : decode cX12_readPerson 69 = .ok (.iconst 1, 1) := by decide +kernel
theorem dX12_readPerson_70 : decode cX12_readPerson 70 = .ok (.sipush 240, 3) := by decide +kernel
theorem dX12_readPerson_73 : decode cX12_readPerson 73 = .ok (.invokevirtual 251, 3) := by decide +kernel
theorem dX12_readPerson_76 : decode cX12_readPerson 76 = .ok (.ifCond .ne 5, 3) := by decide +kernel
theorem dX12_readPerson_79 : decode cX12_readPerson 79 = .ok (.iconst 0, 1) := by decide +kernel
theorem dX12_readPerson_80 : decode cX12_readPerson 80 = .ok (.ireturn, 1) := by decide +kernel
theorem dX12_readPerson_81 : decode cX12_readPerson 81 = .ok (.aload_n 0, 1) := by decide +kernel
theorem dX12_readPerson_82 : decode cX12_readPerson 82 = .ok (.getfield 37, 3) := by decide +kernel
theorem dX12_readPerson_85 : decode cX12_readPerson 85 = .ok (.iconst 2, 1) := by decide +kernel
theorem dX12_readPerson_86 : decode cX12_readPerson 86 = .ok (.dup2, 1) := by decide +kernel
theorem dX12_readPerson_87 : decode cX12_readPerson 87 = .ok (.iaload, 1) := by decide +kernel
theorem dX12_readPerson_88 : decode cX12_readPerson 88 = .ok (.iconst 1, 1) := by decide +kernel
theorem dX12_readPerson_89 : decode cX12_readPerson 89 = .ok (.iadd, 1) := by decide +kernel
theorem dX12_readPerson_90 : decode cX12_readPerson 90 = .ok (.iastore, 1) := by decide +kernel
theorem dX12_readPerson_91 : decode cX12_readPerson 91 = .ok (.iconst 1, 1) := by decide +kernel
theorem dX12_readPerson_92 : decode cX12_readPerson 92 = .ok (.ireturn, 1) := by decide +kernel
theorem dX12_map_0 : decode cX12_map 0 = .ok (.aload_n 0, 1) := by decide +kernel
theorem dX12_map_1 : decode cX12_map 1 = .ok (.iconst 0, 1) := by decide +kernel
theorem dX12_map_2 : decode cX12_map 2 = .ok (.putfield 1, 3) := by decide +kernel
theorem dX12_map_5 : decode cX12_map 5 = .ok (.aload_n 0, 1) := by decide +kernel
theorem dX12_map_6 : decode cX12_map 6 = .ok (.sipush 900, 3) := by decide +kernel
theorem dX12_map_9 : decode cX12_map 9 = .ok (.invokevirtual 263, 3) := by decide +kernel
theorem dX12_map_12 : decode cX12_map 12 = .ok (.aload_n 0, 1) := by decide +kernel
theorem dX12_map_13 : decode cX12_map 13 = .ok (.iconst 0, 1) := by decide +kernel
theorem dX12_map_14 : decode cX12_map 14 = .ok (.putfield 192, 3) := by decide +kernel
theorem dX12_map_17 : decode cX12_map 17 = .ok (.aload_n 0, 1) := by decide +kernel
theorem dX12_map_18 : decode cX12_map 18 = .ok (.iconst 0, 1) := by decide +kernel
theorem dX12_map_19 : decode cX12_map 19 = .ok (.putfield 266, 3) := by decide +kernel
theorem dX12_map_22 : decode cX12_map 22 = .ok (.aload_n 0, 1) := by decide +kernel
theorem dX12_map_23 : decode cX12_map 23 = .ok (.iconst 0, 1) := by decide +kernel
theorem dX12_map_24 : decode cX12_map 24 = .ok (.putfield 254, 3) := by decide +kernel
theorem dX12_map_27 : decode cX12_map 27 = .ok (.aload_n 0, 1) := by decide +kernel
theorem dX12_map_28 : decode cX12_map 28 = .ok (.invokevirtual 162, 3) := by decide +kernel
theorem dX12_map_31 : decode cX12_map 31 = .ok (.aload_n 0, 1) := by decide +kernel
theorem dX12_map_32 : decode cX12_map 32 = .ok (.invokevirtual 204, 3) := by decide +kernel
theorem dX12_map_35 : decode cX12_map 35 = .ok (.aload_n 0, 1) := by decide +kernel
theorem dX12_map_36 : decode cX12_map 36 = .ok (.getfield 175, 3) := by decide +kernel
theorem dX12_map_39 : decode cX12_map 39 = .ok (.ifCond .eq 39, 3) := by decide +kernel
theorem dX12_map_42 : decode cX12_map 42 = .ok (.aload_n 0, 1) := by decide +kernel
theorem dX12_map_43 : decode cX12_map 43 = .ok (.invokevirtual 269, 3) := by decide +kernel
theorem dX12_map_46 : decode cX12_map 46 = .ok (.ifCond .eq 12, 3) := by decide +kernel
theorem dX12_map_49 : decode cX12_map 49 = .ok (.aload_n 0, 1) := by decide +kernel
theorem dX12_map_50 : decode cX12_map 50 = .ok (.bipush 59, 2) := by decide +kernel
theorem dX12_map_52 : decode cX12_map 52 = .ok (.invokevirtual 272, 3) := by decide +kernel
theorem dX12_map_55 : decode cX12_map 55 = .ok (.ifCond .ne 10, 3) := by decide +kernel
theorem dX12_map_58 : decode cX12_map 58 = .ok (.iconst (-1), 1) := by decide +kernel
theorem dX12_map_59 : decode cX12_map 59 = .ok (.aload_n 0, 1) := by decide +kernel
theorem dX12_map_60 : decode cX12_map 60 = .ok (.getfield 195, 3) := by decide +kernel
theorem dX12_map_63 : decode cX12_map 63 = .ok (.isub, 1) := by decide +kernel
theorem dX12_map_64 : decode cX12_map 64 = .ok (.ireturn, 1) := by decide +kernel
theorem dX12_map_65 : decode cX12_map 65 = .ok (.aload_n 0, 1) := by decide +kernel
theorem dX12_map_66 : decode cX12_map 66 = .ok (.dup, 1) := by decide +kernel
theorem dX12_map_67 : decode cX12_map 67 = .ok (.getfield 266, 3) := by decide +kernel
theorem dX12_map_70 : decode cX12_map 70 = .ok (.iconst 1, 1) := by decide +kernel
theorem dX12_map_71 : decode cX12_map 71 = .ok (.iadd, 1) := by decide +kernel
theorem dX12_map_72 : decode cX12_map 72 = .ok (.putfield 266, 3) := by decide +kernel
theorem dX12_map_75 : decode cX12_map 75 = .ok (.goto (-40), 3) := by decide +kernel
theorem dX12_map_78 : decode cX12_map 78 = .ok (.iconst 0, 1) := by decide +kernel
theorem dX12_map_79 : decode cX12_map 79 = .ok (.istore_n 1, 1) := by decide +kernel
theorem dX12_map_80 : decode cX12_map 80 = .ok (.iload_n 1, 1) := by decide +kernel
theorem dX12_map_81 : decode cX12_map 81 = .ok (.sipush 319, 3) := by decide +kernel
theorem dX12_map_84 : decode cX12_map 84 = .ok (.if_icmp .ge 31, 3) := by decide +kernel
theorem dX12_map_87 : decode cX12_map 87 = .ok (.aload_n 0, 1) := by decide +kernel
theorem dX12_map_88 : decode cX12_map 88 = .ok (.getfield 33, 3) := by decide +kernel
theorem dX12_map_91 : decode cX12_map 91 = .ok (.iload_n 1, 1) := by decide +kernel
theorem dX12_map_92 : decode cX12_map 92 = .ok (.iload_n 1, 1) := by decide +kernel
theorem dX12_map_93 : decode cX12_map 93 = .ok (.bipush 91, 2) := by decide +kernel
theorem dX12_map_95 : decode cX12_map 95 = .ok (.if_icmp .ge 12, 3) := by decide +kernel
theorem dX12_map_98 : decode cX12_map 98 = .ok (.aload_n 0, 1) := by decide +kernel
theorem dX12_map_99 : decode cX12_map 99 = .ok (.getfield 37, 3) := by decide +kernel
theorem dX12_map_102 : decode cX12_map 102 = .ok (.iload_n 1, 1) := by decide +kernel
theorem dX12_map_103 : decode cX12_map 103 = .ok (.iaload, 1) := by decide +kernel
theorem dX12_map_104 : decode cX12_map 104 = .ok (.goto 4, 3) := by decide +kernel
theorem dX12_map_107 : decode cX12_map 107 = .ok (.iconst 0, 1) := by decide +kernel
theorem dX12_map_108 : decode cX12_map 108 = .ok (.iastore, 1) := by decide +kernel
theorem dX12_map_109 : decode cX12_map 109 = .ok (.iinc 1 1, 3) := by decide +kernel
theorem dX12_map_112 : decode cX12_map 112 = .ok (.goto (-32), 3) := by decide +kernel
theorem dX12_map_115 : decode cX12_map 115 = .ok (.iconst 0, 1) := by decide +kernel
theorem dX12_map_116 : decode cX12_map 116 = .ok (.istore_n 1, 1) := by decide +kernel
theorem dX12_map_117 : decode cX12_map 117 = .ok (.iload_n 1, 1) := by decide +kernel
theorem dX12_map_118 : decode cX12_map 118 = .ok (.bipush 13, 2) := by decide +kernel
theorem dX12_map_120 : decode cX12_map 120 = .ok (.if_icmp .ge 24, 3) := by decide +kernel
theorem dX12_map_123 : decode cX12_map 123 = .ok (.aload_n 0, 1) := by decide +kernel
theorem dX12_map_124 : decode cX12_map 124 = .ok (.getfield 43, 3) := by decide +kernel
theorem dX12_map_127 : decode cX12_map 127 = .ok (.iload_n 1, 1) := by decide +kernel
theorem dX12_map_128 : decode cX12_map 128 = .ok (.aload_n 0, 1) := by decide +kernel
theorem dX12_map_129 : decode cX12_map 129 = .ok (.getfield 43, 3) := by decide +kernel
theorem dX12_map_132 : decode cX12_map 132 = .ok (.bipush 13, 2) := by decide +kernel
theorem dX12_map_134 : decode cX12_map 134 = .ok (.iload_n 1, 1) := by decide +kernel
theorem dX12_map_135 : decode cX12_map 135 = .ok (.iadd, 1) := by decide +kernel
theorem dX12_map_136 : decode cX12_map 136 = .ok (.laload, 1) := by decide +kernel
theorem dX12_map_137 : decode cX12_map 137 = .ok (.lastore, 1) := by decide +kernel
theorem dX12_map_138 : decode cX12_map 138 = .ok (.iinc 1 1, 3) := by decide +kernel
theorem dX12_map_141 : decode cX12_map 141 = .ok (.goto (-24), 3) := by decide +kernel
theorem dX12_map_144 : decode cX12_map 144 = .ok (.iconst 0, 1) := by decide +kernel
theorem dX12_map_145 : decode cX12_map 145 = .ok (.istore_n 1, 1) := by decide +kernel
theorem dX12_map_146 : decode cX12_map 146 = .ok (.iload_n 1, 1) := by decide +kernel
theorem dX12_map_147 : decode cX12_map 147 = .ok (.bipush 7, 2) := by decide +kernel
theorem dX12_map_149 : decode cX12_map 149 = .ok (.if_icmp .ge 45, 3) := by decide +kernel
theorem dX12_map_152 : decode cX12_map 152 = .ok (.aload_n 0, 1) := by decide +kernel
theorem dX12_map_153 : decode cX12_map 153 = .ok (.getfield 33, 3) := by decide +kernel
theorem dX12_map_156 : decode cX12_map 156 = .ok (.bipush 94, 2) := by decide +kernel
theorem dX12_map_158 : decode cX12_map 158 = .ok (.iload_n 1, 1) := by decide +kernel
theorem dX12_map_159 : decode cX12_map 159 = .ok (.iadd, 1) := by decide +kernel
theorem dX12_map_160 : decode cX12_map 160 = .ok (.aload_n 0, 1) := by decide +kernel
theorem dX12_map_161 : decode cX12_map 161 = .ok (.getfield 33, 3) := by decide +kernel
theorem dX12_map_164 : decode cX12_map 164 = .ok (.bipush 17, 2) := by decide +kernel
theorem dX12_map_166 : decode cX12_map 166 = .ok (.iload_n 1, 1) := by decide +kernel
theorem dX12_map_167 : decode cX12_map 167 = .ok (.iadd, 1) := by decide +kernel
theorem dX12_map_168 : decode cX12_map 168 = .ok (.iaload, 1) := by decide +kernel
theorem dX12_map_169 : decode cX12_map 169 = .ok (.iastore, 1) := by decide +kernel
theorem dX12_map_170 : decode cX12_map 170 = .ok (.aload_n 0, 1) := by decide +kernel
theorem dX12_map_171 : decode cX12_map 171 = .ok (.getfield 33, 3) := by decide +kernel
theorem dX12_map_174 : decode cX12_map 174 = .ok (.bipush 101, 2) := by decide +kernel
theorem dX12_map_176 : decode cX12_map 176 = .ok (.iload_n 1, 1) := by decide +kernel
theorem dX12_map_177 : decode cX12_map 177 = .ok (.iadd, 1) := by decide +kernel
theorem dX12_map_178 : decode cX12_map 178 = .ok (.aload_n 0, 1) := by decide +kernel
theorem dX12_map_179 : decode cX12_map 179 = .ok (.getfield 33, 3) := by decide +kernel
theorem dX12_map_182 : decode cX12_map 182 = .ok (.bipush 72, 2) := by decide +kernel
theorem dX12_map_184 : decode cX12_map 184 = .ok (.iload_n 1, 1) := by decide +kernel
theorem dX12_map_185 : decode cX12_map 185 = .ok (.iadd, 1) := by decide +kernel
theorem dX12_map_186 : decode cX12_map 186 = .ok (.iaload, 1) := by decide +kernel
theorem dX12_map_187 : decode cX12_map 187 = .ok (.iastore, 1) := by decide +kernel
theorem dX12_map_188 : decode cX12_map 188 = .ok (.iinc 1 1, 3) := by decide +kernel
theorem dX12_map_191 : decode cX12_map 191 = .ok (.goto (-45), 3) := by decide +kernel
theorem dX12_map_194 : decode cX12_map 194 = .ok (.iconst 0, 1) := by decide +kernel
theorem dX12_map_195 : decode cX12_map 195 = .ok (.istore_n 1, 1) := by decide +kernel
theorem dX12_map_196 : decode cX12_map 196 = .ok (.iload_n 1, 1) := by decide +kernel
theorem dX12_map_197 : decode cX12_map 197 = .ok (.bipush 6, 2) := by decide +kernel
theorem dX12_map_199 : decode cX12_map 199 = .ok (.if_icmp .ge 45, 3) := by decide +kernel
theorem dX12_map_202 : decode cX12_map 202 = .ok (.aload_n 0, 1) := by decide +kernel
theorem dX12_map_203 : decode cX12_map 203 = .ok (.getfield 33, 3) := by decide +kernel
theorem dX12_map_206 : decode cX12_map 206 = .ok (.bipush 108, 2) := by decide +kernel
theorem dX12_map_208 : decode cX12_map 208 = .ok (.iload_n 1, 1) := by decide +kernel
theorem dX12_map_209 : decode cX12_map 209 = .ok (.iadd, 1) := by decide +kernel
theorem dX12_map_210 : decode cX12_map 210 = .ok (.aload_n 0, 1) := by decide +kernel
theorem dX12_map_211 : decode cX12_map 211 = .ok (.getfield 33, 3) := by decide +kernel
theorem dX12_map_214 : decode cX12_map 214 = .ok (.bipush 79, 2) := by decide +kernel
theorem dX12_map_216 : decode cX12_map 216 = .ok (.iload_n 1, 1) := by decide +kernel
theorem dX12_map_217 : decode cX12_map 217 = .ok (.iadd, 1) := by decide +kernel
theorem dX12_map_218 : decode cX12_map 218 = .ok (.iaload, 1) := by decide +kernel
theorem dX12_map_219 : decode cX12_map 219 = .ok (.iastore, 1) := by decide +kernel
theorem dX12_map_220 : decode cX12_map 220 = .ok (.aload_n 0, 1) := by decide +kernel
theorem dX12_map_221 : decode cX12_map 221 = .ok (.getfield 33, 3) := by decide +kernel
theorem dX12_map_224 : decode cX12_map 224 = .ok (.bipush 114, 2) := by decide +kernel
theorem dX12_map_226 : decode cX12_map 226 = .ok (.iload_n 1, 1) := by decide +kernel
theorem dX12_map_227 : decode cX12_map 227 = .ok (.iadd, 1) := by decide +kernel
theorem dX12_map_228 : decode cX12_map 228 = .ok (.aload_n 0, 1) := by decide +kernel
theorem dX12_map_229 : decode cX12_map 229 = .ok (.getfield 33, 3) := by decide +kernel
theorem dX12_map_232 : decode cX12_map 232 = .ok (.bipush 85, 2) := by decide +kernel
theorem dX12_map_234 : decode cX12_map 234 = .ok (.iload_n 1, 1) := by decide +kernel
theorem dX12_map_235 : decode cX12_map 235 = .ok (.iadd, 1) := by decide +kernel
theorem dX12_map_236 : decode cX12_map 236 = .ok (.iaload, 1) := by decide +kernel
theorem dX12_map_237 : decode cX12_map 237 = .ok (.iastore, 1) := by decide +kernel
theorem dX12_map_238 : decode cX12_map 238 = .ok (.iinc 1 1, 3) := by decide +kernel
theorem dX12_map_241 : decode cX12_map 241 = .ok (.goto (-45), 3) := by decide +kernel
theorem dX12_map_244 : decode cX12_map 244 = .ok (.aload_n 0, 1) := by decide +kernel
theorem dX12_map_245 : decode cX12_map 245 = .ok (.iconst 0, 1) := by decide +kernel
theorem dX12_map_246 : decode cX12_map 246 = .ok (.putfield 275, 3) := by decide +kernel
theorem dX12_map_249 : decode cX12_map 249 = .ok (.aload_n 0, 1) := by decide +kernel
theorem dX12_map_250 : decode cX12_map 250 = .ok (.getfield 266, 3) := by decide +kernel
theorem dX12_map_253 : decode cX12_map 253 = .ok (.ireturn, 1) := by decide +kernel
theorem dX12_fault_0 : decode cX12_fault 0 = .ok (.aload_n 0, 1) := by decide +kernel
theorem dX12_fault_1 : decode cX12_fault 1 = .ok (.iconst 0, 1) := by decide +kernel
theorem dX12_fault_2 : decode cX12_fault 2 = .ok (.putfield 1, 3) := by decide +kernel
theorem dX12_fault_5 : decode cX12_fault 5 = .ok (.aload_n 0, 1) := by decide +kernel
theorem dX12_fault_6 : decode cX12_fault 6 = .ok (.getfield 192, 3) := by decide +kernel
theorem dX12_fault_9 : decode cX12_fault 9 = .ok (.ireturn, 1) := by decide +kernel
theorem dX12_isLand_0 : decode cX12_isLand 0 = .ok (.iload_n 1, 1) := by decide +kernel
theorem dX12_isLand_1 : decode cX12_isLand 1 = .ok (.iconst 0, 1) := by decide +kernel
theorem dX12_isLand_2 : decode cX12_isLand 2 = .ok (.aload_n 0, 1) := by decide +kernel
theorem dX12_isLand_3 : decode cX12_isLand 3 = .ok (.getfield 33, 3) := by decide +kernel
theorem dX12_isLand_6 : decode cX12_isLand 6 = .ok (.iconst 0, 1) := by decide +kernel
theorem dX12_isLand_7 : decode cX12_isLand 7 = .ok (.iaload, 1) := by decide +kernel
theorem dX12_isLand_8 : decode cX12_isLand 8 = .ok (.iconst 1, 1) := by decide +kernel
theorem dX12_isLand_9 : decode cX12_isLand 9 = .ok (.isub, 1) := by decide +kernel
theorem dX12_isLand_10 : decode cX12_isLand 10 = .ok (.invokestatic 207, 3) := by decide +kernel
theorem dX12_isLand_13 : decode cX12_isLand 13 = .ok (.ireturn, 1) := by decide +kernel
theorem dX12_isPerson_0 : decode cX12_isPerson 0 = .ok (.iload_n 1, 1) := by decide +kernel
theorem dX12_isPerson_1 : decode cX12_isPerson 1 = .ok (.iconst 0, 1) := by decide +kernel
theorem dX12_isPerson_2 : decode cX12_isPerson 2 = .ok (.aload_n 0, 1) := by decide +kernel
theorem dX12_isPerson_3 : decode cX12_isPerson 3 = .ok (.getfield 33, 3) := by decide +kernel
theorem dX12_isPerson_6 : decode cX12_isPerson 6 = .ok (.iconst 2, 1) := by decide +kernel
theorem dX12_isPerson_7 : decode cX12_isPerson 7 = .ok (.iaload, 1) := by decide +kernel
theorem dX12_isPerson_8 : decode cX12_isPerson 8 = .ok (.iconst 1, 1) := by decide +kernel
theorem dX12_isPerson_9 : decode cX12_isPerson 9 = .ok (.isub, 1) := by decide +kernel
theorem dX12_isPerson_10 : decode cX12_isPerson 10 = .ok (.invokestatic 207, 3) := by decide +kernel
theorem dX12_isPerson_13 : decode cX12_isPerson 13 = .ok (.ireturn, 1) := by decide +kernel
theorem dX12_isOpen_0 : decode cX12_isOpen 0 = .ok (.aload_n 0, 1) := by decide +kernel
theorem dX12_isOpen_1 : decode cX12_isOpen 1 = .ok (.getfield 33, 3) := by decide +kernel
theorem dX12_isOpen_4 : decode cX12_isOpen 4 = .ok (.bipush 93, 2) := by decide +kernel
theorem dX12_isOpen_6 : decode cX12_isOpen 6 = .ok (.iaload, 1) := by decide +kernel
theorem dX12_isOpen_7 : decode cX12_isOpen 7 = .ok (.iload_n 1, 1) := by decide +kernel
theorem dX12_isOpen_8 : decode cX12_isOpen 8 = .ok (.invokestatic 257, 3) := by decide +kernel
theorem dX12_isOpen_11 : decode cX12_isOpen 11 = .ok (.ifCond .ne 7, 3) := by decide +kernel
theorem dX12_isOpen_14 : decode cX12_isOpen 14 = .ok (.iconst 1, 1) := by decide +kernel
theorem dX12_isOpen_15 : decode cX12_isOpen 15 = .ok (.goto 4, 3) := by decide +kernel
