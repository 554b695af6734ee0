theorem dX5_take_5 : decode cX5_take 5 = .ok (.iconst 0, 1) := by decide +kernel
theorem dX5_take_6 : decode cX5_take 6 = .ok (.istore_n 3, 1) := by decide +kernel
theorem dX5_take_7 : decode cX5_take 7 = .ok (.iload_n 3, 1) := by decide +kernel
theorem dX5_take_8 : decode cX5_take 8 = .ok (.iload_n 2, 1) := by decide +kernel
theorem dX5_take_9 : decode cX5_take 9 = .ok (.if_icmp .ge 22, 3) := by decide +kernel
theorem dX5_take_12 : decode cX5_take 12 = .ok (.iload_n 3, 1) := by decide +kernel
theorem dX5_take_13 : decode cX5_take 13 = .ok (.aload_n 1, 1) := by decide +kernel
theorem dX5_take_14 : decode cX5_take 14 = .ok (.arraylength, 1) := by decide +kernel
theorem dX5_take_15 : decode cX5_take 15 = .ok (.if_icmp .ge 16, 3) := by decide +kernel
theorem dX5_take_18 : decode cX5_take 18 = .ok (.aload_n 0, 1) := by decide +kernel
theorem dX5_take_19 : decode cX5_take 19 = .ok (.aload_n 1, 1) := by decide +kernel
theorem dX5_take_20 : decode cX5_take 20 = .ok (.iload_n 3, 1) := by decide +kernel
theorem dX5_take_21 : decode cX5_take 21 = .ok (.iaload, 1) := by decide +kernel
theorem dX5_take_22 : decode cX5_take 22 = .ok (.invokevirtual 25, 3) := by decide +kernel
theorem dX5_take_25 : decode cX5_take 25 = .ok (.iinc 3 1, 3) := by decide +kernel
theorem dX5_take_28 : decode cX5_take 28 = .ok (.goto (-21), 3) := by decide +kernel
theorem dX5_take_31 : decode cX5_take 31 = .ok (.return_, 1) := by decide +kernel
theorem dX5_copy_0 : decode cX5_copy 0 = .ok (.aload_n 0, 1) := by decide +kernel
theorem dX5_copy_1 : decode cX5_copy 1 = .ok (.aload_n 1, 1) := by decide +kernel
theorem dX5_copy_2 : decode cX5_copy 2 = .ok (.getfield 21, 3) := by decide +kernel
theorem dX5_copy_5 : decode cX5_copy 5 = .ok (.aload_n 1, 1) := by decide +kernel
theorem dX5_copy_6 : decode cX5_copy 6 = .ok (.getfield 9, 3) := by decide +kernel
theorem dX5_copy_9 : decode cX5_copy 9 = .ok (.invokevirtual 29, 3) := by decide +kernel
theorem dX5_copy_12 : decode cX5_copy 12 = .ok (.return_, 1) := by decide +kernel
theorem dX5_addText_0 : decode cX5_addText 0 = .ok (.iconst 0, 1) := by decide +kernel
theorem dX5_addText_1 : decode cX5_addText 1 = .ok (.istore_n 2, 1) := by decide +kernel
theorem dX5_addText_2 : decode cX5_addText 2 = .ok (.iload_n 2, 1) := by decide +kernel
theorem dX5_addText_3 : decode cX5_addText 3 = .ok (.aload_n 1, 1) := by decide +kernel
theorem dX5_addText_4 : decode cX5_addText 4 = .ok (.invokevirtual 33, 3) := by decide +kernel
theorem dX5_addText_7 : decode cX5_addText 7 = .ok (.if_icmp .ge 18, 3) := by decide +kernel
theorem dX5_addText_10 : decode cX5_addText 10 = .ok (.aload_n 0, 1) := by decide +kernel
theorem dX5_addText_11 : decode cX5_addText 11 = .ok (.aload_n 1, 1) := by decide +kernel
theorem dX5_addText_12 : decode cX5_addText 12 = .ok (.iload_n 2, 1) := by decide +kernel
theorem dX5_addText_13 : decode cX5_addText 13 = .ok (.invokevirtual 38, 3) := by decide +kernel
theorem dX5_addText_16 : decode cX5_addText 16 = .ok (.invokevirtual 25, 3) := by decide +kernel
theorem dX5_addText_19 : decode cX5_addText 19 = .ok (.iinc 2 1, 3) := by decide +kernel
theorem dX5_addText_22 : decode cX5_addText 22 = .ok (.goto (-20), 3) := by decide +kernel
theorem dX5_addText_25 : decode cX5_addText 25 = .ok (.return_, 1) := by decide +kernel
theorem dX5_addName_0 : decode cX5_addName 0 = .ok (.bipush 30, 2) := by decide +kernel
theorem dX5_addName_2 : decode cX5_addName 2 = .ok (.istore_n 3, 1) := by decide +kernel
theorem dX5_addName_3 : decode cX5_addName 3 = .ok (.iload_n 3, 1) := by decide +kernel
theorem dX5_addName_4 : decode cX5_addName 4 = .ok (.ifCond .lt 32, 3) := by decide +kernel
theorem dX5_addName_7 : decode cX5_addName 7 = .ok (.lload_n 1, 1) := by decide +kernel
theorem dX5_addName_8 : decode cX5_addName 8 = .ok (.iload_n 3, 1) := by decide +kernel
theorem dX5_addName_9 : decode cX5_addName 9 = .ok (.lushr, 1) := by decide +kernel
theorem dX5_addName_10 : decode cX5_addName 10 = .ok (.l2i, 1) := by decide +kernel
theorem dX5_addName_11 : decode cX5_addName 11 = .ok (.bipush 31, 2) := by decide +kernel
theorem dX5_addName_13 : decode cX5_addName 13 = .ok (.iand, 1) := by decide +kernel
theorem dX5_addName_14 : decode cX5_addName 14 = .ok (.istore 4, 2) := by decide +kernel
theorem dX5_addName_16 : decode cX5_addName 16 = .ok (.iload 4, 2) := by decide +kernel
theorem dX5_addName_18 : decode cX5_addName 18 = .ok (.ifCond .eq 12, 3) := by decide +kernel
theorem dX5_addName_21 : decode cX5_addName 21 = .ok (.aload_n 0, 1) := by decide +kernel
theorem dX5_addName_22 : decode cX5_addName 22 = .ok (.bipush 96, 2) := by decide +kernel
theorem dX5_addName_24 : decode cX5_addName 24 = .ok (.iload 4, 2) := by decide +kernel
theorem dX5_addName_26 : decode cX5_addName 26 = .ok (.iadd, 1) := by decide +kernel
theorem dX5_addName_27 : decode cX5_addName 27 = .ok (.invokevirtual 25, 3) := by decide +kernel
theorem dX5_addName_30 : decode cX5_addName 30 = .ok (.iinc 3 (-5), 3) := by decide +kernel
theorem dX5_addName_33 : decode cX5_addName 33 = .ok (.goto (-30), 3) := by decide +kernel
theorem dX5_addName_36 : decode cX5_addName 36 = .ok (.return_, 1) := by decide +kernel
theorem dX5_addDigits_0 : decode cX5_addDigits 0 = .ok (.iload_n 1, 1) := by decide +kernel
theorem dX5_addDigits_1 : decode cX5_addDigits 1 = .ok (.bipush 100, 2) := by decide +kernel
theorem dX5_addDigits_3 : decode cX5_addDigits 3 = .ok (.if_icmp .lt 14, 3) := by decide +kernel
theorem dX5_addDigits_6 : decode cX5_addDigits 6 = .ok (.aload_n 0, 1) := by decide +kernel
theorem dX5_addDigits_7 : decode cX5_addDigits 7 = .ok (.bipush 48, 2) := by decide +kernel
theorem dX5_addDigits_9 : decode cX5_addDigits 9 = .ok (.iload_n 1, 1) := by decide +kernel
theorem dX5_addDigits_10 : decode cX5_addDigits 10 = .ok (.bipush 100, 2) := by decide +kernel
theorem dX5_addDigits_12 : decode cX5_addDigits 12 = .ok (.idiv, 1) := by decide +kernel
theorem dX5_addDigits_13 : decode cX5_addDigits 13 = .ok (.iadd, 1) := by decide +kernel
theorem dX5_addDigits_14 : decode cX5_addDigits 14 = .ok (.invokevirtual 25, 3) := by decide +kernel
theorem dX5_addDigits_17 : decode cX5_addDigits 17 = .ok (.iload_n 1, 1) := by decide +kernel
theorem dX5_addDigits_18 : decode cX5_addDigits 18 = .ok (.bipush 10, 2) := by decide +kernel
theorem dX5_addDigits_20 : decode cX5_addDigits 20 = .ok (.if_icmp .lt 17, 3) := by decide +kernel
theorem dX5_addDigits_23 : decode cX5_addDigits 23 = .ok (.aload_n 0, 1) := by decide +kernel
theorem dX5_addDigits_24 : decode cX5_addDigits 24 = .ok (.bipush 48, 2) := by decide +kernel
theorem dX5_addDigits_26 : decode cX5_addDigits 26 = .ok (.iload_n 1, 1) := by decide +kernel
theorem dX5_addDigits_27 : decode cX5_addDigits 27 = .ok (.bipush 10, 2) := by decide +kernel
theorem dX5_addDigits_29 : decode cX5_addDigits 29 = .ok (.idiv, 1) := by decide +kernel
theorem dX5_addDigits_30 : decode cX5_addDigits 30 = .ok (.bipush 10, 2) := by decide +kernel
theorem dX5_addDigits_32 : decode cX5_addDigits 32 = .ok (.irem, 1) := by decide +kernel
theorem dX5_addDigits_33 : decode cX5_addDigits 33 = .ok (.iadd, 1) := by decide +kernel
theorem dX5_addDigits_34 : decode cX5_addDigits 34 = .ok (.invokevirtual 25, 3) := by decide +kernel
theorem dX5_addDigits_37 : decode cX5_addDigits 37 = .ok (.aload_n 0, 1) := by decide +kernel
theorem dX5_addDigits_38 : decode cX5_addDigits 38 = .ok (.bipush 48, 2) := by decide +kernel
theorem dX5_addDigits_40 : decode cX5_addDigits 40 = .ok (.iload_n 1, 1) := by decide +kernel
theorem dX5_addDigits_41 : decode cX5_addDigits 41 = .ok (.bipush 10, 2) := by decide +kernel
theorem dX5_addDigits_43 : decode cX5_addDigits 43 = .ok (.irem, 1) := by decide +kernel
theorem dX5_addDigits_44 : decode cX5_addDigits 44 = .ok (.iadd, 1) := by decide +kernel
theorem dX5_addDigits_45 : decode cX5_addDigits 45 = .ok (.invokevirtual 25, 3) := by decide +kernel
theorem dX5_addDigits_48 : decode cX5_addDigits 48 = .ok (.return_, 1) := by decide +kernel
theorem dX6_init_0 : decode cX6_init 0 = .ok (.aload_n 0, 1) := by decide +kernel
theorem dX6_init_1 : decode cX6_init 1 = .ok (.invokespecial 3, 3) := by decide +kernel
theorem dX6_init_4 : decode cX6_init 4 = .ok (.aload_n 0, 1) := by decide +kernel
theorem dX6_init_5 : decode cX6_init 5 = .ok (.bipush 40, 2) := by decide +kernel
theorem dX6_init_7 : decode cX6_init 7 = .ok (.anewarray 11, 3) := by decide +kernel
theorem dX6_init_10 : decode cX6_init 10 = .ok (.putfield 13, 3) := by decide +kernel
theorem dX6_init_13 : decode cX6_init 13 = .ok (.aload_n 0, 1) := by decide +kernel
theorem dX6_init_14 : decode cX6_init 14 = .ok (.bipush 40, 2) := by decide +kernel
theorem dX6_init_16 : decode cX6_init 16 = .ok (.newarray .int, 2) := by decide +kernel
theorem dX6_init_18 : decode cX6_init 18 = .ok (.putfield 17, 3) := by decide +kernel
theorem dX6_init_21 : decode cX6_init 21 = .ok (.aload_n 0, 1) := by decide +kernel
theorem dX6_init_22 : decode cX6_init 22 = .ok (.bipush 40, 2) := by decide +kernel
theorem dX6_init_24 : decode cX6_init 24 = .ok (.newarray .int, 2) := by decide +kernel
theorem dX6_init_26 : decode cX6_init 26 = .ok (.putfield 21, 3) := by decide +kernel
theorem dX6_init_29 : decode cX6_init 29 = .ok (.aload_n 0, 1) := by decide +kernel
theorem dX6_init_30 : decode cX6_init 30 = .ok (.iconst 0, 1) := by decide +kernel
theorem dX6_init_31 : decode cX6_init 31 = .ok (.putfield 24, 3) := by decide +kernel
theorem dX6_init_34 : decode cX6_init 34 = .ok (.aload_n 0, 1) := by decide +kernel
theorem dX6_init_35 : decode cX6_init 35 = .ok (.bipush 40, 2) := by decide +kernel
theorem dX6_init_37 : decode cX6_init 37 = .ok (.newarray .int, 2) := by decide +kernel
theorem dX6_init_39 : decode cX6_init 39 = .ok (.putfield 28, 3) := by decide +kernel
theorem dX6_init_42 : decode cX6_init 42 = .ok (.aload_n 0, 1) := by decide +kernel
theorem dX6_init_43 : decode cX6_init 43 = .ok (.iconst 0, 1) := by decide +kernel
theorem dX6_init_44 : decode cX6_init 44 = .ok (.putfield 31, 3) := by decide +kernel
theorem dX6_init_47 : decode cX6_init 47 = .ok (.aload_n 0, 1) := by decide +kernel
theorem dX6_init_48 : decode cX6_init 48 = .ok (.aload_n 1, 1) := by decide +kernel
theorem dX6_init_49 : decode cX6_init 49 = .ok (.putfield 34, 3) := by decide +kernel
theorem dX6_init_52 : decode cX6_init 52 = .ok (.aload_n 0, 1) := by decide +kernel
theorem dX6_init_53 : decode cX6_init 53 = .ok (.aload_n 2, 1) := by decide +kernel
theorem dX6_init_54 : decode cX6_init 54 = .ok (.putfield 38, 3) := by decide +kernel
theorem dX6_init_57 : decode cX6_init 57 = .ok (.return_, 1) := by decide +kernel
theorem dX6_read_0 : decode cX6_read 0 = .ok (.aload_n 0, 1) := by decide +kernel
theorem dX6_read_1 : decode cX6_read 1 = .ok (.getfield 34, 3) := by decide +kernel
theorem dX6_read_4 : decode cX6_read 4 = .ok (.sipush 200, 3) := by decide +kernel
theorem dX6_read_7 : decode cX6_read 7 = .ok (.invokevirtual 42, 3) := by decide +kernel
theorem dX6_read_10 : decode cX6_read 10 = .ok (.aload_n 0, 1) := by decide +kernel
theorem dX6_read_11 : decode cX6_read 11 = .ok (.iconst 1, 1) := by decide +kernel
theorem dX6_read_12 : decode cX6_read 12 = .ok (.invokevirtual 48, 3) := by decide +kernel
theorem dX6_read_15 : decode cX6_read 15 = .ok (.ifCond .eq 22, 3) := by decide +kernel
theorem dX6_read_18 : decode cX6_read 18 = .ok (.aload_n 0, 1) := by decide +kernel
theorem dX6_read_19 : decode cX6_read 19 = .ok (.getfield 34, 3) := by decide +kernel
theorem dX6_read_22 : decode cX6_read 22 = .ok (.invokevirtual 52, 3) := by decide +kernel
theorem dX6_read_25 : decode cX6_read 25 = .ok (.ifCond .ne 12, 3) := by decide +kernel
theorem dX6_read_28 : decode cX6_read 28 = .ok (.aload_n 0, 1) := by decide +kernel
theorem dX6_read_29 : decode cX6_read 29 = .ok (.getfield 34, 3) := by decide +kernel
theorem dX6_read_32 : decode cX6_read 32 = .ok (.iconst 1, 1) := by decide +kernel
theorem dX6_read_33 : decode cX6_read 33 = .ok (.invokevirtual 56, 3) := by decide +kernel
theorem dX6_read_36 : decode cX6_read 36 = .ok (.pop, 1) := by decide +kernel
theorem dX6_read_37 : decode cX6_read 37 = .ok (.return_, 1) := by decide +kernel
theorem dX6_readCond_0 : decode cX6_readCond 0 = .ok (.aload_n 0, 1) := by decide +kernel
theorem dX6_readCond_1 : decode cX6_readCond 1 = .ok (.iload_n 1, 1) := by decide +kernel
theorem dX6_readCond_2 : decode cX6_readCond 2 = .ok (.invokevirtual 59, 3) := by decide +kernel
theorem dX6_readCond_5 : decode cX6_readCond 5 = .ok (.istore_n 2, 1) := by decide +kernel
theorem dX6_readCond_6 : decode cX6_readCond 6 = .ok (.iconst 0, 1) := by decide +kernel
theorem dX6_readCond_7 : decode cX6_readCond 7 = .ok (.istore_n 3, 1) := by decide +kernel
theorem dX6_readCond_8 : decode cX6_readCond 8 = .ok (.iload_n 3, 1) := by decide +kernel
theorem dX6_readCond_9 : decode cX6_readCond 9 = .ok (.bipush 20, 2) := by decide +kernel
theorem dX6_readCond_11 : decode cX6_readCond 11 = .ok (.if_icmp .ge 59, 3) := by decide +kernel
theorem dX6_readCond_14 : decode cX6_readCond 14 = .ok (.iload_n 2, 1) := by decide +kernel
theorem dX6_readCond_15 : decode cX6_readCond 15 = .ok (.ifCond .eq 55, 3) := by decide +kernel
theorem dX6_readCond_18 : decode cX6_readCond 18 = .ok (.aload_n 0, 1) := by decide +kernel
theorem dX6_readCond_19 : decode cX6_readCond 19 = .ok (.getfield 34, 3) := by decide +kernel
theorem dX6_readCond_22 : decode cX6_readCond 22 = .ok (.getfield 62, 3) := by decide +kernel
theorem dX6_readCond_25 : decode cX6_readCond 25 = .ok (.getstatic 66, 3) := by decide +kernel
theorem dX6_readCond_28 : decode cX6_readCond 28 = .ok (.if_acmp .ne 42, 3) := by decide +kernel
theorem dX6_readCond_31 : decode cX6_readCond 31 = .ok (.aload_n 0, 1) := by decide +kernel
theorem dX6_readCond_32 : decode cX6_readCond 32 = .ok (.getfield 34, 3) := by decide +kernel
theorem dX6_readCond_35 : decode cX6_readCond 35 = .ok (.invokevirtual 69, 3) := by decide +kernel
theorem dX6_readCond_38 : decode cX6_readCond 38 = .ok (.aload_n 0, 1) := by decide +kernel
theorem dX6_readCond_39 : decode cX6_readCond 39 = .ok (.iload_n 1, 1) := by decide +kernel
theorem dX6_readCond_40 : decode cX6_readCond 40 = .ok (.invokevirtual 59, 3) := by decide +kernel
theorem dX6_readCond_43 : decode cX6_readCond 43 = .ok (.ifCond .eq 19, 3) := by decide +kernel
theorem dX6_readCond_46 : decode cX6_readCond 46 = .ok (.aload_n 0, 1) := by decide +kernel
theorem dX6_readCond_47 : decode cX6_readCond 47 = .ok (.getstatic 66, 3) := by decide +kernel
theorem dX6_readCond_50 : decode cX6_readCond 50 = .ok (.iconst 0, 1) := by decide +kernel
theorem dX6_readCond_51 : decode cX6_readCond 51 = .ok (.iconst 0, 1) := by decide +kernel
theorem dX6_readCond_52 : decode cX6_readCond 52 = .ok (.invokevirtual 72, 3) := by decide +kernel
theorem dX6_readCond_55 : decode cX6_readCond 55 = .ok (.ifCond .eq 7, 3) := by decide +kernel
theorem dX6_readCond_58 : decode cX6_readCond 58 = .ok (.iconst 1, 1) := by decide +kernel
theorem dX6_readCond_59 : decode cX6_readCond 59 = .ok (.goto 4, 3) := by decide +kernel
theorem dX6_readCond_62 : decode cX6_readCond 62 = .ok (.iconst 0, 1) := by decide +kernel
theorem dX6_readCond_63 : decode cX6_readCond 63 = .ok (.istore_n 2, 1) := by decide +kernel
theorem dX6_readCond_64 : decode cX6_readCond 64 = .ok (.iinc 3 1, 3) := by decide +kernel
theorem dX6_readCond_67 : decode cX6_readCond 67 = .ok (.goto (-59), 3) := by decide +kernel
theorem dX6_readCond_70 : decode cX6_readCond 70 = .ok (.iload_n 2, 1) := by decide +kernel
theorem dX6_readCond_71 : decode cX6_readCond 71 = .ok (.ireturn, 1) := by decide +kernel
theorem dX6_readAll_0 : decode cX6_readAll 0 = .ok (.aload_n 0, 1) := by decide +kernel
theorem dX6_readAll_1 : decode cX6_readAll 1 = .ok (.iload_n 1, 1) := by decide +kernel
theorem dX6_readAll_2 : decode cX6_readAll 2 = .ok (.invokevirtual 76, 3) := by decide +kernel
theorem dX6_readAll_5 : decode cX6_readAll 5 = .ok (.istore_n 2, 1) := by decide +kernel
theorem dX6_readAll_6 : decode cX6_readAll 6 = .ok (.iconst 0, 1) := by decide +kernel
theorem dX6_readAll_7 : decode cX6_readAll 7 = .ok (.istore_n 3, 1) := by decide +kernel
theorem dX6_readAll_8 : decode cX6_readAll 8 = .ok (.iload_n 3, 1) := by decide +kernel
theorem dX6_readAll_9 : decode cX6_readAll 9 = .ok (.bipush 20, 2) := by decide +kernel
theorem dX6_readAll_11 : decode cX6_readAll 11 = .ok (.if_icmp .ge 59, 3) := by decide +kernel
theorem dX6_readAll_14 : decode cX6_readAll 14 = .ok (.iload_n 2, 1) := by decide +kernel
theorem dX6_readAll_15 : decode cX6_readAll 15 = .ok (.ifCond .eq 55, 3) := by decide +kernel
theorem dX6_readAll_18 : decode cX6_readAll 18 = .ok (.aload_n 0, 1) := by decide +kernel
theorem dX6_readAll_19 : decode cX6_readAll 19 = .ok (.getfield 34, 3) := by decide +kernel
theorem dX6_readAll_22 : decode cX6_readAll 22 = .ok (.getfield 62, 3) := by decide +kernel
theorem dX6_readAll_25 : decode cX6_readAll 25 = .ok (.getstatic 79, 3) := by decide +kernel
theorem dX6_readAll_28 : decode cX6_readAll 28 = .ok (.if_acmp .ne 42, 3) := by decide +kernel
theorem dX6_readAll_31 : decode cX6_readAll 31 = .ok (.aload_n 0, 1) := by decide +kernel
theorem dX6_readAll_32 : decode cX6_readAll 32 = .ok (.getfield 34, 3) := by decide +kernel
theorem dX6_readAll_35 : decode cX6_readAll 35 = .ok (.invokevirtual 69, 3) := by decide +kernel
theorem dX6_readAll_38 : decode cX6_readAll 38 = .ok (.aload_n 0, 1) := by decide +kernel
theorem dX6_readAll_39 : decode cX6_readAll 39 = .ok (.iload_n 1, 1) := by decide +kernel
theorem dX6_readAll_40 : decode cX6_readAll 40 = .ok (.invokevirtual 76, 3) := by decide +kernel
theorem dX6_readAll_43 : decode cX6_readAll 43 = .ok (.ifCond .eq 19, 3) := by decide +kernel
theorem dX6_readAll_46 : decode cX6_readAll 46 = .ok (.aload_n 0, 1) := by decide +kernel
theorem dX6_readAll_47 : decode cX6_readAll 47 = .ok (.getstatic 79, 3) := by decide +kernel
theorem dX6_readAll_50 : decode cX6_readAll 50 = .ok (.iconst 0, 1) := by decide +kernel
theorem dX6_readAll_51 : decode cX6_readAll 51 = .ok (.iconst 0, 1) := by decide +kernel
theorem dX6_readAll_52 : decode cX6_readAll 52 = .ok (.invokevirtual 72, 3) := by decide +kernel
theorem dX6_readAll_55 : decode cX6_readAll 55 = .ok (.ifCond .eq 7, 3) := by decide +kernel
theorem dX6_readAll_58 : decode cX6_readAll 58 = .ok (.iconst 1, 1) := by decide +kernel
theorem dX6_readAll_59 : decode cX6_readAll 59 = .ok (.goto 4, 3) := by decide +kernel
theorem dX6_readAll_62 : decode cX6_readAll 62 = .ok (.iconst 0, 1) := by decide +kernel
theorem dX6_readAll_63 : decode cX6_readAll 63 = .ok (.istore_n 2, 1) := by decide +kernel
theorem dX6_readAll_64 : decode cX6_readAll 64 = .ok (.iinc 3 1, 3) := by decide +kernel
theorem dX6_readAll_67 : decode cX6_readAll 67 = .ok (.goto (-59), 3) := by decide +kernel
theorem dX6_readAll_70 : decode cX6_readAll 70 = .ok (.iload_n 2, 1) := by decide +kernel
theorem dX6_readAll_71 : decode cX6_readAll 71 = .ok (.ireturn, 1) := by decide +kernel
theorem dX6_readOne_0 : decode cX6_readOne 0 = .ok (.aload_n 0, 1) := by decide +kernel
theorem dX6_readOne_1 : decode cX6_readOne 1 = .ok (.getfield 34, 3) := by decide +kernel
theorem dX6_readOne_4 : decode cX6_readOne 4 = .ok (.getfield 82, 3) := by decide +kernel
theorem dX6_readOne_7 : decode cX6_readOne 7 = .ok (.bipush 40, 2) := by decide +kernel
theorem dX6_readOne_9 : decode cX6_readOne 9 = .ok (.if_icmp .ne 7, 3) := by decide +kernel
theorem dX6_readOne_12 : decode cX6_readOne 12 = .ok (.iconst 1, 1) := by decide +kernel
theorem dX6_readOne_13 : decode cX6_readOne 13 = .ok (.goto 4, 3) := by decide +kernel
theorem dX6_readOne_16 : decode cX6_readOne 16 = .ok (.iconst 0, 1) := by decide +kernel
theorem dX6_readOne_17 : decode cX6_readOne 17 = .ok (.istore_n 2, 1) := by decide +kernel
theorem dX6_readOne_18 : decode cX6_readOne 18 = .ok (.aload_n 0, 1) := by decide +kernel
theorem dX6_readOne_19 : decode cX6_readOne 19 = .ok (.getfield 34, 3) := by decide +kernel
theorem dX6_readOne_22 : decode cX6_readOne 22 = .ok (.getfield 62, 3) := by decide +kernel
theorem dX6_readOne_25 : decode cX6_readOne 25 = .ok (.astore_n 3, 1) := by decide +kernel
theorem dX6_readOne_26 : decode cX6_readOne 26 = .ok (.iload_n 2, 1) := by decide +kernel
theorem dX6_readOne_27 : decode cX6_readOne 27 = .ok (.ifCond .ne 19, 3) := by decide +kernel
theorem dX6_readOne_30 : decode cX6_readOne 30 = .ok (.aload_n 3, 1) := by decide +kernel
theorem dX6_readOne_31 : decode cX6_readOne 31 = .ok (.invokestatic 85, 3) := by decide +kernel
theorem dX6_readOne_34 : decode cX6_readOne 34 = .ok (.ifCond .ne 12, 3) := by decide +kernel
theorem dX6_readOne_37 : decode cX6_readOne 37 = .ok (.aload_n 0, 1) := by decide +kernel
theorem dX6_readOne_38 : decode cX6_readOne 38 = .ok (.getfield 34, 3) := by decide +kernel
theorem dX6_readOne_41 : decode cX6_readOne 41 = .ok (.iconst 1, 1) := by decide +kernel
theorem dX6_readOne_42 : decode cX6_readOne 42 = .ok (.invokevirtual 56, 3) := by decide +kernel
theorem dX6_readOne_45 : decode cX6_readOne 45 = .ok (.ireturn, 1) := by decide +kernel
theorem dX6_readOne_46 : decode cX6_readOne 46 = .ok (.aload_n 0, 1) := by decide +kernel
theorem dX6_readOne_47 : decode cX6_readOne 47 = .ok (.getfield 31, 3) := by decide +kernel
theorem dX6_readOne_50 : decode cX6_readOne 50 = .ok (.bipush 20, 2) := by decide +kernel
theorem dX6_readOne_52 : decode cX6_readOne 52 = .ok (.if_icmp .ge 9, 3) := by decide +kernel
theorem dX6_readOne_55 : decode cX6_readOne 55 = .ok (.iload_n 1, 1) := by decide +kernel
theorem dX6_readOne_56 : decode cX6_readOne 56 = .ok (.bipush 8, 2) := by decide +kernel
theorem dX6_readOne_58 : decode cX6_readOne 58 = .ok (.if_icmp .le 12, 3) := by decide +kernel
theorem dX6_readOne_61 : decode cX6_readOne 61 = .ok (.aload_n 0, 1) := by decide +kernel
theorem dX6_readOne_62 : decode cX6_readOne 62 = .ok (.getfield 34, 3) := by decide +kernel
theorem dX6_readOne_65 : decode cX6_readOne 65 = .ok (.iconst 4, 1) := by decide +kernel
theorem dX6_readOne_66 : decode cX6_readOne 66 = .ok (.invokevirtual 56, 3) := by decide +kernel
theorem dX6_readOne_69 : decode cX6_readOne 69 = .ok (.ireturn, 1) := by decide +kernel
theorem dX6_readOne_70 : decode cX6_readOne 70 = .ok (.aload_n 0, 1) := by decide +kernel
theorem dX6_readOne_71 : decode cX6_readOne 71 = .ok (.dup, 1) := by decide +kernel
theorem dX6_readOne_72 : decode cX6_readOne 72 = .ok (.getfield 31, 3) := by decide +kernel
theorem dX6_readOne_75 : decode cX6_readOne 75 = .ok (.iconst 1, 1) := by decide +kernel
theorem dX6_readOne_76 : decode cX6_readOne 76 = .ok (.iadd, 1) := by decide +kernel
theorem dX6_readOne_77 : decode cX6_readOne 77 = .ok (.putfield 31, 3) := by decide +kernel
theorem dX6_readOne_80 : decode cX6_readOne 80 = .ok (.aload_n 0, 1) := by decide +kernel
theorem dX6_readOne_81 : decode cX6_readOne 81 = .ok (.getfield 34, 3) := by decide +kernel
theorem dX6_readOne_84 : decode cX6_readOne 84 = .ok (.invokevirtual 69, 3) := by decide +kernel
theorem dX6_readOne_87 : decode cX6_readOne 87 = .ok (.iload_n 2, 1) := by decide +kernel
theorem dX6_readOne_88 : decode cX6_readOne 88 = .ok (.ifCond .eq 31, 3) := by decide +kernel
theorem dX6_readOne_91 : decode cX6_readOne 91 = .ok (.aload_n 0, 1) := by decide +kernel
theorem dX6_readOne_92 : decode cX6_readOne 92 = .ok (.iload_n 1, 1) := by decide +kernel
theorem dX6_readOne_93 : decode cX6_readOne 93 = .ok (.iconst 1, 1) := by decide +kernel
theorem dX6_readOne_94 : decode cX6_readOne 94 = .ok (.iadd, 1) := by decide +kernel
theorem dX6_readOne_95 : decode cX6_readOne 95 = .ok (.invokevirtual 48, 3) := by decide +kernel
theorem dX6_readOne_98 : decode cX6_readOne 98 = .ok (.ifCond .eq 19, 3) := by decide +kernel
theorem dX6_readOne_101 : decode cX6_readOne 101 = .ok (.aload_n 0, 1) := by decide +kernel
theorem dX6_readOne_102 : decode cX6_readOne 102 = .ok (.getfield 34, 3) := by decide +kernel
theorem dX6_readOne_105 : decode cX6_readOne 105 = .ok (.bipush 41, 2) := by decide +kernel
theorem dX6_readOne_107 : decode cX6_readOne 107 = .ok (.invokevirtual 89, 3) := by decide +kernel
theorem dX6_readOne_110 : decode cX6_readOne 110 = .ok (.ifCond .eq 7, 3) := by decide +kernel
theorem dX6_readOne_113 : decode cX6_readOne 113 = .ok (.iconst 1, 1) := by decide +kernel
theorem dX6_readOne_114 : decode cX6_readOne 114 = .ok (.goto 4, 3) := by decide +kernel
theorem dX6_readOne_117 : decode cX6_readOne 117 = .ok (.iconst 0, 1) := by decide +kernel
theorem dX6_readOne_118 : decode cX6_readOne 118 = .ok (.ireturn, 1) := by decide +kernel
theorem dX6_readOne_119 : decode cX6_readOne 119 = .ok (.aload_n 3, 1) := by decide +kernel
theorem dX6_readOne_120 : decode cX6_readOne 120 = .ok (.getstatic 92, 3) := by decide +kernel
theorem dX6_readOne_123 : decode cX6_readOne 123 = .ok (.if_acmp .ne 31, 3) := by decide +kernel
theorem dX6_readOne_126 : decode cX6_readOne 126 = .ok (.aload_n 0, 1) := by decide +kernel
theorem dX6_readOne_127 : decode cX6_readOne 127 = .ok (.iload_n 1, 1) := by decide +kernel
theorem dX6_readOne_128 : decode cX6_readOne 128 = .ok (.iconst 1, 1) := by decide +kernel
theorem dX6_readOne_129 : decode cX6_readOne 129 = .ok (.iadd, 1) := by decide +kernel
theorem dX6_readOne_130 : decode cX6_readOne 130 = .ok (.invokevirtual 76, 3) := by decide +kernel
theorem dX6_readOne_133 : decode cX6_readOne 133 = .ok (.ifCond .eq 19, 3) := by decide +kernel
theorem dX6_readOne_136 : decode cX6_readOne 136 = .ok (.aload_n 0, 1) := by decide +kernel
theorem dX6_readOne_137 : decode cX6_readOne 137 = .ok (.getstatic 92, 3) := by decide +kernel
theorem dX6_readOne_140 : decode cX6_readOne 140 = .ok (.iconst 0, 1) := by decide +kernel
theorem dX6_readOne_141 : decode cX6_readOne 141 = .ok (.iconst 0, 1) := by decide +kernel
theorem dX6_readOne_142 : decode cX6_readOne 142 = .ok (.invokevirtual 72, 3) := by decide +kernel
theorem dX6_readOne_145 : decode cX6_readOne 145 = .ok (.ifCond .eq 7, 3) := by decide +kernel
theorem dX6_readOne_148 : decode cX6_readOne 148 = .ok (.iconst 1, 1) := by decide +kernel
theorem dX6_readOne_149 : decode cX6_readOne 149 = .ok (.goto 4, 3) := by decide +kernel
theorem dX6_readOne_152 : decode cX6_readOne 152 = .ok (.iconst 0, 1) := by decide +kernel
theorem dX6_readOne_153 : decode cX6_readOne 153 = .ok (.ireturn, 1) := by decide +kernel
theorem dX6_readOne_154 : decode cX6_readOne 154 = .ok (.aload_n 3, 1) := by decide +kernel
theorem dX6_readOne_155 : decode cX6_readOne 155 = .ok (.getstatic 95, 3) := by decide +kernel
theorem dX6_readOne_158 : decode cX6_readOne 158 = .ok (.if_acmp .eq 10, 3) := by decide +kernel
theorem dX6_readOne_161 : decode cX6_readOne 161 = .ok (.aload_n 3, 1) := by decide +kernel
theorem dX6_readOne_162 : decode cX6_readOne 162 = .ok (.getstatic 98, 3) := by decide +kernel
theorem dX6_readOne_165 : decode cX6_readOne 165 = .ok (.if_acmp .ne 11, 3) := by decide +kernel
theorem dX6_readOne_168 : decode cX6_readOne 168 = .ok (.aload_n 0, 1) := by decide +kernel
theorem dX6_readOne_169 : decode cX6_readOne 169 = .ok (.aload_n 3, 1) := by decide +kernel
theorem dX6_readOne_170 : decode cX6_readOne 170 = .ok (.iconst 0, 1) := by decide +kernel
theorem dX6_readOne_171 : decode cX6_readOne 171 = .ok (.iconst 0, 1) := by decide +kernel
theorem dX6_readOne_172 : decode cX6_readOne 172 = .ok (.invokevirtual 72, 3) := by decide +kernel
theorem dX6_readOne_175 : decode cX6_readOne 175 = .ok (.ireturn, 1) := by decide +kernel
theorem dX6_readOne_176 : decode cX6_readOne 176 = .ok (.aload_n 3, 1) := by decide +kernel
theorem dX6_readOne_177 : decode cX6_readOne 177 = .ok (.getstatic 101, 3) := by decide +kernel
theorem dX6_readOne_180 : decode cX6_readOne 180 = .ok (.if_acmp .eq 17, 3) := by decide +kernel
theorem dX6_readOne_183 : decode cX6_readOne 183 = .ok (.aload_n 3, 1) := by decide +kernel
theorem dX6_readOne_184 : decode cX6_readOne 184 = .ok (.getstatic 104, 3) := by decide +kernel
theorem dX6_readOne_187 : decode cX6_readOne 187 = .ok (.if_acmp .eq 10, 3) := by decide +kernel
theorem dX6_readOne_190 : decode cX6_readOne 190 = .ok (.aload_n 3, 1) := by decide +kernel
theorem dX6_readOne_191 : decode cX6_readOne 191 = .ok (.getstatic 107, 3) := by decide +kernel
theorem dX6_readOne_194 : decode cX6_readOne 194 = .ok (.if_acmp .ne 39, 3) := by decide +kernel
theorem dX6_readOne_197 : decode cX6_readOne 197 = .ok (.aload_n 0, 1) := by decide +kernel
theorem dX6_readOne_198 : decode cX6_readOne 198 = .ok (.getfield 34, 3) := by decide +kernel
theorem dX6_readOne_201 : decode cX6_readOne 201 = .ok (.aload_n 0, 1) := by decide +kernel
theorem dX6_readOne_202 : decode cX6_readOne 202 = .ok (.getfield 38, 3) := by decide +kernel
theorem dX6_readOne_205 : decode cX6_readOne 205 = .ok (.invokevirtual 110, 3) := by decide +kernel
theorem dX6_readOne_208 : decode cX6_readOne 208 = .ok (.istore 4, 2) := by decide +kernel
theorem dX6_readOne_210 : decode cX6_readOne 210 = .ok (.iload 4, 2) := by decide +kernel
theorem dX6_readOne_212 : decode cX6_readOne 212 = .ok (.iconst (-1), 1) := by decide +kernel
theorem dX6_readOne_213 : decode cX6_readOne 213 = .ok (.if_icmp .eq 18, 3) := by decide +kernel
theorem dX6_readOne_216 : decode cX6_readOne 216 = .ok (.aload_n 0, 1) := by decide +kernel
theorem dX6_readOne_217 : decode cX6_readOne 217 = .ok (.aload_n 3, 1) := by decide +kernel
theorem dX6_readOne_218 : decode cX6_readOne 218 = .ok (.iconst 0, 1) := by decide +kernel
theorem dX6_readOne_219 : decode cX6_readOne 219 = .ok (.iload 4, 2) := by decide +kernel
theorem dX6_readOne_221 : decode cX6_readOne 221 = .ok (.invokevirtual 72, 3) := by decide +kernel
theorem dX6_readOne_224 : decode cX6_readOne 224 = .ok (.ifCond .eq 7, 3) := by decide +kernel
theorem dX6_readOne_227 : decode cX6_readOne 227 = .ok (.iconst 1, 1) := by decide +kernel
theorem dX6_readOne_228 : decode cX6_readOne 228 = .ok (.goto 4, 3) := by decide +kernel
theorem dX6_readOne_231 : decode cX6_readOne 231 = .ok (.iconst 0, 1) := by decide +kernel
theorem dX6_readOne_232 : decode cX6_readOne 232 = .ok (.ireturn, 1) := by decide +kernel
theorem dX6_readOne_233 : decode cX6_readOne 233 = .ok (.aload_n 0, 1) := by decide +kernel
theorem dX6_readOne_234 : decode cX6_readOne 234 = .ok (.aload_n 3, 1) := by decide +kernel
theorem dX6_readOne_235 : decode cX6_readOne 235 = .ok (.invokevirtual 114, 3) := by decide +kernel
theorem dX6_readOne_238 : decode cX6_readOne 238 = .ok (.ireturn, 1) := by decide +kernel
theorem dX6_beginsOne_0 : decode cX6_beginsOne 0 = .ok (.aload_n 0, 1) := by decide +kernel
theorem dX6_beginsOne_1 : decode cX6_beginsOne 1 = .ok (.ifnonnull 5, 3) := by decide +kernel
theorem dX6_beginsOne_4 : decode cX6_beginsOne 4 = .ok (.iconst 0, 1) := by decide +kernel
theorem dX6_beginsOne_5 : decode cX6_beginsOne 5 = .ok (.ireturn, 1) := by decide +kernel
theorem dX6_beginsOne_6 : decode cX6_beginsOne 6 = .ok (.getstatic 117, 3) := by decide +kernel
theorem dX6_beginsOne_9 : decode cX6_beginsOne 9 = .ok (.aload_n 0, 1) := by decide +kernel
theorem dX6_beginsOne_10 : decode cX6_beginsOne 10 = .ok (.invokevirtual 122, 3) := by decide +kernel
theorem dX6_beginsOne_13 : decode cX6_beginsOne 13 = .ok (.iaload, 1) := by decide +kernel
theorem dX6_beginsOne_14 : decode cX6_beginsOne 14 = .ok (.tableswitch 56 12 21 #[54, 54, 54, 54, 54, 54, 54, 54, 54, 54], 54) := by decide +kernel
theorem dX6_beginsOne_68 : decode cX6_beginsOne 68 = .ok (.iconst 1, 1) := by decide +kernel
theorem dX6_beginsOne_69 : decode cX6_beginsOne 69 = .ok (.ireturn, 1) := by decide +kernel
theorem dX6_beginsOne_70 : decode cX6_beginsOne 70 = .ok (.iconst 0, 1) := by decide +kernel
theorem dX6_beginsOne_71 : decode cX6_beginsOne 71 = .ok (.ireturn, 1) := by decide +kernel
theorem dX6_readMeasure_0 : decode cX6_readMeasure 0 = .ok (.aload_n 0, 1) := by decide +kernel
theorem dX6_readMeasure_1 : decode cX6_readMeasure 1 = .ok (.getfield 34, 3) := by decide +kernel
theorem dX6_readMeasure_4 : decode cX6_readMeasure 4 = .ok (.getfield 82, 3) := by decide +kernel
theorem dX6_readMeasure_7 : decode cX6_readMeasure 7 = .ok (.istore_n 2, 1) := by decide +kernel
theorem dX6_readMeasure_8 : decode cX6_readMeasure 8 = .ok (.iload_n 2, 1) := by decide +kernel
theorem dX6_readMeasure_9 : decode cX6_readMeasure 9 = .ok (.bipush 60, 2) := by decide +kernel
theorem dX6_readMeasure_11 : decode cX6_readMeasure 11 = .ok (.if_icmp .eq 24, 3) := by decide +kernel
theorem dX6_readMeasure_14 : decode cX6_readMeasure 14 = .ok (.iload_n 2, 1) := by decide +kernel
theorem dX6_readMeasure_15 : decode cX6_readMeasure 15 = .ok (.bipush 61, 2) := by decide +kernel
theorem dX6_readMeasure_17 : decode cX6_readMeasure 17 = .ok (.if_icmp .eq 18, 3) := by decide +kernel
theorem dX6_readMeasure_20 : decode cX6_readMeasure 20 = .ok (.iload_n 2, 1) := by decide +kernel
theorem dX6_readMeasure_21 : decode cX6_readMeasure 21 = .ok (.bipush 62, 2) := by decide +kernel
theorem dX6_readMeasure_23 : decode cX6_readMeasure 23 = .ok (.if_icmp .eq 12, 3) := by decide +kernel
theorem dX6_readMeasure_26 : decode cX6_readMeasure 26 = .ok (.aload_n 0, 1) := by decide +kernel
theorem dX6_readMeasure_27 : decode cX6_readMeasure 27 = .ok (.getfield 34, 3) := by decide +kernel
theorem dX6_readMeasure_30 : decode cX6_readMeasure 30 = .ok (.iconst 1, 1) := by decide +kernel
theorem dX6_readMeasure_31 : decode cX6_readMeasure 31 = .ok (.invokevirtual 56, 3) := by decide +kernel
theorem dX6_readMeasure_34 : decode cX6_readMeasure 34 = .ok (.ireturn, 1) := by decide +kernel
theorem dX6_readMeasure_35 : decode cX6_readMeasure 35 = .ok (.aload_n 0, 1) := by decide +kernel
theorem dX6_readMeasure_36 : decode cX6_readMeasure 36 = .ok (.getfield 34, 3) := by decide +kernel
theorem dX6_readMeasure_39 : decode cX6_readMeasure 39 = .ok (.invokevirtual 69, 3) := by decide +kernel
theorem dX6_readMeasure_42 : decode cX6_readMeasure 42 = .ok (.aload_n 0, 1) := by decide +kernel
theorem dX6_readMeasure_43 : decode cX6_readMeasure 43 = .ok (.getfield 34, 3) := by decide +kernel
theorem dX6_readMeasure_46 : decode cX6_readMeasure 46 = .ok (.iconst 0, 1) := by decide +kernel
theorem dX6_readMeasure_47 : decode cX6_readMeasure 47 = .ok (.sipush 999, 3) := by decide +kernel
theorem dX6_readMeasure_50 : decode cX6_readMeasure 50 = .ok (.invokevirtual 126, 3) := by decide +kernel
theorem dX6_readMeasure_53 : decode cX6_readMeasure 53 = .ok (.istore_n 3, 1) := by decide +kernel
theorem dX6_readMeasure_54 : decode cX6_readMeasure 54 = .ok (.iload_n 3, 1) := by decide +kernel
theorem dX6_readMeasure_55 : decode cX6_readMeasure 55 = .ok (.iconst (-1), 1) := by decide +kernel
theorem dX6_readMeasure_56 : decode cX6_readMeasure 56 = .ok (.if_icmp .eq 17, 3) := by decide +kernel
theorem dX6_readMeasure_59 : decode cX6_readMeasure 59 = .ok (.aload_n 0, 1) := by decide +kernel
theorem dX6_readMeasure_60 : decode cX6_readMeasure 60 = .ok (.aload_n 1, 1) := by decide +kernel
theorem dX6_readMeasure_61 : decode cX6_readMeasure 61 = .ok (.iload_n 2, 1) := by decide +kernel
theorem dX6_readMeasure_62 : decode cX6_readMeasure 62 = .ok (.iload_n 3, 1) := by decide +kernel
theorem dX6_readMeasure_63 : decode cX6_readMeasure 63 = .ok (.invokevirtual 72, 3) := by decide +kernel
theorem dX6_readMeasure_66 : decode cX6_readMeasure 66 = .ok (.ifCond .eq 7, 3) := by decide +kernel
theorem dX6_readMeasure_69 : decode cX6_readMeasure 69 = .ok (.iconst 1, 1) := by decide +kernel
theorem dX6_readMeasure_70 : decode cX6_readMeasure 70 = .ok (.goto 4, 3) := by decide +kernel
theorem dX6_readMeasure_73 : decode cX6_readMeasure 73 = .ok (.iconst 0, 1) := by decide +kernel
theorem dX6_readMeasure_74 : decode cX6_readMeasure 74 = .ok (.ireturn, 1) := by decide +kernel
theorem dX6_addStep_0 : decode cX6_addStep 0 = .ok (.aload_n 0, 1) := by decide +kernel
theorem dX6_addStep_1 : decode cX6_addStep 1 = .ok (.getfield 24, 3) := by decide +kernel
theorem dX6_addStep_4 : decode cX6_addStep 4 = .ok (.bipush 40, 2) := by decide +kernel
theorem dX6_addStep_6 : decode cX6_addStep 6 = .ok (.if_icmp .lt 12, 3) := by decide +kernel
theorem dX6_addStep_9 : decode cX6_addStep 9 = .ok (.aload_n 0, 1) := by decide +kernel
theorem dX6_addStep_10 : decode cX6_addStep 10 = .ok (.getfield 34, 3) := by decide +kernel
theorem dX6_addStep_13 : decode cX6_addStep 13 = .ok (.iconst 4, 1) := by decide +kernel
theorem dX6_addStep_14 : decode cX6_addStep 14 = .ok (.invokevirtual 56, 3) := by decide +kernel
theorem dX6_addStep_17 : decode cX6_addStep 17 = .ok (.ireturn, 1) := by decide +kernel
theorem dX6_addStep_18 : decode cX6_addStep 18 = .ok (.aload_n 0, 1) := by decide +kernel
theorem dX6_addStep_19 : decode cX6_addStep 19 = .ok (.getfield 13, 3) := by decide +kernel
theorem dX6_addStep_22 : decode cX6_addStep 22 = .ok (.aload_n 0, 1) := by decide +kernel
theorem dX6_addStep_23 : decode cX6_addStep 23 = .ok (.getfield 24, 3) := by decide +kernel
theorem dX6_addStep_26 : decode cX6_addStep 26 = .ok (.aload_n 1, 1) := by decide +kernel
theorem dX6_addStep_27 : decode cX6_addStep 27 = .ok (.aastore, 1) := by decide +kernel
theorem dX6_addStep_28 : decode cX6_addStep 28 = .ok (.aload_n 0, 1) := by decide +kernel
theorem dX6_addStep_29 : decode cX6_addStep 29 = .ok (.getfield 17, 3) := by decide +kernel
theorem dX6_addStep_32 : decode cX6_addStep 32 = .ok (.aload_n 0, 1) := by decide +kernel
theorem dX6_addStep_33 : decode cX6_addStep 33 = .ok (.getfield 24, 3) := by decide +kernel
theorem dX6_addStep_36 : decode cX6_addStep 36 = .ok (.iload_n 2, 1) := by decide +kernel
theorem dX6_addStep_37 : decode cX6_addStep 37 = .ok (.iastore, 1) := by decide +kernel
theorem dX6_addStep_38 : decode cX6_addStep 38 = .ok (.aload_n 0, 1) := by decide +kernel
theorem dX6_addStep_39 : decode cX6_addStep 39 = .ok (.getfield 21, 3) := by decide +kernel
theorem dX6_addStep_42 : decode cX6_addStep 42 = .ok (.aload_n 0, 1) := by decide +kernel
theorem dX6_addStep_43 : decode cX6_addStep 43 = .ok (.getfield 24, 3) := by decide +kernel
theorem dX6_addStep_46 : decode cX6_addStep 46 = .ok (.iload_n 3, 1) := by decide +kernel
theorem dX6_addStep_47 : decode cX6_addStep 47 = .ok (.iastore, 1) := by decide +kernel
theorem dX6_addStep_48 : decode cX6_addStep 48 = .ok (.aload_n 0, 1) := by decide +kernel
theorem dX6_addStep_49 : decode cX6_addStep 49 = .ok (.dup, 1) := by decide +kernel
theorem dX6_addStep_50 : decode cX6_addStep 50 = .ok (.getfield 24, 3) := by decide +kernel
theorem dX6_addStep_53 : decode cX6_addStep 53 = .ok (.iconst 1, 1) := by decide +kernel
theorem dX6_addStep_54 : decode cX6_addStep 54 = .ok (.iadd, 1) := by decide +kernel
theorem dX6_addStep_55 : decode cX6_addStep 55 = .ok (.putfield 24, 3) := by decide +kernel
theorem dX6_addStep_58 : decode cX6_addStep 58 = .ok (.iconst 1, 1) := by decide +kernel
theorem dX6_addStep_59 : decode cX6_addStep 59 = .ok (.ireturn, 1) := by decide +kernel
theorem dX6_persons_0 : decode cX6_persons 0 = .ok (.iconst 1, 1) := by decide +kernel
theorem dX6_persons_1 : decode cX6_persons 1 = .ok (.aload_n 1, 1) := by decide +kernel
theorem dX6_persons_2 : decode cX6_persons 2 = .ok (.getfield 130, 3) := by decide +kernel
theorem dX6_persons_5 : decode cX6_persons 5 = .ok (.getfield 133, 3) := by decide +kernel
theorem dX6_persons_8 : decode cX6_persons 8 = .ok (.ishl, 1) := by decide +kernel
theorem dX6_persons_9 : decode cX6_persons 9 = .ok (.iconst 1, 1) := by decide +kernel
theorem dX6_persons_10 : decode cX6_persons 10 = .ok (.isub, 1) := by decide +kernel
theorem dX6_persons_11 : decode cX6_persons 11 = .ok (.istore_n 2, 1) := by decide +kernel
theorem dX6_persons_12 : decode cX6_persons 12 = .ok (.iconst 0, 1) := by decide +kernel
theorem dX6_persons_13 : decode cX6_persons 13 = .ok (.istore_n 3, 1) := by decide +kernel
theorem dX6_persons_14 : decode cX6_persons 14 = .ok (.iconst 0, 1) := by decide +kernel
theorem dX6_persons_15 : decode cX6_persons 15 = .ok (.istore 4, 2) := by decide +kernel
theorem dX6_persons_17 : decode cX6_persons 17 = .ok (.iload 4, 2) := by decide +kernel
theorem dX6_persons_19 : decode cX6_persons 19 = .ok (.aload_n 0, 1) := by decide +kernel
theorem dX6_persons_20 : decode cX6_persons 20 = .ok (.getfield 24, 3) := by decide +kernel
theorem dX6_persons_23 : decode cX6_persons 23 = .ok (.if_icmp .ge 139, 3) := by decide +kernel
theorem dX6_persons_26 : decode cX6_persons 26 = .ok (.aload_n 0, 1) := by decide +kernel
theorem dX6_persons_27 : decode cX6_persons 27 = .ok (.getfield 13, 3) := by decide +kernel
theorem dX6_persons_30 : decode cX6_persons 30 = .ok (.iload 4, 2) := by decide +kernel
theorem dX6_persons_32 : decode cX6_persons 32 = .ok (.aaload, 1) := by decide +kernel
theorem dX6_persons_33 : decode cX6_persons 33 = .ok (.astore 5, 2) := by decide +kernel
theorem dX6_persons_35 : decode cX6_persons 35 = .ok (.aload 5, 2) := by decide +kernel
theorem dX6_persons_37 : decode cX6_persons 37 = .ok (.getstatic 92, 3) := by decide +kernel
theorem dX6_persons_40 : decode cX6_persons 40 = .ok (.if_acmp .ne 22, 3) := by decide +kernel
theorem dX6_persons_43 : decode cX6_persons 43 = .ok (.iload_n 3, 1) := by decide +kernel
theorem dX6_persons_44 : decode cX6_persons 44 = .ok (.ifCond .le 18, 3) := by decide +kernel
theorem dX6_persons_47 : decode cX6_persons 47 = .ok (.aload_n 0, 1) := by decide +kernel
theorem dX6_persons_48 : decode cX6_persons 48 = .ok (.getfield 28, 3) := by decide +kernel
theorem dX6_persons_51 : decode cX6_persons 51 = .ok (.iload_n 3, 1) := by decide +kernel
theorem dX6_persons_52 : decode cX6_persons 52 = .ok (.iconst 1, 1) := by decide +kernel
theorem dX6_persons_53 : decode cX6_persons 53 = .ok (.isub, 1) := by decide +kernel
theorem dX6_persons_54 : decode cX6_persons 54 = .ok (.dup2, 1) := by decide +kernel
theorem dX6_persons_55 : decode cX6_persons 55 = .ok (.iaload, 1) := by decide +kernel
theorem dX6_persons_56 : decode cX6_persons 56 = .ok (.iload_n 2, 1) := by decide +kernel
theorem dX6_persons_57 : decode cX6_persons 57 = .ok (.ixor, 1) := by decide +kernel
theorem dX6_persons_58 : decode cX6_persons 58 = .ok (.iastore, 1) := by decide +kernel
theorem dX6_persons_59 : decode cX6_persons 59 = .ok (.goto 97, 3) := by decide +kernel
theorem dX6_persons_62 : decode cX6_persons 62 = .ok (.aload 5, 2) := by decide +kernel
theorem dX6_persons_64 : decode cX6_persons 64 = .ok (.getstatic 79, 3) := by decide +kernel
theorem dX6_persons_67 : decode cX6_persons 67 = .ok (.if_acmp .ne 31, 3) := by decide +kernel
theorem dX6_persons_70 : decode cX6_persons 70 = .ok (.iload_n 3, 1) := by decide +kernel
theorem dX6_persons_71 : decode cX6_persons 71 = .ok (.iconst 1, 1) := by decide +kernel
theorem dX6_persons_72 : decode cX6_persons 72 = .ok (.if_icmp .le 26, 3) := by decide +kernel
theorem dX6_persons_75 : decode cX6_persons 75 = .ok (.iinc 3 (-1), 3) := by decide +kernel
theorem dX6_persons_78 : decode cX6_persons 78 = .ok (.aload_n 0, 1) := by decide +kernel
theorem dX6_persons_79 : decode cX6_persons 79 = .ok (.getfield 28, 3) := by decide +kernel
theorem dX6_persons_82 : decode cX6_persons 82 = .ok (.iload_n 3, 1) := by decide +kernel
theorem dX6_persons_83 : decode cX6_persons 83 = .ok (.iconst 1, 1) := by decide +kernel
theorem dX6_persons_84 : decode cX6_persons 84 = .ok (.isub, 1) := by decide +kernel
theorem dX6_persons_85 : decode cX6_persons 85 = .ok (.dup2, 1) := by decide +kernel
theorem dX6_persons_86 : decode cX6_persons 86 = .ok (.iaload, 1) := by decide +kernel
theorem dX6_persons_87 : decode cX6_persons 87 = .ok (.aload_n 0, 1) := by decide +kernel
theorem dX6_persons_88 : decode cX6_persons 88 = .ok (.getfield 28, 3) := by decide +kernel
theorem dX6_persons_91 : decode cX6_persons 91 = .ok (.iload_n 3, 1) := by decide +kernel
theorem dX6_persons_92 : decode cX6_persons 92 = .ok (.iaload, 1) := by decide +kernel
theorem dX6_persons_93 : decode cX6_persons 93 = .ok (.iand, 1) := by decide +kernel
theorem dX6_persons_94 : decode cX6_persons 94 = .ok (.iastore, 1) := by decide +kernel
theorem dX6_persons_95 : decode cX6_persons 95 = .ok (.goto 61, 3) := by decide +kernel
theorem dX6_persons_98 : decode cX6_persons 98 = .ok (.aload 5, 2) := by decide +kernel
theorem dX6_persons_100 : decode cX6_persons 100 = .ok (.getstatic 66, 3) := by decide +kernel
theorem dX6_persons_103 : decode cX6_persons 103 = .ok (.if_acmp .ne 31, 3) := by decide +kernel
theorem dX6_persons_106 : decode cX6_persons 106 = .ok (.iload_n 3, 1) := by decide +kernel
theorem dX6_persons_107 : decode cX6_persons 107 = .ok (.iconst 1, 1) := by decide +kernel
theorem dX6_persons_108 : decode cX6_persons 108 = .ok (.if_icmp .le 26, 3) := by decide +kernel
theorem dX6_persons_111 : decode cX6_persons 111 = .ok (.iinc 3 (-1), 3) := by decide +kernel
theorem dX6_persons_114 : decode cX6_persons 114 = .ok (.aload_n 0, 1) := by decide +kernel
theorem dX6_persons_115 : decode cX6_persons 115 = .ok (.getfield 28, 3) := by decide +kernel
theorem dX6_persons_118 : decode cX6_persons 118 = .ok (.iload_n 3, 1) := by decide +kernel
theorem dX6_persons_119 : decode cX6_persons 119 = .ok (.iconst 1, 1) := by decide +kernel
theorem dX6_persons_120 : decode cX6_persons 120 = .ok (.isub, 1) := by decide +kernel
theorem dX6_persons_121 : decode cX6_persons 121 = .ok (.dup2, 1) := by decide +kernel
theorem dX6_persons_122 : decode cX6_persons 122 = .ok (.iaload, 1) := by decide +kernel
theorem dX6_persons_123 : decode cX6_persons 123 = .ok (.aload_n 0, 1) := by decide +kernel
theorem dX6_persons_124 : decode cX6_persons 124 = .ok (.getfield 28, 3) := by decide +kernel
theorem dX6_persons_127 : decode cX6_persons 127 = .ok (.iload_n 3, 1) := by decide +kernel
theorem dX6_persons_128 : decode cX6_persons 128 = .ok (.iaload, 1) := by decide +kernel
theorem dX6_persons_129 : decode cX6_persons 129 = .ok (.ior, 1) := by decide +kernel
theorem dX6_persons_130 : decode cX6_persons 130 = .ok (.iastore, 1) := by decide +kernel
theorem dX6_persons_131 : decode cX6_persons 131 = .ok (.goto 25, 3) := by decide +kernel
theorem dX6_persons_134 : decode cX6_persons 134 = .ok (.iload_n 3, 1) := by decide +kernel
theorem dX6_persons_135 : decode cX6_persons 135 = .ok (.bipush 40, 2) := by decide +kernel
theorem dX6_persons_137 : decode cX6_persons 137 = .ok (.if_icmp .ge 19, 3) := by decide +kernel
theorem dX6_persons_140 : decode cX6_persons 140 = .ok (.aload_n 0, 1) := by decide +kernel
theorem dX6_persons_141 : decode cX6_persons 141 = .ok (.getfield 28, 3) := by decide +kernel
theorem dX6_persons_144 : decode cX6_persons 144 = .ok (.iload_n 3, 1) := by decide +kernel
theorem dX6_persons_145 : decode cX6_persons 145 = .ok (.aload_n 0, 1) := by decide +kernel
theorem dX6_persons_146 : decode cX6_persons 146 = .ok (.aload_n 1, 1) := by decide +kernel
theorem dX6_persons_147 : decode cX6_persons 147 = .ok (.iload 4, 2) := by decide +kernel
theorem dX6_persons_149 : decode cX6_persons 149 = .ok (.invokevirtual 138, 3) := by decide +kernel
theorem dX6_persons_152 : decode cX6_persons 152 = .ok (.iastore, 1) := by decide +kernel
theorem dX6_persons_153 : decode cX6_persons 153 = .ok (.iinc 3 1, 3) := by decide +kernel
theorem dX6_persons_156 : decode cX6_persons 156 = .ok (.iinc 4 1, 3) := by decide +kernel
theorem dX6_persons_159 : decode cX6_persons 159 = .ok (.goto (-142), 3) := by decide +kernel
theorem dX6_persons_162 : decode cX6_persons 162 = .ok (.iload_n 3, 1) := by decide +kernel
theorem dX6_persons_163 : decode cX6_persons 163 = .ok (.ifCond .le 12, 3) := by decide +kernel
theorem dX6_persons_166 : decode cX6_persons 166 = .ok (.aload_n 0, 1) := by decide +kernel
theorem dX6_persons_167 : decode cX6_persons 167 = .ok (.getfield 28, 3) := by decide +kernel
theorem dX6_persons_170 : decode cX6_persons 170 = .ok (.iconst 0, 1) := by decide +kernel
theorem dX6_persons_171 : decode cX6_persons 171 = .ok (.iaload, 1) := by decide +kernel
theorem dX6_persons_172 : decode cX6_persons 172 = .ok (.goto 4, 3) := by decide +kernel
theorem dX6_persons_175 : decode cX6_persons 175 = .ok (.iconst 0, 1) := by decide +kernel
theorem dX6_persons_176 : decode cX6_persons 176 = .ok (.ireturn, 1) := by decide +kernel
theorem dX6_personsBy_0 : decode cX6_personsBy 0 = .ok (.iconst 0, 1) := by decide +kernel
theorem dX6_personsBy_1 : decode cX6_personsBy 1 = .ok (.istore_n 3, 1) := by decide +kernel
theorem dX6_personsBy_2 : decode cX6_personsBy 2 = .ok (.iconst 0, 1) := by decide +kernel
theorem dX6_personsBy_3 : decode cX6_personsBy 3 = .ok (.istore 4, 2) := by decide +kernel
theorem dX6_personsBy_5 : decode cX6_personsBy 5 = .ok (.iload 4, 2) := by decide +kernel
theorem dX6_personsBy_7 : decode cX6_personsBy 7 = .ok (.aload_n 1, 1) := by decide +kernel
theorem dX6_personsBy_8 : decode cX6_personsBy 8 = .ok (.getfield 130, 3) := by decide +kernel
theorem dX6_personsBy_11 : decode cX6_personsBy 11 = .ok (.getfield 133, 3) := by decide +kernel
theorem dX6_personsBy_14 : decode cX6_personsBy 14 = .ok (.if_icmp .ge 27, 3) := by decide +kernel
theorem dX6_personsBy_17 : decode cX6_personsBy 17 = .ok (.aload_n 0, 1) := by decide +kernel
theorem dX6_personsBy_18 : decode cX6_personsBy 18 = .ok (.aload_n 1, 1) := by decide +kernel
theorem dX6_personsBy_19 : decode cX6_personsBy 19 = .ok (.iload 4, 2) := by decide +kernel
theorem dX6_personsBy_21 : decode cX6_personsBy 21 = .ok (.iload_n 2, 1) := by decide +kernel
theorem dX6_personsBy_22 : decode cX6_personsBy 22 = .ok (.invokevirtual 142, 3) := by decide +kernel
theorem dX6_personsBy_25 : decode cX6_personsBy 25 = .ok (.ifCond .eq 10, 3) := by decide +kernel
theorem dX6_personsBy_28 : decode cX6_personsBy 28 = .ok (.iload_n 3, 1) := by decide +kernel
theorem dX6_personsBy_29 : decode cX6_personsBy 29 = .ok (.iconst 1, 1) := by decide +kernel
theorem dX6_personsBy_30 : decode cX6_personsBy 30 = .ok (.iload 4, 2) := by decide +kernel
theorem dX6_personsBy_32 : decode cX6_personsBy 32 = .ok (.ishl, 1) := by decide +kernel
theorem dX6_personsBy_33 : decode cX6_personsBy 33 = .ok (.ior, 1) := by decide +kernel
theorem dX6_personsBy_34 : decode cX6_personsBy 34 = .ok (.istore_n 3, 1) := by decide +kernel
theorem dX6_personsBy_35 : decode cX6_personsBy 35 = .ok (.iinc 4 1, 3) := by decide +kernel
theorem dX6_personsBy_38 : decode cX6_personsBy 38 = .ok (.goto (-33), 3) := by decide +kernel
theorem dX6_personsBy_41 : decode cX6_personsBy 41 = .ok (.iload_n 3, 1) := by decide +kernel
theorem dX6_personsBy_42 : decode cX6_personsBy 42 = .ok (.ireturn, 1) := by decide +kernel
theorem dX6_holds_0 : decode cX6_holds 0 = .ok (.aload_n 0, 1) := by decide +kernel
theorem dX6_holds_1 : decode cX6_holds 1 = .ok (.getfield 13, 3) := by decide +kernel
theorem dX6_holds_4 : decode cX6_holds 4 = .ok (.iload_n 3, 1) := by decide +kernel
theorem dX6_holds_5 : decode cX6_holds 5 = .ok (.aaload, 1) := by decide +kernel
theorem dX6_holds_6 : decode cX6_holds 6 = .ok (.astore 4, 2) := by decide +kernel
theorem dX6_holds_8 : decode cX6_holds 8 = .ok (.aload 4, 2) := by decide +kernel
theorem dX6_holds_10 : decode cX6_holds 10 = .ok (.ifnonnull 5, 3) := by decide +kernel
theorem dX6_holds_13 : decode cX6_holds 13 = .ok (.iconst 0, 1) := by decide +kernel
theorem dX6_holds_14 : decode cX6_holds 14 = .ok (.ireturn, 1) := by decide +kernel
theorem dX6_holds_15 : decode cX6_holds 15 = .ok (.getstatic 117, 3) := by decide +kernel
theorem dX6_holds_18 : decode cX6_holds 18 = .ok (.aload 4, 2) := by decide +kernel
theorem dX6_holds_20 : decode cX6_holds 20 = .ok (.invokevirtual 122, 3) := by decide +kernel
theorem dX6_holds_23 : decode cX6_holds 23 = .ok (.iaload, 1) := by decide +kernel
theorem dX6_holds_24 : decode cX6_holds 24 = .ok (.tableswitch 173 13 20 #[48, 54, 68, 89, 113, 137, 149, 161], 48) := by decide +kernel
theorem dX6_holds_72 : decode cX6_holds 72 = .ok (.aload_n 1, 1) := by decide +kernel
theorem dX6_holds_73 : decode cX6_holds 73 = .ok (.iload_n 2, 1) := by decide +kernel
theorem dX6_holds_74 : decode cX6_holds 74 = .ok (.invokevirtual 146, 3) := by decide +kernel
theorem dX6_holds_77 : decode cX6_holds 77 = .ok (.ireturn, 1) := by decide +kernel
theorem dX6_holds_78 : decode cX6_holds 78 = .ok (.aload_n 1, 1) := by decide +kernel
theorem dX6_holds_79 : decode cX6_holds 79 = .ok (.iload_n 2, 1) := by decide +kernel
theorem dX6_holds_80 : decode cX6_holds 80 = .ok (.invokevirtual 149, 3) := by decide +kernel
theorem dX6_holds_83 : decode cX6_holds 83 = .ok (.ifCond .ne 7, 3) := by decide +kernel
theorem dX6_holds_86 : decode cX6_holds 86 = .ok (.iconst 1, 1) := by decide +kernel
theorem dX6_holds_87 : decode cX6_holds 87 = .ok (.goto 4, 3) := by decide +kernel
theorem dX6_holds_90 : decode cX6_holds 90 = .ok (.iconst 0, 1) := by decide +kernel
theorem dX6_holds_91 : decode cX6_holds 91 = .ok (.ireturn, 1) := by decide +kernel
theorem dX6_holds_92 : decode cX6_holds 92 = .ok (.aload_n 1, 1) := by decide +kernel
theorem dX6_holds_93 : decode cX6_holds 93 = .ok (.getfield 153, 3) := by decide +kernel
theorem dX6_holds_96 : decode cX6_holds 96 = .ok (.iload_n 2, 1) := by decide +kernel
theorem dX6_holds_97 : decode cX6_holds 97 = .ok (.iaload, 1) := by decide +kernel
theorem dX6_holds_98 : decode cX6_holds 98 = .ok (.aload_n 0, 1) := by decide +kernel
theorem dX6_holds_99 : decode cX6_holds 99 = .ok (.getfield 21, 3) := by decide +kernel
theorem dX6_holds_102 : decode cX6_holds 102 = .ok (.iload_n 3, 1) := by decide +kernel
theorem dX6_holds_103 : decode cX6_holds 103 = .ok (.iaload, 1) := by decide +kernel
theorem dX6_holds_104 : decode cX6_holds 104 = .ok (.if_icmp .ne 7, 3) := by decide +kernel
theorem dX6_holds_107 : decode cX6_holds 107 = .ok (.iconst 1, 1) := by decide +kernel
theorem dX6_holds_108 : decode cX6_holds 108 = .ok (.goto 4, 3) := by decide +kernel
theorem dX6_holds_111 : decode cX6_holds 111 = .ok (.iconst 0, 1) := by decide +kernel
theorem dX6_holds_112 : decode cX6_holds 112 = .ok (.ireturn, 1) := by decide +kernel
theorem dX6_holds_113 : decode cX6_holds 113 = .ok (.aload_n 1, 1) := by decide +kernel
theorem dX6_holds_114 : decode cX6_holds 114 = .ok (.getfield 130, 3) := by decide +kernel
theorem dX6_holds_117 : decode cX6_holds 117 = .ok (.getfield 156, 3) := by decide +kernel
theorem dX6_holds_120 : decode cX6_holds 120 = .ok (.iload_n 2, 1) := by decide +kernel
theorem dX6_holds_121 : decode cX6_holds 121 = .ok (.iaload, 1) := by decide +kernel
theorem dX6_holds_122 : decode cX6_holds 122 = .ok (.aload_n 0, 1) := by decide +kernel
theorem dX6_holds_123 : decode cX6_holds 123 = .ok (.getfield 21, 3) := by decide +kernel
theorem dX6_holds_126 : decode cX6_holds 126 = .ok (.iload_n 3, 1) := by decide +kernel
theorem dX6_holds_127 : decode cX6_holds 127 = .ok (.iaload, 1) := by decide +kernel
theorem dX6_holds_128 : decode cX6_holds 128 = .ok (.if_icmp .ne 7, 3) := by decide +kernel
theorem dX6_holds_131 : decode cX6_holds 131 = .ok (.iconst 1, 1) := by decide +kernel
theorem dX6_holds_132 : decode cX6_holds 132 = .ok (.goto 4, 3) := by decide +kernel
theorem dX6_holds_135 : decode cX6_holds 135 = .ok (.iconst 0, 1) := by decide +kernel
theorem dX6_holds_136 : decode cX6_holds 136 = .ok (.ireturn, 1) := by decide +kernel
theorem dX6_holds_137 : decode cX6_holds 137 = .ok (.aload_n 1, 1) := by decide +kernel
theorem dX6_holds_138 : decode cX6_holds 138 = .ok (.getfield 159, 3) := by decide +kernel
theorem dX6_holds_141 : decode cX6_holds 141 = .ok (.aload_n 1, 1) := by decide +kernel
theorem dX6_holds_142 : decode cX6_holds 142 = .ok (.getfield 130, 3) := by decide +kernel
theorem dX6_holds_145 : decode cX6_holds 145 = .ok (.getfield 156, 3) := by decide +kernel
theorem dX6_holds_148 : decode cX6_holds 148 = .ok (.iload_n 2, 1) := by decide +kernel
theorem dX6_holds_149 : decode cX6_holds 149 = .ok (.iaload, 1) := by decide +kernel
theorem dX6_holds_150 : decode cX6_holds 150 = .ok (.iaload, 1) := by decide +kernel
theorem dX6_holds_151 : decode cX6_holds 151 = .ok (.aload_n 0, 1) := by decide +kernel
theorem dX6_holds_152 : decode cX6_holds 152 = .ok (.getfield 21, 3) := by decide +kernel
theorem dX6_holds_155 : decode cX6_holds 155 = .ok (.iload_n 3, 1) := by decide +kernel
theorem dX6_holds_156 : decode cX6_holds 156 = .ok (.iaload, 1) := by decide +kernel
theorem dX6_holds_157 : decode cX6_holds 157 = .ok (.invokestatic 162, 3) := by decide +kernel
theorem dX6_holds_160 : decode cX6_holds 160 = .ok (.ireturn, 1) := by decide +kernel
theorem dX6_holds_161 : decode cX6_holds 161 = .ok (.aload_n 0, 1) := by decide +kernel
theorem dX6_holds_162 : decode cX6_holds 162 = .ok (.aload_n 1, 1) := by decide +kernel
theorem dX6_holds_163 : decode cX6_holds 163 = .ok (.getfield 166, 3) := by decide +kernel
theorem dX6_holds_166 : decode cX6_holds 166 = .ok (.iload_n 2, 1) := by decide +kernel
theorem dX6_holds_167 : decode cX6_holds 167 = .ok (.iaload, 1) := by decide +kernel
theorem dX6_holds_168 : decode cX6_holds 168 = .ok (.iload_n 3, 1) := by decide +kernel
theorem dX6_holds_169 : decode cX6_holds 169 = .ok (.invokevirtual 169, 3) := by decide +kernel
theorem dX6_holds_172 : decode cX6_holds 172 = .ok (.ireturn, 1) := by decide +kernel
theorem dX6_holds_173 : decode cX6_holds 173 = .ok (.aload_n 0, 1) := by decide +kernel
theorem dX6_holds_174 : decode cX6_holds 174 = .ok (.aload_n 1, 1) := by decide +kernel
theorem dX6_holds_175 : decode cX6_holds 175 = .ok (.getfield 172, 3) := by decide +kernel
theorem dX6_holds_178 : decode cX6_holds 178 = .ok (.iload_n 2, 1) := by decide +kernel
theorem dX6_holds_179 : decode cX6_holds 179 = .ok (.iaload, 1) := by decide +kernel
theorem dX6_holds_180 : decode cX6_holds 180 = .ok (.iload_n 3, 1) := by decide +kernel
theorem dX6_holds_181 : decode cX6_holds 181 = .ok (.invokevirtual 169, 3) := by decide +kernel
theorem dX6_holds_184 : decode cX6_holds 184 = .ok (.ireturn, 1) := by decide +kernel
theorem dX6_holds_185 : decode cX6_holds 185 = .ok (.aload_n 0, 1) := by decide +kernel
theorem dX6_holds_186 : decode cX6_holds 186 = .ok (.aload_n 1, 1) := by decide +kernel
theorem dX6_holds_187 : decode cX6_holds 187 = .ok (.getfield 175, 3) := by decide +kernel
theorem dX6_holds_190 : decode cX6_holds 190 = .ok (.iload_n 2, 1) := by decide +kernel
theorem dX6_holds_191 : decode cX6_holds 191 = .ok (.iaload, 1) := by decide +kernel
theorem dX6_holds_192 : decode cX6_holds 192 = .ok (.iload_n 3, 1) := by decide +kernel
theorem dX6_holds_193 : decode cX6_holds 193 = .ok (.invokevirtual 169, 3) := by decide +kernel
theorem dX6_holds_196 : decode cX6_holds 196 = .ok (.ireturn, 1) := by decide +kernel
theorem dX6_holds_197 : decode cX6_holds 197 = .ok (.aload_n 0, 1) := by decide +kernel
theorem dX6_holds_198 : decode cX6_holds 198 = .ok (.iload_n 2, 1) := by decide +kernel
theorem dX6_holds_199 : decode cX6_holds 199 = .ok (.iload_n 3, 1) := by decide +kernel
theorem dX6_holds_200 : decode cX6_holds 200 = .ok (.invokevirtual 169, 3) := by decide +kernel
theorem dX6_holds_203 : decode cX6_holds 203 = .ok (.ireturn, 1) := by decide +kernel
theorem dX6_compare_0 : decode cX6_compare 0 = .ok (.aload_n 0, 1) := by decide +kernel
theorem dX6_compare_1 : decode cX6_compare 1 = .ok (.getfield 17, 3) := by decide +kernel
theorem dX6_compare_4 : decode cX6_compare 4 = .ok (.iload_n 2, 1) := by decide +kernel
theorem dX6_compare_5 : decode cX6_compare 5 = .ok (.iaload, 1) := by decide +kernel
theorem dX6_compare_6 : decode cX6_compare 6 = .ok (.bipush 60, 2) := by decide +kernel
theorem dX6_compare_8 : decode cX6_compare 8 = .ok (.if_icmp .ne 19, 3) := by decide +kernel
theorem dX6_compare_11 : decode cX6_compare 11 = .ok (.iload_n 1, 1) := by decide +kernel
theorem dX6_compare_12 : decode cX6_compare 12 = .ok (.aload_n 0, 1) := by decide +kernel
theorem dX6_compare_13 : decode cX6_compare 13 = .ok (.getfield 21, 3) := by decide +kernel
theorem dX6_compare_16 : decode cX6_compare 16 = .ok (.iload_n 2, 1) := by decide +kernel
theorem dX6_compare_17 : decode cX6_compare 17 = .ok (.iaload, 1) := by decide +kernel
theorem dX6_compare_18 : decode cX6_compare 18 = .ok (.if_icmp .ge 7, 3) := by decide +kernel
theorem dX6_compare_21 : decode cX6_compare 21 = .ok (.iconst 1, 1) := by decide +kernel
theorem dX6_compare_22 : decode cX6_compare 22 = .ok (.goto 4, 3) := by decide +kernel
theorem dX6_compare_25 : decode cX6_compare 25 = .ok (.iconst 0, 1) := by decide +kernel
theorem dX6_compare_26 : decode cX6_compare 26 = .ok (.ireturn, 1) := by decide +kernel
theorem dX6_compare_27 : decode cX6_compare 27 = .ok (.aload_n 0, 1) := by decide +kernel
theorem dX6_compare_28 : decode cX6_compare 28 = .ok (.getfield 17, 3) := by decide +kernel
theorem dX6_compare_31 : decode cX6_compare 31 = .ok (.iload_n 2, 1) := by decide +kernel
theorem dX6_compare_32 : decode cX6_compare 32 = .ok (.iaload, 1) := by decide +kernel
theorem dX6_compare_33 : decode cX6_compare 33 = .ok (.bipush 61, 2) := by decide +kernel
theorem dX6_compare_35 : decode cX6_compare 35 = .ok (.if_icmp .ne 21, 3) := by decide +kernel
theorem dX6_compare_38 : decode cX6_compare 38 = .ok (.iload_n 1, 1) := by decide +kernel
theorem dX6_compare_39 : decode cX6_compare 39 = .ok (.aload_n 0, 1) := by decide +kernel
theorem dX6_compare_40 : decode cX6_compare 40 = .ok (.getfield 21, 3) := by decide +kernel
theorem dX6_compare_43 : decode cX6_compare 43 = .ok (.iload_n 2, 1) := by decide +kernel
theorem dX6_compare_44 : decode cX6_compare 44 = .ok (.iaload, 1) := by decide +kernel
theorem dX6_compare_45 : decode cX6_compare 45 = .ok (.if_icmp .ne 7, 3) := by decide +kernel
theorem dX6_compare_48 : decode cX6_compare 48 = .ok (.iconst 1, 1) := by decide +kernel
theorem dX6_compare_49 : decode cX6_compare 49 = .ok (.goto 22, 3) := by decide +kernel
theorem dX6_compare_52 : decode cX6_compare 52 = .ok (.iconst 0, 1) := by decide +kernel
theorem dX6_compare_53 : decode cX6_compare 53 = .ok (.goto 18, 3) := by decide +kernel
theorem dX6_compare_56 : decode cX6_compare 56 = .ok (.iload_n 1, 1) := by decide +kernel
theorem dX6_compare_57 : decode cX6_compare 57 = .ok (.aload_n 0, 1) := by decide +kernel
theorem dX6_compare_58 : decode cX6_compare 58 = .ok (.getfield 21, 3) := by decide +kernel
theorem dX6_compare_61 : decode cX6_compare 61 = .ok (.iload_n 2, 1) := by decide +kernel
theorem dX6_compare_62 : decode cX6_compare 62 = .ok (.iaload, 1) := by decide +kernel
theorem dX6_compare_63 : decode cX6_compare 63 = .ok (.if_icmp .le 7, 3) := by decide +kernel
theorem dX6_compare_66 : decode cX6_compare 66 = .ok (.iconst 1, 1) := by decide +kernel
theorem dX6_compare_67 : decode cX6_compare 67 = .ok (.goto 4, 3) := by decide +kernel
theorem dX6_compare_70 : decode cX6_compare 70 = .ok (.iconst 0, 1) := by decide +kernel
theorem dX6_compare_71 : decode cX6_compare 71 = .ok (.ireturn, 1) := by decide +kernel
theorem dX7_init_0 : decode cX7_init 0 = .ok (.aload_n 0, 1) := by decide +kernel
theorem dX7_init_1 : decode cX7_init 1 = .ok (.invokespecial 3, 3) := by decide +kernel
theorem dX7_init_4 : decode cX7_init 4 = .ok (.aload_n 0, 1) := by decide +kernel
theorem dX7_init_5 : decode cX7_init 5 = .ok (.aconst_null, 1) := by decide +kernel
theorem dX7_init_6 : decode cX7_init 6 = .ok (.putfield 9, 3) := by decide +kernel
theorem dX7_init_9 : decode cX7_init 9 = .ok (.aload_n 0, 1) := by decide +kernel
theorem dX7_init_10 : decode cX7_init 10 = .ok (.bipush 7, 2) := by decide +kernel
theorem dX7_init_12 : decode cX7_init 12 = .ok (.newarray .int, 2) := by decide +kernel
theorem dX7_init_14 : decode cX7_init 14 = .ok (.putfield 15, 3) := by decide +kernel
theorem dX7_init_17 : decode cX7_init 17 = .ok (.aload_n 0, 1) := by decide +kernel
theorem dX7_init_18 : decode cX7_init 18 = .ok (.bipush 7, 2) := by decide +kernel
theorem dX7_init_20 : decode cX7_init 20 = .ok (.newarray .int, 2) := by decide +kernel
theorem dX7_init_22 : decode cX7_init 22 = .ok (.putfield 19, 3) := by decide +kernel
theorem dX7_init_25 : decode cX7_init 25 = .ok (.aload_n 0, 1) := by decide +kernel
theorem dX7_init_26 : decode cX7_init 26 = .ok (.iconst 0, 1) := by decide +kernel
theorem dX7_init_27 : decode cX7_init 27 = .ok (.putfield 22, 3) := by decide +kernel
theorem dX7_init_30 : decode cX7_init 30 = .ok (.aload_n 0, 1) := by decide +kernel
theorem dX7_init_31 : decode cX7_init 31 = .ok (.iconst 0, 1) := by decide +kernel
theorem dX7_init_32 : decode cX7_init 32 = .ok (.putfield 26, 3) := by decide +kernel
theorem dX7_init_35 : decode cX7_init 35 = .ok (.aload_n 0, 1) := by decide +kernel
theorem dX7_init_36 : decode cX7_init 36 = .ok (.bipush 6, 2) := by decide +kernel
theorem dX7_init_38 : decode cX7_init 38 = .ok (.newarray .int, 2) := by decide +kernel
theorem dX7_init_40 : decode cX7_init 40 = .ok (.putfield 29, 3) := by decide +kernel
theorem dX7_init_43 : decode cX7_init 43 = .ok (.aload_n 0, 1) := by decide +kernel
theorem dX7_init_44 : decode cX7_init 44 = .ok (.bipush 6, 2) := by decide +kernel
theorem dX7_init_46 : decode cX7_init 46 = .ok (.newarray .int, 2) := by decide +kernel
theorem dX7_init_48 : decode cX7_init 48 = .ok (.putfield 32, 3) := by decide +kernel
theorem dX7_init_51 : decode cX7_init 51 = .ok (.aload_n 0, 1) := by decide +kernel
theorem dX7_init_52 : decode cX7_init 52 = .ok (.bipush 6, 2) := by decide +kernel
theorem dX7_init_54 : decode cX7_init 54 = .ok (.newarray .int, 2) := by decide +kernel
theorem dX7_init_56 : decode cX7_init 56 = .ok (.putfield 35, 3) := by decide +kernel
theorem dX7_init_59 : decode cX7_init 59 = .ok (.aload_n 0, 1) := by decide +kernel
theorem dX7_init_60 : decode cX7_init 60 = .ok (.bipush 6, 2) := by decide +kernel
theorem dX7_init_62 : decode cX7_init 62 = .ok (.newarray .int, 2) := by decide +kernel
theorem dX7_init_64 : decode cX7_init 64 = .ok (.putfield 38, 3) := by decide +kernel
theorem dX7_init_67 : decode cX7_init 67 = .ok (.aload_n 0, 1) := by decide +kernel
theorem dX7_init_68 : decode cX7_init 68 = .ok (.bipush 6, 2) := by decide +kernel
theorem dX7_init_70 : decode cX7_init 70 = .ok (.newarray .int, 2) := by decide +kernel
theorem dX7_init_72 : decode cX7_init 72 = .ok (.putfield 41, 3) := by decide +kernel
theorem dX7_init_75 : decode cX7_init 75 = .ok (.aload_n 0, 1) := by decide +kernel
theorem dX7_init_76 : decode cX7_init 76 = .ok (.iconst 0, 1) := by decide +kernel
theorem dX7_init_77 : decode cX7_init 77 = .ok (.putfield 44, 3) := by decide +kernel
theorem dX7_init_80 : decode cX7_init 80 = .ok (.aload_n 0, 1) := by decide +kernel
theorem dX7_init_81 : decode cX7_init 81 = .ok (.aload_n 1, 1) := by decide +kernel
theorem dX7_init_82 : decode cX7_init 82 = .ok (.putfield 47, 3) := by decide +kernel
theorem dX7_init_85 : decode cX7_init 85 = .ok (.return_, 1) := by decide +kernel
theorem dX7_clear_0 : decode cX7_clear 0 = .ok (.aload_n 0, 1) := by decide +kernel
theorem dX7_clear_1 : decode cX7_clear 1 = .ok (.aload_n 1, 1) := by decide +kernel
theorem dX7_clear_2 : decode cX7_clear 2 = .ok (.putfield 47, 3) := by decide +kernel
theorem dX7_clear_5 : decode cX7_clear 5 = .ok (.aload_n 0, 1) := by decide +kernel
theorem dX7_clear_6 : decode cX7_clear 6 = .ok (.aconst_null, 1) := by decide +kernel
theorem dX7_clear_7 : decode cX7_clear 7 = .ok (.putfield 9, 3) := by decide +kernel
theorem dX7_clear_10 : decode cX7_clear 10 = .ok (.aload_n 0, 1) := by decide +kernel
theorem dX7_clear_11 : decode cX7_clear 11 = .ok (.iconst 0, 1) := by decide +kernel
theorem dX7_clear_12 : decode cX7_clear 12 = .ok (.putfield 22, 3) := by decide +kernel
theorem dX7_clear_15 : decode cX7_clear 15 = .ok (.aload_n 0, 1) := by decide +kernel
theorem dX7_clear_16 : decode cX7_clear 16 = .ok (.iconst 0, 1) := by decide +kernel
theorem dX7_clear_17 : decode cX7_clear 17 = .ok (.putfield 26, 3) := by decide +kernel
theorem dX7_clear_20 : decode cX7_clear 20 = .ok (.iconst 0, 1) := by decide +kernel
theorem dX7_clear_21 : decode cX7_clear 21 = .ok (.istore_n 2, 1) := by decide +kernel
theorem dX7_clear_22 : decode cX7_clear 22 = .ok (.iload_n 2, 1) := by decide +kernel
theorem dX7_clear_23 : decode cX7_clear 23 = .ok (.bipush 7, 2) := by decide +kernel
theorem dX7_clear_25 : decode cX7_clear 25 = .ok (.if_icmp .ge 23, 3) := by decide +kernel
theorem dX7_clear_28 : decode cX7_clear 28 = .ok (.aload_n 0, 1) := by decide +kernel
theorem dX7_clear_29 : decode cX7_clear 29 = .ok (.getfield 15, 3) := by decide +kernel
theorem dX7_clear_32 : decode cX7_clear 32 = .ok (.iload_n 2, 1) := by decide +kernel
theorem dX7_clear_33 : decode cX7_clear 33 = .ok (.iconst 0, 1) := by decide +kernel
theorem dX7_clear_34 : decode cX7_clear 34 = .ok (.iastore, 1) := by decide +kernel
theorem dX7_clear_35 : decode cX7_clear 35 = .ok (.aload_n 0, 1) := by decide +kernel
theorem dX7_clear_36 : decode cX7_clear 36 = .ok (.getfield 19, 3) := by decide +kernel
theorem dX7_clear_39 : decode cX7_clear 39 = .ok (.iload_n 2, 1) := by decide +kernel
theorem dX7_clear_40 : decode cX7_clear 40 = .ok (.iconst 0, 1) := by decide +kernel
theorem dX7_clear_41 : decode cX7_clear 41 = .ok (.iastore, 1) := by decide +kernel
theorem dX7_clear_42 : decode cX7_clear 42 = .ok (.iinc 2 1, 3) := by decide +kernel
theorem dX7_clear_45 : decode cX7_clear 45 = .ok (.goto (-23), 3) := by decide +kernel
theorem dX7_clear_48 : decode cX7_clear 48 = .ok (.iconst 0, 1) := by decide +kernel
theorem dX7_clear_49 : decode cX7_clear 49 = .ok (.istore_n 2, 1) := by decide +kernel
theorem dX7_clear_50 : decode cX7_clear 50 = .ok (.iload_n 2, 1) := by decide +kernel
theorem dX7_clear_51 : decode cX7_clear 51 = .ok (.bipush 6, 2) := by decide +kernel
theorem dX7_clear_53 : decode cX7_clear 53 = .ok (.if_icmp .ge 44, 3) := by decide +kernel
theorem dX7_clear_56 : decode cX7_clear 56 = .ok (.aload_n 0, 1) := by decide +kernel
theorem dX7_clear_57 : decode cX7_clear 57 = .ok (.getfield 29, 3) := by decide +kernel
theorem dX7_clear_60 : decode cX7_clear 60 = .ok (.iload_n 2, 1) := by decide +kernel
theorem dX7_clear_61 : decode cX7_clear 61 = .ok (.iconst 0, 1) := by decide +kernel
theorem dX7_clear_62 : decode cX7_clear 62 = .ok (.iastore, 1) := by decide +kernel
theorem dX7_clear_63 : decode cX7_clear 63 = .ok (.aload_n 0, 1) := by decide +kernel
theorem dX7_clear_64 : decode cX7_clear 64 = .ok (.getfield 32, 3) := by decide +kernel
theorem dX7_clear_67 : decode cX7_clear 67 = .ok (.iload_n 2, 1) := by decide +kernel
theorem dX7_clear_68 : decode cX7_clear 68 = .ok (.iconst 0, 1) := by decide +kernel
theorem dX7_clear_69 : decode cX7_clear 69 = .ok (.iastore, 1) := by decide +kernel
theorem dX7_clear_70 : decode cX7_clear 70 = .ok (.aload_n 0, 1) := by decide +kernel
theorem dX7_clear_71 : decode cX7_clear 71 = .ok (.getfield 35, 3) := by decide +kernel
theorem dX7_clear_74 : decode cX7_clear 74 = .ok (.iload_n 2, 1) := by decide +kernel
theorem dX7_clear_75 : decode cX7_clear 75 = .ok (.iconst 0, 1) := by decide +kernel
theorem dX7_clear_76 : decode cX7_clear 76 = .ok (.iastore, 1) := by decide +kernel
theorem dX7_clear_77 : decode cX7_clear 77 = .ok (.aload_n 0, 1) := by decide +kernel
theorem dX7_clear_78 : decode cX7_clear 78 = .ok (.getfield 38, 3) := by decide +kernel
theorem dX7_clear_81 : decode cX7_clear 81 = .ok (.iload_n 2, 1) := by decide +kernel
theorem dX7_clear_82 : decode cX7_clear 82 = .ok (.iconst 0, 1) := by decide +kernel
theorem dX7_clear_83 : decode cX7_clear 83 = .ok (.iastore, 1) := by decide +kernel
theorem dX7_clear_84 : decode cX7_clear 84 = .ok (.aload_n 0, 1) := by decide +kernel
theorem dX7_clear_85 : decode cX7_clear 85 = .ok (.getfield 41, 3) := by decide +kernel
theorem dX7_clear_88 : decode cX7_clear 88 = .ok (.iload_n 2, 1) := by decide +kernel
theorem dX7_clear_89 : decode cX7_clear 89 = .ok (.iconst 0, 1) := by decide +kernel
theorem dX7_clear_90 : decode cX7_clear 90 = .ok (.iastore, 1) := by decide +kernel
theorem dX7_clear_91 : decode cX7_clear 91 = .ok (.iinc 2 1, 3) := by decide +kernel
theorem dX7_clear_94 : decode cX7_clear 94 = .ok (.goto (-44), 3) := by decide +kernel
theorem dX7_clear_97 : decode cX7_clear 97 = .ok (.return_, 1) := by decide +kernel
theorem dX7_copy_0 : decode cX7_copy 0 = .ok (.aload_n 0, 1) := by decide +kernel
theorem dX7_copy_1 : decode cX7_copy 1 = .ok (.aload_n 1, 1) := by decide +kernel
theorem dX7_copy_2 : decode cX7_copy 2 = .ok (.getfield 47, 3) := by decide +kernel
theorem dX7_copy_5 : decode cX7_copy 5 = .ok (.putfield 47, 3) := by decide +kernel
theorem dX7_copy_8 : decode cX7_copy 8 = .ok (.aload_n 0, 1) := by decide +kernel
theorem dX7_copy_9 : decode cX7_copy 9 = .ok (.aload_n 1, 1) := by decide +kernel
theorem dX7_copy_10 : decode cX7_copy 10 = .ok (.getfield 9, 3) := by decide +kernel
theorem dX7_copy_13 : decode cX7_copy 13 = .ok (.putfield 9, 3) := by decide +kernel
theorem dX7_copy_16 : decode cX7_copy 16 = .ok (.aload_n 0, 1) := by decide +kernel
theorem dX7_copy_17 : decode cX7_copy 17 = .ok (.aload_n 1, 1) := by decide +kernel
theorem dX7_copy_18 : decode cX7_copy 18 = .ok (.getfield 22, 3) := by decide +kernel
theorem dX7_copy_21 : decode cX7_copy 21 = .ok (.putfield 22, 3) := by decide +kernel
theorem dX7_copy_24 : decode cX7_copy 24 = .ok (.aload_n 0, 1) := by decide +kernel
theorem dX7_copy_25 : decode cX7_copy 25 = .ok (.aload_n 1, 1) := by decide +kernel
theorem dX7_copy_26 : decode cX7_copy 26 = .ok (.getfield 26, 3) := by decide +kernel
theorem dX7_copy_29 : decode cX7_copy 29 = .ok (.putfield 26, 3) := by decide +kernel
theorem dX7_copy_32 : decode cX7_copy 32 = .ok (.iconst 0, 1) := by decide +kernel
theorem dX7_copy_33 : decode cX7_copy 33 = .ok (.istore_n 2, 1) := by decide +kernel
theorem dX7_copy_34 : decode cX7_copy 34 = .ok (.iload_n 2, 1) := by decide +kernel
theorem dX7_copy_35 : decode cX7_copy 35 = .ok (.bipush 7, 2) := by decide +kernel
theorem dX7_copy_37 : decode cX7_copy 37 = .ok (.if_icmp .ge 33, 3) := by decide +kernel
theorem dX7_copy_40 : decode cX7_copy 40 = .ok (.aload_n 0, 1) := by decide +kernel
theorem dX7_copy_41 : decode cX7_copy 41 = .ok (.getfield 15, 3) := by decide +kernel
theorem dX7_copy_44 : decode cX7_copy 44 = .ok (.iload_n 2, 1) := by decide +kernel
theorem dX7_copy_45 : decode cX7_copy 45 = .ok (.aload_n 1, 1) := by decide +kernel
theorem dX7_copy_46 : decode cX7_copy 46 = .ok (.getfield 15, 3) := by decide +kernel
theorem dX7_copy_49 : decode cX7_copy 49 = .ok (.iload_n 2, 1) := by decide +kernel
theorem dX7_copy_50 : decode cX7_copy 50 = .ok (.iaload, 1) := by decide +kernel
theorem dX7_copy_51 : decode cX7_copy 51 = .ok (.iastore, 1) := by decide +kernel
theorem dX7_copy_52 : decode cX7_copy 52 = .ok (.aload_n 0, 1) := by decide +kernel
theorem dX7_copy_53 : decode cX7_copy 53 = .ok (.getfield 19, 3) := by decide +kernel
theorem dX7_copy_56 : decode cX7_copy 56 = .ok (.iload_n 2, 1) := by decide +kernel
theorem dX7_copy_57 : decode cX7_copy 57 = .ok (.aload_n 1, 1) := by decide +kernel
theorem dX7_copy_58 : decode cX7_copy 58 = .ok (.getfield 19, 3) := by decide +kernel
theorem dX7_copy_61 : decode cX7_copy 61 = .ok (.iload_n 2, 1) := by decide +kernel
theorem dX7_copy_62 : decode cX7_copy 62 = .ok (.iaload, 1) := by decide +kernel
theorem dX7_copy_63 : decode cX7_copy 63 = .ok (.iastore, 1) := by decide +kernel
theorem dX7_copy_64 : decode cX7_copy 64 = .ok (.iinc 2 1, 3) := by decide +kernel
theorem dX7_copy_67 : decode cX7_copy 67 = .ok (.goto (-33), 3) := by decide +kernel
theorem dX7_copy_70 : decode cX7_copy 70 = .ok (.iconst 0, 1) := by decide +kernel
theorem dX7_copy_71 : decode cX7_copy 71 = .ok (.istore_n 2, 1) := by decide +kernel
theorem dX7_copy_72 : decode cX7_copy 72 = .ok (.iload_n 2, 1) := by decide +kernel
theorem dX7_copy_73 : decode cX7_copy 73 = .ok (.bipush 6, 2) := by decide +kernel
theorem dX7_copy_75 : decode cX7_copy 75 = .ok (.if_icmp .ge 69, 3) := by decide +kernel
theorem dX7_copy_78 : decode cX7_copy 78 = .ok (.aload_n 0, 1) := by decide +kernel
theorem dX7_copy_79 : decode cX7_copy 79 = .ok (.getfield 29, 3) := by decide +kernel
theorem dX7_copy_82 : decode cX7_copy 82 = .ok (.iload_n 2, 1) := by decide +kernel
theorem dX7_copy_83 : decode cX7_copy 83 = .ok (.aload_n 1, 1) := by decide +kernel
theorem dX7_copy_84 : decode cX7_copy 84 = .ok (.getfield 29, 3) := by decide +kernel
theorem dX7_copy_87 : decode cX7_copy 87 = .ok (.iload_n 2, 1) := by decide +kernel
theorem dX7_copy_88 : decode cX7_copy 88 = .ok (.iaload, 1) := by decide +kernel
theorem dX7_copy_89 : decode cX7_copy 89 = .ok (.iastore, 1) := by decide +kernel
theorem dX7_copy_90 : decode cX7_copy 90 = .ok (.aload_n 0, 1) := by decide +kernel
theorem dX7_copy_91 : decode cX7_copy 91 = .ok (.getfield 32, 3) := by decide +kernel
theorem dX7_copy_94 : decode cX7_copy 94 = .ok (.iload_n 2, 1) := by decide +kernel
theorem dX7_copy_95 : decode cX7_copy 95 = .ok (.aload_n 1, 1) := by decide +kernel
theorem dX7_copy_96 : decode cX7_copy 96 = .ok (.getfield 32, 3) := by decide +kernel
theorem dX7_copy_99 : decode cX7_copy 99 = .ok (.iload_n 2, 1) := by decide +kernel
theorem dX7_copy_100 : decode cX7_copy 100 = .ok (.iaload, 1) := by decide +kernel
theorem dX7_copy_101 : decode cX7_copy 101 = .ok (.iastore, 1) := by decide +kernel
theorem dX7_copy_102 : decode cX7_copy 102 = .ok (.aload_n 0, 1) := by decide +kernel
theorem dX7_copy_103 : decode cX7_copy 103 = .ok (.getfield 35, 3) := by decide +kernel
theorem dX7_copy_106 : decode cX7_copy 106 = .ok (.iload_n 2, 1) := by decide +kernel
theorem dX7_copy_107 : decode cX7_copy 107 = .ok (.aload_n 1, 1) := by decide +kernel
theorem dX7_copy_108 : decode cX7_copy 108 = .ok (.getfield 35, 3) := by decide +kernel
theorem dX7_copy_111 : decode cX7_copy 111 = .ok (.iload_n 2, 1) := by decide +kernel
theorem dX7_copy_112 : decode cX7_copy 112 = .ok (.iaload, 1) := by decide +kernel
theorem dX7_copy_113 : decode cX7_copy 113 = .ok (.iastore, 1) := by decide +kernel
theorem dX7_copy_114 : decode cX7_copy 114 = .ok (.aload_n 0, 1) := by decide +kernel
theorem dX7_copy_115 : decode cX7_copy 115 = .ok (.getfield 38, 3) := by decide +kernel
theorem dX7_copy_118 : decode cX7_copy 118 = .ok (.iload_n 2, 1) := by decide +kernel
theorem dX7_copy_119 : decode cX7_copy 119 = .ok (.aload_n 1, 1) := by decide +kernel
theorem dX7_copy_120 : decode cX7_copy 120 = .ok (.getfield 38, 3) := by decide +kernel
theorem dX7_copy_123 : decode cX7_copy 123 = .ok (.iload_n 2, 1) := by decide +kernel
theorem dX7_copy_124 : decode cX7_copy 124 = .ok (.iaload, 1) := by decide +kernel
theorem dX7_copy_125 : decode cX7_copy 125 = .ok (.iastore, 1) := by decide +kernel
theorem dX7_copy_126 : decode cX7_copy 126 = .ok (.aload_n 0, 1) := by decide +kernel
theorem dX7_copy_127 : decode cX7_copy 127 = .ok (.getfield 41, 3) := by decide +kernel
theorem dX7_copy_130 : decode cX7_copy 130 = .ok (.iload_n 2, 1) := by decide +kernel
theorem dX7_copy_131 : decode cX7_copy 131 = .ok (.aload_n 1, 1) := by decide +kernel
theorem dX7_copy_132 : decode cX7_copy 132 = .ok (.getfield 41, 3) := by decide +kernel
theorem dX7_copy_135 : decode cX7_copy 135 = .ok (.iload_n 2, 1) := by decide +kernel
theorem dX7_copy_136 : decode cX7_copy 136 = .ok (.iaload, 1) := by decide +kernel
theorem dX7_copy_137 : decode cX7_copy 137 = .ok (.iastore, 1) := by decide +kernel
theorem dX7_copy_138 : decode cX7_copy 138 = .ok (.iinc 2 1, 3) := by decide +kernel
theorem dX7_copy_141 : decode cX7_copy 141 = .ok (.goto (-69), 3) := by decide +kernel
theorem dX7_copy_144 : decode cX7_copy 144 = .ok (.return_, 1) := by decide +kernel
theorem dX7_whyNot_0 : decode cX7_whyNot 0 = .ok (.iload_n 1, 1) := by decide +kernel
theorem dX7_whyNot_1 : decode cX7_whyNot 1 = .ok (.tableswitch 183 0 5 #[39, 46, 74, 93, 125, 157], 39) := by decide +kernel
theorem dX7_whyNot_40 : decode cX7_whyNot 40 = .ok (.aload_n 0, 1) := by decide +kernel
theorem dX7_whyNot_41 : decode cX7_whyNot 41 = .ok (.iload_n 2, 1) := by decide +kernel
theorem dX7_whyNot_42 : decode cX7_whyNot 42 = .ok (.iload_n 3, 1) := by decide +kernel
theorem dX7_whyNot_43 : decode cX7_whyNot 43 = .ok (.invokevirtual 51, 3) := by decide +kernel
theorem dX7_whyNot_46 : decode cX7_whyNot 46 = .ok (.ireturn, 1) := by decide +kernel
theorem dX7_whyNot_47 : decode cX7_whyNot 47 = .ok (.iload_n 2, 1) := by decide +kernel
theorem dX7_whyNot_48 : decode cX7_whyNot 48 = .ok (.iload_n 3, 1) := by decide +kernel
theorem dX7_whyNot_49 : decode cX7_whyNot 49 = .ok (.if_icmp .ne 7, 3) := by decide +kernel
theorem dX7_whyNot_52 : decode cX7_whyNot 52 = .ok (.iconst 1, 1) := by decide +kernel
theorem dX7_whyNot_53 : decode cX7_whyNot 53 = .ok (.goto 21, 3) := by decide +kernel
theorem dX7_whyNot_56 : decode cX7_whyNot 56 = .ok (.aload_n 0, 1) := by decide +kernel
theorem dX7_whyNot_57 : decode cX7_whyNot 57 = .ok (.getfield 19, 3) := by decide +kernel
theorem dX7_whyNot_60 : decode cX7_whyNot 60 = .ok (.iload_n 2, 1) := by decide +kernel
theorem dX7_whyNot_61 : decode cX7_whyNot 61 = .ok (.iaload, 1) := by decide +kernel
theorem dX7_whyNot_62 : decode cX7_whyNot 62 = .ok (.iload_n 3, 1) := by decide +kernel
theorem dX7_whyNot_63 : decode cX7_whyNot 63 = .ok (.invokestatic 55, 3) := by decide +kernel
theorem dX7_whyNot_66 : decode cX7_whyNot 66 = .ok (.ifCond .eq 7, 3) := by decide +kernel
theorem dX7_whyNot_69 : decode cX7_whyNot 69 = .ok (.iconst 2, 1) := by decide +kernel
theorem dX7_whyNot_70 : decode cX7_whyNot 70 = .ok (.goto 4, 3) := by decide +kernel
theorem dX7_whyNot_73 : decode cX7_whyNot 73 = .ok (.iconst 0, 1) := by decide +kernel
theorem dX7_whyNot_74 : decode cX7_whyNot 74 = .ok (.ireturn, 1) := by decide +kernel
theorem dX7_whyNot_75 : decode cX7_whyNot 75 = .ok (.aload_n 0, 1) := by decide +kernel
theorem dX7_whyNot_76 : decode cX7_whyNot 76 = .ok (.getfield 19, 3) := by decide +kernel
theorem dX7_whyNot_79 : decode cX7_whyNot 79 = .ok (.iload_n 2, 1) := by decide +kernel
theorem dX7_whyNot_80 : decode cX7_whyNot 80 = .ok (.iaload, 1) := by decide +kernel
theorem dX7_whyNot_81 : decode cX7_whyNot 81 = .ok (.iload_n 3, 1) := by decide +kernel
theorem dX7_whyNot_82 : decode cX7_whyNot 82 = .ok (.invokestatic 55, 3) := by decide +kernel
theorem dX7_whyNot_85 : decode cX7_whyNot 85 = .ok (.ifCond .eq 7, 3) := by decide +kernel
theorem dX7_whyNot_88 : decode cX7_whyNot 88 = .ok (.iconst 0, 1) := by decide +kernel
theorem dX7_whyNot_89 : decode cX7_whyNot 89 = .ok (.goto 4, 3) := by decide +kernel
theorem dX7_whyNot_92 : decode cX7_whyNot 92 = .ok (.iconst 1, 1) := by decide +kernel
theorem dX7_whyNot_93 : decode cX7_whyNot 93 = .ok (.ireturn, 1) := by decide +kernel
theorem dX7_whyNot_94 : decode cX7_whyNot 94 = .ok (.iload_n 2, 1) := by decide +kernel
theorem dX7_whyNot_95 : decode cX7_whyNot 95 = .ok (.aload_n 0, 1) := by decide +kernel
theorem dX7_whyNot_96 : decode cX7_whyNot 96 = .ok (.getfield 47, 3) := by decide +kernel
theorem dX7_whyNot_99 : decode cX7_whyNot 99 = .ok (.getfield 59, 3) := by decide +kernel
theorem dX7_whyNot_102 : decode cX7_whyNot 102 = .ok (.if_icmp .lt 7, 3) := by decide +kernel
theorem dX7_whyNot_105 : decode cX7_whyNot 105 = .ok (.iconst 1, 1) := by decide +kernel
theorem dX7_whyNot_106 : decode cX7_whyNot 106 = .ok (.goto 19, 3) := by decide +kernel
theorem dX7_whyNot_109 : decode cX7_whyNot 109 = .ok (.aload_n 0, 1) := by decide +kernel
theorem dX7_whyNot_110 : decode cX7_whyNot 110 = .ok (.getfield 22, 3) := by decide +kernel
theorem dX7_whyNot_113 : decode cX7_whyNot 113 = .ok (.iload_n 2, 1) := by decide +kernel
theorem dX7_whyNot_114 : decode cX7_whyNot 114 = .ok (.invokestatic 55, 3) := by decide +kernel
theorem dX7_whyNot_117 : decode cX7_whyNot 117 = .ok (.ifCond .eq 7, 3) := by decide +kernel
theorem dX7_whyNot_120 : decode cX7_whyNot 120 = .ok (.iconst 2, 1) := by decide +kernel
theorem dX7_whyNot_121 : decode cX7_whyNot 121 = .ok (.goto 4, 3) := by decide +kernel
theorem dX7_whyNot_124 : decode cX7_whyNot 124 = .ok (.iconst 0, 1) := by decide +kernel
theorem dX7_whyNot_125 : decode cX7_whyNot 125 = .ok (.ireturn, 1) := by decide +kernel
theorem dX7_whyNot_126 : decode cX7_whyNot 126 = .ok (.iload_n 2, 1) := by decide +kernel
theorem dX7_whyNot_127 : decode cX7_whyNot 127 = .ok (.aload_n 0, 1) := by decide +kernel
theorem dX7_whyNot_128 : decode cX7_whyNot 128 = .ok (.getfield 47, 3) := by decide +kernel
theorem dX7_whyNot_131 : decode cX7_whyNot 131 = .ok (.getfield 59, 3) := by decide +kernel
theorem dX7_whyNot_134 : decode cX7_whyNot 134 = .ok (.if_icmp .lt 7, 3) := by decide +kernel
theorem dX7_whyNot_137 : decode cX7_whyNot 137 = .ok (.iconst 1, 1) := by decide +kernel
theorem dX7_whyNot_138 : decode cX7_whyNot 138 = .ok (.goto 19, 3) := by decide +kernel
theorem dX7_whyNot_141 : decode cX7_whyNot 141 = .ok (.aload_n 0, 1) := by decide +kernel
theorem dX7_whyNot_142 : decode cX7_whyNot 142 = .ok (.getfield 22, 3) := by decide +kernel
theorem dX7_whyNot_145 : decode cX7_whyNot 145 = .ok (.iload_n 2, 1) := by decide +kernel
theorem dX7_whyNot_146 : decode cX7_whyNot 146 = .ok (.invokestatic 55, 3) := by decide +kernel
theorem dX7_whyNot_149 : decode cX7_whyNot 149 = .ok (.ifCond .eq 7, 3) := by decide +kernel
theorem dX7_whyNot_152 : decode cX7_whyNot 152 = .ok (.iconst 0, 1) := by decide +kernel
theorem dX7_whyNot_153 : decode cX7_whyNot 153 = .ok (.goto 4, 3) := by decide +kernel
theorem dX7_whyNot_156 : decode cX7_whyNot 156 = .ok (.iconst 2, 1) := by decide +kernel
theorem dX7_whyNot_157 : decode cX7_whyNot 157 = .ok (.ireturn, 1) := by decide +kernel
theorem dX7_whyNot_158 : decode cX7_whyNot 158 = .ok (.iload_n 2, 1) := by decide +kernel
theorem dX7_whyNot_159 : decode cX7_whyNot 159 = .ok (.iload_n 3, 1) := by decide +kernel
theorem dX7_whyNot_160 : decode cX7_whyNot 160 = .ok (.if_icmp .ne 7, 3) := by decide +kernel
theorem dX7_whyNot_163 : decode cX7_whyNot 163 = .ok (.iconst 1, 1) := by decide +kernel
theorem dX7_whyNot_164 : decode cX7_whyNot 164 = .ok (.goto 19, 3) := by decide +kernel
theorem dX7_whyNot_167 : decode cX7_whyNot 167 = .ok (.aload_n 0, 1) := by decide +kernel
theorem dX7_whyNot_168 : decode cX7_whyNot 168 = .ok (.getfield 15, 3) := by decide +kernel
theorem dX7_whyNot_171 : decode cX7_whyNot 171 = .ok (.iload_n 2, 1) := by decide +kernel
theorem dX7_whyNot_172 : decode cX7_whyNot 172 = .ok (.iaload, 1) := by decide +kernel
theorem dX7_whyNot_173 : decode cX7_whyNot 173 = .ok (.iload 4, 2) := by decide +kernel
theorem dX7_whyNot_175 : decode cX7_whyNot 175 = .ok (.if_icmp .ge 7, 3) := by decide +kernel
theorem dX7_whyNot_178 : decode cX7_whyNot 178 = .ok (.iconst 2, 1) := by decide +kernel
theorem dX7_whyNot_179 : decode cX7_whyNot 179 = .ok (.goto 4, 3) := by decide +kernel
theorem dX7_whyNot_182 : decode cX7_whyNot 182 = .ok (.iconst 0, 1) := by decide +kernel
theorem dX7_whyNot_183 : decode cX7_whyNot 183 = .ok (.ireturn, 1) := by decide +kernel
theorem dX7_whyNot_184 : decode cX7_whyNot 184 = .ok (.sipush 400, 3) := by decide +kernel
theorem dX7_whyNot_187 : decode cX7_whyNot 187 = .ok (.aload_n 0, 1) := by decide +kernel
theorem dX7_whyNot_188 : decode cX7_whyNot 188 = .ok (.getfield 26, 3) := by decide +kernel
theorem dX7_whyNot_191 : decode cX7_whyNot 191 = .ok (.isub, 1) := by decide +kernel
theorem dX7_whyNot_192 : decode cX7_whyNot 192 = .ok (.iload 4, 2) := by decide +kernel
theorem dX7_whyNot_194 : decode cX7_whyNot 194 = .ok (.if_icmp .ge 7, 3) := by decide +kernel
theorem dX7_whyNot_197 : decode cX7_whyNot 197 = .ok (.iconst 1, 1) := by decide +kernel
theorem dX7_whyNot_198 : decode cX7_whyNot 198 = .ok (.goto 4, 3) := by decide +kernel
theorem dX7_whyNot_201 : decode cX7_whyNot 201 = .ok (.iconst 0, 1) := by decide +kernel
theorem dX7_whyNot_202 : decode cX7_whyNot 202 = .ok (.ireturn, 1) := by decide +kernel
theorem dX7_perform_0 : decode cX7_perform 0 = .ok (.iload_n 1, 1) := by decide +kernel
theorem dX7_perform_1 : decode cX7_perform 1 = .ok (.tableswitch 113 0 5 #[39, 48, 63, 80, 80, 88], 39) := by decide +kernel
theorem dX7_perform_40 : decode cX7_perform 40 = .ok (.aload_n 0, 1) := by decide +kernel
theorem dX7_perform_41 : decode cX7_perform 41 = .ok (.iload_n 2, 1) := by decide +kernel
theorem dX7_perform_42 : decode cX7_perform 42 = .ok (.iload_n 3, 1) := by decide +kernel
theorem dX7_perform_43 : decode cX7_perform 43 = .ok (.invokevirtual 64, 3) := by decide +kernel
theorem dX7_perform_46 : decode cX7_perform 46 = .ok (.goto 88, 3) := by decide +kernel
theorem dX7_perform_49 : decode cX7_perform 49 = .ok (.aload_n 0, 1) := by decide +kernel
theorem dX7_perform_50 : decode cX7_perform 50 = .ok (.getfield 19, 3) := by decide +kernel
theorem dX7_perform_53 : decode cX7_perform 53 = .ok (.iload_n 2, 1) := by decide +kernel
theorem dX7_perform_54 : decode cX7_perform 54 = .ok (.dup2, 1) := by decide +kernel
theorem dX7_perform_55 : decode cX7_perform 55 = .ok (.iaload, 1) := by decide +kernel
theorem dX7_perform_56 : decode cX7_perform 56 = .ok (.iconst 1, 1) := by decide +kernel
theorem dX7_perform_57 : decode cX7_perform 57 = .ok (.iload_n 3, 1) := by decide +kernel
theorem dX7_perform_58 : decode cX7_perform 58 = .ok (.ishl, 1) := by decide +kernel
theorem dX7_perform_59 : decode cX7_perform 59 = .ok (.ior, 1) := by decide +kernel
theorem dX7_perform_60 : decode cX7_perform 60 = .ok (.iastore, 1) := by decide +kernel
theorem dX7_perform_61 : decode cX7_perform 61 = .ok (.goto 73, 3) := by decide +kernel
theorem dX7_perform_64 : decode cX7_perform 64 = .ok (.aload_n 0, 1) := by decide +kernel
theorem dX7_perform_65 : decode cX7_perform 65 = .ok (.getfield 19, 3) := by decide +kernel
theorem dX7_perform_68 : decode cX7_perform 68 = .ok (.iload_n 2, 1) := by decide +kernel
theorem dX7_perform_69 : decode cX7_perform 69 = .ok (.dup2, 1) := by decide +kernel
theorem dX7_perform_70 : decode cX7_perform 70 = .ok (.iaload, 1) := by decide +kernel
theorem dX7_perform_71 : decode cX7_perform 71 = .ok (.iconst 1, 1) := by decide +kernel
theorem dX7_perform_72 : decode cX7_perform 72 = .ok (.iload_n 3, 1) := by decide +kernel
theorem dX7_perform_73 : decode cX7_perform 73 = .ok (.ishl, 1) := by decide +kernel
theorem dX7_perform_74 : decode cX7_perform 74 = .ok (.iconst (-1), 1) := by decide +kernel
theorem dX7_perform_75 : decode cX7_perform 75 = .ok (.ixor, 1) := by decide +kernel
theorem dX7_perform_76 : decode cX7_perform 76 = .ok (.iand, 1) := by decide +kernel
theorem dX7_perform_77 : decode cX7_perform 77 = .ok (.iastore, 1) := by decide +kernel
theorem dX7_perform_78 : decode cX7_perform 78 = .ok (.goto 56, 3) := by decide +kernel
theorem dX7_perform_81 : decode cX7_perform 81 = .ok (.aload_n 0, 1) := by decide +kernel
theorem dX7_perform_82 : decode cX7_perform 82 = .ok (.iload_n 2, 1) := by decide +kernel
theorem dX7_perform_83 : decode cX7_perform 83 = .ok (.invokevirtual 68, 3) := by decide +kernel
theorem dX7_perform_86 : decode cX7_perform 86 = .ok (.goto 48, 3) := by decide +kernel
theorem dX7_perform_89 : decode cX7_perform 89 = .ok (.aload_n 0, 1) := by decide +kernel
theorem dX7_perform_90 : decode cX7_perform 90 = .ok (.getfield 15, 3) := by decide +kernel
theorem dX7_perform_93 : decode cX7_perform 93 = .ok (.iload_n 2, 1) := by decide +kernel
theorem dX7_perform_94 : decode cX7_perform 94 = .ok (.dup2, 1) := by decide +kernel
theorem dX7_perform_95 : decode cX7_perform 95 = .ok (.iaload, 1) := by decide +kernel
theorem dX7_perform_96 : decode cX7_perform 96 = .ok (.iload 4, 2) := by decide +kernel
theorem dX7_perform_98 : decode cX7_perform 98 = .ok (.isub, 1) := by decide +kernel
theorem dX7_perform_99 : decode cX7_perform 99 = .ok (.iastore, 1) := by decide +kernel
theorem dX7_perform_100 : decode cX7_perform 100 = .ok (.aload_n 0, 1) := by decide +kernel
theorem dX7_perform_101 : decode cX7_perform 101 = .ok (.getfield 15, 3) := by decide +kernel
theorem dX7_perform_104 : decode cX7_perform 104 = .ok (.iload_n 3, 1) := by decide +kernel
theorem dX7_perform_105 : decode cX7_perform 105 = .ok (.dup2, 1) := by decide +kernel
theorem dX7_perform_106 : decode cX7_perform 106 = .ok (.iaload, 1) := by decide +kernel
theorem dX7_perform_107 : decode cX7_perform 107 = .ok (.iload 4, 2) := by decide +kernel
theorem dX7_perform_109 : decode cX7_perform 109 = .ok (.iadd, 1) := by decide +kernel
theorem dX7_perform_110 : decode cX7_perform 110 = .ok (.iastore, 1) := by decide +kernel
theorem dX7_perform_111 : decode cX7_perform 111 = .ok (.goto 23, 3) := by decide +kernel
theorem dX7_perform_114 : decode cX7_perform 114 = .ok (.iconst 0, 1) := by decide +kernel
theorem dX7_perform_115 : decode cX7_perform 115 = .ok (.istore 5, 2) := by decide +kernel
theorem dX7_perform_117 : decode cX7_perform 117 = .ok (.iload 5, 2) := by decide +kernel
theorem dX7_perform_119 : decode cX7_perform 119 = .ok (.iload 4, 2) := by decide +kernel
theorem dX7_perform_121 : decode cX7_perform 121 = .ok (.if_icmp .ge 13, 3) := by decide +kernel
theorem dX7_perform_124 : decode cX7_perform 124 = .ok (.aload_n 0, 1) := by decide +kernel
theorem dX7_perform_125 : decode cX7_perform 125 = .ok (.invokevirtual 72, 3) := by decide +kernel
theorem dX7_perform_128 : decode cX7_perform 128 = .ok (.iinc 5 1, 3) := by decide +kernel
theorem dX7_perform_131 : decode cX7_perform 131 = .ok (.goto (-14), 3) := by decide +kernel
theorem dX7_perform_134 : decode cX7_perform 134 = .ok (.return_, 1) := by decide +kernel
theorem dX7_turnRoad_0 : decode cX7_turnRoad 0 = .ok (.aload_n 0, 1) := by decide +kernel
theorem dX7_turnRoad_1 : decode cX7_turnRoad 1 = .ok (.dup, 1) := by decide +kernel
theorem dX7_turnRoad_2 : decode cX7_turnRoad 2 = .ok (.getfield 22, 3) := by decide +kernel
theorem dX7_turnRoad_5 : decode cX7_turnRoad 5 = .ok (.iconst 1, 1) := by decide +kernel
theorem dX7_turnRoad_6 : decode cX7_turnRoad 6 = .ok (.iload_n 1, 1) := by decide +kernel
theorem dX7_turnRoad_7 : decode cX7_turnRoad 7 = .ok (.ishl, 1) := by decide +kernel
theorem dX7_turnRoad_8 : decode cX7_turnRoad 8 = .ok (.ixor, 1) := by decide +kernel
theorem dX7_turnRoad_9 : decode cX7_turnRoad 9 = .ok (.putfield 22, 3) := by decide +kernel
theorem dX7_turnRoad_12 : decode cX7_turnRoad 12 = .ok (.return_, 1) := by decide +kernel
theorem dX7_whyNotOver_0 : decode cX7_whyNotOver 0 = .ok (.aload_n 0, 1) := by decide +kernel
theorem dX7_whyNotOver_1 : decode cX7_whyNotOver 1 = .ok (.getfield 47, 3) := by decide +kernel
theorem dX7_whyNotOver_4 : decode cX7_whyNotOver 4 = .ok (.getfield 75, 3) := by decide +kernel
theorem dX7_whyNotOver_7 : decode cX7_whyNotOver 7 = .ok (.iload_n 1, 1) := by decide +kernel
theorem dX7_whyNotOver_8 : decode cX7_whyNotOver 8 = .ok (.iaload, 1) := by decide +kernel
theorem dX7_whyNotOver_9 : decode cX7_whyNotOver 9 = .ok (.istore_n 3, 1) := by decide +kernel
theorem dX7_whyNotOver_10 : decode cX7_whyNotOver 10 = .ok (.aload_n 0, 1) := by decide +kernel
theorem dX7_whyNotOver_11 : decode cX7_whyNotOver 11 = .ok (.getfield 47, 3) := by decide +kernel
theorem dX7_whyNotOver_14 : decode cX7_whyNotOver 14 = .ok (.iload_n 2, 1) := by decide +kernel
theorem dX7_whyNotOver_15 : decode cX7_whyNotOver 15 = .ok (.iload_n 3, 1) := by decide +kernel
theorem dX7_whyNotOver_16 : decode cX7_whyNotOver 16 = .ok (.aload_n 0, 1) := by decide +kernel
theorem dX7_whyNotOver_17 : decode cX7_whyNotOver 17 = .ok (.getfield 19, 3) := by decide +kernel
theorem dX7_whyNotOver_20 : decode cX7_whyNotOver 20 = .ok (.iload_n 3, 1) := by decide +kernel
theorem dX7_whyNotOver_21 : decode cX7_whyNotOver 21 = .ok (.iaload, 1) := by decide +kernel
theorem dX7_whyNotOver_22 : decode cX7_whyNotOver 22 = .ok (.invokevirtual 78, 3) := by decide +kernel
theorem dX7_whyNotOver_25 : decode cX7_whyNotOver 25 = .ok (.istore 4, 2) := by decide +kernel
theorem dX7_whyNotOver_27 : decode cX7_whyNotOver 27 = .ok (.aload_n 0, 1) := by decide +kernel
theorem dX7_whyNotOver_28 : decode cX7_whyNotOver 28 = .ok (.getfield 47, 3) := by decide +kernel
theorem dX7_whyNotOver_31 : decode cX7_whyNotOver 31 = .ok (.aload_n 0, 1) := by decide +kernel
theorem dX7_whyNotOver_32 : decode cX7_whyNotOver 32 = .ok (.getfield 29, 3) := by decide +kernel
theorem dX7_whyNotOver_35 : decode cX7_whyNotOver 35 = .ok (.iload_n 1, 1) := by decide +kernel
theorem dX7_whyNotOver_36 : decode cX7_whyNotOver 36 = .ok (.iaload, 1) := by decide +kernel
theorem dX7_whyNotOver_37 : decode cX7_whyNotOver 37 = .ok (.iload_n 2, 1) := by decide +kernel
theorem dX7_whyNotOver_38 : decode cX7_whyNotOver 38 = .ok (.aload_n 0, 1) := by decide +kernel
theorem dX7_whyNotOver_39 : decode cX7_whyNotOver 39 = .ok (.getfield 32, 3) := by decide +kernel
theorem dX7_whyNotOver_42 : decode cX7_whyNotOver 42 = .ok (.iload_n 1, 1) := by decide +kernel
theorem dX7_whyNotOver_43 : decode cX7_whyNotOver 43 = .ok (.iaload, 1) := by decide +kernel
theorem dX7_whyNotOver_44 : decode cX7_whyNotOver 44 = .ok (.iload 4, 2) := by decide +kernel
theorem dX7_whyNotOver_46 : decode cX7_whyNotOver 46 = .ok (.aload_n 0, 1) := by decide +kernel
theorem dX7_whyNotOver_47 : decode cX7_whyNotOver 47 = .ok (.getfield 22, 3) := by decide +kernel
theorem dX7_whyNotOver_50 : decode cX7_whyNotOver 50 = .ok (.invokevirtual 82, 3) := by decide +kernel
theorem dX7_whyNotOver_53 : decode cX7_whyNotOver 53 = .ok (.ireturn, 1) := by decide +kernel
theorem dX7_goOver_0 : decode cX7_goOver 0 = .ok (.aload_n 0, 1) := by decide +kernel
theorem dX7_goOver_1 : decode cX7_goOver 1 = .ok (.getfield 47, 3) := by decide +kernel
theorem dX7_goOver_4 : decode cX7_goOver 4 = .ok (.getfield 75, 3) := by decide +kernel
theorem dX7_goOver_7 : decode cX7_goOver 7 = .ok (.iload_n 1, 1) := by decide +kernel
theorem dX7_goOver_8 : decode cX7_goOver 8 = .ok (.iaload, 1) := by decide +kernel
theorem dX7_goOver_9 : decode cX7_goOver 9 = .ok (.istore_n 3, 1) := by decide +kernel
theorem dX7_goOver_10 : decode cX7_goOver 10 = .ok (.aload_n 0, 1) := by decide +kernel
theorem dX7_goOver_11 : decode cX7_goOver 11 = .ok (.getfield 47, 3) := by decide +kernel
theorem dX7_goOver_14 : decode cX7_goOver 14 = .ok (.iload_n 2, 1) := by decide +kernel
theorem dX7_goOver_15 : decode cX7_goOver 15 = .ok (.iload_n 3, 1) := by decide +kernel
theorem dX7_goOver_16 : decode cX7_goOver 16 = .ok (.aload_n 0, 1) := by decide +kernel
theorem dX7_goOver_17 : decode cX7_goOver 17 = .ok (.getfield 19, 3) := by decide +kernel
theorem dX7_goOver_20 : decode cX7_goOver 20 = .ok (.iload_n 3, 1) := by decide +kernel
theorem dX7_goOver_21 : decode cX7_goOver 21 = .ok (.iaload, 1) := by decide +kernel
theorem dX7_goOver_22 : decode cX7_goOver 22 = .ok (.invokevirtual 78, 3) := by decide +kernel
theorem dX7_goOver_25 : decode cX7_goOver 25 = .ok (.istore 4, 2) := by decide +kernel
theorem dX7_goOver_27 : decode cX7_goOver 27 = .ok (.aload_n 0, 1) := by decide +kernel
theorem dX7_goOver_28 : decode cX7_goOver 28 = .ok (.getfield 47, 3) := by decide +kernel
theorem dX7_goOver_31 : decode cX7_goOver 31 = .ok (.iload_n 2, 1) := by decide +kernel
theorem dX7_goOver_32 : decode cX7_goOver 32 = .ok (.iload_n 3, 1) := by decide +kernel
theorem dX7_goOver_33 : decode cX7_goOver 33 = .ok (.aload_n 0, 1) := by decide +kernel
theorem dX7_goOver_34 : decode cX7_goOver 34 = .ok (.getfield 15, 3) := by decide +kernel
theorem dX7_goOver_37 : decode cX7_goOver 37 = .ok (.iload_n 2, 1) := by decide +kernel
theorem dX7_goOver_38 : decode cX7_goOver 38 = .ok (.iaload, 1) := by decide +kernel
theorem dX7_goOver_39 : decode cX7_goOver 39 = .ok (.aload_n 0, 1) := by decide +kernel
theorem dX7_goOver_40 : decode cX7_goOver 40 = .ok (.getfield 32, 3) := by decide +kernel
theorem dX7_goOver_43 : decode cX7_goOver 43 = .ok (.iload_n 1, 1) := by decide +kernel
theorem dX7_goOver_44 : decode cX7_goOver 44 = .ok (.iaload, 1) := by decide +kernel
theorem dX7_goOver_45 : decode cX7_goOver 45 = .ok (.invokevirtual 85, 3) := by decide +kernel
theorem dX7_goOver_48 : decode cX7_goOver 48 = .ok (.istore 5, 2) := by decide +kernel
theorem dX7_goOver_50 : decode cX7_goOver 50 = .ok (.aload_n 0, 1) := by decide +kernel
theorem dX7_goOver_51 : decode cX7_goOver 51 = .ok (.getfield 15, 3) := by decide +kernel
theorem dX7_goOver_54 : decode cX7_goOver 54 = .ok (.iload_n 2, 1) := by decide +kernel
theorem dX7_goOver_55 : decode cX7_goOver 55 = .ok (.dup2, 1) := by decide +kernel
theorem dX7_goOver_56 : decode cX7_goOver 56 = .ok (.iaload, 1) := by decide +kernel
theorem dX7_goOver_57 : decode cX7_goOver 57 = .ok (.iload 4, 2) := by decide +kernel
theorem dX7_goOver_59 : decode cX7_goOver 59 = .ok (.iload 5, 2) := by decide +kernel
theorem dX7_goOver_61 : decode cX7_goOver 61 = .ok (.isub, 1) := by decide +kernel
theorem dX7_goOver_62 : decode cX7_goOver 62 = .ok (.iadd, 1) := by decide +kernel
theorem dX7_goOver_63 : decode cX7_goOver 63 = .ok (.iastore, 1) := by decide +kernel
theorem dX7_goOver_64 : decode cX7_goOver 64 = .ok (.aload_n 0, 1) := by decide +kernel
theorem dX7_goOver_65 : decode cX7_goOver 65 = .ok (.getfield 32, 3) := by decide +kernel
theorem dX7_goOver_68 : decode cX7_goOver 68 = .ok (.iload_n 1, 1) := by decide +kernel
theorem dX7_goOver_69 : decode cX7_goOver 69 = .ok (.dup2, 1) := by decide +kernel
theorem dX7_goOver_70 : decode cX7_goOver 70 = .ok (.iaload, 1) := by decide +kernel
theorem dX7_goOver_71 : decode cX7_goOver 71 = .ok (.iload 5, 2) := by decide +kernel
theorem dX7_goOver_73 : decode cX7_goOver 73 = .ok (.iload 4, 2) := by decide +kernel
theorem dX7_goOver_75 : decode cX7_goOver 75 = .ok (.isub, 1) := by decide +kernel
theorem dX7_goOver_76 : decode cX7_goOver 76 = .ok (.iadd, 1) := by decide +kernel
theorem dX7_goOver_77 : decode cX7_goOver 77 = .ok (.iastore, 1) := by decide +kernel
theorem dX7_goOver_78 : decode cX7_goOver 78 = .ok (.aload_n 0, 1) := by decide +kernel
theorem dX7_goOver_79 : decode cX7_goOver 79 = .ok (.getfield 35, 3) := by decide +kernel
theorem dX7_goOver_82 : decode cX7_goOver 82 = .ok (.iload_n 1, 1) := by decide +kernel
theorem dX7_goOver_83 : decode cX7_goOver 83 = .ok (.dup2, 1) := by decide +kernel
theorem dX7_goOver_84 : decode cX7_goOver 84 = .ok (.iaload, 1) := by decide +kernel
theorem dX7_goOver_85 : decode cX7_goOver 85 = .ok (.iload 4, 2) := by decide +kernel
theorem dX7_goOver_87 : decode cX7_goOver 87 = .ok (.iadd, 1) := by decide +kernel
theorem dX7_goOver_88 : decode cX7_goOver 88 = .ok (.iastore, 1) := by decide +kernel
theorem dX7_goOver_89 : decode cX7_goOver 89 = .ok (.aload_n 0, 1) := by decide +kernel
theorem dX7_goOver_90 : decode cX7_goOver 90 = .ok (.getfield 38, 3) := by decide +kernel
theorem dX7_goOver_93 : decode cX7_goOver 93 = .ok (.iload_n 1, 1) := by decide +kernel
theorem dX7_goOver_94 : decode cX7_goOver 94 = .ok (.dup2, 1) := by decide +kernel
theorem dX7_goOver_95 : decode cX7_goOver 95 = .ok (.iaload, 1) := by decide +kernel
theorem dX7_goOver_96 : decode cX7_goOver 96 = .ok (.iload 5, 2) := by decide +kernel
theorem dX7_goOver_98 : decode cX7_goOver 98 = .ok (.iadd, 1) := by decide +kernel
theorem dX7_goOver_99 : decode cX7_goOver 99 = .ok (.iastore, 1) := by decide +kernel
theorem dX7_goOver_100 : decode cX7_goOver 100 = .ok (.aload_n 0, 1) := by decide +kernel
theorem dX7_goOver_101 : decode cX7_goOver 101 = .ok (.getfield 41, 3) := by decide +kernel
theorem dX7_goOver_104 : decode cX7_goOver 104 = .ok (.iload_n 1, 1) := by decide +kernel
theorem dX7_goOver_105 : decode cX7_goOver 105 = .ok (.dup2, 1) := by decide +kernel
theorem dX7_goOver_106 : decode cX7_goOver 106 = .ok (.iaload, 1) := by decide +kernel
theorem dX7_goOver_107 : decode cX7_goOver 107 = .ok (.iconst 1, 1) := by decide +kernel
theorem dX7_goOver_108 : decode cX7_goOver 108 = .ok (.iadd, 1) := by decide +kernel
theorem dX7_goOver_109 : decode cX7_goOver 109 = .ok (.iastore, 1) := by decide +kernel
theorem dX7_goOver_110 : decode cX7_goOver 110 = .ok (.aload_n 0, 1) := by decide +kernel
theorem dX7_goOver_111 : decode cX7_goOver 111 = .ok (.getfield 29, 3) := by decide +kernel
theorem dX7_goOver_114 : decode cX7_goOver 114 = .ok (.iload_n 1, 1) := by decide +kernel
theorem dX7_goOver_115 : decode cX7_goOver 115 = .ok (.iload_n 2, 1) := by decide +kernel
theorem dX7_goOver_116 : decode cX7_goOver 116 = .ok (.iastore, 1) := by decide +kernel
theorem dX7_goOver_117 : decode cX7_goOver 117 = .ok (.return_, 1) := by decide +kernel
theorem dX7_whither_0 : decode cX7_whither 0 = .ok (.iconst 0, 1) := by decide +kernel
theorem dX7_whither_1 : decode cX7_whither 1 = .ok (.istore_n 2, 1) := by decide +kernel
theorem dX7_whither_2 : decode cX7_whither 2 = .ok (.iconst 0, 1) := by decide +kernel
theorem dX7_whither_3 : decode cX7_whither 3 = .ok (.istore_n 3, 1) := by decide +kernel
theorem dX7_whither_4 : decode cX7_whither 4 = .ok (.iload_n 3, 1) := by decide +kernel
theorem dX7_whither_5 : decode cX7_whither 5 = .ok (.aload_n 0, 1) := by decide +kernel
theorem dX7_whither_6 : decode cX7_whither 6 = .ok (.getfield 47, 3) := by decide +kernel
theorem dX7_whither_9 : decode cX7_whither 9 = .ok (.getfield 89, 3) := by decide +kernel
theorem dX7_whither_12 : decode cX7_whither 12 = .ok (.if_icmp .ge 24, 3) := by decide +kernel
theorem dX7_whither_15 : decode cX7_whither 15 = .ok (.aload_n 0, 1) := by decide +kernel
theorem dX7_whither_16 : decode cX7_whither 16 = .ok (.iload_n 1, 1) := by decide +kernel
theorem dX7_whither_17 : decode cX7_whither 17 = .ok (.iload_n 3, 1) := by decide +kernel
theorem dX7_whither_18 : decode cX7_whither 18 = .ok (.invokevirtual 51, 3) := by decide +kernel
theorem dX7_whither_21 : decode cX7_whither 21 = .ok (.ifCond .ne 9, 3) := by decide +kernel
theorem dX7_whither_24 : decode cX7_whither 24 = .ok (.iload_n 2, 1) := by decide +kernel
theorem dX7_whither_25 : decode cX7_whither 25 = .ok (.iconst 1, 1) := by decide +kernel
theorem dX7_whither_26 : decode cX7_whither 26 = .ok (.iload_n 3, 1) := by decide +kernel
theorem dX7_whither_27 : decode cX7_whither 27 = .ok (.ishl, 1) := by decide +kernel
theorem dX7_whither_28 : decode cX7_whither 28 = .ok (.ior, 1) := by decide +kernel
theorem dX7_whither_29 : decode cX7_whither 29 = .ok (.istore_n 2, 1) := by decide +kernel
theorem dX7_whither_30 : decode cX7_whither 30 = .ok (.iinc 3 1, 3) := by decide +kernel
theorem dX7_whither_33 : decode cX7_whither 33 = .ok (.goto (-29), 3) := by decide +kernel
theorem dX7_whither_36 : decode cX7_whither 36 = .ok (.iload_n 2, 1) := by decide +kernel
theorem dX7_whither_37 : decode cX7_whither 37 = .ok (.ireturn, 1) := by decide +kernel
theorem dX7_isHome_0 : decode cX7_isHome 0 = .ok (.aload_n 0, 1) := by decide +kernel
theorem dX7_isHome_1 : decode cX7_isHome 1 = .ok (.getfield 29, 3) := by decide +kernel
theorem dX7_isHome_4 : decode cX7_isHome 4 = .ok (.iload_n 1, 1) := by decide +kernel
theorem dX7_isHome_5 : decode cX7_isHome 5 = .ok (.iaload, 1) := by decide +kernel
theorem dX7_isHome_6 : decode cX7_isHome 6 = .ok (.aload_n 0, 1) := by decide +kernel
theorem dX7_isHome_7 : decode cX7_isHome 7 = .ok (.getfield 47, 3) := by decide +kernel
theorem dX7_isHome_10 : decode cX7_isHome 10 = .ok (.getfield 75, 3) := by decide +kernel
theorem dX7_isHome_13 : decode cX7_isHome 13 = .ok (.iload_n 1, 1) := by decide +kernel
theorem dX7_isHome_14 : decode cX7_isHome 14 = .ok (.iaload, 1) := by decide +kernel
theorem dX7_isHome_15 : decode cX7_isHome 15 = .ok (.if_icmp .ne 7, 3) := by decide +kernel
theorem dX7_isHome_18 : decode cX7_isHome 18 = .ok (.iconst 1, 1) := by decide +kernel
theorem dX7_isHome_19 : decode cX7_isHome 19 = .ok (.goto 4, 3) := by decide +kernel
theorem dX7_isHome_22 : decode cX7_isHome 22 = .ok (.iconst 0, 1) := by decide +kernel
theorem dX7_isHome_23 : decode cX7_isHome 23 = .ok (.ireturn, 1) := by decide +kernel
theorem dX7_grows_0 : decode cX7_grows 0 = .ok (.aload_n 0, 1) := by decide +kernel
theorem dX7_grows_1 : decode cX7_grows 1 = .ok (.iload_n 1, 1) := by decide +kernel
theorem dX7_grows_2 : decode cX7_grows 2 = .ok (.invokevirtual 92, 3) := by decide +kernel
theorem dX7_grows_5 : decode cX7_grows 5 = .ok (.ifCond .eq 33, 3) := by decide +kernel
theorem dX7_grows_8 : decode cX7_grows 8 = .ok (.aload_n 0, 1) := by decide +kernel
theorem dX7_grows_9 : decode cX7_grows 9 = .ok (.getfield 32, 3) := by decide +kernel
theorem dX7_grows_12 : decode cX7_grows 12 = .ok (.iload_n 1, 1) := by decide +kernel
theorem dX7_grows_13 : decode cX7_grows 13 = .ok (.iaload, 1) := by decide +kernel
theorem dX7_grows_14 : decode cX7_grows 14 = .ok (.sipush 240, 3) := by decide +kernel
theorem dX7_grows_17 : decode cX7_grows 17 = .ok (.if_icmp .ge 21, 3) := by decide +kernel
theorem dX7_grows_20 : decode cX7_grows 20 = .ok (.aload_n 0, 1) := by decide +kernel
theorem dX7_grows_21 : decode cX7_grows 21 = .ok (.getfield 15, 3) := by decide +kernel
theorem dX7_grows_24 : decode cX7_grows 24 = .ok (.aload_n 0, 1) := by decide +kernel
theorem dX7_grows_25 : decode cX7_grows 25 = .ok (.getfield 29, 3) := by decide +kernel
theorem dX7_grows_28 : decode cX7_grows 28 = .ok (.iload_n 1, 1) := by decide +kernel
theorem dX7_grows_29 : decode cX7_grows 29 = .ok (.iaload, 1) := by decide +kernel
theorem dX7_grows_30 : decode cX7_grows 30 = .ok (.iaload, 1) := by decide +kernel
theorem dX7_grows_31 : decode cX7_grows 31 = .ok (.ifCond .le 7, 3) := by decide +kernel
theorem dX7_grows_34 : decode cX7_grows 34 = .ok (.iconst 1, 1) := by decide +kernel
theorem dX7_grows_35 : decode cX7_grows 35 = .ok (.goto 4, 3) := by decide +kernel
theorem dX7_grows_38 : decode cX7_grows 38 = .ok (.iconst 0, 1) := by decide +kernel
theorem dX7_grows_39 : decode cX7_grows 39 = .ok (.ireturn, 1) := by decide +kernel
theorem dX7_somebodyGrows_0 : decode cX7_somebodyGrows 0 = .ok (.iconst 0, 1) := by decide +kernel
theorem dX7_somebodyGrows_1 : decode cX7_somebodyGrows 1 = .ok (.istore_n 1, 1) := by decide +kernel
theorem dX7_somebodyGrows_2 : decode cX7_somebodyGrows 2 = .ok (.iload_n 1, 1) := by decide +kernel
theorem dX7_somebodyGrows_3 : decode cX7_somebodyGrows 3 = .ok (.aload_n 0, 1) := by decide +kernel
theorem dX7_somebodyGrows_4 : decode cX7_somebodyGrows 4 = .ok (.getfield 47, 3) := by decide +kernel
theorem dX7_somebodyGrows_7 : decode cX7_somebodyGrows 7 = .ok (.getfield 96, 3) := by decide +kernel
theorem dX7_somebodyGrows_10 : decode cX7_somebodyGrows 10 = .ok (.if_icmp .ge 19, 3) := by decide +kernel
theorem dX7_somebodyGrows_13 : decode cX7_somebodyGrows 13 = .ok (.aload_n 0, 1) := by decide +kernel
theorem dX7_somebodyGrows_14 : decode cX7_somebodyGrows 14 = .ok (.iload_n 1, 1) := by decide +kernel
theorem dX7_somebodyGrows_15 : decode cX7_somebodyGrows 15 = .ok (.invokevirtual 99, 3) := by decide +kernel
theorem dX7_somebodyGrows_18 : decode cX7_somebodyGrows 18 = .ok (.ifCond .eq 5, 3) := by decide +kernel
theorem dX7_somebodyGrows_21 : decode cX7_somebodyGrows 21 = .ok (.iconst 1, 1) := by decide +kernel
theorem dX7_somebodyGrows_22 : decode cX7_somebodyGrows 22 = .ok (.ireturn, 1) := by decide +kernel
theorem dX7_somebodyGrows_23 : decode cX7_somebodyGrows 23 = .ok (.iinc 1 1, 3) := by decide +kernel
theorem dX7_somebodyGrows_26 : decode cX7_somebodyGrows 26 = .ok (.goto (-24), 3) := by decide +kernel
theorem dX7_somebodyGrows_29 : decode cX7_somebodyGrows 29 = .ok (.iconst 0, 1) := by decide +kernel
theorem dX7_somebodyGrows_30 : decode cX7_somebodyGrows 30 = .ok (.ireturn, 1) := by decide +kernel
theorem dX7_goDay_0 : decode cX7_goDay 0 = .ok (.iconst 0, 1) := by decide +kernel
theorem dX7_goDay_1 : decode cX7_goDay 1 = .ok (.istore_n 1, 1) := by decide +kernel
theorem dX7_goDay_2 : decode cX7_goDay 2 = .ok (.iload_n 1, 1) := by decide +kernel
theorem dX7_goDay_3 : decode cX7_goDay 3 = .ok (.aload_n 0, 1) := by decide +kernel
theorem dX7_goDay_4 : decode cX7_goDay 4 = .ok (.getfield 47, 3) := by decide +kernel
theorem dX7_goDay_7 : decode cX7_goDay 7 = .ok (.getfield 96, 3) := by decide +kernel
theorem dX7_goDay_10 : decode cX7_goDay 10 = .ok (.if_icmp .ge 42, 3) := by decide +kernel
theorem dX7_goDay_13 : decode cX7_goDay 13 = .ok (.aload_n 0, 1) := by decide +kernel
theorem dX7_goDay_14 : decode cX7_goDay 14 = .ok (.iload_n 1, 1) := by decide +kernel
theorem dX7_goDay_15 : decode cX7_goDay 15 = .ok (.invokevirtual 99, 3) := by decide +kernel
theorem dX7_goDay_18 : decode cX7_goDay 18 = .ok (.ifCond .eq 28, 3) := by decide +kernel
theorem dX7_goDay_21 : decode cX7_goDay 21 = .ok (.aload_n 0, 1) := by decide +kernel
theorem dX7_goDay_22 : decode cX7_goDay 22 = .ok (.getfield 15, 3) := by decide +kernel
theorem dX7_goDay_25 : decode cX7_goDay 25 = .ok (.aload_n 0, 1) := by decide +kernel
theorem dX7_goDay_26 : decode cX7_goDay 26 = .ok (.getfield 29, 3) := by decide +kernel
theorem dX7_goDay_29 : decode cX7_goDay 29 = .ok (.iload_n 1, 1) := by decide +kernel
theorem dX7_goDay_30 : decode cX7_goDay 30 = .ok (.iaload, 1) := by decide +kernel
theorem dX7_goDay_31 : decode cX7_goDay 31 = .ok (.dup2, 1) := by decide +kernel
theorem dX7_goDay_32 : decode cX7_goDay 32 = .ok (.iaload, 1) := by decide +kernel
theorem dX7_goDay_33 : decode cX7_goDay 33 = .ok (.iconst 1, 1) := by decide +kernel
theorem dX7_goDay_34 : decode cX7_goDay 34 = .ok (.isub, 1) := by decide +kernel
theorem dX7_goDay_35 : decode cX7_goDay 35 = .ok (.iastore, 1) := by decide +kernel
theorem dX7_goDay_36 : decode cX7_goDay 36 = .ok (.aload_n 0, 1) := by decide +kernel
theorem dX7_goDay_37 : decode cX7_goDay 37 = .ok (.getfield 32, 3) := by decide +kernel
theorem dX7_goDay_40 : decode cX7_goDay 40 = .ok (.iload_n 1, 1) := by decide +kernel
theorem dX7_goDay_41 : decode cX7_goDay 41 = .ok (.dup2, 1) := by decide +kernel
theorem dX7_goDay_42 : decode cX7_goDay 42 = .ok (.iaload, 1) := by decide +kernel
theorem dX7_goDay_43 : decode cX7_goDay 43 = .ok (.iconst 1, 1) := by decide +kernel
theorem dX7_goDay_44 : decode cX7_goDay 44 = .ok (.iadd, 1) := by decide +kernel
theorem dX7_goDay_45 : decode cX7_goDay 45 = .ok (.iastore, 1) := by decide +kernel
theorem dX7_goDay_46 : decode cX7_goDay 46 = .ok (.iinc 1 1, 3) := by decide +kernel
theorem dX7_goDay_49 : decode cX7_goDay 49 = .ok (.goto (-47), 3) := by decide +kernel
theorem dX7_goDay_52 : decode cX7_goDay 52 = .ok (.aload_n 0, 1) := by decide +kernel
theorem dX7_goDay_53 : decode cX7_goDay 53 = .ok (.dup, 1) := by decide +kernel
theorem dX7_goDay_54 : decode cX7_goDay 54 = .ok (.getfield 26, 3) := by decide +kernel
theorem dX7_goDay_57 : decode cX7_goDay 57 = .ok (.iconst 1, 1) := by decide +kernel
theorem dX7_goDay_58 : decode cX7_goDay 58 = .ok (.iadd, 1) := by decide +kernel
theorem dX7_goDay_59 : decode cX7_goDay 59 = .ok (.putfield 26, 3) := by decide +kernel
theorem dX7_goDay_62 : decode cX7_goDay 62 = .ok (.return_, 1) := by decide +kernel
theorem dX7_drawDays_0 : decode cX7_drawDays 0 = .ok (.aload_n 0, 1) := by decide +kernel
theorem dX7_drawDays_1 : decode cX7_drawDays 1 = .ok (.iload_n 2, 1) := by decide +kernel
theorem dX7_drawDays_2 : decode cX7_drawDays 2 = .ok (.putfield 44, 3) := by decide +kernel
theorem dX7_drawDays_5 : decode cX7_drawDays 5 = .ok (.iconst 0, 1) := by decide +kernel
theorem dX7_drawDays_6 : decode cX7_drawDays 6 = .ok (.istore_n 3, 1) := by decide +kernel
theorem dX7_drawDays_7 : decode cX7_drawDays 7 = .ok (.iload_n 3, 1) := by decide +kernel
theorem dX7_drawDays_8 : decode cX7_drawDays 8 = .ok (.iload_n 1, 1) := by decide +kernel
theorem dX7_drawDays_9 : decode cX7_drawDays 9 = .ok (.if_icmp .ge 23, 3) := by decide +kernel
theorem dX7_drawDays_12 : decode cX7_drawDays 12 = .ok (.aload_n 0, 1) := by decide +kernel
theorem dX7_drawDays_13 : decode cX7_drawDays 13 = .ok (.getfield 26, 3) := by decide +kernel
theorem dX7_drawDays_16 : decode cX7_drawDays 16 = .ok (.sipush 400, 3) := by decide +kernel
theorem dX7_drawDays_19 : decode cX7_drawDays 19 = .ok (.if_icmp .ge 13, 3) := by decide +kernel
theorem dX7_drawDays_22 : decode cX7_drawDays 22 = .ok (.aload_n 0, 1) := by decide +kernel
theorem dX7_drawDays_23 : decode cX7_drawDays 23 = .ok (.invokevirtual 102, 3) := by decide +kernel
theorem dX7_drawDays_26 : decode cX7_drawDays 26 = .ok (.iinc 3 1, 3) := by decide +kernel
theorem dX7_drawDays_29 : decode cX7_drawDays 29 = .ok (.goto (-22), 3) := by decide +kernel
theorem dX7_drawDays_32 : decode cX7_drawDays 32 = .ok (.iload_n 3, 1) := by decide +kernel
theorem dX7_drawDays_33 : decode cX7_drawDays 33 = .ok (.ireturn, 1) := by decide +kernel
theorem dX7_drawDay_0 : decode cX7_drawDay 0 = .ok (.aload_n 0, 1) := by decide +kernel
theorem dX7_drawDay_1 : decode cX7_drawDay 1 = .ok (.iconst 4, 1) := by decide +kernel
theorem dX7_drawDay_2 : decode cX7_drawDay 2 = .ok (.invokevirtual 105, 3) := by decide +kernel
theorem dX7_drawDay_5 : decode cX7_drawDay 5 = .ok (.ifCond .ne 28, 3) := by decide +kernel
theorem dX7_drawDay_8 : decode cX7_drawDay 8 = .ok (.aload_n 0, 1) := by decide +kernel
theorem dX7_drawDay_9 : decode cX7_drawDay 9 = .ok (.getfield 47, 3) := by decide +kernel
theorem dX7_drawDay_12 : decode cX7_drawDay 12 = .ok (.getfield 59, 3) := by decide +kernel
theorem dX7_drawDay_15 : decode cX7_drawDay 15 = .ok (.ifCond .le 18, 3) := by decide +kernel
theorem dX7_drawDay_18 : decode cX7_drawDay 18 = .ok (.aload_n 0, 1) := by decide +kernel
theorem dX7_drawDay_19 : decode cX7_drawDay 19 = .ok (.aload_n 0, 1) := by decide +kernel
theorem dX7_drawDay_20 : decode cX7_drawDay 20 = .ok (.aload_n 0, 1) := by decide +kernel
theorem dX7_drawDay_21 : decode cX7_drawDay 21 = .ok (.getfield 47, 3) := by decide +kernel
theorem dX7_drawDay_24 : decode cX7_drawDay 24 = .ok (.getfield 59, 3) := by decide +kernel
theorem dX7_drawDay_27 : decode cX7_drawDay 27 = .ok (.invokevirtual 105, 3) := by decide +kernel
theorem dX7_drawDay_30 : decode cX7_drawDay 30 = .ok (.invokevirtual 68, 3) := by decide +kernel
theorem dX7_drawDay_33 : decode cX7_drawDay 33 = .ok (.iconst 0, 1) := by decide +kernel
theorem dX7_drawDay_34 : decode cX7_drawDay 34 = .ok (.istore_n 1, 1) := by decide +kernel
theorem dX7_drawDay_35 : decode cX7_drawDay 35 = .ok (.iload_n 1, 1) := by decide +kernel
theorem dX7_drawDay_36 : decode cX7_drawDay 36 = .ok (.aload_n 0, 1) := by decide +kernel
theorem dX7_drawDay_37 : decode cX7_drawDay 37 = .ok (.getfield 47, 3) := by decide +kernel
theorem dX7_drawDay_40 : decode cX7_drawDay 40 = .ok (.getfield 96, 3) := by decide +kernel
theorem dX7_drawDay_43 : decode cX7_drawDay 43 = .ok (.if_icmp .ge 36, 3) := by decide +kernel
theorem dX7_drawDay_46 : decode cX7_drawDay 46 = .ok (.aload_n 0, 1) := by decide +kernel
theorem dX7_drawDay_47 : decode cX7_drawDay 47 = .ok (.aload_n 0, 1) := by decide +kernel
theorem dX7_drawDay_48 : decode cX7_drawDay 48 = .ok (.getfield 47, 3) := by decide +kernel
theorem dX7_drawDay_51 : decode cX7_drawDay 51 = .ok (.getfield 89, 3) := by decide +kernel
theorem dX7_drawDay_54 : decode cX7_drawDay 54 = .ok (.invokevirtual 105, 3) := by decide +kernel
theorem dX7_drawDay_57 : decode cX7_drawDay 57 = .ok (.istore_n 2, 1) := by decide +kernel
theorem dX7_drawDay_58 : decode cX7_drawDay 58 = .ok (.aload_n 0, 1) := by decide +kernel
theorem dX7_drawDay_59 : decode cX7_drawDay 59 = .ok (.iload_n 1, 1) := by decide +kernel
theorem dX7_drawDay_60 : decode cX7_drawDay 60 = .ok (.iload_n 2, 1) := by decide +kernel
theorem dX7_drawDay_61 : decode cX7_drawDay 61 = .ok (.invokevirtual 51, 3) := by decide +kernel
theorem dX7_drawDay_64 : decode cX7_drawDay 64 = .ok (.ifCond .ne 9, 3) := by decide +kernel
theorem dX7_drawDay_67 : decode cX7_drawDay 67 = .ok (.aload_n 0, 1) := by decide +kernel
theorem dX7_drawDay_68 : decode cX7_drawDay 68 = .ok (.iload_n 1, 1) := by decide +kernel
theorem dX7_drawDay_69 : decode cX7_drawDay 69 = .ok (.iload_n 2, 1) := by decide +kernel
theorem dX7_drawDay_70 : decode cX7_drawDay 70 = .ok (.invokevirtual 64, 3) := by decide +kernel
theorem dX7_drawDay_73 : decode cX7_drawDay 73 = .ok (.iinc 1 1, 3) := by decide +kernel
theorem dX7_drawDay_76 : decode cX7_drawDay 76 = .ok (.goto (-41), 3) := by decide +kernel
theorem dX7_drawDay_79 : decode cX7_drawDay 79 = .ok (.aload_n 0, 1) := by decide +kernel
theorem dX7_drawDay_80 : decode cX7_drawDay 80 = .ok (.invokevirtual 72, 3) := by decide +kernel
theorem dX7_drawDay_83 : decode cX7_drawDay 83 = .ok (.return_, 1) := by decide +kernel
theorem dX7_draw_0 : decode cX7_draw 0 = .ok (.iload_n 1, 1) := by decide +kernel
theorem dX7_draw_1 : decode cX7_draw 1 = .ok (.iconst 1, 1) := by decide +kernel
theorem dX7_draw_2 : decode cX7_draw 2 = .ok (.if_icmp .ge 5, 3) := by decide +kernel
theorem dX7_draw_5 : decode cX7_draw 5 = .ok (.iconst 0, 1) := by decide +kernel
theorem dX7_draw_6 : decode cX7_draw 6 = .ok (.ireturn, 1) := by decide +kernel
theorem dX7_draw_7 : decode cX7_draw 7 = .ok (.aload_n 0, 1) := by decide +kernel
theorem dX7_draw_8 : decode cX7_draw 8 = .ok (.aload_n 0, 1) := by decide +kernel
theorem dX7_draw_9 : decode cX7_draw 9 = .ok (.getfield 44, 3) := by decide +kernel
theorem dX7_draw_12 : decode cX7_draw 12 = .ok (.ldc 109, 2) := by decide +kernel
theorem dX7_draw_14 : decode cX7_draw 14 = .ok (.imul, 1) := by decide +kernel
theorem dX7_draw_15 : decode cX7_draw 15 = .ok (.sipush 12345, 3) := by decide +kernel
theorem dX7_draw_18 : decode cX7_draw 18 = .ok (.iadd, 1) := by decide +kernel
theorem dX7_draw_19 : decode cX7_draw 19 = .ok (.putfield 44, 3) := by decide +kernel
theorem dX7_draw_22 : decode cX7_draw 22 = .ok (.aload_n 0, 1) := by decide +kernel
theorem dX7_draw_23 : decode cX7_draw 23 = .ok (.getfield 44, 3) := by decide +kernel
theorem dX7_draw_26 : decode cX7_draw 26 = .ok (.bipush 8, 2) := by decide +kernel
theorem dX7_draw_28 : decode cX7_draw 28 = .ok (.iushr, 1) := by decide +kernel
theorem dX7_draw_29 : decode cX7_draw 29 = .ok (.iload_n 1, 1) := by decide +kernel
theorem dX7_draw_30 : decode cX7_draw 30 = .ok (.irem, 1) := by decide +kernel
theorem dX7_draw_31 : decode cX7_draw 31 = .ok (.ireturn, 1) := by decide +kernel
theorem dX7_allLengths_0 : decode cX7_allLengths 0 = .ok (.iconst 0, 1) := by decide +kernel
theorem dX7_allLengths_1 : decode cX7_allLengths 1 = .ok (.istore_n 1, 1) := by decide +kernel
theorem dX7_allLengths_2 : decode cX7_allLengths 2 = .ok (.iconst 0, 1) := by decide +kernel
theorem dX7_allLengths_3 : decode cX7_allLengths 3 = .ok (.istore_n 2, 1) := by decide +kernel
theorem dX7_allLengths_4 : decode cX7_allLengths 4 = .ok (.iload_n 2, 1) := by decide +kernel
theorem dX7_allLengths_5 : decode cX7_allLengths 5 = .ok (.aload_n 0, 1) := by decide +kernel
theorem dX7_allLengths_6 : decode cX7_allLengths 6 = .ok (.getfield 47, 3) := by decide +kernel
theorem dX7_allLengths_9 : decode cX7_allLengths 9 = .ok (.getfield 96, 3) := by decide +kernel
theorem dX7_allLengths_12 : decode cX7_allLengths 12 = .ok (.if_icmp .ge 18, 3) := by decide +kernel
theorem dX7_allLengths_15 : decode cX7_allLengths 15 = .ok (.iload_n 1, 1) := by decide +kernel
theorem dX7_allLengths_16 : decode cX7_allLengths 16 = .ok (.aload_n 0, 1) := by decide +kernel
theorem dX7_allLengths_17 : decode cX7_allLengths 17 = .ok (.getfield 32, 3) := by decide +kernel
theorem dX7_allLengths_20 : decode cX7_allLengths 20 = .ok (.iload_n 2, 1) := by decide +kernel
theorem dX7_allLengths_21 : decode cX7_allLengths 21 = .ok (.iaload, 1) := by decide +kernel
theorem dX7_allLengths_22 : decode cX7_allLengths 22 = .ok (.iadd, 1) := by decide +kernel
theorem dX7_allLengths_23 : decode cX7_allLengths 23 = .ok (.istore_n 1, 1) := by decide +kernel
theorem dX7_allLengths_24 : decode cX7_allLengths 24 = .ok (.iinc 2 1, 3) := by decide +kernel
theorem dX7_allLengths_27 : decode cX7_allLengths 27 = .ok (.goto (-23), 3) := by decide +kernel
theorem dX7_allLengths_30 : decode cX7_allLengths 30 = .ok (.iload_n 1, 1) := by decide +kernel
theorem dX7_allLengths_31 : decode cX7_allLengths 31 = .ok (.ireturn, 1) := by decide +kernel
theorem dX7_allStores_0 : decode cX7_allStores 0 = .ok (.iconst 0, 1) := by decide +kernel
theorem dX7_allStores_1 : decode cX7_allStores 1 = .ok (.istore_n 1, 1) := by decide +kernel
theorem dX7_allStores_2 : decode cX7_allStores 2 = .ok (.iconst 0, 1) := by decide +kernel
theorem dX7_allStores_3 : decode cX7_allStores 3 = .ok (.istore_n 2, 1) := by decide +kernel
theorem dX7_allStores_4 : decode cX7_allStores 4 = .ok (.iload_n 2, 1) := by decide +kernel
theorem dX7_allStores_5 : decode cX7_allStores 5 = .ok (.aload_n 0, 1) := by decide +kernel
theorem dX7_allStores_6 : decode cX7_allStores 6 = .ok (.getfield 47, 3) := by decide +kernel
theorem dX7_allStores_9 : decode cX7_allStores 9 = .ok (.getfield 89, 3) := by decide +kernel
theorem dX7_allStores_12 : decode cX7_allStores 12 = .ok (.if_icmp .ge 18, 3) := by decide +kernel
theorem dX7_allStores_15 : decode cX7_allStores 15 = .ok (.iload_n 1, 1) := by decide +kernel
theorem dX7_allStores_16 : decode cX7_allStores 16 = .ok (.aload_n 0, 1) := by decide +kernel
theorem dX7_allStores_17 : decode cX7_allStores 17 = .ok (.getfield 15, 3) := by decide +kernel
theorem dX7_allStores_20 : decode cX7_allStores 20 = .ok (.iload_n 2, 1) := by decide +kernel
theorem dX7_allStores_21 : decode cX7_allStores 21 = .ok (.iaload, 1) := by decide +kernel
theorem dX7_allStores_22 : decode cX7_allStores 22 = .ok (.iadd, 1) := by decide +kernel
theorem dX7_allStores_23 : decode cX7_allStores 23 = .ok (.istore_n 1, 1) := by decide +kernel
theorem dX7_allStores_24 : decode cX7_allStores 24 = .ok (.iinc 2 1, 3) := by decide +kernel
theorem dX7_allStores_27 : decode cX7_allStores 27 = .ok (.goto (-23), 3) := by decide +kernel
theorem dX7_allStores_30 : decode cX7_allStores 30 = .ok (.iload_n 1, 1) := by decide +kernel
theorem dX7_allStores_31 : decode cX7_allStores 31 = .ok (.ireturn, 1) := by decide +kernel
theorem dX7_allCrossings_0 : decode cX7_allCrossings 0 = .ok (.iconst 0, 1) := by decide +kernel
theorem dX7_allCrossings_1 : decode cX7_allCrossings 1 = .ok (.istore_n 1, 1) := by decide +kernel
theorem dX7_allCrossings_2 : decode cX7_allCrossings 2 = .ok (.iconst 0, 1) := by decide +kernel
theorem dX7_allCrossings_3 : decode cX7_allCrossings 3 = .ok (.istore_n 2, 1) := by decide +kernel
theorem dX7_allCrossings_4 : decode cX7_allCrossings 4 = .ok (.iload_n 2, 1) := by decide +kernel
theorem dX7_allCrossings_5 : decode cX7_allCrossings 5 = .ok (.aload_n 0, 1) := by decide +kernel
