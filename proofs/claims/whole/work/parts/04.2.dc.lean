theorem dX7_allCrossings_6 : decode cX7_allCrossings 6 = .ok (.getfield 47, 3) := by decide +kernel
theorem dX7_allCrossings_9 : decode cX7_allCrossings 9 = .ok (.getfield 96, 3) := by decide +kernel
theorem dX7_allCrossings_12 : decode cX7_allCrossings 12 = .ok (.if_icmp .ge 18, 3) := by decide +kernel
theorem dX7_allCrossings_15 : decode cX7_allCrossings 15 = .ok (.iload_n 1, 1) := by decide +kernel
theorem dX7_allCrossings_16 : decode cX7_allCrossings 16 = .ok (.aload_n 0, 1) := by decide +kernel
theorem dX7_allCrossings_17 : decode cX7_allCrossings 17 = .ok (.getfield 41, 3) := by decide +kernel
theorem dX7_allCrossings_20 : decode cX7_allCrossings 20 = .ok (.iload_n 2, 1) := by decide +kernel
theorem dX7_allCrossings_21 : decode cX7_allCrossings 21 = .ok (.iaload, 1) := by decide +kernel
theorem dX7_allCrossings_22 : decode cX7_allCrossings 22 = .ok (.iadd, 1) := by decide +kernel
theorem dX7_allCrossings_23 : decode cX7_allCrossings 23 = .ok (.istore_n 1, 1) := by decide +kernel
theorem dX7_allCrossings_24 : decode cX7_allCrossings 24 = .ok (.iinc 2 1, 3) := by decide +kernel
theorem dX7_allCrossings_27 : decode cX7_allCrossings 27 = .ok (.goto (-23), 3) := by decide +kernel
theorem dX7_allCrossings_30 : decode cX7_allCrossings 30 = .ok (.iload_n 1, 1) := by decide +kernel
theorem dX7_allCrossings_31 : decode cX7_allCrossings 31 = .ok (.ireturn, 1) := by decide +kernel
theorem dX7_atHome_0 : decode cX7_atHome 0 = .ok (.iconst 0, 1) := by decide +kernel
theorem dX7_atHome_1 : decode cX7_atHome 1 = .ok (.istore_n 1, 1) := by decide +kernel
theorem dX7_atHome_2 : decode cX7_atHome 2 = .ok (.iconst 0, 1) := by decide +kernel
theorem dX7_atHome_3 : decode cX7_atHome 3 = .ok (.istore_n 2, 1) := by decide +kernel
theorem dX7_atHome_4 : decode cX7_atHome 4 = .ok (.iload_n 2, 1) := by decide +kernel
theorem dX7_atHome_5 : decode cX7_atHome 5 = .ok (.aload_n 0, 1) := by decide +kernel
theorem dX7_atHome_6 : decode cX7_atHome 6 = .ok (.getfield 47, 3) := by decide +kernel
theorem dX7_atHome_9 : decode cX7_atHome 9 = .ok (.getfield 96, 3) := by decide +kernel
theorem dX7_atHome_12 : decode cX7_atHome 12 = .ok (.if_icmp .ge 23, 3) := by decide +kernel
theorem dX7_atHome_15 : decode cX7_atHome 15 = .ok (.aload_n 0, 1) := by decide +kernel
theorem dX7_atHome_16 : decode cX7_atHome 16 = .ok (.iload_n 2, 1) := by decide +kernel
theorem dX7_atHome_17 : decode cX7_atHome 17 = .ok (.invokevirtual 92, 3) := by decide +kernel
theorem dX7_atHome_20 : decode cX7_atHome 20 = .ok (.ifCond .eq 9, 3) := by decide +kernel
theorem dX7_atHome_23 : decode cX7_atHome 23 = .ok (.iload_n 1, 1) := by decide +kernel
theorem dX7_atHome_24 : decode cX7_atHome 24 = .ok (.iconst 1, 1) := by decide +kernel
theorem dX7_atHome_25 : decode cX7_atHome 25 = .ok (.iload_n 2, 1) := by decide +kernel
theorem dX7_atHome_26 : decode cX7_atHome 26 = .ok (.ishl, 1) := by decide +kernel
theorem dX7_atHome_27 : decode cX7_atHome 27 = .ok (.ior, 1) := by decide +kernel
theorem dX7_atHome_28 : decode cX7_atHome 28 = .ok (.istore_n 1, 1) := by decide +kernel
theorem dX7_atHome_29 : decode cX7_atHome 29 = .ok (.iinc 2 1, 3) := by decide +kernel
theorem dX7_atHome_32 : decode cX7_atHome 32 = .ok (.goto (-28), 3) := by decide +kernel
theorem dX7_atHome_35 : decode cX7_atHome 35 = .ok (.iload_n 1, 1) := by decide +kernel
theorem dX7_atHome_36 : decode cX7_atHome 36 = .ok (.ireturn, 1) := by decide +kernel
theorem dX7_stuck_0 : decode cX7_stuck 0 = .ok (.iconst 0, 1) := by decide +kernel
theorem dX7_stuck_1 : decode cX7_stuck 1 = .ok (.istore_n 1, 1) := by decide +kernel
theorem dX7_stuck_2 : decode cX7_stuck 2 = .ok (.iconst 0, 1) := by decide +kernel
theorem dX7_stuck_3 : decode cX7_stuck 3 = .ok (.istore_n 2, 1) := by decide +kernel
theorem dX7_stuck_4 : decode cX7_stuck 4 = .ok (.iload_n 2, 1) := by decide +kernel
theorem dX7_stuck_5 : decode cX7_stuck 5 = .ok (.aload_n 0, 1) := by decide +kernel
theorem dX7_stuck_6 : decode cX7_stuck 6 = .ok (.getfield 47, 3) := by decide +kernel
theorem dX7_stuck_9 : decode cX7_stuck 9 = .ok (.getfield 96, 3) := by decide +kernel
theorem dX7_stuck_12 : decode cX7_stuck 12 = .ok (.if_icmp .ge 23, 3) := by decide +kernel
theorem dX7_stuck_15 : decode cX7_stuck 15 = .ok (.aload_n 0, 1) := by decide +kernel
theorem dX7_stuck_16 : decode cX7_stuck 16 = .ok (.iload_n 2, 1) := by decide +kernel
theorem dX7_stuck_17 : decode cX7_stuck 17 = .ok (.invokevirtual 110, 3) := by decide +kernel
theorem dX7_stuck_20 : decode cX7_stuck 20 = .ok (.ifCond .ne 9, 3) := by decide +kernel
theorem dX7_stuck_23 : decode cX7_stuck 23 = .ok (.iload_n 1, 1) := by decide +kernel
theorem dX7_stuck_24 : decode cX7_stuck 24 = .ok (.iconst 1, 1) := by decide +kernel
theorem dX7_stuck_25 : decode cX7_stuck 25 = .ok (.iload_n 2, 1) := by decide +kernel
theorem dX7_stuck_26 : decode cX7_stuck 26 = .ok (.ishl, 1) := by decide +kernel
theorem dX7_stuck_27 : decode cX7_stuck 27 = .ok (.ior, 1) := by decide +kernel
theorem dX7_stuck_28 : decode cX7_stuck 28 = .ok (.istore_n 1, 1) := by decide +kernel
theorem dX7_stuck_29 : decode cX7_stuck 29 = .ok (.iinc 2 1, 3) := by decide +kernel
theorem dX7_stuck_32 : decode cX7_stuck 32 = .ok (.goto (-28), 3) := by decide +kernel
theorem dX7_stuck_35 : decode cX7_stuck 35 = .ok (.iload_n 1, 1) := by decide +kernel
theorem dX7_stuck_36 : decode cX7_stuck 36 = .ok (.ireturn, 1) := by decide +kernel
theorem dX7_personsIn_0 : decode cX7_personsIn 0 = .ok (.iconst 0, 1) := by decide +kernel
theorem dX7_personsIn_1 : decode cX7_personsIn 1 = .ok (.istore_n 2, 1) := by decide +kernel
theorem dX7_personsIn_2 : decode cX7_personsIn 2 = .ok (.iconst 0, 1) := by decide +kernel
theorem dX7_personsIn_3 : decode cX7_personsIn 3 = .ok (.istore_n 3, 1) := by decide +kernel
theorem dX7_personsIn_4 : decode cX7_personsIn 4 = .ok (.iload_n 3, 1) := by decide +kernel
theorem dX7_personsIn_5 : decode cX7_personsIn 5 = .ok (.aload_n 0, 1) := by decide +kernel
theorem dX7_personsIn_6 : decode cX7_personsIn 6 = .ok (.getfield 47, 3) := by decide +kernel
theorem dX7_personsIn_9 : decode cX7_personsIn 9 = .ok (.getfield 96, 3) := by decide +kernel
theorem dX7_personsIn_12 : decode cX7_personsIn 12 = .ok (.if_icmp .ge 25, 3) := by decide +kernel
theorem dX7_personsIn_15 : decode cX7_personsIn 15 = .ok (.aload_n 0, 1) := by decide +kernel
theorem dX7_personsIn_16 : decode cX7_personsIn 16 = .ok (.getfield 29, 3) := by decide +kernel
theorem dX7_personsIn_19 : decode cX7_personsIn 19 = .ok (.iload_n 3, 1) := by decide +kernel
theorem dX7_personsIn_20 : decode cX7_personsIn 20 = .ok (.iaload, 1) := by decide +kernel
theorem dX7_personsIn_21 : decode cX7_personsIn 21 = .ok (.iload_n 1, 1) := by decide +kernel
theorem dX7_personsIn_22 : decode cX7_personsIn 22 = .ok (.if_icmp .ne 9, 3) := by decide +kernel
theorem dX7_personsIn_25 : decode cX7_personsIn 25 = .ok (.iload_n 2, 1) := by decide +kernel
theorem dX7_personsIn_26 : decode cX7_personsIn 26 = .ok (.iconst 1, 1) := by decide +kernel
theorem dX7_personsIn_27 : decode cX7_personsIn 27 = .ok (.iload_n 3, 1) := by decide +kernel
theorem dX7_personsIn_28 : decode cX7_personsIn 28 = .ok (.ishl, 1) := by decide +kernel
theorem dX7_personsIn_29 : decode cX7_personsIn 29 = .ok (.ior, 1) := by decide +kernel
theorem dX7_personsIn_30 : decode cX7_personsIn 30 = .ok (.istore_n 2, 1) := by decide +kernel
theorem dX7_personsIn_31 : decode cX7_personsIn 31 = .ok (.iinc 3 1, 3) := by decide +kernel
theorem dX7_personsIn_34 : decode cX7_personsIn 34 = .ok (.goto (-30), 3) := by decide +kernel
theorem dX7_personsIn_37 : decode cX7_personsIn 37 = .ok (.iload_n 2, 1) := by decide +kernel
theorem dX7_personsIn_38 : decode cX7_personsIn 38 = .ok (.ireturn, 1) := by decide +kernel
theorem dX7_treaties_0 : decode cX7_treaties 0 = .ok (.iconst 0, 1) := by decide +kernel
theorem dX7_treaties_1 : decode cX7_treaties 1 = .ok (.istore_n 1, 1) := by decide +kernel
theorem dX7_treaties_2 : decode cX7_treaties 2 = .ok (.iconst 0, 1) := by decide +kernel
theorem dX7_treaties_3 : decode cX7_treaties 3 = .ok (.istore_n 2, 1) := by decide +kernel
theorem dX7_treaties_4 : decode cX7_treaties 4 = .ok (.iload_n 2, 1) := by decide +kernel
theorem dX7_treaties_5 : decode cX7_treaties 5 = .ok (.aload_n 0, 1) := by decide +kernel
theorem dX7_treaties_6 : decode cX7_treaties 6 = .ok (.getfield 47, 3) := by decide +kernel
theorem dX7_treaties_9 : decode cX7_treaties 9 = .ok (.getfield 89, 3) := by decide +kernel
theorem dX7_treaties_12 : decode cX7_treaties 12 = .ok (.if_icmp .ge 21, 3) := by decide +kernel
theorem dX7_treaties_15 : decode cX7_treaties 15 = .ok (.iload_n 1, 1) := by decide +kernel
theorem dX7_treaties_16 : decode cX7_treaties 16 = .ok (.aload_n 0, 1) := by decide +kernel
theorem dX7_treaties_17 : decode cX7_treaties 17 = .ok (.getfield 19, 3) := by decide +kernel
theorem dX7_treaties_20 : decode cX7_treaties 20 = .ok (.iload_n 2, 1) := by decide +kernel
theorem dX7_treaties_21 : decode cX7_treaties 21 = .ok (.iaload, 1) := by decide +kernel
theorem dX7_treaties_22 : decode cX7_treaties 22 = .ok (.invokestatic 113, 3) := by decide +kernel
theorem dX7_treaties_25 : decode cX7_treaties 25 = .ok (.iadd, 1) := by decide +kernel
theorem dX7_treaties_26 : decode cX7_treaties 26 = .ok (.istore_n 1, 1) := by decide +kernel
theorem dX7_treaties_27 : decode cX7_treaties 27 = .ok (.iinc 2 1, 3) := by decide +kernel
theorem dX7_treaties_30 : decode cX7_treaties 30 = .ok (.goto (-26), 3) := by decide +kernel
theorem dX7_treaties_33 : decode cX7_treaties 33 = .ok (.iload_n 1, 1) := by decide +kernel
theorem dX7_treaties_34 : decode cX7_treaties 34 = .ok (.ireturn, 1) := by decide +kernel
theorem dX8_init_0 : decode cX8_init 0 = .ok (.aload_n 0, 1) := by decide +kernel
theorem dX8_init_1 : decode cX8_init 1 = .ok (.invokespecial 3, 3) := by decide +kernel
theorem dX8_init_4 : decode cX8_init 4 = .ok (.aload_n 0, 1) := by decide +kernel
theorem dX8_init_5 : decode cX8_init 5 = .ok (.sipush 940, 3) := by decide +kernel
theorem dX8_init_8 : decode cX8_init 8 = .ok (.newarray .byte, 2) := by decide +kernel
theorem dX8_init_10 : decode cX8_init 10 = .ok (.putfield 9, 3) := by decide +kernel
theorem dX8_init_13 : decode cX8_init 13 = .ok (.aload_n 0, 1) := by decide +kernel
theorem dX8_init_14 : decode cX8_init 14 = .ok (.iconst 0, 1) := by decide +kernel
theorem dX8_init_15 : decode cX8_init 15 = .ok (.putfield 15, 3) := by decide +kernel
theorem dX8_init_18 : decode cX8_init 18 = .ok (.aload_n 0, 1) := by decide +kernel
theorem dX8_init_19 : decode cX8_init 19 = .ok (.sipush 941, 3) := by decide +kernel
theorem dX8_init_22 : decode cX8_init 22 = .ok (.newarray .int, 2) := by decide +kernel
theorem dX8_init_24 : decode cX8_init 24 = .ok (.putfield 19, 3) := by decide +kernel
theorem dX8_init_27 : decode cX8_init 27 = .ok (.aload_n 0, 1) := by decide +kernel
theorem dX8_init_28 : decode cX8_init 28 = .ok (.sipush 941, 3) := by decide +kernel
theorem dX8_init_31 : decode cX8_init 31 = .ok (.newarray .int, 2) := by decide +kernel
theorem dX8_init_33 : decode cX8_init 33 = .ok (.putfield 23, 3) := by decide +kernel
theorem dX8_init_36 : decode cX8_init 36 = .ok (.aload_n 0, 1) := by decide +kernel
theorem dX8_init_37 : decode cX8_init 37 = .ok (.sipush 941, 3) := by decide +kernel
theorem dX8_init_40 : decode cX8_init 40 = .ok (.newarray .long, 2) := by decide +kernel
theorem dX8_init_42 : decode cX8_init 42 = .ok (.putfield 26, 3) := by decide +kernel
theorem dX8_init_45 : decode cX8_init 45 = .ok (.aload_n 0, 1) := by decide +kernel
theorem dX8_init_46 : decode cX8_init 46 = .ok (.sipush 941, 3) := by decide +kernel
theorem dX8_init_49 : decode cX8_init 49 = .ok (.anewarray 30, 3) := by decide +kernel
theorem dX8_init_52 : decode cX8_init 52 = .ok (.putfield 32, 3) := by decide +kernel
theorem dX8_init_55 : decode cX8_init 55 = .ok (.aload_n 0, 1) := by decide +kernel
theorem dX8_init_56 : decode cX8_init 56 = .ok (.iconst 0, 1) := by decide +kernel
theorem dX8_init_57 : decode cX8_init 57 = .ok (.putfield 36, 3) := by decide +kernel
theorem dX8_init_60 : decode cX8_init 60 = .ok (.aload_n 0, 1) := by decide +kernel
theorem dX8_init_61 : decode cX8_init 61 = .ok (.iconst 0, 1) := by decide +kernel
theorem dX8_init_62 : decode cX8_init 62 = .ok (.putfield 39, 3) := by decide +kernel
theorem dX8_init_65 : decode cX8_init 65 = .ok (.aload_n 0, 1) := by decide +kernel
theorem dX8_init_66 : decode cX8_init 66 = .ok (.iconst 0, 1) := by decide +kernel
theorem dX8_init_67 : decode cX8_init 67 = .ok (.putfield 42, 3) := by decide +kernel
theorem dX8_init_70 : decode cX8_init 70 = .ok (.aload_n 0, 1) := by decide +kernel
theorem dX8_init_71 : decode cX8_init 71 = .ok (.lconst 0, 1) := by decide +kernel
theorem dX8_init_72 : decode cX8_init 72 = .ok (.putfield 45, 3) := by decide +kernel
theorem dX8_init_75 : decode cX8_init 75 = .ok (.aload_n 0, 1) := by decide +kernel
theorem dX8_init_76 : decode cX8_init 76 = .ok (.aconst_null, 1) := by decide +kernel
theorem dX8_init_77 : decode cX8_init 77 = .ok (.putfield 49, 3) := by decide +kernel
theorem dX8_init_80 : decode cX8_init 80 = .ok (.aload_n 0, 1) := by decide +kernel
theorem dX8_init_81 : decode cX8_init 81 = .ok (.iconst 0, 1) := by decide +kernel
theorem dX8_init_82 : decode cX8_init 82 = .ok (.putfield 53, 3) := by decide +kernel
theorem dX8_init_85 : decode cX8_init 85 = .ok (.aload_n 0, 1) := by decide +kernel
theorem dX8_init_86 : decode cX8_init 86 = .ok (.iconst 0, 1) := by decide +kernel
theorem dX8_init_87 : decode cX8_init 87 = .ok (.putfield 56, 3) := by decide +kernel
theorem dX8_init_90 : decode cX8_init 90 = .ok (.return_, 1) := by decide +kernel
theorem dX8_add_0 : decode cX8_add 0 = .ok (.bipush 24, 2) := by decide +kernel
theorem dX8_add_2 : decode cX8_add 2 = .ok (.istore_n 2, 1) := by decide +kernel
theorem dX8_add_3 : decode cX8_add 3 = .ok (.iload_n 2, 1) := by decide +kernel
theorem dX8_add_4 : decode cX8_add 4 = .ok (.ifCond .lt 42, 3) := by decide +kernel
theorem dX8_add_7 : decode cX8_add 7 = .ok (.aload_n 0, 1) := by decide +kernel
theorem dX8_add_8 : decode cX8_add 8 = .ok (.getfield 15, 3) := by decide +kernel
theorem dX8_add_11 : decode cX8_add 11 = .ok (.sipush 940, 3) := by decide +kernel
theorem dX8_add_14 : decode cX8_add 14 = .ok (.if_icmp .ge 32, 3) := by decide +kernel
theorem dX8_add_17 : decode cX8_add 17 = .ok (.aload_n 0, 1) := by decide +kernel
theorem dX8_add_18 : decode cX8_add 18 = .ok (.getfield 9, 3) := by decide +kernel
theorem dX8_add_21 : decode cX8_add 21 = .ok (.aload_n 0, 1) := by decide +kernel
theorem dX8_add_22 : decode cX8_add 22 = .ok (.getfield 15, 3) := by decide +kernel
theorem dX8_add_25 : decode cX8_add 25 = .ok (.iload_n 1, 1) := by decide +kernel
theorem dX8_add_26 : decode cX8_add 26 = .ok (.iload_n 2, 1) := by decide +kernel
theorem dX8_add_27 : decode cX8_add 27 = .ok (.iushr, 1) := by decide +kernel
theorem dX8_add_28 : decode cX8_add 28 = .ok (.i2b, 1) := by decide +kernel
theorem dX8_add_29 : decode cX8_add 29 = .ok (.bastore, 1) := by decide +kernel
theorem dX8_add_30 : decode cX8_add 30 = .ok (.aload_n 0, 1) := by decide +kernel
theorem dX8_add_31 : decode cX8_add 31 = .ok (.dup, 1) := by decide +kernel
theorem dX8_add_32 : decode cX8_add 32 = .ok (.getfield 15, 3) := by decide +kernel
theorem dX8_add_35 : decode cX8_add 35 = .ok (.iconst 1, 1) := by decide +kernel
theorem dX8_add_36 : decode cX8_add 36 = .ok (.iadd, 1) := by decide +kernel
theorem dX8_add_37 : decode cX8_add 37 = .ok (.putfield 15, 3) := by decide +kernel
theorem dX8_add_40 : decode cX8_add 40 = .ok (.iinc 2 (-8), 3) := by decide +kernel
theorem dX8_add_43 : decode cX8_add 43 = .ok (.goto (-40), 3) := by decide +kernel
theorem dX8_add_46 : decode cX8_add 46 = .ok (.return_, 1) := by decide +kernel
theorem dX8_byteOf_0 : decode cX8_byteOf 0 = .ok (.iload_n 1, 1) := by decide +kernel
theorem dX8_byteOf_1 : decode cX8_byteOf 1 = .ok (.ifCond .lt 23, 3) := by decide +kernel
theorem dX8_byteOf_4 : decode cX8_byteOf 4 = .ok (.iload_n 1, 1) := by decide +kernel
theorem dX8_byteOf_5 : decode cX8_byteOf 5 = .ok (.sipush 940, 3) := by decide +kernel
theorem dX8_byteOf_8 : decode cX8_byteOf 8 = .ok (.if_icmp .ge 16, 3) := by decide +kernel
theorem dX8_byteOf_11 : decode cX8_byteOf 11 = .ok (.aload_n 0, 1) := by decide +kernel
theorem dX8_byteOf_12 : decode cX8_byteOf 12 = .ok (.getfield 9, 3) := by decide +kernel
theorem dX8_byteOf_15 : decode cX8_byteOf 15 = .ok (.iload_n 1, 1) := by decide +kernel
theorem dX8_byteOf_16 : decode cX8_byteOf 16 = .ok (.baload, 1) := by decide +kernel
theorem dX8_byteOf_17 : decode cX8_byteOf 17 = .ok (.sipush 255, 3) := by decide +kernel
theorem dX8_byteOf_20 : decode cX8_byteOf 20 = .ok (.iand, 1) := by decide +kernel
theorem dX8_byteOf_21 : decode cX8_byteOf 21 = .ok (.goto 4, 3) := by decide +kernel
theorem dX8_byteOf_24 : decode cX8_byteOf 24 = .ok (.iconst 0, 1) := by decide +kernel
theorem dX8_byteOf_25 : decode cX8_byteOf 25 = .ok (.ireturn, 1) := by decide +kernel
theorem dX8_begin_0 : decode cX8_begin 0 = .ok (.aload_n 0, 1) := by decide +kernel
theorem dX8_begin_1 : decode cX8_begin 1 = .ok (.iconst 0, 1) := by decide +kernel
theorem dX8_begin_2 : decode cX8_begin 2 = .ok (.putfield 53, 3) := by decide +kernel
theorem dX8_begin_5 : decode cX8_begin 5 = .ok (.aload_n 0, 1) := by decide +kernel
theorem dX8_begin_6 : decode cX8_begin 6 = .ok (.iconst 0, 1) := by decide +kernel
theorem dX8_begin_7 : decode cX8_begin 7 = .ok (.putfield 56, 3) := by decide +kernel
theorem dX8_begin_10 : decode cX8_begin 10 = .ok (.aload_n 0, 1) := by decide +kernel
theorem dX8_begin_11 : decode cX8_begin 11 = .ok (.iconst 0, 1) := by decide +kernel
theorem dX8_begin_12 : decode cX8_begin 12 = .ok (.putfield 36, 3) := by decide +kernel
theorem dX8_begin_15 : decode cX8_begin 15 = .ok (.aload_n 0, 1) := by decide +kernel
theorem dX8_begin_16 : decode cX8_begin 16 = .ok (.getfield 15, 3) := by decide +kernel
theorem dX8_begin_19 : decode cX8_begin 19 = .ok (.iload_n 1, 1) := by decide +kernel
theorem dX8_begin_20 : decode cX8_begin 20 = .ok (.invokestatic 59, 3) := by decide +kernel
theorem dX8_begin_23 : decode cX8_begin 23 = .ok (.istore_n 2, 1) := by decide +kernel
theorem dX8_begin_24 : decode cX8_begin 24 = .ok (.aload_n 0, 1) := by decide +kernel
theorem dX8_begin_25 : decode cX8_begin 25 = .ok (.iconst 0, 1) := by decide +kernel
theorem dX8_begin_26 : decode cX8_begin 26 = .ok (.invokevirtual 65, 3) := by decide +kernel
theorem dX8_begin_29 : decode cX8_begin 29 = .ok (.istore_n 3, 1) := by decide +kernel
theorem dX8_begin_30 : decode cX8_begin 30 = .ok (.iconst 0, 1) := by decide +kernel
theorem dX8_begin_31 : decode cX8_begin 31 = .ok (.istore 4, 2) := by decide +kernel
theorem dX8_begin_33 : decode cX8_begin 33 = .ok (.iload 4, 2) := by decide +kernel
theorem dX8_begin_35 : decode cX8_begin 35 = .ok (.sipush 940, 3) := by decide +kernel
theorem dX8_begin_38 : decode cX8_begin 38 = .ok (.if_icmp .ge 24, 3) := by decide +kernel
theorem dX8_begin_41 : decode cX8_begin 41 = .ok (.iload_n 3, 1) := by decide +kernel
theorem dX8_begin_42 : decode cX8_begin 42 = .ok (.iload_n 2, 1) := by decide +kernel
theorem dX8_begin_43 : decode cX8_begin 43 = .ok (.if_icmp .ge 19, 3) := by decide +kernel
theorem dX8_begin_46 : decode cX8_begin 46 = .ok (.aload_n 0, 1) := by decide +kernel
theorem dX8_begin_47 : decode cX8_begin 47 = .ok (.aload_n 0, 1) := by decide +kernel
theorem dX8_begin_48 : decode cX8_begin 48 = .ok (.iload_n 3, 1) := by decide +kernel
theorem dX8_begin_49 : decode cX8_begin 49 = .ok (.invokevirtual 69, 3) := by decide +kernel
theorem dX8_begin_52 : decode cX8_begin 52 = .ok (.invokevirtual 65, 3) := by decide +kernel
theorem dX8_begin_55 : decode cX8_begin 55 = .ok (.istore_n 3, 1) := by decide +kernel
theorem dX8_begin_56 : decode cX8_begin 56 = .ok (.iinc 4 1, 3) := by decide +kernel
theorem dX8_begin_59 : decode cX8_begin 59 = .ok (.goto (-26), 3) := by decide +kernel
theorem dX8_begin_62 : decode cX8_begin 62 = .ok (.aload_n 0, 1) := by decide +kernel
theorem dX8_begin_63 : decode cX8_begin 63 = .ok (.aload_n 0, 1) := by decide +kernel
theorem dX8_begin_64 : decode cX8_begin 64 = .ok (.getfield 15, 3) := by decide +kernel
theorem dX8_begin_67 : decode cX8_begin 67 = .ok (.iload_n 1, 1) := by decide +kernel
theorem dX8_begin_68 : decode cX8_begin 68 = .ok (.if_icmp .le 7, 3) := by decide +kernel
theorem dX8_begin_71 : decode cX8_begin 71 = .ok (.iconst 3, 1) := by decide +kernel
theorem dX8_begin_72 : decode cX8_begin 72 = .ok (.goto 4, 3) := by decide +kernel
theorem dX8_begin_75 : decode cX8_begin 75 = .ok (.iconst 0, 1) := by decide +kernel
theorem dX8_begin_76 : decode cX8_begin 76 = .ok (.iload_n 2, 1) := by decide +kernel
theorem dX8_begin_77 : decode cX8_begin 77 = .ok (.lconst 0, 1) := by decide +kernel
theorem dX8_begin_78 : decode cX8_begin 78 = .ok (.aconst_null, 1) := by decide +kernel
theorem dX8_begin_79 : decode cX8_begin 79 = .ok (.invokevirtual 72, 3) := by decide +kernel
theorem dX8_begin_82 : decode cX8_begin 82 = .ok (.aload_n 0, 1) := by decide +kernel
theorem dX8_begin_83 : decode cX8_begin 83 = .ok (.iconst (-1), 1) := by decide +kernel
theorem dX8_begin_84 : decode cX8_begin 84 = .ok (.putfield 39, 3) := by decide +kernel
theorem dX8_begin_87 : decode cX8_begin 87 = .ok (.aload_n 0, 1) := by decide +kernel
theorem dX8_begin_88 : decode cX8_begin 88 = .ok (.invokevirtual 76, 3) := by decide +kernel
theorem dX8_begin_91 : decode cX8_begin 91 = .ok (.return_, 1) := by decide +kernel
theorem dX8_behindBlanks_0 : decode cX8_behindBlanks 0 = .ok (.iload_n 1, 1) := by decide +kernel
theorem dX8_behindBlanks_1 : decode cX8_behindBlanks 1 = .ok (.istore_n 2, 1) := by decide +kernel
theorem dX8_behindBlanks_2 : decode cX8_behindBlanks 2 = .ok (.iload_n 2, 1) := by decide +kernel
theorem dX8_behindBlanks_3 : decode cX8_behindBlanks 3 = .ok (.aload_n 0, 1) := by decide +kernel
theorem dX8_behindBlanks_4 : decode cX8_behindBlanks 4 = .ok (.getfield 15, 3) := by decide +kernel
theorem dX8_behindBlanks_7 : decode cX8_behindBlanks 7 = .ok (.if_icmp .ge 29, 3) := by decide +kernel
theorem dX8_behindBlanks_10 : decode cX8_behindBlanks 10 = .ok (.aload_n 0, 1) := by decide +kernel
theorem dX8_behindBlanks_11 : decode cX8_behindBlanks 11 = .ok (.iload_n 2, 1) := by decide +kernel
theorem dX8_behindBlanks_12 : decode cX8_behindBlanks 12 = .ok (.invokevirtual 79, 3) := by decide +kernel
theorem dX8_behindBlanks_15 : decode cX8_behindBlanks 15 = .ok (.bipush 32, 2) := by decide +kernel
theorem dX8_behindBlanks_17 : decode cX8_behindBlanks 17 = .ok (.if_icmp .eq 13, 3) := by decide +kernel
theorem dX8_behindBlanks_20 : decode cX8_behindBlanks 20 = .ok (.aload_n 0, 1) := by decide +kernel
theorem dX8_behindBlanks_21 : decode cX8_behindBlanks 21 = .ok (.iload_n 2, 1) := by decide +kernel
theorem dX8_behindBlanks_22 : decode cX8_behindBlanks 22 = .ok (.invokevirtual 79, 3) := by decide +kernel
theorem dX8_behindBlanks_25 : decode cX8_behindBlanks 25 = .ok (.bipush 10, 2) := by decide +kernel
theorem dX8_behindBlanks_27 : decode cX8_behindBlanks 27 = .ok (.if_icmp .ne 9, 3) := by decide +kernel
theorem dX8_behindBlanks_30 : decode cX8_behindBlanks 30 = .ok (.iinc 2 1, 3) := by decide +kernel
theorem dX8_behindBlanks_33 : decode cX8_behindBlanks 33 = .ok (.goto (-31), 3) := by decide +kernel
theorem dX8_behindBlanks_36 : decode cX8_behindBlanks 36 = .ok (.iload_n 2, 1) := by decide +kernel
theorem dX8_behindBlanks_37 : decode cX8_behindBlanks 37 = .ok (.ireturn, 1) := by decide +kernel
theorem dX8_readToken_0 : decode cX8_readToken 0 = .ok (.aload_n 0, 1) := by decide +kernel
theorem dX8_readToken_1 : decode cX8_readToken 1 = .ok (.iload_n 1, 1) := by decide +kernel
theorem dX8_readToken_2 : decode cX8_readToken 2 = .ok (.invokevirtual 79, 3) := by decide +kernel
theorem dX8_readToken_5 : decode cX8_readToken 5 = .ok (.istore_n 2, 1) := by decide +kernel
theorem dX8_readToken_6 : decode cX8_readToken 6 = .ok (.iload_n 2, 1) := by decide +kernel
theorem dX8_readToken_7 : decode cX8_readToken 7 = .ok (.invokestatic 82, 3) := by decide +kernel
theorem dX8_readToken_10 : decode cX8_readToken 10 = .ok (.ifCond .ne 10, 3) := by decide +kernel
theorem dX8_readToken_13 : decode cX8_readToken 13 = .ok (.iload_n 2, 1) := by decide +kernel
theorem dX8_readToken_14 : decode cX8_readToken 14 = .ok (.invokestatic 86, 3) := by decide +kernel
theorem dX8_readToken_17 : decode cX8_readToken 17 = .ok (.ifCond .eq 9, 3) := by decide +kernel
theorem dX8_readToken_20 : decode cX8_readToken 20 = .ok (.aload_n 0, 1) := by decide +kernel
theorem dX8_readToken_21 : decode cX8_readToken 21 = .ok (.iload_n 1, 1) := by decide +kernel
theorem dX8_readToken_22 : decode cX8_readToken 22 = .ok (.invokevirtual 89, 3) := by decide +kernel
theorem dX8_readToken_25 : decode cX8_readToken 25 = .ok (.ireturn, 1) := by decide +kernel
theorem dX8_readToken_26 : decode cX8_readToken 26 = .ok (.iload_n 2, 1) := by decide +kernel
theorem dX8_readToken_27 : decode cX8_readToken 27 = .ok (.bipush 59, 2) := by decide +kernel
theorem dX8_readToken_29 : decode cX8_readToken 29 = .ok (.if_icmp .eq 33, 3) := by decide +kernel
theorem dX8_readToken_32 : decode cX8_readToken 32 = .ok (.iload_n 2, 1) := by decide +kernel
theorem dX8_readToken_33 : decode cX8_readToken 33 = .ok (.bipush 60, 2) := by decide +kernel
theorem dX8_readToken_35 : decode cX8_readToken 35 = .ok (.if_icmp .eq 27, 3) := by decide +kernel
theorem dX8_readToken_38 : decode cX8_readToken 38 = .ok (.iload_n 2, 1) := by decide +kernel
theorem dX8_readToken_39 : decode cX8_readToken 39 = .ok (.bipush 61, 2) := by decide +kernel
theorem dX8_readToken_41 : decode cX8_readToken 41 = .ok (.if_icmp .eq 21, 3) := by decide +kernel
theorem dX8_readToken_44 : decode cX8_readToken 44 = .ok (.iload_n 2, 1) := by decide +kernel
theorem dX8_readToken_45 : decode cX8_readToken 45 = .ok (.bipush 62, 2) := by decide +kernel
theorem dX8_readToken_47 : decode cX8_readToken 47 = .ok (.if_icmp .eq 15, 3) := by decide +kernel
theorem dX8_readToken_50 : decode cX8_readToken 50 = .ok (.iload_n 2, 1) := by decide +kernel
theorem dX8_readToken_51 : decode cX8_readToken 51 = .ok (.bipush 40, 2) := by decide +kernel
theorem dX8_readToken_53 : decode cX8_readToken 53 = .ok (.if_icmp .eq 9, 3) := by decide +kernel
theorem dX8_readToken_56 : decode cX8_readToken 56 = .ok (.iload_n 2, 1) := by decide +kernel
theorem dX8_readToken_57 : decode cX8_readToken 57 = .ok (.bipush 41, 2) := by decide +kernel
theorem dX8_readToken_59 : decode cX8_readToken 59 = .ok (.if_icmp .ne 7, 3) := by decide +kernel
theorem dX8_readToken_62 : decode cX8_readToken 62 = .ok (.iconst 1, 1) := by decide +kernel
theorem dX8_readToken_63 : decode cX8_readToken 63 = .ok (.goto 4, 3) := by decide +kernel
theorem dX8_readToken_66 : decode cX8_readToken 66 = .ok (.iconst 0, 1) := by decide +kernel
theorem dX8_readToken_67 : decode cX8_readToken 67 = .ok (.istore_n 3, 1) := by decide +kernel
theorem dX8_readToken_68 : decode cX8_readToken 68 = .ok (.aload_n 0, 1) := by decide +kernel
theorem dX8_readToken_69 : decode cX8_readToken 69 = .ok (.iload_n 3, 1) := by decide +kernel
theorem dX8_readToken_70 : decode cX8_readToken 70 = .ok (.ifCond .eq 7, 3) := by decide +kernel
theorem dX8_readToken_73 : decode cX8_readToken 73 = .ok (.iload_n 2, 1) := by decide +kernel
theorem dX8_readToken_74 : decode cX8_readToken 74 = .ok (.goto 4, 3) := by decide +kernel
theorem dX8_readToken_77 : decode cX8_readToken 77 = .ok (.iconst 3, 1) := by decide +kernel
theorem dX8_readToken_78 : decode cX8_readToken 78 = .ok (.iload_n 1, 1) := by decide +kernel
theorem dX8_readToken_79 : decode cX8_readToken 79 = .ok (.lconst 0, 1) := by decide +kernel
theorem dX8_readToken_80 : decode cX8_readToken 80 = .ok (.aconst_null, 1) := by decide +kernel
theorem dX8_readToken_81 : decode cX8_readToken 81 = .ok (.invokevirtual 72, 3) := by decide +kernel
theorem dX8_readToken_84 : decode cX8_readToken 84 = .ok (.iload_n 1, 1) := by decide +kernel
theorem dX8_readToken_85 : decode cX8_readToken 85 = .ok (.iconst 1, 1) := by decide +kernel
theorem dX8_readToken_86 : decode cX8_readToken 86 = .ok (.iadd, 1) := by decide +kernel
theorem dX8_readToken_87 : decode cX8_readToken 87 = .ok (.ireturn, 1) := by decide +kernel
theorem dX8_readRun_0 : decode cX8_readRun 0 = .ok (.iconst 0, 1) := by decide +kernel
theorem dX8_readRun_1 : decode cX8_readRun 1 = .ok (.istore_n 2, 1) := by decide +kernel
theorem dX8_readRun_2 : decode cX8_readRun 2 = .ok (.lconst 0, 1) := by decide +kernel
theorem dX8_readRun_3 : decode cX8_readRun 3 = .ok (.lstore_n 3, 1) := by decide +kernel
theorem dX8_readRun_4 : decode cX8_readRun 4 = .ok (.iconst 0, 1) := by decide +kernel
theorem dX8_readRun_5 : decode cX8_readRun 5 = .ok (.istore 5, 2) := by decide +kernel
theorem dX8_readRun_7 : decode cX8_readRun 7 = .ok (.iconst 0, 1) := by decide +kernel
theorem dX8_readRun_8 : decode cX8_readRun 8 = .ok (.istore 6, 2) := by decide +kernel
theorem dX8_readRun_10 : decode cX8_readRun 10 = .ok (.iload_n 1, 1) := by decide +kernel
theorem dX8_readRun_11 : decode cX8_readRun 11 = .ok (.istore 7, 2) := by decide +kernel
theorem dX8_readRun_13 : decode cX8_readRun 13 = .ok (.iload 7, 2) := by decide +kernel
theorem dX8_readRun_15 : decode cX8_readRun 15 = .ok (.aload_n 0, 1) := by decide +kernel
theorem dX8_readRun_16 : decode cX8_readRun 16 = .ok (.getfield 15, 3) := by decide +kernel
theorem dX8_readRun_19 : decode cX8_readRun 19 = .ok (.if_icmp .ge 84, 3) := by decide +kernel
theorem dX8_readRun_22 : decode cX8_readRun 22 = .ok (.aload_n 0, 1) := by decide +kernel
theorem dX8_readRun_23 : decode cX8_readRun 23 = .ok (.iload 7, 2) := by decide +kernel
theorem dX8_readRun_25 : decode cX8_readRun 25 = .ok (.invokevirtual 79, 3) := by decide +kernel
theorem dX8_readRun_28 : decode cX8_readRun 28 = .ok (.invokestatic 82, 3) := by decide +kernel
theorem dX8_readRun_31 : decode cX8_readRun 31 = .ok (.ifCond .ne 15, 3) := by decide +kernel
theorem dX8_readRun_34 : decode cX8_readRun 34 = .ok (.aload_n 0, 1) := by decide +kernel
theorem dX8_readRun_35 : decode cX8_readRun 35 = .ok (.iload 7, 2) := by decide +kernel
theorem dX8_readRun_37 : decode cX8_readRun 37 = .ok (.invokevirtual 79, 3) := by decide +kernel
theorem dX8_readRun_40 : decode cX8_readRun 40 = .ok (.invokestatic 86, 3) := by decide +kernel
theorem dX8_readRun_43 : decode cX8_readRun 43 = .ok (.ifCond .eq 60, 3) := by decide +kernel
theorem dX8_readRun_46 : decode cX8_readRun 46 = .ok (.aload_n 0, 1) := by decide +kernel
theorem dX8_readRun_47 : decode cX8_readRun 47 = .ok (.iload 7, 2) := by decide +kernel
theorem dX8_readRun_49 : decode cX8_readRun 49 = .ok (.invokevirtual 79, 3) := by decide +kernel
theorem dX8_readRun_52 : decode cX8_readRun 52 = .ok (.istore 8, 2) := by decide +kernel
theorem dX8_readRun_54 : decode cX8_readRun 54 = .ok (.iload 8, 2) := by decide +kernel
theorem dX8_readRun_56 : decode cX8_readRun 56 = .ok (.invokestatic 82, 3) := by decide +kernel
theorem dX8_readRun_59 : decode cX8_readRun 59 = .ok (.ifCond .eq 22, 3) := by decide +kernel
theorem dX8_readRun_62 : decode cX8_readRun 62 = .ok (.iinc 2 1, 3) := by decide +kernel
theorem dX8_readRun_65 : decode cX8_readRun 65 = .ok (.lload_n 3, 1) := by decide +kernel
theorem dX8_readRun_66 : decode cX8_readRun 66 = .ok (.ldc2_w 92, 3) := by decide +kernel
theorem dX8_readRun_69 : decode cX8_readRun 69 = .ok (.lmul, 1) := by decide +kernel
theorem dX8_readRun_70 : decode cX8_readRun 70 = .ok (.iload 8, 2) := by decide +kernel
theorem dX8_readRun_72 : decode cX8_readRun 72 = .ok (.bipush 96, 2) := by decide +kernel
theorem dX8_readRun_74 : decode cX8_readRun 74 = .ok (.isub, 1) := by decide +kernel
theorem dX8_readRun_75 : decode cX8_readRun 75 = .ok (.i2l, 1) := by decide +kernel
theorem dX8_readRun_76 : decode cX8_readRun 76 = .ok (.ladd, 1) := by decide +kernel
theorem dX8_readRun_77 : decode cX8_readRun 77 = .ok (.lstore_n 3, 1) := by decide +kernel
theorem dX8_readRun_78 : decode cX8_readRun 78 = .ok (.goto 19, 3) := by decide +kernel
theorem dX8_readRun_81 : decode cX8_readRun 81 = .ok (.iinc 5 1, 3) := by decide +kernel
theorem dX8_readRun_84 : decode cX8_readRun 84 = .ok (.iload 6, 2) := by decide +kernel
theorem dX8_readRun_86 : decode cX8_readRun 86 = .ok (.bipush 10, 2) := by decide +kernel
theorem dX8_readRun_88 : decode cX8_readRun 88 = .ok (.imul, 1) := by decide +kernel
theorem dX8_readRun_89 : decode cX8_readRun 89 = .ok (.iload 8, 2) := by decide +kernel
theorem dX8_readRun_91 : decode cX8_readRun 91 = .ok (.bipush 48, 2) := by decide +kernel
theorem dX8_readRun_93 : decode cX8_readRun 93 = .ok (.isub, 1) := by decide +kernel
theorem dX8_readRun_94 : decode cX8_readRun 94 = .ok (.iadd, 1) := by decide +kernel
theorem dX8_readRun_95 : decode cX8_readRun 95 = .ok (.istore 6, 2) := by decide +kernel
theorem dX8_readRun_97 : decode cX8_readRun 97 = .ok (.iinc 7 1, 3) := by decide +kernel
theorem dX8_readRun_100 : decode cX8_readRun 100 = .ok (.goto (-87), 3) := by decide +kernel
theorem dX8_readRun_103 : decode cX8_readRun 103 = .ok (.iload 5, 2) := by decide +kernel
theorem dX8_readRun_105 : decode cX8_readRun 105 = .ok (.ifCond .ne 23, 3) := by decide +kernel
theorem dX8_readRun_108 : decode cX8_readRun 108 = .ok (.iload_n 2, 1) := by decide +kernel
theorem dX8_readRun_109 : decode cX8_readRun 109 = .ok (.bipush 7, 2) := by decide +kernel
theorem dX8_readRun_111 : decode cX8_readRun 111 = .ok (.if_icmp .gt 17, 3) := by decide +kernel
theorem dX8_readRun_114 : decode cX8_readRun 114 = .ok (.aload_n 0, 1) := by decide +kernel
theorem dX8_readRun_115 : decode cX8_readRun 115 = .ok (.iconst 1, 1) := by decide +kernel
theorem dX8_readRun_116 : decode cX8_readRun 116 = .ok (.iload_n 1, 1) := by decide +kernel
theorem dX8_readRun_117 : decode cX8_readRun 117 = .ok (.lload_n 3, 1) := by decide +kernel
theorem dX8_readRun_118 : decode cX8_readRun 118 = .ok (.lload_n 3, 1) := by decide +kernel
theorem dX8_readRun_119 : decode cX8_readRun 119 = .ok (.invokestatic 94, 3) := by decide +kernel
theorem dX8_readRun_122 : decode cX8_readRun 122 = .ok (.invokevirtual 72, 3) := by decide +kernel
theorem dX8_readRun_125 : decode cX8_readRun 125 = .ok (.goto 34, 3) := by decide +kernel
theorem dX8_readRun_128 : decode cX8_readRun 128 = .ok (.iload_n 2, 1) := by decide +kernel
theorem dX8_readRun_129 : decode cX8_readRun 129 = .ok (.ifCond .ne 22, 3) := by decide +kernel
theorem dX8_readRun_132 : decode cX8_readRun 132 = .ok (.iload 5, 2) := by decide +kernel
theorem dX8_readRun_134 : decode cX8_readRun 134 = .ok (.iconst 3, 1) := by decide +kernel
theorem dX8_readRun_135 : decode cX8_readRun 135 = .ok (.if_icmp .gt 16, 3) := by decide +kernel
theorem dX8_readRun_138 : decode cX8_readRun 138 = .ok (.aload_n 0, 1) := by decide +kernel
theorem dX8_readRun_139 : decode cX8_readRun 139 = .ok (.iconst 2, 1) := by decide +kernel
theorem dX8_readRun_140 : decode cX8_readRun 140 = .ok (.iload_n 1, 1) := by decide +kernel
theorem dX8_readRun_141 : decode cX8_readRun 141 = .ok (.iload 6, 2) := by decide +kernel
theorem dX8_readRun_143 : decode cX8_readRun 143 = .ok (.i2l, 1) := by decide +kernel
theorem dX8_readRun_144 : decode cX8_readRun 144 = .ok (.aconst_null, 1) := by decide +kernel
theorem dX8_readRun_145 : decode cX8_readRun 145 = .ok (.invokevirtual 72, 3) := by decide +kernel
theorem dX8_readRun_148 : decode cX8_readRun 148 = .ok (.goto 11, 3) := by decide +kernel
theorem dX8_readRun_151 : decode cX8_readRun 151 = .ok (.aload_n 0, 1) := by decide +kernel
theorem dX8_readRun_152 : decode cX8_readRun 152 = .ok (.iconst 3, 1) := by decide +kernel
theorem dX8_readRun_153 : decode cX8_readRun 153 = .ok (.iload_n 1, 1) := by decide +kernel
theorem dX8_readRun_154 : decode cX8_readRun 154 = .ok (.lconst 0, 1) := by decide +kernel
theorem dX8_readRun_155 : decode cX8_readRun 155 = .ok (.aconst_null, 1) := by decide +kernel
theorem dX8_readRun_156 : decode cX8_readRun 156 = .ok (.invokevirtual 72, 3) := by decide +kernel
theorem dX8_readRun_159 : decode cX8_readRun 159 = .ok (.iload 7, 2) := by decide +kernel
theorem dX8_readRun_161 : decode cX8_readRun 161 = .ok (.ireturn, 1) := by decide +kernel
theorem dX8_addToken_0 : decode cX8_addToken 0 = .ok (.aload_n 0, 1) := by decide +kernel
theorem dX8_addToken_1 : decode cX8_addToken 1 = .ok (.getfield 36, 3) := by decide +kernel
theorem dX8_addToken_4 : decode cX8_addToken 4 = .ok (.aload_n 0, 1) := by decide +kernel
theorem dX8_addToken_5 : decode cX8_addToken 5 = .ok (.getfield 19, 3) := by decide +kernel
theorem dX8_addToken_8 : decode cX8_addToken 8 = .ok (.arraylength, 1) := by decide +kernel
theorem dX8_addToken_9 : decode cX8_addToken 9 = .ok (.if_icmp .ge 54, 3) := by decide +kernel
theorem dX8_addToken_12 : decode cX8_addToken 12 = .ok (.aload_n 0, 1) := by decide +kernel
theorem dX8_addToken_13 : decode cX8_addToken 13 = .ok (.getfield 19, 3) := by decide +kernel
theorem dX8_addToken_16 : decode cX8_addToken 16 = .ok (.aload_n 0, 1) := by decide +kernel
theorem dX8_addToken_17 : decode cX8_addToken 17 = .ok (.getfield 36, 3) := by decide +kernel
theorem dX8_addToken_20 : decode cX8_addToken 20 = .ok (.iload_n 1, 1) := by decide +kernel
theorem dX8_addToken_21 : decode cX8_addToken 21 = .ok (.iastore, 1) := by decide +kernel
theorem dX8_addToken_22 : decode cX8_addToken 22 = .ok (.aload_n 0, 1) := by decide +kernel
theorem dX8_addToken_23 : decode cX8_addToken 23 = .ok (.getfield 23, 3) := by decide +kernel
theorem dX8_addToken_26 : decode cX8_addToken 26 = .ok (.aload_n 0, 1) := by decide +kernel
theorem dX8_addToken_27 : decode cX8_addToken 27 = .ok (.getfield 36, 3) := by decide +kernel
theorem dX8_addToken_30 : decode cX8_addToken 30 = .ok (.iload_n 2, 1) := by decide +kernel
theorem dX8_addToken_31 : decode cX8_addToken 31 = .ok (.iastore, 1) := by decide +kernel
theorem dX8_addToken_32 : decode cX8_addToken 32 = .ok (.aload_n 0, 1) := by decide +kernel
theorem dX8_addToken_33 : decode cX8_addToken 33 = .ok (.getfield 26, 3) := by decide +kernel
theorem dX8_addToken_36 : decode cX8_addToken 36 = .ok (.aload_n 0, 1) := by decide +kernel
theorem dX8_addToken_37 : decode cX8_addToken 37 = .ok (.getfield 36, 3) := by decide +kernel
theorem dX8_addToken_40 : decode cX8_addToken 40 = .ok (.lload_n 3, 1) := by decide +kernel
theorem dX8_addToken_41 : decode cX8_addToken 41 = .ok (.lastore, 1) := by decide +kernel
theorem dX8_addToken_42 : decode cX8_addToken 42 = .ok (.aload_n 0, 1) := by decide +kernel
theorem dX8_addToken_43 : decode cX8_addToken 43 = .ok (.getfield 32, 3) := by decide +kernel
theorem dX8_addToken_46 : decode cX8_addToken 46 = .ok (.aload_n 0, 1) := by decide +kernel
theorem dX8_addToken_47 : decode cX8_addToken 47 = .ok (.getfield 36, 3) := by decide +kernel
theorem dX8_addToken_50 : decode cX8_addToken 50 = .ok (.aload 5, 2) := by decide +kernel
theorem dX8_addToken_52 : decode cX8_addToken 52 = .ok (.aastore, 1) := by decide +kernel
theorem dX8_addToken_53 : decode cX8_addToken 53 = .ok (.aload_n 0, 1) := by decide +kernel
theorem dX8_addToken_54 : decode cX8_addToken 54 = .ok (.dup, 1) := by decide +kernel
theorem dX8_addToken_55 : decode cX8_addToken 55 = .ok (.getfield 36, 3) := by decide +kernel
theorem dX8_addToken_58 : decode cX8_addToken 58 = .ok (.iconst 1, 1) := by decide +kernel
theorem dX8_addToken_59 : decode cX8_addToken 59 = .ok (.iadd, 1) := by decide +kernel
theorem dX8_addToken_60 : decode cX8_addToken 60 = .ok (.putfield 36, 3) := by decide +kernel
theorem dX8_addToken_63 : decode cX8_addToken 63 = .ok (.return_, 1) := by decide +kernel
theorem dX8_wordOf_0 : decode cX8_wordOf 0 = .ok (.iconst 0, 1) := by decide +kernel
theorem dX8_wordOf_1 : decode cX8_wordOf 1 = .ok (.istore_n 2, 1) := by decide +kernel
theorem dX8_wordOf_2 : decode cX8_wordOf 2 = .ok (.iload_n 2, 1) := by decide +kernel
theorem dX8_wordOf_3 : decode cX8_wordOf 3 = .ok (.getstatic 98, 3) := by decide +kernel
theorem dX8_wordOf_6 : decode cX8_wordOf 6 = .ok (.arraylength, 1) := by decide +kernel
theorem dX8_wordOf_7 : decode cX8_wordOf 7 = .ok (.if_icmp .ge 28, 3) := by decide +kernel
theorem dX8_wordOf_10 : decode cX8_wordOf 10 = .ok (.getstatic 98, 3) := by decide +kernel
theorem dX8_wordOf_13 : decode cX8_wordOf 13 = .ok (.iload_n 2, 1) := by decide +kernel
theorem dX8_wordOf_14 : decode cX8_wordOf 14 = .ok (.aaload, 1) := by decide +kernel
theorem dX8_wordOf_15 : decode cX8_wordOf 15 = .ok (.getfield 101, 3) := by decide +kernel
theorem dX8_wordOf_18 : decode cX8_wordOf 18 = .ok (.lload_n 0, 1) := by decide +kernel
theorem dX8_wordOf_19 : decode cX8_wordOf 19 = .ok (.lcmp, 1) := by decide +kernel
theorem dX8_wordOf_20 : decode cX8_wordOf 20 = .ok (.ifCond .ne 9, 3) := by decide +kernel
theorem dX8_wordOf_23 : decode cX8_wordOf 23 = .ok (.getstatic 98, 3) := by decide +kernel
theorem dX8_wordOf_26 : decode cX8_wordOf 26 = .ok (.iload_n 2, 1) := by decide +kernel
theorem dX8_wordOf_27 : decode cX8_wordOf 27 = .ok (.aaload, 1) := by decide +kernel
theorem dX8_wordOf_28 : decode cX8_wordOf 28 = .ok (.areturn, 1) := by decide +kernel
theorem dX8_wordOf_29 : decode cX8_wordOf 29 = .ok (.iinc 2 1, 3) := by decide +kernel
theorem dX8_wordOf_32 : decode cX8_wordOf 32 = .ok (.goto (-30), 3) := by decide +kernel
theorem dX8_wordOf_35 : decode cX8_wordOf 35 = .ok (.aconst_null, 1) := by decide +kernel
theorem dX8_wordOf_36 : decode cX8_wordOf 36 = .ok (.areturn, 1) := by decide +kernel
theorem dX8_isLetter_0 : decode cX8_isLetter 0 = .ok (.iload_n 0, 1) := by decide +kernel
theorem dX8_isLetter_1 : decode cX8_isLetter 1 = .ok (.bipush 97, 2) := by decide +kernel
theorem dX8_isLetter_3 : decode cX8_isLetter 3 = .ok (.if_icmp .lt 13, 3) := by decide +kernel
theorem dX8_isLetter_6 : decode cX8_isLetter 6 = .ok (.iload_n 0, 1) := by decide +kernel
theorem dX8_isLetter_7 : decode cX8_isLetter 7 = .ok (.bipush 122, 2) := by decide +kernel
theorem dX8_isLetter_9 : decode cX8_isLetter 9 = .ok (.if_icmp .gt 7, 3) := by decide +kernel
theorem dX8_isLetter_12 : decode cX8_isLetter 12 = .ok (.iconst 1, 1) := by decide +kernel
theorem dX8_isLetter_13 : decode cX8_isLetter 13 = .ok (.goto 4, 3) := by decide +kernel
theorem dX8_isLetter_16 : decode cX8_isLetter 16 = .ok (.iconst 0, 1) := by decide +kernel
theorem dX8_isLetter_17 : decode cX8_isLetter 17 = .ok (.ireturn, 1) := by decide +kernel
theorem dX8_isDigit_0 : decode cX8_isDigit 0 = .ok (.iload_n 0, 1) := by decide +kernel
theorem dX8_isDigit_1 : decode cX8_isDigit 1 = .ok (.bipush 48, 2) := by decide +kernel
theorem dX8_isDigit_3 : decode cX8_isDigit 3 = .ok (.if_icmp .lt 13, 3) := by decide +kernel
theorem dX8_isDigit_6 : decode cX8_isDigit 6 = .ok (.iload_n 0, 1) := by decide +kernel
theorem dX8_isDigit_7 : decode cX8_isDigit 7 = .ok (.bipush 57, 2) := by decide +kernel
theorem dX8_isDigit_9 : decode cX8_isDigit 9 = .ok (.if_icmp .gt 7, 3) := by decide +kernel
theorem dX8_isDigit_12 : decode cX8_isDigit 12 = .ok (.iconst 1, 1) := by decide +kernel
theorem dX8_isDigit_13 : decode cX8_isDigit 13 = .ok (.goto 4, 3) := by decide +kernel
theorem dX8_isDigit_16 : decode cX8_isDigit 16 = .ok (.iconst 0, 1) := by decide +kernel
theorem dX8_isDigit_17 : decode cX8_isDigit 17 = .ok (.ireturn, 1) := by decide +kernel
theorem dX8_step_0 : decode cX8_step 0 = .ok (.aload_n 0, 1) := by decide +kernel
theorem dX8_step_1 : decode cX8_step 1 = .ok (.getfield 39, 3) := by decide +kernel
theorem dX8_step_4 : decode cX8_step 4 = .ok (.aload_n 0, 1) := by decide +kernel
theorem dX8_step_5 : decode cX8_step 5 = .ok (.getfield 36, 3) := by decide +kernel
theorem dX8_step_8 : decode cX8_step 8 = .ok (.iconst 1, 1) := by decide +kernel
theorem dX8_step_9 : decode cX8_step 9 = .ok (.isub, 1) := by decide +kernel
theorem dX8_step_10 : decode cX8_step 10 = .ok (.if_icmp .ge 52, 3) := by decide +kernel
theorem dX8_step_13 : decode cX8_step 13 = .ok (.aload_n 0, 1) := by decide +kernel
theorem dX8_step_14 : decode cX8_step 14 = .ok (.dup, 1) := by decide +kernel
theorem dX8_step_15 : decode cX8_step 15 = .ok (.getfield 39, 3) := by decide +kernel
theorem dX8_step_18 : decode cX8_step 18 = .ok (.iconst 1, 1) := by decide +kernel
theorem dX8_step_19 : decode cX8_step 19 = .ok (.iadd, 1) := by decide +kernel
theorem dX8_step_20 : decode cX8_step 20 = .ok (.putfield 39, 3) := by decide +kernel
theorem dX8_step_23 : decode cX8_step 23 = .ok (.aload_n 0, 1) := by decide +kernel
theorem dX8_step_24 : decode cX8_step 24 = .ok (.aload_n 0, 1) := by decide +kernel
theorem dX8_step_25 : decode cX8_step 25 = .ok (.getfield 19, 3) := by decide +kernel
theorem dX8_step_28 : decode cX8_step 28 = .ok (.aload_n 0, 1) := by decide +kernel
theorem dX8_step_29 : decode cX8_step 29 = .ok (.getfield 39, 3) := by decide +kernel
theorem dX8_step_32 : decode cX8_step 32 = .ok (.iaload, 1) := by decide +kernel
theorem dX8_step_33 : decode cX8_step 33 = .ok (.putfield 42, 3) := by decide +kernel
theorem dX8_step_36 : decode cX8_step 36 = .ok (.aload_n 0, 1) := by decide +kernel
theorem dX8_step_37 : decode cX8_step 37 = .ok (.aload_n 0, 1) := by decide +kernel
theorem dX8_step_38 : decode cX8_step 38 = .ok (.getfield 26, 3) := by decide +kernel
theorem dX8_step_41 : decode cX8_step 41 = .ok (.aload_n 0, 1) := by decide +kernel
theorem dX8_step_42 : decode cX8_step 42 = .ok (.getfield 39, 3) := by decide +kernel
theorem dX8_step_45 : decode cX8_step 45 = .ok (.laload, 1) := by decide +kernel
theorem dX8_step_46 : decode cX8_step 46 = .ok (.putfield 45, 3) := by decide +kernel
theorem dX8_step_49 : decode cX8_step 49 = .ok (.aload_n 0, 1) := by decide +kernel
theorem dX8_step_50 : decode cX8_step 50 = .ok (.aload_n 0, 1) := by decide +kernel
theorem dX8_step_51 : decode cX8_step 51 = .ok (.getfield 32, 3) := by decide +kernel
theorem dX8_step_54 : decode cX8_step 54 = .ok (.aload_n 0, 1) := by decide +kernel
theorem dX8_step_55 : decode cX8_step 55 = .ok (.getfield 39, 3) := by decide +kernel
theorem dX8_step_58 : decode cX8_step 58 = .ok (.aaload, 1) := by decide +kernel
theorem dX8_step_59 : decode cX8_step 59 = .ok (.putfield 49, 3) := by decide +kernel
theorem dX8_step_62 : decode cX8_step 62 = .ok (.return_, 1) := by decide +kernel
theorem dX8_refuse_0 : decode cX8_refuse 0 = .ok (.aload_n 0, 1) := by decide +kernel
theorem dX8_refuse_1 : decode cX8_refuse 1 = .ok (.getfield 53, 3) := by decide +kernel
theorem dX8_refuse_4 : decode cX8_refuse 4 = .ok (.ifCond .ne 39, 3) := by decide +kernel
theorem dX8_refuse_7 : decode cX8_refuse 7 = .ok (.aload_n 0, 1) := by decide +kernel
theorem dX8_refuse_8 : decode cX8_refuse 8 = .ok (.getfield 39, 3) := by decide +kernel
theorem dX8_refuse_11 : decode cX8_refuse 11 = .ok (.ifCond .lt 32, 3) := by decide +kernel
theorem dX8_refuse_14 : decode cX8_refuse 14 = .ok (.aload_n 0, 1) := by decide +kernel
theorem dX8_refuse_15 : decode cX8_refuse 15 = .ok (.getfield 39, 3) := by decide +kernel
theorem dX8_refuse_18 : decode cX8_refuse 18 = .ok (.aload_n 0, 1) := by decide +kernel
theorem dX8_refuse_19 : decode cX8_refuse 19 = .ok (.getfield 36, 3) := by decide +kernel
theorem dX8_refuse_22 : decode cX8_refuse 22 = .ok (.if_icmp .ge 21, 3) := by decide +kernel
theorem dX8_refuse_25 : decode cX8_refuse 25 = .ok (.aload_n 0, 1) := by decide +kernel
theorem dX8_refuse_26 : decode cX8_refuse 26 = .ok (.iload_n 1, 1) := by decide +kernel
theorem dX8_refuse_27 : decode cX8_refuse 27 = .ok (.putfield 53, 3) := by decide +kernel
theorem dX8_refuse_30 : decode cX8_refuse 30 = .ok (.aload_n 0, 1) := by decide +kernel
theorem dX8_refuse_31 : decode cX8_refuse 31 = .ok (.aload_n 0, 1) := by decide +kernel
theorem dX8_refuse_32 : decode cX8_refuse 32 = .ok (.getfield 23, 3) := by decide +kernel
theorem dX8_refuse_35 : decode cX8_refuse 35 = .ok (.aload_n 0, 1) := by decide +kernel
theorem dX8_refuse_36 : decode cX8_refuse 36 = .ok (.getfield 39, 3) := by decide +kernel
theorem dX8_refuse_39 : decode cX8_refuse 39 = .ok (.iaload, 1) := by decide +kernel
theorem dX8_refuse_40 : decode cX8_refuse 40 = .ok (.putfield 56, 3) := by decide +kernel
theorem dX8_refuse_43 : decode cX8_refuse 43 = .ok (.iconst 0, 1) := by decide +kernel
theorem dX8_refuse_44 : decode cX8_refuse 44 = .ok (.ireturn, 1) := by decide +kernel
theorem dX8_atEnd_0 : decode cX8_atEnd 0 = .ok (.aload_n 0, 1) := by decide +kernel
theorem dX8_atEnd_1 : decode cX8_atEnd 1 = .ok (.getfield 42, 3) := by decide +kernel
theorem dX8_atEnd_4 : decode cX8_atEnd 4 = .ok (.ifCond .ne 7, 3) := by decide +kernel
theorem dX8_atEnd_7 : decode cX8_atEnd 7 = .ok (.iconst 1, 1) := by decide +kernel
theorem dX8_atEnd_8 : decode cX8_atEnd 8 = .ok (.goto 4, 3) := by decide +kernel
theorem dX8_atEnd_11 : decode cX8_atEnd 11 = .ok (.iconst 0, 1) := by decide +kernel
theorem dX8_atEnd_12 : decode cX8_atEnd 12 = .ok (.ireturn, 1) := by decide +kernel
theorem dX8_atName_0 : decode cX8_atName 0 = .ok (.aload_n 0, 1) := by decide +kernel
theorem dX8_atName_1 : decode cX8_atName 1 = .ok (.getfield 42, 3) := by decide +kernel
theorem dX8_atName_4 : decode cX8_atName 4 = .ok (.iconst 1, 1) := by decide +kernel
theorem dX8_atName_5 : decode cX8_atName 5 = .ok (.if_icmp .ne 14, 3) := by decide +kernel
theorem dX8_atName_8 : decode cX8_atName 8 = .ok (.aload_n 0, 1) := by decide +kernel
theorem dX8_atName_9 : decode cX8_atName 9 = .ok (.getfield 49, 3) := by decide +kernel
theorem dX8_atName_12 : decode cX8_atName 12 = .ok (.ifnonnull 7, 3) := by decide +kernel
theorem dX8_atName_15 : decode cX8_atName 15 = .ok (.iconst 1, 1) := by decide +kernel
theorem dX8_atName_16 : decode cX8_atName 16 = .ok (.goto 4, 3) := by decide +kernel
theorem dX8_atName_19 : decode cX8_atName 19 = .ok (.iconst 0, 1) := by decide +kernel
theorem dX8_atName_20 : decode cX8_atName 20 = .ok (.ireturn, 1) := by decide +kernel
theorem dX8_takeSign_0 : decode cX8_takeSign 0 = .ok (.aload_n 0, 1) := by decide +kernel
theorem dX8_takeSign_1 : decode cX8_takeSign 1 = .ok (.getfield 42, 3) := by decide +kernel
theorem dX8_takeSign_4 : decode cX8_takeSign 4 = .ok (.iload_n 1, 1) := by decide +kernel
theorem dX8_takeSign_5 : decode cX8_takeSign 5 = .ok (.if_icmp .eq 9, 3) := by decide +kernel
theorem dX8_takeSign_8 : decode cX8_takeSign 8 = .ok (.aload_n 0, 1) := by decide +kernel
theorem dX8_takeSign_9 : decode cX8_takeSign 9 = .ok (.iconst 1, 1) := by decide +kernel
theorem dX8_takeSign_10 : decode cX8_takeSign 10 = .ok (.invokevirtual 104, 3) := by decide +kernel
theorem dX8_takeSign_13 : decode cX8_takeSign 13 = .ok (.ireturn, 1) := by decide +kernel
theorem dX8_takeSign_14 : decode cX8_takeSign 14 = .ok (.aload_n 0, 1) := by decide +kernel
theorem dX8_takeSign_15 : decode cX8_takeSign 15 = .ok (.invokevirtual 76, 3) := by decide +kernel
theorem dX8_takeSign_18 : decode cX8_takeSign 18 = .ok (.iconst 1, 1) := by decide +kernel
theorem dX8_takeSign_19 : decode cX8_takeSign 19 = .ok (.ireturn, 1) := by decide +kernel
theorem dX8_takeWord_0 : decode cX8_takeWord 0 = .ok (.aload_n 0, 1) := by decide +kernel
theorem dX8_takeWord_1 : decode cX8_takeWord 1 = .ok (.getfield 49, 3) := by decide +kernel
theorem dX8_takeWord_4 : decode cX8_takeWord 4 = .ok (.aload_n 1, 1) := by decide +kernel
theorem dX8_takeWord_5 : decode cX8_takeWord 5 = .ok (.if_acmp .eq 9, 3) := by decide +kernel
theorem dX8_takeWord_8 : decode cX8_takeWord 8 = .ok (.aload_n 0, 1) := by decide +kernel
theorem dX8_takeWord_9 : decode cX8_takeWord 9 = .ok (.iconst 1, 1) := by decide +kernel
theorem dX8_takeWord_10 : decode cX8_takeWord 10 = .ok (.invokevirtual 104, 3) := by decide +kernel
theorem dX8_takeWord_13 : decode cX8_takeWord 13 = .ok (.ireturn, 1) := by decide +kernel
theorem dX8_takeWord_14 : decode cX8_takeWord 14 = .ok (.aload_n 0, 1) := by decide +kernel
theorem dX8_takeWord_15 : decode cX8_takeWord 15 = .ok (.invokevirtual 76, 3) := by decide +kernel
theorem dX8_takeWord_18 : decode cX8_takeWord 18 = .ok (.iconst 1, 1) := by decide +kernel
theorem dX8_takeWord_19 : decode cX8_takeWord 19 = .ok (.ireturn, 1) := by decide +kernel
theorem dX8_takeNumber_0 : decode cX8_takeNumber 0 = .ok (.aload_n 0, 1) := by decide +kernel
theorem dX8_takeNumber_1 : decode cX8_takeNumber 1 = .ok (.getfield 42, 3) := by decide +kernel
theorem dX8_takeNumber_4 : decode cX8_takeNumber 4 = .ok (.iconst 2, 1) := by decide +kernel
theorem dX8_takeNumber_5 : decode cX8_takeNumber 5 = .ok (.if_icmp .eq 11, 3) := by decide +kernel
theorem dX8_takeNumber_8 : decode cX8_takeNumber 8 = .ok (.aload_n 0, 1) := by decide +kernel
theorem dX8_takeNumber_9 : decode cX8_takeNumber 9 = .ok (.iconst 1, 1) := by decide +kernel
theorem dX8_takeNumber_10 : decode cX8_takeNumber 10 = .ok (.invokevirtual 104, 3) := by decide +kernel
theorem dX8_takeNumber_13 : decode cX8_takeNumber 13 = .ok (.pop, 1) := by decide +kernel
theorem dX8_takeNumber_14 : decode cX8_takeNumber 14 = .ok (.iconst (-1), 1) := by decide +kernel
theorem dX8_takeNumber_15 : decode cX8_takeNumber 15 = .ok (.ireturn, 1) := by decide +kernel
theorem dX8_takeNumber_16 : decode cX8_takeNumber 16 = .ok (.aload_n 0, 1) := by decide +kernel
theorem dX8_takeNumber_17 : decode cX8_takeNumber 17 = .ok (.getfield 45, 3) := by decide +kernel
theorem dX8_takeNumber_20 : decode cX8_takeNumber 20 = .ok (.iload_n 1, 1) := by decide +kernel
theorem dX8_takeNumber_21 : decode cX8_takeNumber 21 = .ok (.i2l, 1) := by decide +kernel
theorem dX8_takeNumber_22 : decode cX8_takeNumber 22 = .ok (.lcmp, 1) := by decide +kernel
theorem dX8_takeNumber_23 : decode cX8_takeNumber 23 = .ok (.ifCond .lt 13, 3) := by decide +kernel
theorem dX8_takeNumber_26 : decode cX8_takeNumber 26 = .ok (.aload_n 0, 1) := by decide +kernel
theorem dX8_takeNumber_27 : decode cX8_takeNumber 27 = .ok (.getfield 45, 3) := by decide +kernel
theorem dX8_takeNumber_30 : decode cX8_takeNumber 30 = .ok (.iload_n 2, 1) := by decide +kernel
theorem dX8_takeNumber_31 : decode cX8_takeNumber 31 = .ok (.i2l, 1) := by decide +kernel
theorem dX8_takeNumber_32 : decode cX8_takeNumber 32 = .ok (.lcmp, 1) := by decide +kernel
theorem dX8_takeNumber_33 : decode cX8_takeNumber 33 = .ok (.ifCond .le 11, 3) := by decide +kernel
theorem dX8_takeNumber_36 : decode cX8_takeNumber 36 = .ok (.aload_n 0, 1) := by decide +kernel
theorem dX8_takeNumber_37 : decode cX8_takeNumber 37 = .ok (.iconst 2, 1) := by decide +kernel
theorem dX8_takeNumber_38 : decode cX8_takeNumber 38 = .ok (.invokevirtual 104, 3) := by decide +kernel
theorem dX8_takeNumber_41 : decode cX8_takeNumber 41 = .ok (.pop, 1) := by decide +kernel
theorem dX8_takeNumber_42 : decode cX8_takeNumber 42 = .ok (.iconst (-1), 1) := by decide +kernel
theorem dX8_takeNumber_43 : decode cX8_takeNumber 43 = .ok (.ireturn, 1) := by decide +kernel
theorem dX8_takeNumber_44 : decode cX8_takeNumber 44 = .ok (.aload_n 0, 1) := by decide +kernel
theorem dX8_takeNumber_45 : decode cX8_takeNumber 45 = .ok (.getfield 45, 3) := by decide +kernel
theorem dX8_takeNumber_48 : decode cX8_takeNumber 48 = .ok (.l2i, 1) := by decide +kernel
theorem dX8_takeNumber_49 : decode cX8_takeNumber 49 = .ok (.istore_n 3, 1) := by decide +kernel
theorem dX8_takeNumber_50 : decode cX8_takeNumber 50 = .ok (.aload_n 0, 1) := by decide +kernel
theorem dX8_takeNumber_51 : decode cX8_takeNumber 51 = .ok (.invokevirtual 76, 3) := by decide +kernel
theorem dX8_takeNumber_54 : decode cX8_takeNumber 54 = .ok (.iload_n 3, 1) := by decide +kernel
theorem dX8_takeNumber_55 : decode cX8_takeNumber 55 = .ok (.ireturn, 1) := by decide +kernel
theorem dX8_landHere_0 : decode cX8_landHere 0 = .ok (.aload_n 0, 1) := by decide +kernel
theorem dX8_landHere_1 : decode cX8_landHere 1 = .ok (.invokevirtual 107, 3) := by decide +kernel
theorem dX8_landHere_4 : decode cX8_landHere 4 = .ok (.ifCond .eq 14, 3) := by decide +kernel
theorem dX8_landHere_7 : decode cX8_landHere 7 = .ok (.aload_n 1, 1) := by decide +kernel
theorem dX8_landHere_8 : decode cX8_landHere 8 = .ok (.aload_n 0, 1) := by decide +kernel
theorem dX8_landHere_9 : decode cX8_landHere 9 = .ok (.getfield 45, 3) := by decide +kernel
theorem dX8_landHere_12 : decode cX8_landHere 12 = .ok (.invokevirtual 111, 3) := by decide +kernel
theorem dX8_landHere_15 : decode cX8_landHere 15 = .ok (.goto 4, 3) := by decide +kernel
theorem dX8_landHere_18 : decode cX8_landHere 18 = .ok (.iconst (-1), 1) := by decide +kernel
theorem dX8_landHere_19 : decode cX8_landHere 19 = .ok (.istore_n 2, 1) := by decide +kernel
theorem dX8_landHere_20 : decode cX8_landHere 20 = .ok (.iload_n 2, 1) := by decide +kernel
theorem dX8_landHere_21 : decode cX8_landHere 21 = .ok (.iconst (-1), 1) := by decide +kernel
theorem dX8_landHere_22 : decode cX8_landHere 22 = .ok (.if_icmp .ne 20, 3) := by decide +kernel
theorem dX8_landHere_25 : decode cX8_landHere 25 = .ok (.aload_n 0, 1) := by decide +kernel
theorem dX8_landHere_26 : decode cX8_landHere 26 = .ok (.aload_n 0, 1) := by decide +kernel
theorem dX8_landHere_27 : decode cX8_landHere 27 = .ok (.invokevirtual 107, 3) := by decide +kernel
theorem dX8_landHere_30 : decode cX8_landHere 30 = .ok (.ifCond .eq 7, 3) := by decide +kernel
theorem dX8_landHere_33 : decode cX8_landHere 33 = .ok (.iconst 3, 1) := by decide +kernel
theorem dX8_landHere_34 : decode cX8_landHere 34 = .ok (.goto 4, 3) := by decide +kernel
theorem dX8_landHere_37 : decode cX8_landHere 37 = .ok (.iconst 1, 1) := by decide +kernel
theorem dX8_landHere_38 : decode cX8_landHere 38 = .ok (.invokevirtual 104, 3) := by decide +kernel
theorem dX8_landHere_41 : decode cX8_landHere 41 = .ok (.pop, 1) := by decide +kernel
theorem dX8_landHere_42 : decode cX8_landHere 42 = .ok (.iload_n 2, 1) := by decide +kernel
theorem dX8_landHere_43 : decode cX8_landHere 43 = .ok (.ireturn, 1) := by decide +kernel
theorem dX8_personHere_0 : decode cX8_personHere 0 = .ok (.aload_n 0, 1) := by decide +kernel
theorem dX8_personHere_1 : decode cX8_personHere 1 = .ok (.invokevirtual 107, 3) := by decide +kernel
theorem dX8_personHere_4 : decode cX8_personHere 4 = .ok (.ifCond .eq 14, 3) := by decide +kernel
theorem dX8_personHere_7 : decode cX8_personHere 7 = .ok (.aload_n 1, 1) := by decide +kernel
theorem dX8_personHere_8 : decode cX8_personHere 8 = .ok (.aload_n 0, 1) := by decide +kernel
theorem dX8_personHere_9 : decode cX8_personHere 9 = .ok (.getfield 45, 3) := by decide +kernel
theorem dX8_personHere_12 : decode cX8_personHere 12 = .ok (.invokevirtual 117, 3) := by decide +kernel
theorem dX8_personHere_15 : decode cX8_personHere 15 = .ok (.goto 4, 3) := by decide +kernel
theorem dX8_personHere_18 : decode cX8_personHere 18 = .ok (.iconst (-1), 1) := by decide +kernel
theorem dX8_personHere_19 : decode cX8_personHere 19 = .ok (.istore_n 2, 1) := by decide +kernel
theorem dX8_personHere_20 : decode cX8_personHere 20 = .ok (.iload_n 2, 1) := by decide +kernel
theorem dX8_personHere_21 : decode cX8_personHere 21 = .ok (.iconst (-1), 1) := by decide +kernel
theorem dX8_personHere_22 : decode cX8_personHere 22 = .ok (.if_icmp .ne 20, 3) := by decide +kernel
theorem dX8_personHere_25 : decode cX8_personHere 25 = .ok (.aload_n 0, 1) := by decide +kernel
theorem dX8_personHere_26 : decode cX8_personHere 26 = .ok (.aload_n 0, 1) := by decide +kernel
theorem dX8_personHere_27 : decode cX8_personHere 27 = .ok (.invokevirtual 107, 3) := by decide +kernel
theorem dX8_personHere_30 : decode cX8_personHere 30 = .ok (.ifCond .eq 7, 3) := by decide +kernel
theorem dX8_personHere_33 : decode cX8_personHere 33 = .ok (.iconst 3, 1) := by decide +kernel
theorem dX8_personHere_34 : decode cX8_personHere 34 = .ok (.goto 4, 3) := by decide +kernel
theorem dX8_personHere_37 : decode cX8_personHere 37 = .ok (.iconst 1, 1) := by decide +kernel
theorem dX8_personHere_38 : decode cX8_personHere 38 = .ok (.invokevirtual 104, 3) := by decide +kernel
theorem dX8_personHere_41 : decode cX8_personHere 41 = .ok (.pop, 1) := by decide +kernel
theorem dX8_personHere_42 : decode cX8_personHere 42 = .ok (.iload_n 2, 1) := by decide +kernel
theorem dX8_personHere_43 : decode cX8_personHere 43 = .ok (.ireturn, 1) := by decide +kernel
theorem dX8_takeLand_0 : decode cX8_takeLand 0 = .ok (.aload_n 0, 1) := by decide +kernel
theorem dX8_takeLand_1 : decode cX8_takeLand 1 = .ok (.aload_n 1, 1) := by decide +kernel
theorem dX8_takeLand_2 : decode cX8_takeLand 2 = .ok (.invokevirtual 120, 3) := by decide +kernel
theorem dX8_takeLand_5 : decode cX8_takeLand 5 = .ok (.istore_n 2, 1) := by decide +kernel
theorem dX8_takeLand_6 : decode cX8_takeLand 6 = .ok (.iload_n 2, 1) := by decide +kernel
theorem dX8_takeLand_7 : decode cX8_takeLand 7 = .ok (.iconst (-1), 1) := by decide +kernel
theorem dX8_takeLand_8 : decode cX8_takeLand 8 = .ok (.if_icmp .eq 7, 3) := by decide +kernel
theorem dX8_takeLand_11 : decode cX8_takeLand 11 = .ok (.aload_n 0, 1) := by decide +kernel
theorem dX8_takeLand_12 : decode cX8_takeLand 12 = .ok (.invokevirtual 76, 3) := by decide +kernel
theorem dX8_takeLand_15 : decode cX8_takeLand 15 = .ok (.iload_n 2, 1) := by decide +kernel
theorem dX8_takeLand_16 : decode cX8_takeLand 16 = .ok (.ireturn, 1) := by decide +kernel
theorem dX9_init_0 : decode cX9_init 0 = .ok (.aload_n 0, 1) := by decide +kernel
theorem dX9_init_1 : decode cX9_init 1 = .ok (.invokespecial 3, 3) := by decide +kernel
theorem dX9_init_4 : decode cX9_init 4 = .ok (.aload_n 0, 1) := by decide +kernel
theorem dX9_init_5 : decode cX9_init 5 = .ok (.iconst 0, 1) := by decide +kernel
theorem dX9_init_6 : decode cX9_init 6 = .ok (.putfield 9, 3) := by decide +kernel
theorem dX9_init_9 : decode cX9_init 9 = .ok (.aload_n 0, 1) := by decide +kernel
theorem dX9_init_10 : decode cX9_init 10 = .ok (.iconst 0, 1) := by decide +kernel
theorem dX9_init_11 : decode cX9_init 11 = .ok (.putfield 15, 3) := by decide +kernel
theorem dX9_init_14 : decode cX9_init 14 = .ok (.aload_n 0, 1) := by decide +kernel
theorem dX9_init_15 : decode cX9_init 15 = .ok (.iconst 0, 1) := by decide +kernel
theorem dX9_init_16 : decode cX9_init 16 = .ok (.putfield 18, 3) := by decide +kernel
theorem dX9_init_19 : decode cX9_init 19 = .ok (.aload_n 0, 1) := by decide +kernel
theorem dX9_init_20 : decode cX9_init 20 = .ok (.iconst 0, 1) := by decide +kernel
theorem dX9_init_21 : decode cX9_init 21 = .ok (.putfield 21, 3) := by decide +kernel
theorem dX9_init_24 : decode cX9_init 24 = .ok (.aload_n 0, 1) := by decide +kernel
theorem dX9_init_25 : decode cX9_init 25 = .ok (.iconst 0, 1) := by decide +kernel
theorem dX9_init_26 : decode cX9_init 26 = .ok (.putfield 24, 3) := by decide +kernel
theorem dX9_init_29 : decode cX9_init 29 = .ok (.aload_n 0, 1) := by decide +kernel
theorem dX9_init_30 : decode cX9_init 30 = .ok (.iconst 0, 1) := by decide +kernel
theorem dX9_init_31 : decode cX9_init 31 = .ok (.putfield 27, 3) := by decide +kernel
theorem dX9_init_34 : decode cX9_init 34 = .ok (.aload_n 0, 1) := by decide +kernel
theorem dX9_init_35 : decode cX9_init 35 = .ok (.iconst 0, 1) := by decide +kernel
theorem dX9_init_36 : decode cX9_init 36 = .ok (.putfield 30, 3) := by decide +kernel
theorem dX9_init_39 : decode cX9_init 39 = .ok (.aload_n 0, 1) := by decide +kernel
theorem dX9_init_40 : decode cX9_init 40 = .ok (.iconst 5, 1) := by decide +kernel
theorem dX9_init_41 : decode cX9_init 41 = .ok (.newarray .int, 2) := by decide +kernel
theorem dX9_init_43 : decode cX9_init 43 = .ok (.putfield 33, 3) := by decide +kernel
theorem dX9_init_46 : decode cX9_init 46 = .ok (.aload_n 0, 1) := by decide +kernel
theorem dX9_init_47 : decode cX9_init 47 = .ok (.bipush 7, 2) := by decide +kernel
theorem dX9_init_49 : decode cX9_init 49 = .ok (.newarray .int, 2) := by decide +kernel
theorem dX9_init_51 : decode cX9_init 51 = .ok (.putfield 37, 3) := by decide +kernel
theorem dX9_init_54 : decode cX9_init 54 = .ok (.aload_n 0, 1) := by decide +kernel
theorem dX9_init_55 : decode cX9_init 55 = .ok (.iconst 0, 1) := by decide +kernel
theorem dX9_init_56 : decode cX9_init 56 = .ok (.putfield 40, 3) := by decide +kernel
theorem dX9_init_59 : decode cX9_init 59 = .ok (.aload_n 0, 1) := by decide +kernel
theorem dX9_init_60 : decode cX9_init 60 = .ok (.iconst (-1), 1) := by decide +kernel
theorem dX9_init_61 : decode cX9_init 61 = .ok (.putfield 43, 3) := by decide +kernel
theorem dX9_init_64 : decode cX9_init 64 = .ok (.aload_n 0, 1) := by decide +kernel
theorem dX9_init_65 : decode cX9_init 65 = .ok (.new 46, 3) := by decide +kernel
theorem dX9_init_68 : decode cX9_init 68 = .ok (.dup, 1) := by decide +kernel
theorem dX9_init_69 : decode cX9_init 69 = .ok (.iconst 5, 1) := by decide +kernel
theorem dX9_init_70 : decode cX9_init 70 = .ok (.invokespecial 48, 3) := by decide +kernel
theorem dX9_init_73 : decode cX9_init 73 = .ok (.putfield 51, 3) := by decide +kernel
theorem dX9_init_76 : decode cX9_init 76 = .ok (.aload_n 0, 1) := by decide +kernel
theorem dX9_init_77 : decode cX9_init 77 = .ok (.aload_n 1, 1) := by decide +kernel
theorem dX9_init_78 : decode cX9_init 78 = .ok (.putfield 55, 3) := by decide +kernel
theorem dX9_init_81 : decode cX9_init 81 = .ok (.return_, 1) := by decide +kernel
theorem dX9_findWay_0 : decode cX9_findWay 0 = .ok (.aload_n 0, 1) := by decide +kernel
theorem dX9_findWay_1 : decode cX9_findWay 1 = .ok (.iconst 0, 1) := by decide +kernel
theorem dX9_findWay_2 : decode cX9_findWay 2 = .ok (.putfield 21, 3) := by decide +kernel
theorem dX9_findWay_5 : decode cX9_findWay 5 = .ok (.aload_n 0, 1) := by decide +kernel
theorem dX9_findWay_6 : decode cX9_findWay 6 = .ok (.iload 4, 2) := by decide +kernel
theorem dX9_findWay_8 : decode cX9_findWay 8 = .ok (.putfield 24, 3) := by decide +kernel
theorem dX9_findWay_11 : decode cX9_findWay 11 = .ok (.aload_n 0, 1) := by decide +kernel
theorem dX9_findWay_12 : decode cX9_findWay 12 = .ok (.iload 5, 2) := by decide +kernel
theorem dX9_findWay_14 : decode cX9_findWay 14 = .ok (.putfield 27, 3) := by decide +kernel
theorem dX9_findWay_17 : decode cX9_findWay 17 = .ok (.aload_n 0, 1) := by decide +kernel
theorem dX9_findWay_18 : decode cX9_findWay 18 = .ok (.aload_n 1, 1) := by decide +kernel
theorem dX9_findWay_19 : decode cX9_findWay 19 = .ok (.iload_n 2, 1) := by decide +kernel
theorem dX9_findWay_20 : decode cX9_findWay 20 = .ok (.iload_n 3, 1) := by decide +kernel
theorem dX9_findWay_21 : decode cX9_findWay 21 = .ok (.iconst 5, 1) := by decide +kernel
theorem dX9_findWay_22 : decode cX9_findWay 22 = .ok (.invokevirtual 59, 3) := by decide +kernel
theorem dX9_findWay_25 : decode cX9_findWay 25 = .ok (.aload_n 0, 1) := by decide +kernel
theorem dX9_findWay_26 : decode cX9_findWay 26 = .ok (.getfield 40, 3) := by decide +kernel
theorem dX9_findWay_29 : decode cX9_findWay 29 = .ok (.ifCond .le 7, 3) := by decide +kernel
theorem dX9_findWay_32 : decode cX9_findWay 32 = .ok (.iconst 1, 1) := by decide +kernel
theorem dX9_findWay_33 : decode cX9_findWay 33 = .ok (.goto 4, 3) := by decide +kernel
theorem dX9_findWay_36 : decode cX9_findWay 36 = .ok (.iconst 0, 1) := by decide +kernel
theorem dX9_findWay_37 : decode cX9_findWay 37 = .ok (.ireturn, 1) := by decide +kernel
theorem dX9_longestRound_0 : decode cX9_longestRound 0 = .ok (.aload_n 0, 1) := by decide +kernel
theorem dX9_longestRound_1 : decode cX9_longestRound 1 = .ok (.iconst 1, 1) := by decide +kernel
theorem dX9_longestRound_2 : decode cX9_longestRound 2 = .ok (.putfield 21, 3) := by decide +kernel
theorem dX9_longestRound_5 : decode cX9_longestRound 5 = .ok (.aload_n 0, 1) := by decide +kernel
theorem dX9_longestRound_6 : decode cX9_longestRound 6 = .ok (.aload_n 1, 1) := by decide +kernel
theorem dX9_longestRound_7 : decode cX9_longestRound 7 = .ok (.getfield 63, 3) := by decide +kernel
theorem dX9_longestRound_10 : decode cX9_longestRound 10 = .ok (.iload_n 2, 1) := by decide +kernel
theorem dX9_longestRound_11 : decode cX9_longestRound 11 = .ok (.iaload, 1) := by decide +kernel
theorem dX9_longestRound_12 : decode cX9_longestRound 12 = .ok (.putfield 24, 3) := by decide +kernel
theorem dX9_longestRound_15 : decode cX9_longestRound 15 = .ok (.aload_n 0, 1) := by decide +kernel
theorem dX9_longestRound_16 : decode cX9_longestRound 16 = .ok (.aload_n 1, 1) := by decide +kernel
theorem dX9_longestRound_17 : decode cX9_longestRound 17 = .ok (.iload_n 2, 1) := by decide +kernel
theorem dX9_longestRound_18 : decode cX9_longestRound 18 = .ok (.iconst 0, 1) := by decide +kernel
theorem dX9_longestRound_19 : decode cX9_longestRound 19 = .ok (.iconst 5, 1) := by decide +kernel
theorem dX9_longestRound_20 : decode cX9_longestRound 20 = .ok (.invokevirtual 59, 3) := by decide +kernel
theorem dX9_longestRound_23 : decode cX9_longestRound 23 = .ok (.aload_n 0, 1) := by decide +kernel
theorem dX9_longestRound_24 : decode cX9_longestRound 24 = .ok (.getfield 43, 3) := by decide +kernel
theorem dX9_longestRound_27 : decode cX9_longestRound 27 = .ok (.ireturn, 1) := by decide +kernel
theorem dX9_countRows_0 : decode cX9_countRows 0 = .ok (.aload_n 0, 1) := by decide +kernel
theorem dX9_countRows_1 : decode cX9_countRows 1 = .ok (.iconst 2, 1) := by decide +kernel
theorem dX9_countRows_2 : decode cX9_countRows 2 = .ok (.putfield 21, 3) := by decide +kernel
theorem dX9_countRows_5 : decode cX9_countRows 5 = .ok (.aload_n 0, 1) := by decide +kernel
theorem dX9_countRows_6 : decode cX9_countRows 6 = .ok (.iload_n 3, 1) := by decide +kernel
theorem dX9_countRows_7 : decode cX9_countRows 7 = .ok (.putfield 27, 3) := by decide +kernel
theorem dX9_countRows_10 : decode cX9_countRows 10 = .ok (.aload_n 0, 1) := by decide +kernel
theorem dX9_countRows_11 : decode cX9_countRows 11 = .ok (.aload_n 1, 1) := by decide +kernel
theorem dX9_countRows_12 : decode cX9_countRows 12 = .ok (.iload_n 2, 1) := by decide +kernel
theorem dX9_countRows_13 : decode cX9_countRows 13 = .ok (.iconst 0, 1) := by decide +kernel
theorem dX9_countRows_14 : decode cX9_countRows 14 = .ok (.iconst 4, 1) := by decide +kernel
theorem dX9_countRows_15 : decode cX9_countRows 15 = .ok (.invokevirtual 59, 3) := by decide +kernel
theorem dX9_countRows_18 : decode cX9_countRows 18 = .ok (.aload_n 0, 1) := by decide +kernel
theorem dX9_countRows_19 : decode cX9_countRows 19 = .ok (.getfield 40, 3) := by decide +kernel
theorem dX9_countRows_22 : decode cX9_countRows 22 = .ok (.ireturn, 1) := by decide +kernel
theorem dX9_likeliestEnd_0 : decode cX9_likeliestEnd 0 = .ok (.iconst 0, 1) := by decide +kernel
theorem dX9_likeliestEnd_1 : decode cX9_likeliestEnd 1 = .ok (.istore_n 1, 1) := by decide +kernel
theorem dX9_likeliestEnd_2 : decode cX9_likeliestEnd 2 = .ok (.iconst 1, 1) := by decide +kernel
theorem dX9_likeliestEnd_3 : decode cX9_likeliestEnd 3 = .ok (.istore_n 2, 1) := by decide +kernel
theorem dX9_likeliestEnd_4 : decode cX9_likeliestEnd 4 = .ok (.iload_n 2, 1) := by decide +kernel
theorem dX9_likeliestEnd_5 : decode cX9_likeliestEnd 5 = .ok (.bipush 7, 2) := by decide +kernel
theorem dX9_likeliestEnd_7 : decode cX9_likeliestEnd 7 = .ok (.if_icmp .ge 26, 3) := by decide +kernel
theorem dX9_likeliestEnd_10 : decode cX9_likeliestEnd 10 = .ok (.aload_n 0, 1) := by decide +kernel
theorem dX9_likeliestEnd_11 : decode cX9_likeliestEnd 11 = .ok (.getfield 37, 3) := by decide +kernel
theorem dX9_likeliestEnd_14 : decode cX9_likeliestEnd 14 = .ok (.iload_n 2, 1) := by decide +kernel
theorem dX9_likeliestEnd_15 : decode cX9_likeliestEnd 15 = .ok (.iaload, 1) := by decide +kernel
theorem dX9_likeliestEnd_16 : decode cX9_likeliestEnd 16 = .ok (.aload_n 0, 1) := by decide +kernel
theorem dX9_likeliestEnd_17 : decode cX9_likeliestEnd 17 = .ok (.getfield 37, 3) := by decide +kernel
theorem dX9_likeliestEnd_20 : decode cX9_likeliestEnd 20 = .ok (.iload_n 1, 1) := by decide +kernel
theorem dX9_likeliestEnd_21 : decode cX9_likeliestEnd 21 = .ok (.iaload, 1) := by decide +kernel
theorem dX9_likeliestEnd_22 : decode cX9_likeliestEnd 22 = .ok (.if_icmp .le 5, 3) := by decide +kernel
theorem dX9_likeliestEnd_25 : decode cX9_likeliestEnd 25 = .ok (.iload_n 2, 1) := by decide +kernel
theorem dX9_likeliestEnd_26 : decode cX9_likeliestEnd 26 = .ok (.istore_n 1, 1) := by decide +kernel
theorem dX9_likeliestEnd_27 : decode cX9_likeliestEnd 27 = .ok (.iinc 2 1, 3) := by decide +kernel
theorem dX9_likeliestEnd_30 : decode cX9_likeliestEnd 30 = .ok (.goto (-26), 3) := by decide +kernel
theorem dX9_likeliestEnd_33 : decode cX9_likeliestEnd 33 = .ok (.iload_n 1, 1) := by decide +kernel
theorem dX9_likeliestEnd_34 : decode cX9_likeliestEnd 34 = .ok (.ireturn, 1) := by decide +kernel
theorem dX9_search_0 : decode cX9_search 0 = .ok (.aload_n 0, 1) := by decide +kernel
theorem dX9_search_1 : decode cX9_search 1 = .ok (.aload_n 1, 1) := by decide +kernel
theorem dX9_search_2 : decode cX9_search 2 = .ok (.getfield 68, 3) := by decide +kernel
theorem dX9_search_5 : decode cX9_search 5 = .ok (.putfield 55, 3) := by decide +kernel
theorem dX9_search_8 : decode cX9_search 8 = .ok (.aload_n 0, 1) := by decide +kernel
theorem dX9_search_9 : decode cX9_search 9 = .ok (.aload_n 0, 1) := by decide +kernel
theorem dX9_search_10 : decode cX9_search 10 = .ok (.getfield 55, 3) := by decide +kernel
theorem dX9_search_13 : decode cX9_search 13 = .ok (.getfield 69, 3) := by decide +kernel
theorem dX9_search_16 : decode cX9_search 16 = .ok (.iload_n 2, 1) := by decide +kernel
theorem dX9_search_17 : decode cX9_search 17 = .ok (.iaload, 1) := by decide +kernel
theorem dX9_search_18 : decode cX9_search 18 = .ok (.putfield 9, 3) := by decide +kernel
theorem dX9_search_21 : decode cX9_search 21 = .ok (.aload_n 0, 1) := by decide +kernel
theorem dX9_search_22 : decode cX9_search 22 = .ok (.aload_n 1, 1) := by decide +kernel
theorem dX9_search_23 : decode cX9_search 23 = .ok (.getfield 73, 3) := by decide +kernel
theorem dX9_search_26 : decode cX9_search 26 = .ok (.aload_n 0, 1) := by decide +kernel
theorem dX9_search_27 : decode cX9_search 27 = .ok (.getfield 9, 3) := by decide +kernel
theorem dX9_search_30 : decode cX9_search 30 = .ok (.iaload, 1) := by decide +kernel
theorem dX9_search_31 : decode cX9_search 31 = .ok (.iload_n 3, 1) := by decide +kernel
theorem dX9_search_32 : decode cX9_search 32 = .ok (.ior, 1) := by decide +kernel
theorem dX9_search_33 : decode cX9_search 33 = .ok (.putfield 15, 3) := by decide +kernel
theorem dX9_search_36 : decode cX9_search 36 = .ok (.aload_n 0, 1) := by decide +kernel
theorem dX9_search_37 : decode cX9_search 37 = .ok (.aload_n 1, 1) := by decide +kernel
theorem dX9_search_38 : decode cX9_search 38 = .ok (.getfield 76, 3) := by decide +kernel
theorem dX9_search_41 : decode cX9_search 41 = .ok (.putfield 18, 3) := by decide +kernel
theorem dX9_search_44 : decode cX9_search 44 = .ok (.aload_n 0, 1) := by decide +kernel
theorem dX9_search_45 : decode cX9_search 45 = .ok (.iload 4, 2) := by decide +kernel
theorem dX9_search_47 : decode cX9_search 47 = .ok (.putfield 30, 3) := by decide +kernel
theorem dX9_search_50 : decode cX9_search 50 = .ok (.aload_n 0, 1) := by decide +kernel
theorem dX9_search_51 : decode cX9_search 51 = .ok (.iconst 0, 1) := by decide +kernel
theorem dX9_search_52 : decode cX9_search 52 = .ok (.putfield 40, 3) := by decide +kernel
theorem dX9_search_55 : decode cX9_search 55 = .ok (.aload_n 0, 1) := by decide +kernel
theorem dX9_search_56 : decode cX9_search 56 = .ok (.iconst (-1), 1) := by decide +kernel
theorem dX9_search_57 : decode cX9_search 57 = .ok (.putfield 43, 3) := by decide +kernel
theorem dX9_search_60 : decode cX9_search 60 = .ok (.iconst 0, 1) := by decide +kernel
theorem dX9_search_61 : decode cX9_search 61 = .ok (.istore 5, 2) := by decide +kernel
theorem dX9_search_63 : decode cX9_search 63 = .ok (.iload 5, 2) := by decide +kernel
theorem dX9_search_65 : decode cX9_search 65 = .ok (.bipush 7, 2) := by decide +kernel
theorem dX9_search_67 : decode cX9_search 67 = .ok (.if_icmp .ge 17, 3) := by decide +kernel
theorem dX9_search_70 : decode cX9_search 70 = .ok (.aload_n 0, 1) := by decide +kernel
theorem dX9_search_71 : decode cX9_search 71 = .ok (.getfield 37, 3) := by decide +kernel
theorem dX9_search_74 : decode cX9_search 74 = .ok (.iload 5, 2) := by decide +kernel
theorem dX9_search_76 : decode cX9_search 76 = .ok (.iconst 0, 1) := by decide +kernel
theorem dX9_search_77 : decode cX9_search 77 = .ok (.iastore, 1) := by decide +kernel
theorem dX9_search_78 : decode cX9_search 78 = .ok (.iinc 5 1, 3) := by decide +kernel
theorem dX9_search_81 : decode cX9_search 81 = .ok (.goto (-18), 3) := by decide +kernel
theorem dX9_search_84 : decode cX9_search 84 = .ok (.aload_n 0, 1) := by decide +kernel
theorem dX9_search_85 : decode cX9_search 85 = .ok (.aload_n 1, 1) := by decide +kernel
theorem dX9_search_86 : decode cX9_search 86 = .ok (.getfield 63, 3) := by decide +kernel
theorem dX9_search_89 : decode cX9_search 89 = .ok (.iload_n 2, 1) := by decide +kernel
theorem dX9_search_90 : decode cX9_search 90 = .ok (.iaload, 1) := by decide +kernel
theorem dX9_search_91 : decode cX9_search 91 = .ok (.aload_n 1, 1) := by decide +kernel
theorem dX9_search_92 : decode cX9_search 92 = .ok (.getfield 77, 3) := by decide +kernel
theorem dX9_search_95 : decode cX9_search 95 = .ok (.iload_n 2, 1) := by decide +kernel
theorem dX9_search_96 : decode cX9_search 96 = .ok (.iaload, 1) := by decide +kernel
theorem dX9_search_97 : decode cX9_search 97 = .ok (.aload_n 1, 1) := by decide +kernel
theorem dX9_search_98 : decode cX9_search 98 = .ok (.getfield 80, 3) := by decide +kernel
theorem dX9_search_101 : decode cX9_search 101 = .ok (.aload_n 0, 1) := by decide +kernel
theorem dX9_search_102 : decode cX9_search 102 = .ok (.getfield 9, 3) := by decide +kernel
theorem dX9_search_105 : decode cX9_search 105 = .ok (.iaload, 1) := by decide +kernel
theorem dX9_search_106 : decode cX9_search 106 = .ok (.iconst 0, 1) := by decide +kernel
theorem dX9_search_107 : decode cX9_search 107 = .ok (.invokevirtual 83, 3) := by decide +kernel
theorem dX9_search_110 : decode cX9_search 110 = .ok (.return_, 1) := by decide +kernel
theorem dX9_goOn_0 : decode cX9_goOn 0 = .ok (.aload_n 0, 1) := by decide +kernel
theorem dX9_goOn_1 : decode cX9_goOn 1 = .ok (.iload_n 1, 1) := by decide +kernel
theorem dX9_goOn_2 : decode cX9_goOn 2 = .ok (.iload_n 2, 1) := by decide +kernel
theorem dX9_goOn_3 : decode cX9_goOn 3 = .ok (.iload 4, 2) := by decide +kernel
theorem dX9_goOn_5 : decode cX9_goOn 5 = .ok (.invokevirtual 87, 3) := by decide +kernel
theorem dX9_goOn_8 : decode cX9_goOn 8 = .ok (.iconst 0, 1) := by decide +kernel
theorem dX9_goOn_9 : decode cX9_goOn 9 = .ok (.istore 5, 2) := by decide +kernel
theorem dX9_goOn_11 : decode cX9_goOn 11 = .ok (.iload 5, 2) := by decide +kernel
theorem dX9_goOn_13 : decode cX9_goOn 13 = .ok (.aload_n 0, 1) := by decide +kernel
theorem dX9_goOn_14 : decode cX9_goOn 14 = .ok (.getfield 55, 3) := by decide +kernel
theorem dX9_goOn_17 : decode cX9_goOn 17 = .ok (.getfield 91, 3) := by decide +kernel
theorem dX9_goOn_20 : decode cX9_goOn 20 = .ok (.if_icmp .ge 144, 3) := by decide +kernel
theorem dX9_goOn_23 : decode cX9_goOn 23 = .ok (.iload 4, 2) := by decide +kernel
theorem dX9_goOn_25 : decode cX9_goOn 25 = .ok (.aload_n 0, 1) := by decide +kernel
theorem dX9_goOn_26 : decode cX9_goOn 26 = .ok (.getfield 30, 3) := by decide +kernel
theorem dX9_goOn_29 : decode cX9_goOn 29 = .ok (.if_icmp .ge 135, 3) := by decide +kernel
theorem dX9_goOn_32 : decode cX9_goOn 32 = .ok (.iload 4, 2) := by decide +kernel
theorem dX9_goOn_34 : decode cX9_goOn 34 = .ok (.aload_n 0, 1) := by decide +kernel
theorem dX9_goOn_35 : decode cX9_goOn 35 = .ok (.getfield 33, 3) := by decide +kernel
theorem dX9_goOn_38 : decode cX9_goOn 38 = .ok (.arraylength, 1) := by decide +kernel
theorem dX9_goOn_39 : decode cX9_goOn 39 = .ok (.if_icmp .ge 125, 3) := by decide +kernel
theorem dX9_goOn_42 : decode cX9_goOn 42 = .ok (.aload_n 0, 1) := by decide +kernel
theorem dX9_goOn_43 : decode cX9_goOn 43 = .ok (.getfield 21, 3) := by decide +kernel
theorem dX9_goOn_46 : decode cX9_goOn 46 = .ok (.ifCond .ne 26, 3) := by decide +kernel
theorem dX9_goOn_49 : decode cX9_goOn 49 = .ok (.iload 4, 2) := by decide +kernel
theorem dX9_goOn_51 : decode cX9_goOn 51 = .ok (.iconst 1, 1) := by decide +kernel
theorem dX9_goOn_52 : decode cX9_goOn 52 = .ok (.iadd, 1) := by decide +kernel
theorem dX9_goOn_53 : decode cX9_goOn 53 = .ok (.aload_n 0, 1) := by decide +kernel
theorem dX9_goOn_54 : decode cX9_goOn 54 = .ok (.getfield 30, 3) := by decide +kernel
theorem dX9_goOn_57 : decode cX9_goOn 57 = .ok (.if_icmp .ne 15, 3) := by decide +kernel
theorem dX9_goOn_60 : decode cX9_goOn 60 = .ok (.iload 5, 2) := by decide +kernel
theorem dX9_goOn_62 : decode cX9_goOn 62 = .ok (.aload_n 0, 1) := by decide +kernel
theorem dX9_goOn_63 : decode cX9_goOn 63 = .ok (.getfield 24, 3) := by decide +kernel
theorem dX9_goOn_66 : decode cX9_goOn 66 = .ok (.if_icmp .eq 6, 3) := by decide +kernel
theorem dX9_goOn_69 : decode cX9_goOn 69 = .ok (.goto 89, 3) := by decide +kernel
theorem dX9_goOn_72 : decode cX9_goOn 72 = .ok (.aload_n 0, 1) := by decide +kernel
theorem dX9_goOn_73 : decode cX9_goOn 73 = .ok (.getfield 55, 3) := by decide +kernel
theorem dX9_goOn_76 : decode cX9_goOn 76 = .ok (.iload 5, 2) := by decide +kernel
theorem dX9_goOn_78 : decode cX9_goOn 78 = .ok (.aload_n 0, 1) := by decide +kernel
theorem dX9_goOn_79 : decode cX9_goOn 79 = .ok (.getfield 9, 3) := by decide +kernel
theorem dX9_goOn_82 : decode cX9_goOn 82 = .ok (.aload_n 0, 1) := by decide +kernel
theorem dX9_goOn_83 : decode cX9_goOn 83 = .ok (.getfield 15, 3) := by decide +kernel
theorem dX9_goOn_86 : decode cX9_goOn 86 = .ok (.invokevirtual 94, 3) := by decide +kernel
theorem dX9_goOn_89 : decode cX9_goOn 89 = .ok (.istore 6, 2) := by decide +kernel
theorem dX9_goOn_91 : decode cX9_goOn 91 = .ok (.aload_n 0, 1) := by decide +kernel
theorem dX9_goOn_92 : decode cX9_goOn 92 = .ok (.getfield 55, 3) := by decide +kernel
theorem dX9_goOn_95 : decode cX9_goOn 95 = .ok (.iload_n 1, 1) := by decide +kernel
theorem dX9_goOn_96 : decode cX9_goOn 96 = .ok (.iload 5, 2) := by decide +kernel
theorem dX9_goOn_98 : decode cX9_goOn 98 = .ok (.iload_n 2, 1) := by decide +kernel
theorem dX9_goOn_99 : decode cX9_goOn 99 = .ok (.iload 6, 2) := by decide +kernel
theorem dX9_goOn_101 : decode cX9_goOn 101 = .ok (.aload_n 0, 1) := by decide +kernel
theorem dX9_goOn_102 : decode cX9_goOn 102 = .ok (.getfield 18, 3) := by decide +kernel
theorem dX9_goOn_105 : decode cX9_goOn 105 = .ok (.invokevirtual 98, 3) := by decide +kernel
theorem dX9_goOn_108 : decode cX9_goOn 108 = .ok (.ifCond .ne 50, 3) := by decide +kernel
theorem dX9_goOn_111 : decode cX9_goOn 111 = .ok (.aload_n 0, 1) := by decide +kernel
theorem dX9_goOn_112 : decode cX9_goOn 112 = .ok (.getfield 55, 3) := by decide +kernel
theorem dX9_goOn_115 : decode cX9_goOn 115 = .ok (.iload 5, 2) := by decide +kernel
theorem dX9_goOn_117 : decode cX9_goOn 117 = .ok (.aload_n 0, 1) := by decide +kernel
theorem dX9_goOn_118 : decode cX9_goOn 118 = .ok (.getfield 9, 3) := by decide +kernel
theorem dX9_goOn_121 : decode cX9_goOn 121 = .ok (.iload_n 3, 1) := by decide +kernel
theorem dX9_goOn_122 : decode cX9_goOn 122 = .ok (.iload_n 2, 1) := by decide +kernel
theorem dX9_goOn_123 : decode cX9_goOn 123 = .ok (.invokevirtual 102, 3) := by decide +kernel
theorem dX9_goOn_126 : decode cX9_goOn 126 = .ok (.istore 7, 2) := by decide +kernel
theorem dX9_goOn_128 : decode cX9_goOn 128 = .ok (.aload_n 0, 1) := by decide +kernel
theorem dX9_goOn_129 : decode cX9_goOn 129 = .ok (.getfield 33, 3) := by decide +kernel
theorem dX9_goOn_132 : decode cX9_goOn 132 = .ok (.iload 4, 2) := by decide +kernel
theorem dX9_goOn_134 : decode cX9_goOn 134 = .ok (.iload 5, 2) := by decide +kernel
theorem dX9_goOn_136 : decode cX9_goOn 136 = .ok (.iastore, 1) := by decide +kernel
theorem dX9_goOn_137 : decode cX9_goOn 137 = .ok (.aload_n 0, 1) := by decide +kernel
theorem dX9_goOn_138 : decode cX9_goOn 138 = .ok (.iload 5, 2) := by decide +kernel
theorem dX9_goOn_140 : decode cX9_goOn 140 = .ok (.iload_n 2, 1) := by decide +kernel
theorem dX9_goOn_141 : decode cX9_goOn 141 = .ok (.iload 6, 2) := by decide +kernel
theorem dX9_goOn_143 : decode cX9_goOn 143 = .ok (.isub, 1) := by decide +kernel
theorem dX9_goOn_144 : decode cX9_goOn 144 = .ok (.iload 7, 2) := by decide +kernel
theorem dX9_goOn_146 : decode cX9_goOn 146 = .ok (.iadd, 1) := by decide +kernel
theorem dX9_goOn_147 : decode cX9_goOn 147 = .ok (.iload_n 3, 1) := by decide +kernel
theorem dX9_goOn_148 : decode cX9_goOn 148 = .ok (.iload 7, 2) := by decide +kernel
theorem dX9_goOn_150 : decode cX9_goOn 150 = .ok (.isub, 1) := by decide +kernel
theorem dX9_goOn_151 : decode cX9_goOn 151 = .ok (.iload 4, 2) := by decide +kernel
theorem dX9_goOn_153 : decode cX9_goOn 153 = .ok (.iconst 1, 1) := by decide +kernel
theorem dX9_goOn_154 : decode cX9_goOn 154 = .ok (.iadd, 1) := by decide +kernel
theorem dX9_goOn_155 : decode cX9_goOn 155 = .ok (.invokevirtual 83, 3) := by decide +kernel
theorem dX9_goOn_158 : decode cX9_goOn 158 = .ok (.iinc 5 1, 3) := by decide +kernel
theorem dX9_goOn_161 : decode cX9_goOn 161 = .ok (.goto (-150), 3) := by decide +kernel
theorem dX9_goOn_164 : decode cX9_goOn 164 = .ok (.return_, 1) := by decide +kernel
theorem dX9_look_0 : decode cX9_look 0 = .ok (.aload_n 0, 1) := by decide +kernel
theorem dX9_look_1 : decode cX9_look 1 = .ok (.getfield 21, 3) := by decide +kernel
theorem dX9_look_4 : decode cX9_look 4 = .ok (.ifCond .ne 35, 3) := by decide +kernel
theorem dX9_look_7 : decode cX9_look 7 = .ok (.iload_n 1, 1) := by decide +kernel
theorem dX9_look_8 : decode cX9_look 8 = .ok (.aload_n 0, 1) := by decide +kernel
theorem dX9_look_9 : decode cX9_look 9 = .ok (.getfield 24, 3) := by decide +kernel
theorem dX9_look_12 : decode cX9_look 12 = .ok (.if_icmp .ne 27, 3) := by decide +kernel
theorem dX9_look_15 : decode cX9_look 15 = .ok (.iload_n 2, 1) := by decide +kernel
theorem dX9_look_16 : decode cX9_look 16 = .ok (.aload_n 0, 1) := by decide +kernel
theorem dX9_look_17 : decode cX9_look 17 = .ok (.getfield 27, 3) := by decide +kernel
theorem dX9_look_20 : decode cX9_look 20 = .ok (.if_icmp .lt 19, 3) := by decide +kernel
theorem dX9_look_23 : decode cX9_look 23 = .ok (.aload_n 0, 1) := by decide +kernel
theorem dX9_look_24 : decode cX9_look 24 = .ok (.iload_n 1, 1) := by decide +kernel
theorem dX9_look_25 : decode cX9_look 25 = .ok (.iload_n 3, 1) := by decide +kernel
theorem dX9_look_26 : decode cX9_look 26 = .ok (.invokevirtual 106, 3) := by decide +kernel
theorem dX9_look_29 : decode cX9_look 29 = .ok (.aload_n 0, 1) := by decide +kernel
theorem dX9_look_30 : decode cX9_look 30 = .ok (.iload_n 3, 1) := by decide +kernel
theorem dX9_look_31 : decode cX9_look 31 = .ok (.iconst 1, 1) := by decide +kernel
theorem dX9_look_32 : decode cX9_look 32 = .ok (.isub, 1) := by decide +kernel
theorem dX9_look_33 : decode cX9_look 33 = .ok (.putfield 30, 3) := by decide +kernel
theorem dX9_look_36 : decode cX9_look 36 = .ok (.goto 64, 3) := by decide +kernel
theorem dX9_look_39 : decode cX9_look 39 = .ok (.aload_n 0, 1) := by decide +kernel
theorem dX9_look_40 : decode cX9_look 40 = .ok (.getfield 21, 3) := by decide +kernel
theorem dX9_look_43 : decode cX9_look 43 = .ok (.iconst 1, 1) := by decide +kernel
theorem dX9_look_44 : decode cX9_look 44 = .ok (.if_icmp .ne 30, 3) := by decide +kernel
theorem dX9_look_47 : decode cX9_look 47 = .ok (.iload_n 3, 1) := by decide +kernel
theorem dX9_look_48 : decode cX9_look 48 = .ok (.ifCond .le 26, 3) := by decide +kernel
theorem dX9_look_51 : decode cX9_look 51 = .ok (.iload_n 1, 1) := by decide +kernel
theorem dX9_look_52 : decode cX9_look 52 = .ok (.aload_n 0, 1) := by decide +kernel
theorem dX9_look_53 : decode cX9_look 53 = .ok (.getfield 24, 3) := by decide +kernel
theorem dX9_look_56 : decode cX9_look 56 = .ok (.if_icmp .ne 18, 3) := by decide +kernel
theorem dX9_look_59 : decode cX9_look 59 = .ok (.aload_n 0, 1) := by decide +kernel
theorem dX9_look_60 : decode cX9_look 60 = .ok (.aload_n 0, 1) := by decide +kernel
theorem dX9_look_61 : decode cX9_look 61 = .ok (.getfield 43, 3) := by decide +kernel
theorem dX9_look_64 : decode cX9_look 64 = .ok (.iload_n 2, 1) := by decide +kernel
theorem dX9_look_65 : decode cX9_look 65 = .ok (.invokestatic 110, 3) := by decide +kernel
theorem dX9_look_68 : decode cX9_look 68 = .ok (.putfield 43, 3) := by decide +kernel
theorem dX9_look_71 : decode cX9_look 71 = .ok (.goto 29, 3) := by decide +kernel
theorem dX9_look_74 : decode cX9_look 74 = .ok (.aload_n 0, 1) := by decide +kernel
theorem dX9_look_75 : decode cX9_look 75 = .ok (.getfield 21, 3) := by decide +kernel
theorem dX9_look_78 : decode cX9_look 78 = .ok (.iconst 2, 1) := by decide +kernel
theorem dX9_look_79 : decode cX9_look 79 = .ok (.if_icmp .ne 21, 3) := by decide +kernel
theorem dX9_look_82 : decode cX9_look 82 = .ok (.iload_n 3, 1) := by decide +kernel
theorem dX9_look_83 : decode cX9_look 83 = .ok (.ifCond .le 17, 3) := by decide +kernel
theorem dX9_look_86 : decode cX9_look 86 = .ok (.iload_n 2, 1) := by decide +kernel
theorem dX9_look_87 : decode cX9_look 87 = .ok (.aload_n 0, 1) := by decide +kernel
theorem dX9_look_88 : decode cX9_look 88 = .ok (.getfield 27, 3) := by decide +kernel
theorem dX9_look_91 : decode cX9_look 91 = .ok (.if_icmp .ne 9, 3) := by decide +kernel
theorem dX9_look_94 : decode cX9_look 94 = .ok (.aload_n 0, 1) := by decide +kernel
theorem dX9_look_95 : decode cX9_look 95 = .ok (.iload_n 1, 1) := by decide +kernel
theorem dX9_look_96 : decode cX9_look 96 = .ok (.iload_n 3, 1) := by decide +kernel
theorem dX9_look_97 : decode cX9_look 97 = .ok (.invokevirtual 106, 3) := by decide +kernel
theorem dX9_look_100 : decode cX9_look 100 = .ok (.return_, 1) := by decide +kernel
theorem dX9_note_0 : decode cX9_note 0 = .ok (.aload_n 0, 1) := by decide +kernel
theorem dX9_note_1 : decode cX9_note 1 = .ok (.getfield 40, 3) := by decide +kernel
theorem dX9_note_4 : decode cX9_note 4 = .ok (.ifCond .eq 14, 3) := by decide +kernel
theorem dX9_note_7 : decode cX9_note 7 = .ok (.iload_n 2, 1) := by decide +kernel
theorem dX9_note_8 : decode cX9_note 8 = .ok (.aload_n 0, 1) := by decide +kernel
theorem dX9_note_9 : decode cX9_note 9 = .ok (.getfield 51, 3) := by decide +kernel
theorem dX9_note_12 : decode cX9_note 12 = .ok (.getfield 116, 3) := by decide +kernel
theorem dX9_note_15 : decode cX9_note 15 = .ok (.if_icmp .ge 15, 3) := by decide +kernel
theorem dX9_note_18 : decode cX9_note 18 = .ok (.aload_n 0, 1) := by decide +kernel
theorem dX9_note_19 : decode cX9_note 19 = .ok (.getfield 51, 3) := by decide +kernel
theorem dX9_note_22 : decode cX9_note 22 = .ok (.aload_n 0, 1) := by decide +kernel
theorem dX9_note_23 : decode cX9_note 23 = .ok (.getfield 33, 3) := by decide +kernel
theorem dX9_note_26 : decode cX9_note 26 = .ok (.iload_n 2, 1) := by decide +kernel
theorem dX9_note_27 : decode cX9_note 27 = .ok (.invokevirtual 118, 3) := by decide +kernel
theorem dX9_note_30 : decode cX9_note 30 = .ok (.aload_n 0, 1) := by decide +kernel
theorem dX9_note_31 : decode cX9_note 31 = .ok (.dup, 1) := by decide +kernel
theorem dX9_note_32 : decode cX9_note 32 = .ok (.getfield 40, 3) := by decide +kernel
theorem dX9_note_35 : decode cX9_note 35 = .ok (.iconst 1, 1) := by decide +kernel
theorem dX9_note_36 : decode cX9_note 36 = .ok (.iadd, 1) := by decide +kernel
theorem dX9_note_37 : decode cX9_note 37 = .ok (.putfield 40, 3) := by decide +kernel
theorem dX9_note_40 : decode cX9_note 40 = .ok (.aload_n 0, 1) := by decide +kernel
theorem dX9_note_41 : decode cX9_note 41 = .ok (.getfield 37, 3) := by decide +kernel
theorem dX9_note_44 : decode cX9_note 44 = .ok (.iload_n 1, 1) := by decide +kernel
theorem dX9_note_45 : decode cX9_note 45 = .ok (.dup2, 1) := by decide +kernel
theorem dX9_note_46 : decode cX9_note 46 = .ok (.iaload, 1) := by decide +kernel
theorem dX9_note_47 : decode cX9_note 47 = .ok (.iconst 1, 1) := by decide +kernel
theorem dX9_note_48 : decode cX9_note 48 = .ok (.iadd, 1) := by decide +kernel
theorem dX9_note_49 : decode cX9_note 49 = .ok (.iastore, 1) := by decide +kernel
theorem dX9_note_50 : decode cX9_note 50 = .ok (.return_, 1) := by decide +kernel
theorem dX11_init_0 : decode cX11_init 0 = .ok (.aload_n 0, 1) := by decide +kernel
theorem dX11_init_1 : decode cX11_init 1 = .ok (.invokespecial 1, 3) := by decide +kernel
theorem dX11_init_4 : decode cX11_init 4 = .ok (.aload_n 0, 1) := by decide +kernel
theorem dX11_init_5 : decode cX11_init 5 = .ok (.new 7, 3) := by decide +kernel
theorem dX11_init_8 : decode cX11_init 8 = .ok (.dup, 1) := by decide +kernel
theorem dX11_init_9 : decode cX11_init 9 = .ok (.invokespecial 9, 3) := by decide +kernel
theorem dX11_init_12 : decode cX11_init 12 = .ok (.putfield 10, 3) := by decide +kernel
theorem dX11_init_15 : decode cX11_init 15 = .ok (.aload_n 0, 1) := by decide +kernel
theorem dX11_init_16 : decode cX11_init 16 = .ok (.bipush 8, 2) := by decide +kernel
theorem dX11_init_18 : decode cX11_init 18 = .ok (.anewarray 16, 3) := by decide +kernel
theorem dX11_init_21 : decode cX11_init 21 = .ok (.putfield 18, 3) := by decide +kernel
theorem dX11_init_24 : decode cX11_init 24 = .ok (.aload_n 0, 1) := by decide +kernel
theorem dX11_init_25 : decode cX11_init 25 = .ok (.iconst 0, 1) := by decide +kernel
theorem dX11_init_26 : decode cX11_init 26 = .ok (.putfield 22, 3) := by decide +kernel
theorem dX11_init_29 : decode cX11_init 29 = .ok (.aload_n 0, 1) := by decide +kernel
theorem dX11_init_30 : decode cX11_init 30 = .ok (.iconst 0, 1) := by decide +kernel
theorem dX11_init_31 : decode cX11_init 31 = .ok (.putfield 26, 3) := by decide +kernel
theorem dX11_init_34 : decode cX11_init 34 = .ok (.aload_n 0, 1) := by decide +kernel
theorem dX11_init_35 : decode cX11_init 35 = .ok (.iconst 2, 1) := by decide +kernel
theorem dX11_init_36 : decode cX11_init 36 = .ok (.anewarray 16, 3) := by decide +kernel
theorem dX11_init_39 : decode cX11_init 39 = .ok (.putfield 29, 3) := by decide +kernel
theorem dX11_init_42 : decode cX11_init 42 = .ok (.aload_n 0, 1) := by decide +kernel
theorem dX11_init_43 : decode cX11_init 43 = .ok (.iconst 0, 1) := by decide +kernel
theorem dX11_init_44 : decode cX11_init 44 = .ok (.putfield 32, 3) := by decide +kernel
theorem dX11_init_47 : decode cX11_init 47 = .ok (.aload_n 0, 1) := by decide +kernel
theorem dX11_init_48 : decode cX11_init 48 = .ok (.iconst 4, 1) := by decide +kernel
theorem dX11_init_49 : decode cX11_init 49 = .ok (.newarray .int, 2) := by decide +kernel
theorem dX11_init_51 : decode cX11_init 51 = .ok (.dup, 1) := by decide +kernel
theorem dX11_init_52 : decode cX11_init 52 = .ok (.iconst 0, 1) := by decide +kernel
theorem dX11_init_53 : decode cX11_init 53 = .ok (.iconst (-1), 1) := by decide +kernel
theorem dX11_init_54 : decode cX11_init 54 = .ok (.iastore, 1) := by decide +kernel
theorem dX11_init_55 : decode cX11_init 55 = .ok (.dup, 1) := by decide +kernel
theorem dX11_init_56 : decode cX11_init 56 = .ok (.iconst 1, 1) := by decide +kernel
theorem dX11_init_57 : decode cX11_init 57 = .ok (.iconst (-1), 1) := by decide +kernel
theorem dX11_init_58 : decode cX11_init 58 = .ok (.iastore, 1) := by decide +kernel
theorem dX11_init_59 : decode cX11_init 59 = .ok (.dup, 1) := by decide +kernel
theorem dX11_init_60 : decode cX11_init 60 = .ok (.iconst 2, 1) := by decide +kernel
theorem dX11_init_61 : decode cX11_init 61 = .ok (.iconst (-1), 1) := by decide +kernel
theorem dX11_init_62 : decode cX11_init 62 = .ok (.iastore, 1) := by decide +kernel
theorem dX11_init_63 : decode cX11_init 63 = .ok (.dup, 1) := by decide +kernel
theorem dX11_init_64 : decode cX11_init 64 = .ok (.iconst 3, 1) := by decide +kernel
theorem dX11_init_65 : decode cX11_init 65 = .ok (.iconst (-1), 1) := by decide +kernel
theorem dX11_init_66 : decode cX11_init 66 = .ok (.iastore, 1) := by decide +kernel
theorem dX11_init_67 : decode cX11_init 67 = .ok (.putfield 35, 3) := by decide +kernel
theorem dX11_init_70 : decode cX11_init 70 = .ok (.aload_n 0, 1) := by decide +kernel
theorem dX11_init_71 : decode cX11_init 71 = .ok (.new 39, 3) := by decide +kernel
theorem dX11_init_74 : decode cX11_init 74 = .ok (.dup, 1) := by decide +kernel
theorem dX11_init_75 : decode cX11_init 75 = .ok (.iconst 5, 1) := by decide +kernel
theorem dX11_init_76 : decode cX11_init 76 = .ok (.invokespecial 41, 3) := by decide +kernel
theorem dX11_init_79 : decode cX11_init 79 = .ok (.putfield 44, 3) := by decide +kernel
theorem dX11_init_82 : decode cX11_init 82 = .ok (.aload_n 0, 1) := by decide +kernel
theorem dX11_init_83 : decode cX11_init 83 = .ok (.new 39, 3) := by decide +kernel
theorem dX11_init_86 : decode cX11_init 86 = .ok (.dup, 1) := by decide +kernel
theorem dX11_init_87 : decode cX11_init 87 = .ok (.iconst 5, 1) := by decide +kernel
theorem dX11_init_88 : decode cX11_init 88 = .ok (.invokespecial 41, 3) := by decide +kernel
theorem dX11_init_91 : decode cX11_init 91 = .ok (.putfield 48, 3) := by decide +kernel
theorem dX11_init_94 : decode cX11_init 94 = .ok (.aload_n 0, 1) := by decide +kernel
theorem dX11_init_95 : decode cX11_init 95 = .ok (.new 39, 3) := by decide +kernel
theorem dX11_init_98 : decode cX11_init 98 = .ok (.dup, 1) := by decide +kernel
theorem dX11_init_99 : decode cX11_init 99 = .ok (.bipush 6, 2) := by decide +kernel
theorem dX11_init_101 : decode cX11_init 101 = .ok (.invokespecial 41, 3) := by decide +kernel
theorem dX11_init_104 : decode cX11_init 104 = .ok (.putfield 51, 3) := by decide +kernel
theorem dX11_init_107 : decode cX11_init 107 = .ok (.aload_n 0, 1) := by decide +kernel
theorem dX11_init_108 : decode cX11_init 108 = .ok (.new 39, 3) := by decide +kernel
theorem dX11_init_111 : decode cX11_init 111 = .ok (.dup, 1) := by decide +kernel
theorem dX11_init_112 : decode cX11_init 112 = .ok (.bipush 40, 2) := by decide +kernel
theorem dX11_init_114 : decode cX11_init 114 = .ok (.invokespecial 41, 3) := by decide +kernel
theorem dX11_init_117 : decode cX11_init 117 = .ok (.putfield 54, 3) := by decide +kernel
theorem dX11_init_120 : decode cX11_init 120 = .ok (.aload_n 0, 1) := by decide +kernel
theorem dX11_init_121 : decode cX11_init 121 = .ok (.iconst (-1), 1) := by decide +kernel
theorem dX11_init_122 : decode cX11_init 122 = .ok (.putfield 57, 3) := by decide +kernel
theorem dX11_init_125 : decode cX11_init 125 = .ok (.aload_n 0, 1) := by decide +kernel
theorem dX11_init_126 : decode cX11_init 126 = .ok (.iconst (-1), 1) := by decide +kernel
theorem dX11_init_127 : decode cX11_init 127 = .ok (.putfield 60, 3) := by decide +kernel
theorem dX11_init_130 : decode cX11_init 130 = .ok (.aload_n 0, 1) := by decide +kernel
theorem dX11_init_131 : decode cX11_init 131 = .ok (.iconst (-1), 1) := by decide +kernel
theorem dX11_init_132 : decode cX11_init 132 = .ok (.putfield 63, 3) := by decide +kernel
theorem dX11_init_135 : decode cX11_init 135 = .ok (.new 66, 3) := by decide +kernel
theorem dX11_init_138 : decode cX11_init 138 = .ok (.dup, 1) := by decide +kernel
theorem dX11_init_139 : decode cX11_init 139 = .ok (.invokespecial 68, 3) := by decide +kernel
theorem dX11_init_142 : decode cX11_init 142 = .ok (.astore_n 1, 1) := by decide +kernel
theorem dX11_init_143 : decode cX11_init 143 = .ok (.aload_n 0, 1) := by decide +kernel
theorem dX11_init_144 : decode cX11_init 144 = .ok (.new 16, 3) := by decide +kernel
theorem dX11_init_147 : decode cX11_init 147 = .ok (.dup, 1) := by decide +kernel
theorem dX11_init_148 : decode cX11_init 148 = .ok (.aload_n 1, 1) := by decide +kernel
theorem dX11_init_149 : decode cX11_init 149 = .ok (.invokespecial 69, 3) := by decide +kernel
theorem dX11_init_152 : decode cX11_init 152 = .ok (.putfield 72, 3) := by decide +kernel
theorem dX11_init_155 : decode cX11_init 155 = .ok (.aload_n 0, 1) := by decide +kernel
theorem dX11_init_156 : decode cX11_init 156 = .ok (.new 16, 3) := by decide +kernel
theorem dX11_init_159 : decode cX11_init 159 = .ok (.dup, 1) := by decide +kernel
theorem dX11_init_160 : decode cX11_init 160 = .ok (.aload_n 1, 1) := by decide +kernel
theorem dX11_init_161 : decode cX11_init 161 = .ok (.invokespecial 69, 3) := by decide +kernel
theorem dX11_init_164 : decode cX11_init 164 = .ok (.putfield 76, 3) := by decide +kernel
theorem dX11_init_167 : decode cX11_init 167 = .ok (.iconst 0, 1) := by decide +kernel
theorem dX11_init_168 : decode cX11_init 168 = .ok (.istore_n 2, 1) := by decide +kernel
theorem dX11_init_169 : decode cX11_init 169 = .ok (.iload_n 2, 1) := by decide +kernel
theorem dX11_init_170 : decode cX11_init 170 = .ok (.bipush 8, 2) := by decide +kernel
theorem dX11_init_172 : decode cX11_init 172 = .ok (.if_icmp .ge 23, 3) := by decide +kernel
theorem dX11_init_175 : decode cX11_init 175 = .ok (.aload_n 0, 1) := by decide +kernel
theorem dX11_init_176 : decode cX11_init 176 = .ok (.getfield 18, 3) := by decide +kernel
theorem dX11_init_179 : decode cX11_init 179 = .ok (.iload_n 2, 1) := by decide +kernel
theorem dX11_init_180 : decode cX11_init 180 = .ok (.new 16, 3) := by decide +kernel
theorem dX11_init_183 : decode cX11_init 183 = .ok (.dup, 1) := by decide +kernel
theorem dX11_init_184 : decode cX11_init 184 = .ok (.aload_n 1, 1) := by decide +kernel
theorem dX11_init_185 : decode cX11_init 185 = .ok (.invokespecial 69, 3) := by decide +kernel
theorem dX11_init_188 : decode cX11_init 188 = .ok (.aastore, 1) := by decide +kernel
theorem dX11_init_189 : decode cX11_init 189 = .ok (.iinc 2 1, 3) := by decide +kernel
theorem dX11_init_192 : decode cX11_init 192 = .ok (.goto (-23), 3) := by decide +kernel
theorem dX11_init_195 : decode cX11_init 195 = .ok (.iconst 0, 1) := by decide +kernel
theorem dX11_init_196 : decode cX11_init 196 = .ok (.istore_n 2, 1) := by decide +kernel
theorem dX11_init_197 : decode cX11_init 197 = .ok (.iload_n 2, 1) := by decide +kernel
theorem dX11_init_198 : decode cX11_init 198 = .ok (.iconst 2, 1) := by decide +kernel
theorem dX11_init_199 : decode cX11_init 199 = .ok (.if_icmp .ge 23, 3) := by decide +kernel
theorem dX11_init_202 : decode cX11_init 202 = .ok (.aload_n 0, 1) := by decide +kernel
theorem dX11_init_203 : decode cX11_init 203 = .ok (.getfield 29, 3) := by decide +kernel
theorem dX11_init_206 : decode cX11_init 206 = .ok (.iload_n 2, 1) := by decide +kernel
theorem dX11_init_207 : decode cX11_init 207 = .ok (.new 16, 3) := by decide +kernel
theorem dX11_init_210 : decode cX11_init 210 = .ok (.dup, 1) := by decide +kernel
theorem dX11_init_211 : decode cX11_init 211 = .ok (.aload_n 1, 1) := by decide +kernel
theorem dX11_init_212 : decode cX11_init 212 = .ok (.invokespecial 69, 3) := by decide +kernel
theorem dX11_init_215 : decode cX11_init 215 = .ok (.aastore, 1) := by decide +kernel
theorem dX11_init_216 : decode cX11_init 216 = .ok (.iinc 2 1, 3) := by decide +kernel
theorem dX11_init_219 : decode cX11_init 219 = .ok (.goto (-22), 3) := by decide +kernel
theorem dX11_init_222 : decode cX11_init 222 = .ok (.aload_n 0, 1) := by decide +kernel
theorem dX11_init_223 : decode cX11_init 223 = .ok (.new 79, 3) := by decide +kernel
theorem dX11_init_226 : decode cX11_init 226 = .ok (.dup, 1) := by decide +kernel
theorem dX11_init_227 : decode cX11_init 227 = .ok (.aload_n 0, 1) := by decide +kernel
theorem dX11_init_228 : decode cX11_init 228 = .ok (.getfield 10, 3) := by decide +kernel
theorem dX11_init_231 : decode cX11_init 231 = .ok (.aload_n 0, 1) := by decide +kernel
theorem dX11_init_232 : decode cX11_init 232 = .ok (.getfield 76, 3) := by decide +kernel
theorem dX11_init_235 : decode cX11_init 235 = .ok (.invokespecial 81, 3) := by decide +kernel
theorem dX11_init_238 : decode cX11_init 238 = .ok (.putfield 84, 3) := by decide +kernel
theorem dX11_init_241 : decode cX11_init 241 = .ok (.aload_n 0, 1) := by decide +kernel
theorem dX11_init_242 : decode cX11_init 242 = .ok (.new 88, 3) := by decide +kernel
theorem dX11_init_245 : decode cX11_init 245 = .ok (.dup, 1) := by decide +kernel
theorem dX11_init_246 : decode cX11_init 246 = .ok (.aload_n 0, 1) := by decide +kernel
theorem dX11_init_247 : decode cX11_init 247 = .ok (.getfield 10, 3) := by decide +kernel
theorem dX11_init_250 : decode cX11_init 250 = .ok (.aload_n 1, 1) := by decide +kernel
theorem dX11_init_251 : decode cX11_init 251 = .ok (.invokespecial 90, 3) := by decide +kernel
theorem dX11_init_254 : decode cX11_init 254 = .ok (.putfield 93, 3) := by decide +kernel
theorem dX11_init_257 : decode cX11_init 257 = .ok (.aload_n 0, 1) := by decide +kernel
theorem dX11_init_258 : decode cX11_init 258 = .ok (.new 97, 3) := by decide +kernel
theorem dX11_init_261 : decode cX11_init 261 = .ok (.dup, 1) := by decide +kernel
theorem dX11_init_262 : decode cX11_init 262 = .ok (.aload_n 1, 1) := by decide +kernel
theorem dX11_init_263 : decode cX11_init 263 = .ok (.invokespecial 99, 3) := by decide +kernel
theorem dX11_init_266 : decode cX11_init 266 = .ok (.putfield 100, 3) := by decide +kernel
theorem dX11_init_269 : decode cX11_init 269 = .ok (.aload_n 0, 1) := by decide +kernel
theorem dX11_init_270 : decode cX11_init 270 = .ok (.new 104, 3) := by decide +kernel
theorem dX11_init_273 : decode cX11_init 273 = .ok (.dup, 1) := by decide +kernel
theorem dX11_init_274 : decode cX11_init 274 = .ok (.aload_n 0, 1) := by decide +kernel
theorem dX11_init_275 : decode cX11_init 275 = .ok (.getfield 72, 3) := by decide +kernel
theorem dX11_init_278 : decode cX11_init 278 = .ok (.invokespecial 106, 3) := by decide +kernel
theorem dX11_init_281 : decode cX11_init 281 = .ok (.putfield 109, 3) := by decide +kernel
theorem dX11_init_284 : decode cX11_init 284 = .ok (.return_, 1) := by decide +kernel
theorem dX11_feed_0 : decode cX11_feed 0 = .ok (.aload_n 0, 1) := by decide +kernel
theorem dX11_feed_1 : decode cX11_feed 1 = .ok (.getfield 10, 3) := by decide +kernel
theorem dX11_feed_4 : decode cX11_feed 4 = .ok (.getfield 113, 3) := by decide +kernel
theorem dX11_feed_7 : decode cX11_feed 7 = .ok (.bipush 20, 2) := by decide +kernel
theorem dX11_feed_9 : decode cX11_feed 9 = .ok (.iadd, 1) := by decide +kernel
theorem dX11_feed_10 : decode cX11_feed 10 = .ok (.sipush 940, 3) := by decide +kernel
theorem dX11_feed_13 : decode cX11_feed 13 = .ok (.if_icmp .le 5, 3) := by decide +kernel
theorem dX11_feed_16 : decode cX11_feed 16 = .ok (.iconst (-1), 1) := by decide +kernel
theorem dX11_feed_17 : decode cX11_feed 17 = .ok (.ireturn, 1) := by decide +kernel
theorem dX11_feed_18 : decode cX11_feed 18 = .ok (.aload_n 0, 1) := by decide +kernel
theorem dX11_feed_19 : decode cX11_feed 19 = .ok (.getfield 10, 3) := by decide +kernel
theorem dX11_feed_22 : decode cX11_feed 22 = .ok (.iload_n 1, 1) := by decide +kernel
theorem dX11_feed_23 : decode cX11_feed 23 = .ok (.invokevirtual 116, 3) := by decide +kernel
theorem dX11_feed_26 : decode cX11_feed 26 = .ok (.aload_n 0, 1) := by decide +kernel
theorem dX11_feed_27 : decode cX11_feed 27 = .ok (.getfield 10, 3) := by decide +kernel
theorem dX11_feed_30 : decode cX11_feed 30 = .ok (.iload_n 2, 1) := by decide +kernel
theorem dX11_feed_31 : decode cX11_feed 31 = .ok (.invokevirtual 116, 3) := by decide +kernel
theorem dX11_feed_34 : decode cX11_feed 34 = .ok (.aload_n 0, 1) := by decide +kernel
theorem dX11_feed_35 : decode cX11_feed 35 = .ok (.getfield 10, 3) := by decide +kernel
theorem dX11_feed_38 : decode cX11_feed 38 = .ok (.iload_n 3, 1) := by decide +kernel
theorem dX11_feed_39 : decode cX11_feed 39 = .ok (.invokevirtual 116, 3) := by decide +kernel
theorem dX11_feed_42 : decode cX11_feed 42 = .ok (.aload_n 0, 1) := by decide +kernel
theorem dX11_feed_43 : decode cX11_feed 43 = .ok (.getfield 10, 3) := by decide +kernel
theorem dX11_feed_46 : decode cX11_feed 46 = .ok (.iload 4, 2) := by decide +kernel
theorem dX11_feed_48 : decode cX11_feed 48 = .ok (.invokevirtual 116, 3) := by decide +kernel
theorem dX11_feed_51 : decode cX11_feed 51 = .ok (.aload_n 0, 1) := by decide +kernel
theorem dX11_feed_52 : decode cX11_feed 52 = .ok (.getfield 10, 3) := by decide +kernel
theorem dX11_feed_55 : decode cX11_feed 55 = .ok (.iload 5, 2) := by decide +kernel
theorem dX11_feed_57 : decode cX11_feed 57 = .ok (.invokevirtual 116, 3) := by decide +kernel
theorem dX11_feed_60 : decode cX11_feed 60 = .ok (.aload_n 0, 1) := by decide +kernel
theorem dX11_feed_61 : decode cX11_feed 61 = .ok (.getfield 10, 3) := by decide +kernel
theorem dX11_feed_64 : decode cX11_feed 64 = .ok (.getfield 113, 3) := by decide +kernel
theorem dX11_feed_67 : decode cX11_feed 67 = .ok (.ireturn, 1) := by decide +kernel
theorem dX11_end_0 : decode cX11_end 0 = .ok (.iload_n 1, 1) := by decide +kernel
theorem dX11_end_1 : decode cX11_end 1 = .ok (.ifCond .lt 14, 3) := by decide +kernel
theorem dX11_end_4 : decode cX11_end 4 = .ok (.iload_n 1, 1) := by decide +kernel
theorem dX11_end_5 : decode cX11_end 5 = .ok (.aload_n 0, 1) := by decide +kernel
theorem dX11_end_6 : decode cX11_end 6 = .ok (.getfield 10, 3) := by decide +kernel
theorem dX11_end_9 : decode cX11_end 9 = .ok (.getfield 113, 3) := by decide +kernel
theorem dX11_end_12 : decode cX11_end 12 = .ok (.if_icmp .le 5, 3) := by decide +kernel
theorem dX11_end_15 : decode cX11_end 15 = .ok (.iconst 0, 1) := by decide +kernel
theorem dX11_end_16 : decode cX11_end 16 = .ok (.ireturn, 1) := by decide +kernel
theorem dX11_end_17 : decode cX11_end 17 = .ok (.aload_n 0, 1) := by decide +kernel
theorem dX11_end_18 : decode cX11_end 18 = .ok (.getfield 10, 3) := by decide +kernel
theorem dX11_end_21 : decode cX11_end 21 = .ok (.iload_n 1, 1) := by decide +kernel
theorem dX11_end_22 : decode cX11_end 22 = .ok (.putfield 113, 3) := by decide +kernel
theorem dX11_end_25 : decode cX11_end 25 = .ok (.iconst 1, 1) := by decide +kernel
theorem dX11_end_26 : decode cX11_end 26 = .ok (.ireturn, 1) := by decide +kernel
theorem dX11_map_0 : decode cX11_map 0 = .ok (.aload_n 0, 1) := by decide +kernel
theorem dX11_map_1 : decode cX11_map 1 = .ok (.getfield 76, 3) := by decide +kernel
theorem dX11_map_4 : decode cX11_map 4 = .ok (.new 66, 3) := by decide +kernel
theorem dX11_map_7 : decode cX11_map 7 = .ok (.dup, 1) := by decide +kernel
theorem dX11_map_8 : decode cX11_map 8 = .ok (.invokespecial 68, 3) := by decide +kernel
theorem dX11_map_11 : decode cX11_map 11 = .ok (.invokevirtual 119, 3) := by decide +kernel
theorem dX11_map_14 : decode cX11_map 14 = .ok (.aload_n 0, 1) := by decide +kernel
theorem dX11_map_15 : decode cX11_map 15 = .ok (.getfield 84, 3) := by decide +kernel
theorem dX11_map_18 : decode cX11_map 18 = .ok (.invokevirtual 122, 3) := by decide +kernel
theorem dX11_map_21 : decode cX11_map 21 = .ok (.istore_n 1, 1) := by decide +kernel
theorem dX11_map_22 : decode cX11_map 22 = .ok (.aload_n 0, 1) := by decide +kernel
theorem dX11_map_23 : decode cX11_map 23 = .ok (.getfield 10, 3) := by decide +kernel
theorem dX11_map_26 : decode cX11_map 26 = .ok (.iconst 0, 1) := by decide +kernel
theorem dX11_map_27 : decode cX11_map 27 = .ok (.putfield 113, 3) := by decide +kernel
theorem dX11_map_30 : decode cX11_map 30 = .ok (.aload_n 0, 1) := by decide +kernel
theorem dX11_map_31 : decode cX11_map 31 = .ok (.getfield 10, 3) := by decide +kernel
theorem dX11_map_34 : decode cX11_map 34 = .ok (.getfield 126, 3) := by decide +kernel
theorem dX11_map_37 : decode cX11_map 37 = .ok (.ifCond .eq 13, 3) := by decide +kernel
theorem dX11_map_40 : decode cX11_map 40 = .ok (.iconst (-1), 1) := by decide +kernel
theorem dX11_map_41 : decode cX11_map 41 = .ok (.aload_n 0, 1) := by decide +kernel
theorem dX11_map_42 : decode cX11_map 42 = .ok (.getfield 10, 3) := by decide +kernel
theorem dX11_map_45 : decode cX11_map 45 = .ok (.getfield 129, 3) := by decide +kernel
theorem dX11_map_48 : decode cX11_map 48 = .ok (.isub, 1) := by decide +kernel
theorem dX11_map_49 : decode cX11_map 49 = .ok (.ireturn, 1) := by decide +kernel
theorem dX11_map_50 : decode cX11_map 50 = .ok (.aload_n 0, 1) := by decide +kernel
theorem dX11_map_51 : decode cX11_map 51 = .ok (.getfield 72, 3) := by decide +kernel
theorem dX11_map_54 : decode cX11_map 54 = .ok (.aload_n 0, 1) := by decide +kernel
theorem dX11_map_55 : decode cX11_map 55 = .ok (.getfield 76, 3) := by decide +kernel
theorem dX11_map_58 : decode cX11_map 58 = .ok (.invokevirtual 132, 3) := by decide +kernel
theorem dX11_map_61 : decode cX11_map 61 = .ok (.aload_n 0, 1) := by decide +kernel
theorem dX11_map_62 : decode cX11_map 62 = .ok (.iconst 0, 1) := by decide +kernel
theorem dX11_map_63 : decode cX11_map 63 = .ok (.putfield 26, 3) := by decide +kernel
theorem dX11_map_66 : decode cX11_map 66 = .ok (.iload_n 1, 1) := by decide +kernel
theorem dX11_map_67 : decode cX11_map 67 = .ok (.ireturn, 1) := by decide +kernel
theorem dX11_fault_0 : decode cX11_fault 0 = .ok (.aload_n 0, 1) := by decide +kernel
theorem dX11_fault_1 : decode cX11_fault 1 = .ok (.getfield 10, 3) := by decide +kernel
theorem dX11_fault_4 : decode cX11_fault 4 = .ok (.getfield 126, 3) := by decide +kernel
theorem dX11_fault_7 : decode cX11_fault 7 = .ok (.ireturn, 1) := by decide +kernel
theorem dX11_person_0 : decode cX11_person 0 = .ok (.aload_n 0, 1) := by decide +kernel
theorem dX11_person_1 : decode cX11_person 1 = .ok (.iload_n 1, 1) := by decide +kernel
theorem dX11_person_2 : decode cX11_person 2 = .ok (.invokevirtual 135, 3) := by decide +kernel
theorem dX11_person_5 : decode cX11_person 5 = .ok (.ifCond .ne 11, 3) := by decide +kernel
theorem dX11_person_8 : decode cX11_person 8 = .ok (.new 139, 3) := by decide +kernel
theorem dX11_person_11 : decode cX11_person 11 = .ok (.dup, 1) := by decide +kernel
theorem dX11_person_12 : decode cX11_person 12 = .ok (.invokespecial 141, 3) := by decide +kernel
theorem dX11_person_15 : decode cX11_person 15 = .ok (.athrow, 1) := by decide +kernel
theorem dX11_person_16 : decode cX11_person 16 = .ok (.iload_n 2, 1) := by decide +kernel
theorem dX11_person_17 : decode cX11_person 17 = .ok (.tableswitch 115 0 6 #[43, 56, 66, 76, 86, 96, 106], 43) := by decide +kernel
theorem dX11_person_60 : decode cX11_person 60 = .ok (.aload_n 0, 1) := by decide +kernel
theorem dX11_person_61 : decode cX11_person 61 = .ok (.getfield 72, 3) := by decide +kernel
theorem dX11_person_64 : decode cX11_person 64 = .ok (.getfield 142, 3) := by decide +kernel
theorem dX11_person_67 : decode cX11_person 67 = .ok (.getfield 146, 3) := by decide +kernel
theorem dX11_person_70 : decode cX11_person 70 = .ok (.iload_n 1, 1) := by decide +kernel
theorem dX11_person_71 : decode cX11_person 71 = .ok (.iaload, 1) := by decide +kernel
theorem dX11_person_72 : decode cX11_person 72 = .ok (.ireturn, 1) := by decide +kernel
theorem dX11_person_73 : decode cX11_person 73 = .ok (.aload_n 0, 1) := by decide +kernel
theorem dX11_person_74 : decode cX11_person 74 = .ok (.getfield 72, 3) := by decide +kernel
theorem dX11_person_77 : decode cX11_person 77 = .ok (.getfield 149, 3) := by decide +kernel
theorem dX11_person_80 : decode cX11_person 80 = .ok (.iload_n 1, 1) := by decide +kernel
theorem dX11_person_81 : decode cX11_person 81 = .ok (.iaload, 1) := by decide +kernel
theorem dX11_person_82 : decode cX11_person 82 = .ok (.ireturn, 1) := by decide +kernel
theorem dX11_person_83 : decode cX11_person 83 = .ok (.aload_n 0, 1) := by decide +kernel
theorem dX11_person_84 : decode cX11_person 84 = .ok (.getfield 72, 3) := by decide +kernel
theorem dX11_person_87 : decode cX11_person 87 = .ok (.getfield 152, 3) := by decide +kernel
theorem dX11_person_90 : decode cX11_person 90 = .ok (.iload_n 1, 1) := by decide +kernel
theorem dX11_person_91 : decode cX11_person 91 = .ok (.iaload, 1) := by decide +kernel
theorem dX11_person_92 : decode cX11_person 92 = .ok (.ireturn, 1) := by decide +kernel
theorem dX11_person_93 : decode cX11_person 93 = .ok (.aload_n 0, 1) := by decide +kernel
theorem dX11_person_94 : decode cX11_person 94 = .ok (.getfield 72, 3) := by decide +kernel
theorem dX11_person_97 : decode cX11_person 97 = .ok (.getfield 154, 3) := by decide +kernel
theorem dX11_person_100 : decode cX11_person 100 = .ok (.iload_n 1, 1) := by decide +kernel
theorem dX11_person_101 : decode cX11_person 101 = .ok (.iaload, 1) := by decide +kernel
theorem dX11_person_102 : decode cX11_person 102 = .ok (.ireturn, 1) := by decide +kernel
theorem dX11_person_103 : decode cX11_person 103 = .ok (.aload_n 0, 1) := by decide +kernel
theorem dX11_person_104 : decode cX11_person 104 = .ok (.getfield 72, 3) := by decide +kernel
theorem dX11_person_107 : decode cX11_person 107 = .ok (.getfield 157, 3) := by decide +kernel
theorem dX11_person_110 : decode cX11_person 110 = .ok (.iload_n 1, 1) := by decide +kernel
theorem dX11_person_111 : decode cX11_person 111 = .ok (.iaload, 1) := by decide +kernel
theorem dX11_person_112 : decode cX11_person 112 = .ok (.ireturn, 1) := by decide +kernel
theorem dX11_person_113 : decode cX11_person 113 = .ok (.aload_n 0, 1) := by decide +kernel
theorem dX11_person_114 : decode cX11_person 114 = .ok (.getfield 72, 3) := by decide +kernel
theorem dX11_person_117 : decode cX11_person 117 = .ok (.getfield 160, 3) := by decide +kernel
theorem dX11_person_120 : decode cX11_person 120 = .ok (.iload_n 1, 1) := by decide +kernel
theorem dX11_person_121 : decode cX11_person 121 = .ok (.iaload, 1) := by decide +kernel
theorem dX11_person_122 : decode cX11_person 122 = .ok (.ireturn, 1) := by decide +kernel
theorem dX11_person_123 : decode cX11_person 123 = .ok (.aload_n 0, 1) := by decide +kernel
theorem dX11_person_124 : decode cX11_person 124 = .ok (.getfield 72, 3) := by decide +kernel
theorem dX11_person_127 : decode cX11_person 127 = .ok (.iload_n 1, 1) := by decide +kernel
theorem dX11_person_128 : decode cX11_person 128 = .ok (.invokevirtual 163, 3) := by decide +kernel
theorem dX11_person_131 : decode cX11_person 131 = .ok (.ireturn, 1) := by decide +kernel
theorem dX11_person_132 : decode cX11_person 132 = .ok (.new 139, 3) := by decide +kernel
theorem dX11_person_135 : decode cX11_person 135 = .ok (.dup, 1) := by decide +kernel
theorem dX11_person_136 : decode cX11_person 136 = .ok (.invokespecial 141, 3) := by decide +kernel
theorem dX11_person_139 : decode cX11_person 139 = .ok (.athrow, 1) := by decide +kernel
theorem dX11_land_0 : decode cX11_land 0 = .ok (.aload_n 0, 1) := by decide +kernel
theorem dX11_land_1 : decode cX11_land 1 = .ok (.iload_n 1, 1) := by decide +kernel
theorem dX11_land_2 : decode cX11_land 2 = .ok (.invokevirtual 167, 3) := by decide +kernel
theorem dX11_land_5 : decode cX11_land 5 = .ok (.ifCond .ne 5, 3) := by decide +kernel
theorem dX11_land_8 : decode cX11_land 8 = .ok (.iconst (-1), 1) := by decide +kernel
theorem dX11_land_9 : decode cX11_land 9 = .ok (.ireturn, 1) := by decide +kernel
theorem dX11_land_10 : decode cX11_land 10 = .ok (.iload_n 2, 1) := by decide +kernel
theorem dX11_land_11 : decode cX11_land 11 = .ok (.tableswitch 88 0 4 #[33, 46, 59, 69, 79], 33) := by decide +kernel
theorem dX11_land_44 : decode cX11_land 44 = .ok (.aload_n 0, 1) := by decide +kernel
theorem dX11_land_45 : decode cX11_land 45 = .ok (.getfield 72, 3) := by decide +kernel
theorem dX11_land_48 : decode cX11_land 48 = .ok (.getfield 142, 3) := by decide +kernel
theorem dX11_land_51 : decode cX11_land 51 = .ok (.getfield 170, 3) := by decide +kernel
theorem dX11_land_54 : decode cX11_land 54 = .ok (.iload_n 1, 1) := by decide +kernel
theorem dX11_land_55 : decode cX11_land 55 = .ok (.iaload, 1) := by decide +kernel
theorem dX11_land_56 : decode cX11_land 56 = .ok (.ireturn, 1) := by decide +kernel
theorem dX11_land_57 : decode cX11_land 57 = .ok (.aload_n 0, 1) := by decide +kernel
theorem dX11_land_58 : decode cX11_land 58 = .ok (.getfield 72, 3) := by decide +kernel
theorem dX11_land_61 : decode cX11_land 61 = .ok (.getfield 142, 3) := by decide +kernel
theorem dX11_land_64 : decode cX11_land 64 = .ok (.getfield 173, 3) := by decide +kernel
theorem dX11_land_67 : decode cX11_land 67 = .ok (.iload_n 1, 1) := by decide +kernel
theorem dX11_land_68 : decode cX11_land 68 = .ok (.iaload, 1) := by decide +kernel
theorem dX11_land_69 : decode cX11_land 69 = .ok (.ireturn, 1) := by decide +kernel
theorem dX11_land_70 : decode cX11_land 70 = .ok (.aload_n 0, 1) := by decide +kernel
theorem dX11_land_71 : decode cX11_land 71 = .ok (.getfield 72, 3) := by decide +kernel
theorem dX11_land_74 : decode cX11_land 74 = .ok (.getfield 176, 3) := by decide +kernel
theorem dX11_land_77 : decode cX11_land 77 = .ok (.iload_n 1, 1) := by decide +kernel
theorem dX11_land_78 : decode cX11_land 78 = .ok (.iaload, 1) := by decide +kernel
theorem dX11_land_79 : decode cX11_land 79 = .ok (.ireturn, 1) := by decide +kernel
theorem dX11_land_80 : decode cX11_land 80 = .ok (.aload_n 0, 1) := by decide +kernel
theorem dX11_land_81 : decode cX11_land 81 = .ok (.getfield 72, 3) := by decide +kernel
theorem dX11_land_84 : decode cX11_land 84 = .ok (.getfield 179, 3) := by decide +kernel
theorem dX11_land_87 : decode cX11_land 87 = .ok (.iload_n 1, 1) := by decide +kernel
theorem dX11_land_88 : decode cX11_land 88 = .ok (.iaload, 1) := by decide +kernel
theorem dX11_land_89 : decode cX11_land 89 = .ok (.ireturn, 1) := by decide +kernel
theorem dX11_land_90 : decode cX11_land 90 = .ok (.aload_n 0, 1) := by decide +kernel
theorem dX11_land_91 : decode cX11_land 91 = .ok (.getfield 72, 3) := by decide +kernel
theorem dX11_land_94 : decode cX11_land 94 = .ok (.iload_n 1, 1) := by decide +kernel
theorem dX11_land_95 : decode cX11_land 95 = .ok (.invokevirtual 182, 3) := by decide +kernel
theorem dX11_land_98 : decode cX11_land 98 = .ok (.ireturn, 1) := by decide +kernel
theorem dX11_land_99 : decode cX11_land 99 = .ok (.iconst (-1), 1) := by decide +kernel
theorem dX11_land_100 : decode cX11_land 100 = .ok (.ireturn, 1) := by decide +kernel
theorem dX11_road_0 : decode cX11_road 0 = .ok (.iload_n 1, 1) := by decide +kernel
theorem dX11_road_1 : decode cX11_road 1 = .ok (.ifCond .lt 17, 3) := by decide +kernel
theorem dX11_road_4 : decode cX11_road 4 = .ok (.iload_n 1, 1) := by decide +kernel
theorem dX11_road_5 : decode cX11_road 5 = .ok (.aload_n 0, 1) := by decide +kernel
theorem dX11_road_6 : decode cX11_road 6 = .ok (.getfield 72, 3) := by decide +kernel
theorem dX11_road_9 : decode cX11_road 9 = .ok (.getfield 142, 3) := by decide +kernel
theorem dX11_road_12 : decode cX11_road 12 = .ok (.getfield 185, 3) := by decide +kernel
theorem dX11_road_15 : decode cX11_road 15 = .ok (.if_icmp .lt 5, 3) := by decide +kernel
theorem dX11_road_18 : decode cX11_road 18 = .ok (.iconst (-1), 1) := by decide +kernel
theorem dX11_road_19 : decode cX11_road 19 = .ok (.ireturn, 1) := by decide +kernel
theorem dX11_road_20 : decode cX11_road 20 = .ok (.iload_n 2, 1) := by decide +kernel
theorem dX11_road_21 : decode cX11_road 21 = .ok (.tableswitch 107 0 4 #[35, 48, 61, 74, 87], 35) := by decide +kernel
theorem dX11_road_56 : decode cX11_road 56 = .ok (.aload_n 0, 1) := by decide +kernel
theorem dX11_road_57 : decode cX11_road 57 = .ok (.getfield 72, 3) := by decide +kernel
theorem dX11_road_60 : decode cX11_road 60 = .ok (.getfield 142, 3) := by decide +kernel
theorem dX11_road_63 : decode cX11_road 63 = .ok (.getfield 188, 3) := by decide +kernel
theorem dX11_road_66 : decode cX11_road 66 = .ok (.iload_n 1, 1) := by decide +kernel
theorem dX11_road_67 : decode cX11_road 67 = .ok (.iaload, 1) := by decide +kernel
theorem dX11_road_68 : decode cX11_road 68 = .ok (.ireturn, 1) := by decide +kernel
theorem dX11_road_69 : decode cX11_road 69 = .ok (.aload_n 0, 1) := by decide +kernel
theorem dX11_road_70 : decode cX11_road 70 = .ok (.getfield 72, 3) := by decide +kernel
theorem dX11_road_73 : decode cX11_road 73 = .ok (.getfield 142, 3) := by decide +kernel
theorem dX11_road_76 : decode cX11_road 76 = .ok (.getfield 191, 3) := by decide +kernel
theorem dX11_road_79 : decode cX11_road 79 = .ok (.iload_n 1, 1) := by decide +kernel
theorem dX11_road_80 : decode cX11_road 80 = .ok (.iaload, 1) := by decide +kernel
theorem dX11_road_81 : decode cX11_road 81 = .ok (.ireturn, 1) := by decide +kernel
theorem dX11_road_82 : decode cX11_road 82 = .ok (.aload_n 0, 1) := by decide +kernel
theorem dX11_road_83 : decode cX11_road 83 = .ok (.getfield 72, 3) := by decide +kernel
theorem dX11_road_86 : decode cX11_road 86 = .ok (.getfield 142, 3) := by decide +kernel
theorem dX11_road_89 : decode cX11_road 89 = .ok (.getfield 194, 3) := by decide +kernel
theorem dX11_road_92 : decode cX11_road 92 = .ok (.iload_n 1, 1) := by decide +kernel
theorem dX11_road_93 : decode cX11_road 93 = .ok (.iaload, 1) := by decide +kernel
theorem dX11_road_94 : decode cX11_road 94 = .ok (.ireturn, 1) := by decide +kernel
theorem dX11_road_95 : decode cX11_road 95 = .ok (.aload_n 0, 1) := by decide +kernel
theorem dX11_road_96 : decode cX11_road 96 = .ok (.getfield 72, 3) := by decide +kernel
