theorem dX12_isOpen_18 : decode cX12_isOpen 18 = .ok (.iconst 0, 1) := by decide +kernel
theorem dX12_isOpen_19 : decode cX12_isOpen 19 = .ok (.ireturn, 1) := by decide +kernel
theorem dX12_roadOf_0 : decode cX12_roadOf 0 = .ok (.iconst 0, 1) := by decide +kernel
theorem dX12_roadOf_1 : decode cX12_roadOf 1 = .ok (.istore_n 3, 1) := by decide +kernel
theorem dX12_roadOf_2 : decode cX12_roadOf 2 = .ok (.iload_n 3, 1) := by decide +kernel
theorem dX12_roadOf_3 : decode cX12_roadOf 3 = .ok (.aload_n 0, 1) := by decide +kernel
theorem dX12_roadOf_4 : decode cX12_roadOf 4 = .ok (.getfield 33, 3) := by decide +kernel
theorem dX12_roadOf_7 : decode cX12_roadOf 7 = .ok (.iconst 1, 1) := by decide +kernel
theorem dX12_roadOf_8 : decode cX12_roadOf 8 = .ok (.iaload, 1) := by decide +kernel
theorem dX12_roadOf_9 : decode cX12_roadOf 9 = .ok (.if_icmp .ge 63, 3) := by decide +kernel
theorem dX12_roadOf_12 : decode cX12_roadOf 12 = .ok (.aload_n 0, 1) := by decide +kernel
theorem dX12_roadOf_13 : decode cX12_roadOf 13 = .ok (.getfield 33, 3) := by decide +kernel
theorem dX12_roadOf_16 : decode cX12_roadOf 16 = .ok (.bipush 24, 2) := by decide +kernel
theorem dX12_roadOf_18 : decode cX12_roadOf 18 = .ok (.iload_n 3, 1) := by decide +kernel
theorem dX12_roadOf_19 : decode cX12_roadOf 19 = .ok (.iadd, 1) := by decide +kernel
theorem dX12_roadOf_20 : decode cX12_roadOf 20 = .ok (.iaload, 1) := by decide +kernel
theorem dX12_roadOf_21 : decode cX12_roadOf 21 = .ok (.iload_n 1, 1) := by decide +kernel
theorem dX12_roadOf_22 : decode cX12_roadOf 22 = .ok (.if_icmp .ne 16, 3) := by decide +kernel
theorem dX12_roadOf_25 : decode cX12_roadOf 25 = .ok (.aload_n 0, 1) := by decide +kernel
theorem dX12_roadOf_26 : decode cX12_roadOf 26 = .ok (.getfield 33, 3) := by decide +kernel
theorem dX12_roadOf_29 : decode cX12_roadOf 29 = .ok (.bipush 36, 2) := by decide +kernel
theorem dX12_roadOf_31 : decode cX12_roadOf 31 = .ok (.iload_n 3, 1) := by decide +kernel
theorem dX12_roadOf_32 : decode cX12_roadOf 32 = .ok (.iadd, 1) := by decide +kernel
theorem dX12_roadOf_33 : decode cX12_roadOf 33 = .ok (.iaload, 1) := by decide +kernel
theorem dX12_roadOf_34 : decode cX12_roadOf 34 = .ok (.iload_n 2, 1) := by decide +kernel
theorem dX12_roadOf_35 : decode cX12_roadOf 35 = .ok (.if_icmp .eq 29, 3) := by decide +kernel
theorem dX12_roadOf_38 : decode cX12_roadOf 38 = .ok (.aload_n 0, 1) := by decide +kernel
theorem dX12_roadOf_39 : decode cX12_roadOf 39 = .ok (.getfield 33, 3) := by decide +kernel
theorem dX12_roadOf_42 : decode cX12_roadOf 42 = .ok (.bipush 24, 2) := by decide +kernel
theorem dX12_roadOf_44 : decode cX12_roadOf 44 = .ok (.iload_n 3, 1) := by decide +kernel
theorem dX12_roadOf_45 : decode cX12_roadOf 45 = .ok (.iadd, 1) := by decide +kernel
theorem dX12_roadOf_46 : decode cX12_roadOf 46 = .ok (.iaload, 1) := by decide +kernel
theorem dX12_roadOf_47 : decode cX12_roadOf 47 = .ok (.iload_n 2, 1) := by decide +kernel
theorem dX12_roadOf_48 : decode cX12_roadOf 48 = .ok (.if_icmp .ne 18, 3) := by decide +kernel
theorem dX12_roadOf_51 : decode cX12_roadOf 51 = .ok (.aload_n 0, 1) := by decide +kernel
theorem dX12_roadOf_52 : decode cX12_roadOf 52 = .ok (.getfield 33, 3) := by decide +kernel
theorem dX12_roadOf_55 : decode cX12_roadOf 55 = .ok (.bipush 36, 2) := by decide +kernel
theorem dX12_roadOf_57 : decode cX12_roadOf 57 = .ok (.iload_n 3, 1) := by decide +kernel
theorem dX12_roadOf_58 : decode cX12_roadOf 58 = .ok (.iadd, 1) := by decide +kernel
theorem dX12_roadOf_59 : decode cX12_roadOf 59 = .ok (.iaload, 1) := by decide +kernel
theorem dX12_roadOf_60 : decode cX12_roadOf 60 = .ok (.iload_n 1, 1) := by decide +kernel
theorem dX12_roadOf_61 : decode cX12_roadOf 61 = .ok (.if_icmp .ne 5, 3) := by decide +kernel
theorem dX12_roadOf_64 : decode cX12_roadOf 64 = .ok (.iload_n 3, 1) := by decide +kernel
theorem dX12_roadOf_65 : decode cX12_roadOf 65 = .ok (.ireturn, 1) := by decide +kernel
theorem dX12_roadOf_66 : decode cX12_roadOf 66 = .ok (.iinc 3 1, 3) := by decide +kernel
theorem dX12_roadOf_69 : decode cX12_roadOf 69 = .ok (.goto (-67), 3) := by decide +kernel
theorem dX12_roadOf_72 : decode cX12_roadOf 72 = .ok (.iconst (-1), 1) := by decide +kernel
theorem dX12_roadOf_73 : decode cX12_roadOf 73 = .ok (.ireturn, 1) := by decide +kernel
theorem dX12_sparedIn_0 : decode cX12_sparedIn 0 = .ok (.aload_n 0, 1) := by decide +kernel
theorem dX12_sparedIn_1 : decode cX12_sparedIn 1 = .ok (.getfield 33, 3) := by decide +kernel
theorem dX12_sparedIn_4 : decode cX12_sparedIn 4 = .ok (.bipush 101, 2) := by decide +kernel
theorem dX12_sparedIn_6 : decode cX12_sparedIn 6 = .ok (.aload_n 0, 1) := by decide +kernel
theorem dX12_sparedIn_7 : decode cX12_sparedIn 7 = .ok (.getfield 33, 3) := by decide +kernel
theorem dX12_sparedIn_10 : decode cX12_sparedIn 10 = .ok (.bipush 79, 2) := by decide +kernel
theorem dX12_sparedIn_12 : decode cX12_sparedIn 12 = .ok (.iload_n 1, 1) := by decide +kernel
theorem dX12_sparedIn_13 : decode cX12_sparedIn 13 = .ok (.iadd, 1) := by decide +kernel
theorem dX12_sparedIn_14 : decode cX12_sparedIn 14 = .ok (.iaload, 1) := by decide +kernel
theorem dX12_sparedIn_15 : decode cX12_sparedIn 15 = .ok (.iadd, 1) := by decide +kernel
theorem dX12_sparedIn_16 : decode cX12_sparedIn 16 = .ok (.iaload, 1) := by decide +kernel
theorem dX12_sparedIn_17 : decode cX12_sparedIn 17 = .ok (.iconst 1, 1) := by decide +kernel
theorem dX12_sparedIn_18 : decode cX12_sparedIn 18 = .ok (.aload_n 0, 1) := by decide +kernel
theorem dX12_sparedIn_19 : decode cX12_sparedIn 19 = .ok (.getfield 33, 3) := by decide +kernel
theorem dX12_sparedIn_22 : decode cX12_sparedIn 22 = .ok (.bipush 79, 2) := by decide +kernel
theorem dX12_sparedIn_24 : decode cX12_sparedIn 24 = .ok (.iload_n 1, 1) := by decide +kernel
theorem dX12_sparedIn_25 : decode cX12_sparedIn 25 = .ok (.iadd, 1) := by decide +kernel
theorem dX12_sparedIn_26 : decode cX12_sparedIn 26 = .ok (.iaload, 1) := by decide +kernel
theorem dX12_sparedIn_27 : decode cX12_sparedIn 27 = .ok (.ishl, 1) := by decide +kernel
theorem dX12_sparedIn_28 : decode cX12_sparedIn 28 = .ok (.ior, 1) := by decide +kernel
theorem dX12_sparedIn_29 : decode cX12_sparedIn 29 = .ok (.ireturn, 1) := by decide +kernel
theorem dX12_whyBy_0 : decode cX12_whyBy 0 = .ok (.aload_n 0, 1) := by decide +kernel
theorem dX12_whyBy_1 : decode cX12_whyBy 1 = .ok (.iload_n 1, 1) := by decide +kernel
theorem dX12_whyBy_2 : decode cX12_whyBy 2 = .ok (.iload_n 2, 1) := by decide +kernel
theorem dX12_whyBy_3 : decode cX12_whyBy 3 = .ok (.invokevirtual 278, 3) := by decide +kernel
theorem dX12_whyBy_6 : decode cX12_whyBy 6 = .ok (.istore 5, 2) := by decide +kernel
theorem dX12_whyBy_8 : decode cX12_whyBy 8 = .ok (.iload 5, 2) := by decide +kernel
theorem dX12_whyBy_10 : decode cX12_whyBy 10 = .ok (.ifCond .ge 5, 3) := by decide +kernel
theorem dX12_whyBy_13 : decode cX12_whyBy 13 = .ok (.iconst 1, 1) := by decide +kernel
theorem dX12_whyBy_14 : decode cX12_whyBy 14 = .ok (.ireturn, 1) := by decide +kernel
theorem dX12_whyBy_15 : decode cX12_whyBy 15 = .ok (.aload_n 0, 1) := by decide +kernel
theorem dX12_whyBy_16 : decode cX12_whyBy 16 = .ok (.iload 5, 2) := by decide +kernel
theorem dX12_whyBy_18 : decode cX12_whyBy 18 = .ok (.invokevirtual 281, 3) := by decide +kernel
theorem dX12_whyBy_21 : decode cX12_whyBy 21 = .ok (.ifCond .ne 5, 3) := by decide +kernel
theorem dX12_whyBy_24 : decode cX12_whyBy 24 = .ok (.iconst 2, 1) := by decide +kernel
theorem dX12_whyBy_25 : decode cX12_whyBy 25 = .ok (.ireturn, 1) := by decide +kernel
theorem dX12_whyBy_26 : decode cX12_whyBy 26 = .ok (.iload_n 3, 1) := by decide +kernel
theorem dX12_whyBy_27 : decode cX12_whyBy 27 = .ok (.aload_n 0, 1) := by decide +kernel
theorem dX12_whyBy_28 : decode cX12_whyBy 28 = .ok (.getfield 33, 3) := by decide +kernel
theorem dX12_whyBy_31 : decode cX12_whyBy 31 = .ok (.bipush 48, 2) := by decide +kernel
theorem dX12_whyBy_33 : decode cX12_whyBy 33 = .ok (.iload 5, 2) := by decide +kernel
theorem dX12_whyBy_35 : decode cX12_whyBy 35 = .ok (.iadd, 1) := by decide +kernel
theorem dX12_whyBy_36 : decode cX12_whyBy 36 = .ok (.iaload, 1) := by decide +kernel
theorem dX12_whyBy_37 : decode cX12_whyBy 37 = .ok (.if_icmp .ge 5, 3) := by decide +kernel
theorem dX12_whyBy_40 : decode cX12_whyBy 40 = .ok (.iconst 3, 1) := by decide +kernel
theorem dX12_whyBy_41 : decode cX12_whyBy 41 = .ok (.ireturn, 1) := by decide +kernel
theorem dX12_whyBy_42 : decode cX12_whyBy 42 = .ok (.iload_n 3, 1) := by decide +kernel
theorem dX12_whyBy_43 : decode cX12_whyBy 43 = .ok (.aload_n 0, 1) := by decide +kernel
theorem dX12_whyBy_44 : decode cX12_whyBy 44 = .ok (.getfield 33, 3) := by decide +kernel
theorem dX12_whyBy_47 : decode cX12_whyBy 47 = .ok (.bipush 60, 2) := by decide +kernel
theorem dX12_whyBy_49 : decode cX12_whyBy 49 = .ok (.iload 5, 2) := by decide +kernel
theorem dX12_whyBy_51 : decode cX12_whyBy 51 = .ok (.iadd, 1) := by decide +kernel
theorem dX12_whyBy_52 : decode cX12_whyBy 52 = .ok (.iaload, 1) := by decide +kernel
theorem dX12_whyBy_53 : decode cX12_whyBy 53 = .ok (.if_icmp .le 5, 3) := by decide +kernel
theorem dX12_whyBy_56 : decode cX12_whyBy 56 = .ok (.iconst 4, 1) := by decide +kernel
theorem dX12_whyBy_57 : decode cX12_whyBy 57 = .ok (.ireturn, 1) := by decide +kernel
theorem dX12_whyBy_58 : decode cX12_whyBy 58 = .ok (.iload 4, 2) := by decide +kernel
theorem dX12_whyBy_60 : decode cX12_whyBy 60 = .ok (.iload_n 2, 1) := by decide +kernel
theorem dX12_whyBy_61 : decode cX12_whyBy 61 = .ok (.invokestatic 257, 3) := by decide +kernel
theorem dX12_whyBy_64 : decode cX12_whyBy 64 = .ok (.ifCond .ne 19, 3) := by decide +kernel
theorem dX12_whyBy_67 : decode cX12_whyBy 67 = .ok (.aload_n 0, 1) := by decide +kernel
theorem dX12_whyBy_68 : decode cX12_whyBy 68 = .ok (.getfield 33, 3) := by decide +kernel
theorem dX12_whyBy_71 : decode cX12_whyBy 71 = .ok (.iconst 3, 1) := by decide +kernel
theorem dX12_whyBy_72 : decode cX12_whyBy 72 = .ok (.iload_n 2, 1) := by decide +kernel
theorem dX12_whyBy_73 : decode cX12_whyBy 73 = .ok (.iadd, 1) := by decide +kernel
theorem dX12_whyBy_74 : decode cX12_whyBy 74 = .ok (.iaload, 1) := by decide +kernel
theorem dX12_whyBy_75 : decode cX12_whyBy 75 = .ok (.iload_n 3, 1) := by decide +kernel
theorem dX12_whyBy_76 : decode cX12_whyBy 76 = .ok (.if_icmp .lt 7, 3) := by decide +kernel
theorem dX12_whyBy_79 : decode cX12_whyBy 79 = .ok (.iconst 5, 1) := by decide +kernel
theorem dX12_whyBy_80 : decode cX12_whyBy 80 = .ok (.goto 4, 3) := by decide +kernel
theorem dX12_whyBy_83 : decode cX12_whyBy 83 = .ok (.iconst 0, 1) := by decide +kernel
theorem dX12_whyBy_84 : decode cX12_whyBy 84 = .ok (.ireturn, 1) := by decide +kernel
theorem dX12_whyCross_0 : decode cX12_whyCross 0 = .ok (.aload_n 0, 1) := by decide +kernel
theorem dX12_whyCross_1 : decode cX12_whyCross 1 = .ok (.aload_n 0, 1) := by decide +kernel
theorem dX12_whyCross_2 : decode cX12_whyCross 2 = .ok (.getfield 33, 3) := by decide +kernel
theorem dX12_whyCross_5 : decode cX12_whyCross 5 = .ok (.bipush 108, 2) := by decide +kernel
theorem dX12_whyCross_7 : decode cX12_whyCross 7 = .ok (.iload_n 1, 1) := by decide +kernel
theorem dX12_whyCross_8 : decode cX12_whyCross 8 = .ok (.iadd, 1) := by decide +kernel
theorem dX12_whyCross_9 : decode cX12_whyCross 9 = .ok (.iaload, 1) := by decide +kernel
theorem dX12_whyCross_10 : decode cX12_whyCross 10 = .ok (.iload_n 2, 1) := by decide +kernel
theorem dX12_whyCross_11 : decode cX12_whyCross 11 = .ok (.aload_n 0, 1) := by decide +kernel
theorem dX12_whyCross_12 : decode cX12_whyCross 12 = .ok (.getfield 33, 3) := by decide +kernel
theorem dX12_whyCross_15 : decode cX12_whyCross 15 = .ok (.bipush 114, 2) := by decide +kernel
theorem dX12_whyCross_17 : decode cX12_whyCross 17 = .ok (.iload_n 1, 1) := by decide +kernel
theorem dX12_whyCross_18 : decode cX12_whyCross 18 = .ok (.iadd, 1) := by decide +kernel
theorem dX12_whyCross_19 : decode cX12_whyCross 19 = .ok (.iaload, 1) := by decide +kernel
theorem dX12_whyCross_20 : decode cX12_whyCross 20 = .ok (.aload_n 0, 1) := by decide +kernel
theorem dX12_whyCross_21 : decode cX12_whyCross 21 = .ok (.iload_n 1, 1) := by decide +kernel
theorem dX12_whyCross_22 : decode cX12_whyCross 22 = .ok (.invokevirtual 284, 3) := by decide +kernel
theorem dX12_whyCross_25 : decode cX12_whyCross 25 = .ok (.invokevirtual 288, 3) := by decide +kernel
theorem dX12_whyCross_28 : decode cX12_whyCross 28 = .ok (.ireturn, 1) := by decide +kernel
theorem dX12_couldOf_0 : decode cX12_couldOf 0 = .ok (.iconst 0, 1) := by decide +kernel
theorem dX12_couldOf_1 : decode cX12_couldOf 1 = .ok (.istore_n 2, 1) := by decide +kernel
theorem dX12_couldOf_2 : decode cX12_couldOf 2 = .ok (.iconst 0, 1) := by decide +kernel
theorem dX12_couldOf_3 : decode cX12_couldOf 3 = .ok (.istore_n 3, 1) := by decide +kernel
theorem dX12_couldOf_4 : decode cX12_couldOf 4 = .ok (.iload_n 3, 1) := by decide +kernel
theorem dX12_couldOf_5 : decode cX12_couldOf 5 = .ok (.aload_n 0, 1) := by decide +kernel
theorem dX12_couldOf_6 : decode cX12_couldOf 6 = .ok (.getfield 33, 3) := by decide +kernel
theorem dX12_couldOf_9 : decode cX12_couldOf 9 = .ok (.iconst 0, 1) := by decide +kernel
theorem dX12_couldOf_10 : decode cX12_couldOf 10 = .ok (.iaload, 1) := by decide +kernel
theorem dX12_couldOf_11 : decode cX12_couldOf 11 = .ok (.if_icmp .ge 28, 3) := by decide +kernel
theorem dX12_couldOf_14 : decode cX12_couldOf 14 = .ok (.iload_n 2, 1) := by decide +kernel
theorem dX12_couldOf_15 : decode cX12_couldOf 15 = .ok (.aload_n 0, 1) := by decide +kernel
theorem dX12_couldOf_16 : decode cX12_couldOf 16 = .ok (.iload_n 1, 1) := by decide +kernel
theorem dX12_couldOf_17 : decode cX12_couldOf 17 = .ok (.iload_n 3, 1) := by decide +kernel
theorem dX12_couldOf_18 : decode cX12_couldOf 18 = .ok (.invokevirtual 292, 3) := by decide +kernel
theorem dX12_couldOf_21 : decode cX12_couldOf 21 = .ok (.ifCond .ne 9, 3) := by decide +kernel
theorem dX12_couldOf_24 : decode cX12_couldOf 24 = .ok (.iconst 1, 1) := by decide +kernel
theorem dX12_couldOf_25 : decode cX12_couldOf 25 = .ok (.iload_n 3, 1) := by decide +kernel
theorem dX12_couldOf_26 : decode cX12_couldOf 26 = .ok (.ishl, 1) := by decide +kernel
theorem dX12_couldOf_27 : decode cX12_couldOf 27 = .ok (.goto 4, 3) := by decide +kernel
theorem dX12_couldOf_30 : decode cX12_couldOf 30 = .ok (.iconst 0, 1) := by decide +kernel
theorem dX12_couldOf_31 : decode cX12_couldOf 31 = .ok (.ior, 1) := by decide +kernel
theorem dX12_couldOf_32 : decode cX12_couldOf 32 = .ok (.istore_n 2, 1) := by decide +kernel
theorem dX12_couldOf_33 : decode cX12_couldOf 33 = .ok (.iinc 3 1, 3) := by decide +kernel
theorem dX12_couldOf_36 : decode cX12_couldOf 36 = .ok (.goto (-32), 3) := by decide +kernel
theorem dX12_couldOf_39 : decode cX12_couldOf 39 = .ok (.iload_n 2, 1) := by decide +kernel
theorem dX12_couldOf_40 : decode cX12_couldOf 40 = .ok (.ireturn, 1) := by decide +kernel
theorem dX12_given_0 : decode cX12_given 0 = .ok (.aload_n 0, 1) := by decide +kernel
theorem dX12_given_1 : decode cX12_given 1 = .ok (.getfield 33, 3) := by decide +kernel
theorem dX12_given_4 : decode cX12_given 4 = .ok (.bipush 10, 2) := by decide +kernel
theorem dX12_given_6 : decode cX12_given 6 = .ok (.iload_n 1, 1) := by decide +kernel
theorem dX12_given_7 : decode cX12_given 7 = .ok (.iadd, 1) := by decide +kernel
theorem dX12_given_8 : decode cX12_given 8 = .ok (.iaload, 1) := by decide +kernel
theorem dX12_given_9 : decode cX12_given 9 = .ok (.iload_n 3, 1) := by decide +kernel
theorem dX12_given_10 : decode cX12_given 10 = .ok (.sipush 240, 3) := by decide +kernel
theorem dX12_given_13 : decode cX12_given 13 = .ok (.iload_n 2, 1) := by decide +kernel
theorem dX12_given_14 : decode cX12_given 14 = .ok (.isub, 1) := by decide +kernel
theorem dX12_given_15 : decode cX12_given 15 = .ok (.invokestatic 295, 3) := by decide +kernel
theorem dX12_given_18 : decode cX12_given 18 = .ok (.invokestatic 295, 3) := by decide +kernel
theorem dX12_given_21 : decode cX12_given 21 = .ok (.ireturn, 1) := by decide +kernel
theorem dX12_crosses_0 : decode cX12_crosses 0 = .ok (.aload_n 0, 1) := by decide +kernel
theorem dX12_crosses_1 : decode cX12_crosses 1 = .ok (.getfield 33, 3) := by decide +kernel
theorem dX12_crosses_4 : decode cX12_crosses 4 = .ok (.bipush 108, 2) := by decide +kernel
theorem dX12_crosses_6 : decode cX12_crosses 6 = .ok (.iload_n 1, 1) := by decide +kernel
theorem dX12_crosses_7 : decode cX12_crosses 7 = .ok (.iadd, 1) := by decide +kernel
theorem dX12_crosses_8 : decode cX12_crosses 8 = .ok (.iload_n 2, 1) := by decide +kernel
theorem dX12_crosses_9 : decode cX12_crosses 9 = .ok (.iastore, 1) := by decide +kernel
theorem dX12_crosses_10 : decode cX12_crosses 10 = .ok (.aload_n 0, 1) := by decide +kernel
theorem dX12_crosses_11 : decode cX12_crosses 11 = .ok (.getfield 33, 3) := by decide +kernel
theorem dX12_crosses_14 : decode cX12_crosses 14 = .ok (.sipush 132, 3) := by decide +kernel
theorem dX12_crosses_17 : decode cX12_crosses 17 = .ok (.iload_n 1, 1) := by decide +kernel
theorem dX12_crosses_18 : decode cX12_crosses 18 = .ok (.iadd, 1) := by decide +kernel
theorem dX12_crosses_19 : decode cX12_crosses 19 = .ok (.dup2, 1) := by decide +kernel
theorem dX12_crosses_20 : decode cX12_crosses 20 = .ok (.iaload, 1) := by decide +kernel
theorem dX12_crosses_21 : decode cX12_crosses 21 = .ok (.iconst 1, 1) := by decide +kernel
theorem dX12_crosses_22 : decode cX12_crosses 22 = .ok (.iadd, 1) := by decide +kernel
theorem dX12_crosses_23 : decode cX12_crosses 23 = .ok (.iastore, 1) := by decide +kernel
theorem dX12_crosses_24 : decode cX12_crosses 24 = .ok (.aload_n 0, 1) := by decide +kernel
theorem dX12_crosses_25 : decode cX12_crosses 25 = .ok (.getfield 33, 3) := by decide +kernel
theorem dX12_crosses_28 : decode cX12_crosses 28 = .ok (.bipush 92, 2) := by decide +kernel
theorem dX12_crosses_30 : decode cX12_crosses 30 = .ok (.dup2, 1) := by decide +kernel
theorem dX12_crosses_31 : decode cX12_crosses 31 = .ok (.iaload, 1) := by decide +kernel
theorem dX12_crosses_32 : decode cX12_crosses 32 = .ok (.iconst 1, 1) := by decide +kernel
theorem dX12_crosses_33 : decode cX12_crosses 33 = .ok (.iadd, 1) := by decide +kernel
theorem dX12_crosses_34 : decode cX12_crosses 34 = .ok (.iastore, 1) := by decide +kernel
theorem dX12_crosses_35 : decode cX12_crosses 35 = .ok (.iload_n 2, 1) := by decide +kernel
theorem dX12_crosses_36 : decode cX12_crosses 36 = .ok (.aload_n 0, 1) := by decide +kernel
theorem dX12_crosses_37 : decode cX12_crosses 37 = .ok (.getfield 33, 3) := by decide +kernel
theorem dX12_crosses_40 : decode cX12_crosses 40 = .ok (.bipush 79, 2) := by decide +kernel
theorem dX12_crosses_42 : decode cX12_crosses 42 = .ok (.iload_n 1, 1) := by decide +kernel
theorem dX12_crosses_43 : decode cX12_crosses 43 = .ok (.iadd, 1) := by decide +kernel
theorem dX12_crosses_44 : decode cX12_crosses 44 = .ok (.iaload, 1) := by decide +kernel
theorem dX12_crosses_45 : decode cX12_crosses 45 = .ok (.if_icmp .ne 69, 3) := by decide +kernel
theorem dX12_crosses_48 : decode cX12_crosses 48 = .ok (.aload_n 0, 1) := by decide +kernel
theorem dX12_crosses_49 : decode cX12_crosses 49 = .ok (.iload_n 2, 1) := by decide +kernel
theorem dX12_crosses_50 : decode cX12_crosses 50 = .ok (.aload_n 0, 1) := by decide +kernel
theorem dX12_crosses_51 : decode cX12_crosses 51 = .ok (.getfield 33, 3) := by decide +kernel
theorem dX12_crosses_54 : decode cX12_crosses 54 = .ok (.bipush 114, 2) := by decide +kernel
theorem dX12_crosses_56 : decode cX12_crosses 56 = .ok (.iload_n 1, 1) := by decide +kernel
theorem dX12_crosses_57 : decode cX12_crosses 57 = .ok (.iadd, 1) := by decide +kernel
theorem dX12_crosses_58 : decode cX12_crosses 58 = .ok (.iaload, 1) := by decide +kernel
theorem dX12_crosses_59 : decode cX12_crosses 59 = .ok (.aload_n 0, 1) := by decide +kernel
theorem dX12_crosses_60 : decode cX12_crosses 60 = .ok (.getfield 33, 3) := by decide +kernel
theorem dX12_crosses_63 : decode cX12_crosses 63 = .ok (.bipush 94, 2) := by decide +kernel
theorem dX12_crosses_65 : decode cX12_crosses 65 = .ok (.iload_n 2, 1) := by decide +kernel
theorem dX12_crosses_66 : decode cX12_crosses 66 = .ok (.iadd, 1) := by decide +kernel
theorem dX12_crosses_67 : decode cX12_crosses 67 = .ok (.iaload, 1) := by decide +kernel
theorem dX12_crosses_68 : decode cX12_crosses 68 = .ok (.invokevirtual 298, 3) := by decide +kernel
theorem dX12_crosses_71 : decode cX12_crosses 71 = .ok (.istore_n 3, 1) := by decide +kernel
theorem dX12_crosses_72 : decode cX12_crosses 72 = .ok (.aload_n 0, 1) := by decide +kernel
theorem dX12_crosses_73 : decode cX12_crosses 73 = .ok (.getfield 33, 3) := by decide +kernel
theorem dX12_crosses_76 : decode cX12_crosses 76 = .ok (.bipush 94, 2) := by decide +kernel
theorem dX12_crosses_78 : decode cX12_crosses 78 = .ok (.iload_n 2, 1) := by decide +kernel
theorem dX12_crosses_79 : decode cX12_crosses 79 = .ok (.iadd, 1) := by decide +kernel
theorem dX12_crosses_80 : decode cX12_crosses 80 = .ok (.dup2, 1) := by decide +kernel
theorem dX12_crosses_81 : decode cX12_crosses 81 = .ok (.iaload, 1) := by decide +kernel
theorem dX12_crosses_82 : decode cX12_crosses 82 = .ok (.iload_n 3, 1) := by decide +kernel
theorem dX12_crosses_83 : decode cX12_crosses 83 = .ok (.isub, 1) := by decide +kernel
theorem dX12_crosses_84 : decode cX12_crosses 84 = .ok (.iastore, 1) := by decide +kernel
theorem dX12_crosses_85 : decode cX12_crosses 85 = .ok (.aload_n 0, 1) := by decide +kernel
theorem dX12_crosses_86 : decode cX12_crosses 86 = .ok (.getfield 33, 3) := by decide +kernel
theorem dX12_crosses_89 : decode cX12_crosses 89 = .ok (.bipush 114, 2) := by decide +kernel
theorem dX12_crosses_91 : decode cX12_crosses 91 = .ok (.iload_n 1, 1) := by decide +kernel
theorem dX12_crosses_92 : decode cX12_crosses 92 = .ok (.iadd, 1) := by decide +kernel
theorem dX12_crosses_93 : decode cX12_crosses 93 = .ok (.dup2, 1) := by decide +kernel
theorem dX12_crosses_94 : decode cX12_crosses 94 = .ok (.iaload, 1) := by decide +kernel
theorem dX12_crosses_95 : decode cX12_crosses 95 = .ok (.iload_n 3, 1) := by decide +kernel
theorem dX12_crosses_96 : decode cX12_crosses 96 = .ok (.iadd, 1) := by decide +kernel
theorem dX12_crosses_97 : decode cX12_crosses 97 = .ok (.iastore, 1) := by decide +kernel
theorem dX12_crosses_98 : decode cX12_crosses 98 = .ok (.aload_n 0, 1) := by decide +kernel
theorem dX12_crosses_99 : decode cX12_crosses 99 = .ok (.getfield 33, 3) := by decide +kernel
theorem dX12_crosses_102 : decode cX12_crosses 102 = .ok (.bipush 126, 2) := by decide +kernel
theorem dX12_crosses_104 : decode cX12_crosses 104 = .ok (.iload_n 1, 1) := by decide +kernel
theorem dX12_crosses_105 : decode cX12_crosses 105 = .ok (.iadd, 1) := by decide +kernel
theorem dX12_crosses_106 : decode cX12_crosses 106 = .ok (.dup2, 1) := by decide +kernel
theorem dX12_crosses_107 : decode cX12_crosses 107 = .ok (.iaload, 1) := by decide +kernel
theorem dX12_crosses_108 : decode cX12_crosses 108 = .ok (.iload_n 3, 1) := by decide +kernel
theorem dX12_crosses_109 : decode cX12_crosses 109 = .ok (.iadd, 1) := by decide +kernel
theorem dX12_crosses_110 : decode cX12_crosses 110 = .ok (.iastore, 1) := by decide +kernel
theorem dX12_crosses_111 : decode cX12_crosses 111 = .ok (.goto 75, 3) := by decide +kernel
theorem dX12_crosses_114 : decode cX12_crosses 114 = .ok (.aload_n 0, 1) := by decide +kernel
theorem dX12_crosses_115 : decode cX12_crosses 115 = .ok (.iload_n 1, 1) := by decide +kernel
theorem dX12_crosses_116 : decode cX12_crosses 116 = .ok (.invokevirtual 284, 3) := by decide +kernel
theorem dX12_crosses_119 : decode cX12_crosses 119 = .ok (.iload_n 2, 1) := by decide +kernel
theorem dX12_crosses_120 : decode cX12_crosses 120 = .ok (.invokestatic 257, 3) := by decide +kernel
theorem dX12_crosses_123 : decode cX12_crosses 123 = .ok (.ifCond .ne 63, 3) := by decide +kernel
theorem dX12_crosses_126 : decode cX12_crosses 126 = .ok (.aload_n 0, 1) := by decide +kernel
theorem dX12_crosses_127 : decode cX12_crosses 127 = .ok (.getfield 33, 3) := by decide +kernel
theorem dX12_crosses_130 : decode cX12_crosses 130 = .ok (.bipush 114, 2) := by decide +kernel
theorem dX12_crosses_132 : decode cX12_crosses 132 = .ok (.iload_n 1, 1) := by decide +kernel
theorem dX12_crosses_133 : decode cX12_crosses 133 = .ok (.iadd, 1) := by decide +kernel
theorem dX12_crosses_134 : decode cX12_crosses 134 = .ok (.dup2, 1) := by decide +kernel
theorem dX12_crosses_135 : decode cX12_crosses 135 = .ok (.iaload, 1) := by decide +kernel
theorem dX12_crosses_136 : decode cX12_crosses 136 = .ok (.aload_n 0, 1) := by decide +kernel
theorem dX12_crosses_137 : decode cX12_crosses 137 = .ok (.getfield 33, 3) := by decide +kernel
theorem dX12_crosses_140 : decode cX12_crosses 140 = .ok (.iconst 3, 1) := by decide +kernel
theorem dX12_crosses_141 : decode cX12_crosses 141 = .ok (.iload_n 2, 1) := by decide +kernel
theorem dX12_crosses_142 : decode cX12_crosses 142 = .ok (.iadd, 1) := by decide +kernel
theorem dX12_crosses_143 : decode cX12_crosses 143 = .ok (.iaload, 1) := by decide +kernel
theorem dX12_crosses_144 : decode cX12_crosses 144 = .ok (.isub, 1) := by decide +kernel
theorem dX12_crosses_145 : decode cX12_crosses 145 = .ok (.iastore, 1) := by decide +kernel
theorem dX12_crosses_146 : decode cX12_crosses 146 = .ok (.aload_n 0, 1) := by decide +kernel
theorem dX12_crosses_147 : decode cX12_crosses 147 = .ok (.getfield 33, 3) := by decide +kernel
theorem dX12_crosses_150 : decode cX12_crosses 150 = .ok (.bipush 94, 2) := by decide +kernel
theorem dX12_crosses_152 : decode cX12_crosses 152 = .ok (.iload_n 2, 1) := by decide +kernel
theorem dX12_crosses_153 : decode cX12_crosses 153 = .ok (.iadd, 1) := by decide +kernel
theorem dX12_crosses_154 : decode cX12_crosses 154 = .ok (.dup2, 1) := by decide +kernel
theorem dX12_crosses_155 : decode cX12_crosses 155 = .ok (.iaload, 1) := by decide +kernel
theorem dX12_crosses_156 : decode cX12_crosses 156 = .ok (.aload_n 0, 1) := by decide +kernel
theorem dX12_crosses_157 : decode cX12_crosses 157 = .ok (.getfield 33, 3) := by decide +kernel
theorem dX12_crosses_160 : decode cX12_crosses 160 = .ok (.iconst 3, 1) := by decide +kernel
theorem dX12_crosses_161 : decode cX12_crosses 161 = .ok (.iload_n 2, 1) := by decide +kernel
theorem dX12_crosses_162 : decode cX12_crosses 162 = .ok (.iadd, 1) := by decide +kernel
theorem dX12_crosses_163 : decode cX12_crosses 163 = .ok (.iaload, 1) := by decide +kernel
theorem dX12_crosses_164 : decode cX12_crosses 164 = .ok (.iadd, 1) := by decide +kernel
theorem dX12_crosses_165 : decode cX12_crosses 165 = .ok (.iastore, 1) := by decide +kernel
theorem dX12_crosses_166 : decode cX12_crosses 166 = .ok (.aload_n 0, 1) := by decide +kernel
theorem dX12_crosses_167 : decode cX12_crosses 167 = .ok (.getfield 33, 3) := by decide +kernel
theorem dX12_crosses_170 : decode cX12_crosses 170 = .ok (.bipush 120, 2) := by decide +kernel
theorem dX12_crosses_172 : decode cX12_crosses 172 = .ok (.iload_n 1, 1) := by decide +kernel
theorem dX12_crosses_173 : decode cX12_crosses 173 = .ok (.iadd, 1) := by decide +kernel
theorem dX12_crosses_174 : decode cX12_crosses 174 = .ok (.dup2, 1) := by decide +kernel
theorem dX12_crosses_175 : decode cX12_crosses 175 = .ok (.iaload, 1) := by decide +kernel
theorem dX12_crosses_176 : decode cX12_crosses 176 = .ok (.aload_n 0, 1) := by decide +kernel
theorem dX12_crosses_177 : decode cX12_crosses 177 = .ok (.getfield 33, 3) := by decide +kernel
theorem dX12_crosses_180 : decode cX12_crosses 180 = .ok (.iconst 3, 1) := by decide +kernel
theorem dX12_crosses_181 : decode cX12_crosses 181 = .ok (.iload_n 2, 1) := by decide +kernel
theorem dX12_crosses_182 : decode cX12_crosses 182 = .ok (.iadd, 1) := by decide +kernel
theorem dX12_crosses_183 : decode cX12_crosses 183 = .ok (.iaload, 1) := by decide +kernel
theorem dX12_crosses_184 : decode cX12_crosses 184 = .ok (.iadd, 1) := by decide +kernel
theorem dX12_crosses_185 : decode cX12_crosses 185 = .ok (.iastore, 1) := by decide +kernel
theorem dX12_crosses_186 : decode cX12_crosses 186 = .ok (.return_, 1) := by decide +kernel
theorem dX12_allLong_0 : decode cX12_allLong 0 = .ok (.iconst 0, 1) := by decide +kernel
theorem dX12_allLong_1 : decode cX12_allLong 1 = .ok (.istore_n 1, 1) := by decide +kernel
theorem dX12_allLong_2 : decode cX12_allLong 2 = .ok (.iconst 0, 1) := by decide +kernel
theorem dX12_allLong_3 : decode cX12_allLong 3 = .ok (.istore_n 2, 1) := by decide +kernel
theorem dX12_allLong_4 : decode cX12_allLong 4 = .ok (.iload_n 2, 1) := by decide +kernel
theorem dX12_allLong_5 : decode cX12_allLong 5 = .ok (.aload_n 0, 1) := by decide +kernel
theorem dX12_allLong_6 : decode cX12_allLong 6 = .ok (.getfield 33, 3) := by decide +kernel
theorem dX12_allLong_9 : decode cX12_allLong 9 = .ok (.iconst 2, 1) := by decide +kernel
theorem dX12_allLong_10 : decode cX12_allLong 10 = .ok (.iaload, 1) := by decide +kernel
theorem dX12_allLong_11 : decode cX12_allLong 11 = .ok (.if_icmp .ge 21, 3) := by decide +kernel
theorem dX12_allLong_14 : decode cX12_allLong 14 = .ok (.iload_n 1, 1) := by decide +kernel
theorem dX12_allLong_15 : decode cX12_allLong 15 = .ok (.aload_n 0, 1) := by decide +kernel
theorem dX12_allLong_16 : decode cX12_allLong 16 = .ok (.getfield 33, 3) := by decide +kernel
theorem dX12_allLong_19 : decode cX12_allLong 19 = .ok (.bipush 114, 2) := by decide +kernel
theorem dX12_allLong_21 : decode cX12_allLong 21 = .ok (.iload_n 2, 1) := by decide +kernel
theorem dX12_allLong_22 : decode cX12_allLong 22 = .ok (.iadd, 1) := by decide +kernel
theorem dX12_allLong_23 : decode cX12_allLong 23 = .ok (.iaload, 1) := by decide +kernel
theorem dX12_allLong_24 : decode cX12_allLong 24 = .ok (.iadd, 1) := by decide +kernel
theorem dX12_allLong_25 : decode cX12_allLong 25 = .ok (.istore_n 1, 1) := by decide +kernel
theorem dX12_allLong_26 : decode cX12_allLong 26 = .ok (.iinc 2 1, 3) := by decide +kernel
theorem dX12_allLong_29 : decode cX12_allLong 29 = .ok (.goto (-25), 3) := by decide +kernel
theorem dX12_allLong_32 : decode cX12_allLong 32 = .ok (.iload_n 1, 1) := by decide +kernel
theorem dX12_allLong_33 : decode cX12_allLong 33 = .ok (.ireturn, 1) := by decide +kernel
theorem dX12_person_0 : decode cX12_person 0 = .ok (.aload_n 0, 1) := by decide +kernel
theorem dX12_person_1 : decode cX12_person 1 = .ok (.aload_n 0, 1) := by decide +kernel
theorem dX12_person_2 : decode cX12_person 2 = .ok (.iload_n 1, 1) := by decide +kernel
theorem dX12_person_3 : decode cX12_person 3 = .ok (.invokevirtual 302, 3) := by decide +kernel
theorem dX12_person_6 : decode cX12_person 6 = .ok (.ifCond .eq 13, 3) := by decide +kernel
theorem dX12_person_9 : decode cX12_person 9 = .ok (.iload_n 2, 1) := by decide +kernel
theorem dX12_person_10 : decode cX12_person 10 = .ok (.iconst 0, 1) := by decide +kernel
theorem dX12_person_11 : decode cX12_person 11 = .ok (.bipush 6, 2) := by decide +kernel
theorem dX12_person_13 : decode cX12_person 13 = .ok (.invokestatic 207, 3) := by decide +kernel
theorem dX12_person_16 : decode cX12_person 16 = .ok (.ifCond .ne 7, 3) := by decide +kernel
theorem dX12_person_19 : decode cX12_person 19 = .ok (.iconst 1, 1) := by decide +kernel
theorem dX12_person_20 : decode cX12_person 20 = .ok (.goto 4, 3) := by decide +kernel
theorem dX12_person_23 : decode cX12_person 23 = .ok (.iconst 0, 1) := by decide +kernel
theorem dX12_person_24 : decode cX12_person 24 = .ok (.invokevirtual 305, 3) := by decide +kernel
theorem dX12_person_27 : decode cX12_person 27 = .ok (.ifCond .eq 5, 3) := by decide +kernel
theorem dX12_person_30 : decode cX12_person 30 = .ok (.iconst 0, 1) := by decide +kernel
theorem dX12_person_31 : decode cX12_person 31 = .ok (.ireturn, 1) := by decide +kernel
theorem dX12_person_32 : decode cX12_person 32 = .ok (.iload_n 2, 1) := by decide +kernel
theorem dX12_person_33 : decode cX12_person 33 = .ok (.tableswitch 100 0 5 #[39, 49, 59, 69, 79, 89], 39) := by decide +kernel
theorem dX12_person_72 : decode cX12_person 72 = .ok (.aload_n 0, 1) := by decide +kernel
theorem dX12_person_73 : decode cX12_person 73 = .ok (.getfield 33, 3) := by decide +kernel
theorem dX12_person_76 : decode cX12_person 76 = .ok (.bipush 79, 2) := by decide +kernel
theorem dX12_person_78 : decode cX12_person 78 = .ok (.iload_n 1, 1) := by decide +kernel
theorem dX12_person_79 : decode cX12_person 79 = .ok (.iadd, 1) := by decide +kernel
theorem dX12_person_80 : decode cX12_person 80 = .ok (.iaload, 1) := by decide +kernel
theorem dX12_person_81 : decode cX12_person 81 = .ok (.ireturn, 1) := by decide +kernel
theorem dX12_person_82 : decode cX12_person 82 = .ok (.aload_n 0, 1) := by decide +kernel
theorem dX12_person_83 : decode cX12_person 83 = .ok (.getfield 33, 3) := by decide +kernel
theorem dX12_person_86 : decode cX12_person 86 = .ok (.bipush 108, 2) := by decide +kernel
theorem dX12_person_88 : decode cX12_person 88 = .ok (.iload_n 1, 1) := by decide +kernel
theorem dX12_person_89 : decode cX12_person 89 = .ok (.iadd, 1) := by decide +kernel
theorem dX12_person_90 : decode cX12_person 90 = .ok (.iaload, 1) := by decide +kernel
theorem dX12_person_91 : decode cX12_person 91 = .ok (.ireturn, 1) := by decide +kernel
theorem dX12_person_92 : decode cX12_person 92 = .ok (.aload_n 0, 1) := by decide +kernel
theorem dX12_person_93 : decode cX12_person 93 = .ok (.getfield 33, 3) := by decide +kernel
theorem dX12_person_96 : decode cX12_person 96 = .ok (.bipush 114, 2) := by decide +kernel
theorem dX12_person_98 : decode cX12_person 98 = .ok (.iload_n 1, 1) := by decide +kernel
theorem dX12_person_99 : decode cX12_person 99 = .ok (.iadd, 1) := by decide +kernel
theorem dX12_person_100 : decode cX12_person 100 = .ok (.iaload, 1) := by decide +kernel
theorem dX12_person_101 : decode cX12_person 101 = .ok (.ireturn, 1) := by decide +kernel
theorem dX12_person_102 : decode cX12_person 102 = .ok (.aload_n 0, 1) := by decide +kernel
theorem dX12_person_103 : decode cX12_person 103 = .ok (.getfield 33, 3) := by decide +kernel
theorem dX12_person_106 : decode cX12_person 106 = .ok (.bipush 120, 2) := by decide +kernel
theorem dX12_person_108 : decode cX12_person 108 = .ok (.iload_n 1, 1) := by decide +kernel
theorem dX12_person_109 : decode cX12_person 109 = .ok (.iadd, 1) := by decide +kernel
theorem dX12_person_110 : decode cX12_person 110 = .ok (.iaload, 1) := by decide +kernel
theorem dX12_person_111 : decode cX12_person 111 = .ok (.ireturn, 1) := by decide +kernel
theorem dX12_person_112 : decode cX12_person 112 = .ok (.aload_n 0, 1) := by decide +kernel
theorem dX12_person_113 : decode cX12_person 113 = .ok (.getfield 33, 3) := by decide +kernel
theorem dX12_person_116 : decode cX12_person 116 = .ok (.bipush 126, 2) := by decide +kernel
theorem dX12_person_118 : decode cX12_person 118 = .ok (.iload_n 1, 1) := by decide +kernel
theorem dX12_person_119 : decode cX12_person 119 = .ok (.iadd, 1) := by decide +kernel
theorem dX12_person_120 : decode cX12_person 120 = .ok (.iaload, 1) := by decide +kernel
theorem dX12_person_121 : decode cX12_person 121 = .ok (.ireturn, 1) := by decide +kernel
theorem dX12_person_122 : decode cX12_person 122 = .ok (.aload_n 0, 1) := by decide +kernel
theorem dX12_person_123 : decode cX12_person 123 = .ok (.getfield 33, 3) := by decide +kernel
theorem dX12_person_126 : decode cX12_person 126 = .ok (.sipush 132, 3) := by decide +kernel
theorem dX12_person_129 : decode cX12_person 129 = .ok (.iload_n 1, 1) := by decide +kernel
theorem dX12_person_130 : decode cX12_person 130 = .ok (.iadd, 1) := by decide +kernel
theorem dX12_person_131 : decode cX12_person 131 = .ok (.iaload, 1) := by decide +kernel
theorem dX12_person_132 : decode cX12_person 132 = .ok (.ireturn, 1) := by decide +kernel
theorem dX12_person_133 : decode cX12_person 133 = .ok (.aload_n 0, 1) := by decide +kernel
theorem dX12_person_134 : decode cX12_person 134 = .ok (.iload_n 1, 1) := by decide +kernel
theorem dX12_person_135 : decode cX12_person 135 = .ok (.invokevirtual 309, 3) := by decide +kernel
theorem dX12_person_138 : decode cX12_person 138 = .ok (.ireturn, 1) := by decide +kernel
theorem dX12_land_0 : decode cX12_land 0 = .ok (.aload_n 0, 1) := by decide +kernel
theorem dX12_land_1 : decode cX12_land 1 = .ok (.iconst 0, 1) := by decide +kernel
theorem dX12_land_2 : decode cX12_land 2 = .ok (.putfield 1, 3) := by decide +kernel
theorem dX12_land_5 : decode cX12_land 5 = .ok (.aload_n 0, 1) := by decide +kernel
theorem dX12_land_6 : decode cX12_land 6 = .ok (.iload_n 1, 1) := by decide +kernel
theorem dX12_land_7 : decode cX12_land 7 = .ok (.invokevirtual 312, 3) := by decide +kernel
theorem dX12_land_10 : decode cX12_land 10 = .ok (.ifCond .ne 5, 3) := by decide +kernel
theorem dX12_land_13 : decode cX12_land 13 = .ok (.iconst (-1), 1) := by decide +kernel
theorem dX12_land_14 : decode cX12_land 14 = .ok (.ireturn, 1) := by decide +kernel
theorem dX12_land_15 : decode cX12_land 15 = .ok (.iconst 0, 1) := by decide +kernel
theorem dX12_land_16 : decode cX12_land 16 = .ok (.istore_n 3, 1) := by decide +kernel
theorem dX12_land_17 : decode cX12_land 17 = .ok (.iconst 0, 1) := by decide +kernel
theorem dX12_land_18 : decode cX12_land 18 = .ok (.istore 4, 2) := by decide +kernel
theorem dX12_land_20 : decode cX12_land 20 = .ok (.iload 4, 2) := by decide +kernel
theorem dX12_land_22 : decode cX12_land 22 = .ok (.aload_n 0, 1) := by decide +kernel
theorem dX12_land_23 : decode cX12_land 23 = .ok (.getfield 33, 3) := by decide +kernel
theorem dX12_land_26 : decode cX12_land 26 = .ok (.iconst 2, 1) := by decide +kernel
theorem dX12_land_27 : decode cX12_land 27 = .ok (.iaload, 1) := by decide +kernel
theorem dX12_land_28 : decode cX12_land 28 = .ok (.if_icmp .ge 34, 3) := by decide +kernel
theorem dX12_land_31 : decode cX12_land 31 = .ok (.iload_n 3, 1) := by decide +kernel
theorem dX12_land_32 : decode cX12_land 32 = .ok (.aload_n 0, 1) := by decide +kernel
theorem dX12_land_33 : decode cX12_land 33 = .ok (.getfield 33, 3) := by decide +kernel
theorem dX12_land_36 : decode cX12_land 36 = .ok (.bipush 108, 2) := by decide +kernel
theorem dX12_land_38 : decode cX12_land 38 = .ok (.iload 4, 2) := by decide +kernel
theorem dX12_land_40 : decode cX12_land 40 = .ok (.iadd, 1) := by decide +kernel
theorem dX12_land_41 : decode cX12_land 41 = .ok (.iaload, 1) := by decide +kernel
theorem dX12_land_42 : decode cX12_land 42 = .ok (.iload_n 1, 1) := by decide +kernel
theorem dX12_land_43 : decode cX12_land 43 = .ok (.if_icmp .ne 10, 3) := by decide +kernel
theorem dX12_land_46 : decode cX12_land 46 = .ok (.iconst 1, 1) := by decide +kernel
theorem dX12_land_47 : decode cX12_land 47 = .ok (.iload 4, 2) := by decide +kernel
theorem dX12_land_49 : decode cX12_land 49 = .ok (.ishl, 1) := by decide +kernel
theorem dX12_land_50 : decode cX12_land 50 = .ok (.goto 4, 3) := by decide +kernel
theorem dX12_land_53 : decode cX12_land 53 = .ok (.iconst 0, 1) := by decide +kernel
theorem dX12_land_54 : decode cX12_land 54 = .ok (.ior, 1) := by decide +kernel
theorem dX12_land_55 : decode cX12_land 55 = .ok (.istore_n 3, 1) := by decide +kernel
theorem dX12_land_56 : decode cX12_land 56 = .ok (.iinc 4 1, 3) := by decide +kernel
theorem dX12_land_59 : decode cX12_land 59 = .ok (.goto (-39), 3) := by decide +kernel
theorem dX12_land_62 : decode cX12_land 62 = .ok (.iload_n 2, 1) := by decide +kernel
theorem dX12_land_63 : decode cX12_land 63 = .ok (.tableswitch 74 0 4 #[33, 42, 52, 62, 72], 33) := by decide +kernel
theorem dX12_land_96 : decode cX12_land 96 = .ok (.aload_n 0, 1) := by decide +kernel
theorem dX12_land_97 : decode cX12_land 97 = .ok (.getfield 33, 3) := by decide +kernel
theorem dX12_land_100 : decode cX12_land 100 = .ok (.iconst 3, 1) := by decide +kernel
theorem dX12_land_101 : decode cX12_land 101 = .ok (.iload_n 1, 1) := by decide +kernel
theorem dX12_land_102 : decode cX12_land 102 = .ok (.iadd, 1) := by decide +kernel
theorem dX12_land_103 : decode cX12_land 103 = .ok (.iaload, 1) := by decide +kernel
theorem dX12_land_104 : decode cX12_land 104 = .ok (.ireturn, 1) := by decide +kernel
theorem dX12_land_105 : decode cX12_land 105 = .ok (.aload_n 0, 1) := by decide +kernel
theorem dX12_land_106 : decode cX12_land 106 = .ok (.getfield 33, 3) := by decide +kernel
theorem dX12_land_109 : decode cX12_land 109 = .ok (.bipush 10, 2) := by decide +kernel
theorem dX12_land_111 : decode cX12_land 111 = .ok (.iload_n 1, 1) := by decide +kernel
theorem dX12_land_112 : decode cX12_land 112 = .ok (.iadd, 1) := by decide +kernel
theorem dX12_land_113 : decode cX12_land 113 = .ok (.iaload, 1) := by decide +kernel
theorem dX12_land_114 : decode cX12_land 114 = .ok (.ireturn, 1) := by decide +kernel
theorem dX12_land_115 : decode cX12_land 115 = .ok (.aload_n 0, 1) := by decide +kernel
theorem dX12_land_116 : decode cX12_land 116 = .ok (.getfield 33, 3) := by decide +kernel
theorem dX12_land_119 : decode cX12_land 119 = .ok (.bipush 94, 2) := by decide +kernel
theorem dX12_land_121 : decode cX12_land 121 = .ok (.iload_n 1, 1) := by decide +kernel
theorem dX12_land_122 : decode cX12_land 122 = .ok (.iadd, 1) := by decide +kernel
theorem dX12_land_123 : decode cX12_land 123 = .ok (.iaload, 1) := by decide +kernel
theorem dX12_land_124 : decode cX12_land 124 = .ok (.ireturn, 1) := by decide +kernel
theorem dX12_land_125 : decode cX12_land 125 = .ok (.aload_n 0, 1) := by decide +kernel
theorem dX12_land_126 : decode cX12_land 126 = .ok (.getfield 33, 3) := by decide +kernel
theorem dX12_land_129 : decode cX12_land 129 = .ok (.bipush 101, 2) := by decide +kernel
theorem dX12_land_131 : decode cX12_land 131 = .ok (.iload_n 1, 1) := by decide +kernel
theorem dX12_land_132 : decode cX12_land 132 = .ok (.iadd, 1) := by decide +kernel
theorem dX12_land_133 : decode cX12_land 133 = .ok (.iaload, 1) := by decide +kernel
theorem dX12_land_134 : decode cX12_land 134 = .ok (.ireturn, 1) := by decide +kernel
theorem dX12_land_135 : decode cX12_land 135 = .ok (.iload_n 3, 1) := by decide +kernel
theorem dX12_land_136 : decode cX12_land 136 = .ok (.ireturn, 1) := by decide +kernel
theorem dX12_land_137 : decode cX12_land 137 = .ok (.iconst (-1), 1) := by decide +kernel
theorem dX12_land_138 : decode cX12_land 138 = .ok (.ireturn, 1) := by decide +kernel
theorem dX12_road_0 : decode cX12_road 0 = .ok (.aload_n 0, 1) := by decide +kernel
theorem dX12_road_1 : decode cX12_road 1 = .ok (.iconst 0, 1) := by decide +kernel
theorem dX12_road_2 : decode cX12_road 2 = .ok (.putfield 1, 3) := by decide +kernel
theorem dX12_road_5 : decode cX12_road 5 = .ok (.iload_n 1, 1) := by decide +kernel
theorem dX12_road_6 : decode cX12_road 6 = .ok (.iconst 0, 1) := by decide +kernel
theorem dX12_road_7 : decode cX12_road 7 = .ok (.aload_n 0, 1) := by decide +kernel
theorem dX12_road_8 : decode cX12_road 8 = .ok (.getfield 33, 3) := by decide +kernel
theorem dX12_road_11 : decode cX12_road 11 = .ok (.iconst 1, 1) := by decide +kernel
theorem dX12_road_12 : decode cX12_road 12 = .ok (.iaload, 1) := by decide +kernel
theorem dX12_road_13 : decode cX12_road 13 = .ok (.iconst 1, 1) := by decide +kernel
theorem dX12_road_14 : decode cX12_road 14 = .ok (.isub, 1) := by decide +kernel
theorem dX12_road_15 : decode cX12_road 15 = .ok (.invokestatic 207, 3) := by decide +kernel
theorem dX12_road_18 : decode cX12_road 18 = .ok (.ifCond .ne 5, 3) := by decide +kernel
theorem dX12_road_21 : decode cX12_road 21 = .ok (.iconst (-1), 1) := by decide +kernel
theorem dX12_road_22 : decode cX12_road 22 = .ok (.ireturn, 1) := by decide +kernel
theorem dX12_road_23 : decode cX12_road 23 = .ok (.iload_n 2, 1) := by decide +kernel
theorem dX12_road_24 : decode cX12_road 24 = .ok (.tableswitch 90 0 4 #[36, 46, 56, 66, 76], 36) := by decide +kernel
theorem dX12_road_60 : decode cX12_road 60 = .ok (.aload_n 0, 1) := by decide +kernel
theorem dX12_road_61 : decode cX12_road 61 = .ok (.getfield 33, 3) := by decide +kernel
theorem dX12_road_64 : decode cX12_road 64 = .ok (.bipush 24, 2) := by decide +kernel
theorem dX12_road_66 : decode cX12_road 66 = .ok (.iload_n 1, 1) := by decide +kernel
theorem dX12_road_67 : decode cX12_road 67 = .ok (.iadd, 1) := by decide +kernel
theorem dX12_road_68 : decode cX12_road 68 = .ok (.iaload, 1) := by decide +kernel
theorem dX12_road_69 : decode cX12_road 69 = .ok (.ireturn, 1) := by decide +kernel
theorem dX12_road_70 : decode cX12_road 70 = .ok (.aload_n 0, 1) := by decide +kernel
theorem dX12_road_71 : decode cX12_road 71 = .ok (.getfield 33, 3) := by decide +kernel
theorem dX12_road_74 : decode cX12_road 74 = .ok (.bipush 36, 2) := by decide +kernel
theorem dX12_road_76 : decode cX12_road 76 = .ok (.iload_n 1, 1) := by decide +kernel
theorem dX12_road_77 : decode cX12_road 77 = .ok (.iadd, 1) := by decide +kernel
theorem dX12_road_78 : decode cX12_road 78 = .ok (.iaload, 1) := by decide +kernel
theorem dX12_road_79 : decode cX12_road 79 = .ok (.ireturn, 1) := by decide +kernel
theorem dX12_road_80 : decode cX12_road 80 = .ok (.aload_n 0, 1) := by decide +kernel
theorem dX12_road_81 : decode cX12_road 81 = .ok (.getfield 33, 3) := by decide +kernel
theorem dX12_road_84 : decode cX12_road 84 = .ok (.bipush 48, 2) := by decide +kernel
theorem dX12_road_86 : decode cX12_road 86 = .ok (.iload_n 1, 1) := by decide +kernel
theorem dX12_road_87 : decode cX12_road 87 = .ok (.iadd, 1) := by decide +kernel
theorem dX12_road_88 : decode cX12_road 88 = .ok (.iaload, 1) := by decide +kernel
theorem dX12_road_89 : decode cX12_road 89 = .ok (.ireturn, 1) := by decide +kernel
theorem dX12_road_90 : decode cX12_road 90 = .ok (.aload_n 0, 1) := by decide +kernel
theorem dX12_road_91 : decode cX12_road 91 = .ok (.getfield 33, 3) := by decide +kernel
theorem dX12_road_94 : decode cX12_road 94 = .ok (.bipush 60, 2) := by decide +kernel
theorem dX12_road_96 : decode cX12_road 96 = .ok (.iload_n 1, 1) := by decide +kernel
theorem dX12_road_97 : decode cX12_road 97 = .ok (.iadd, 1) := by decide +kernel
theorem dX12_road_98 : decode cX12_road 98 = .ok (.iaload, 1) := by decide +kernel
theorem dX12_road_99 : decode cX12_road 99 = .ok (.ireturn, 1) := by decide +kernel
theorem dX12_road_100 : decode cX12_road 100 = .ok (.aload_n 0, 1) := by decide +kernel
theorem dX12_road_101 : decode cX12_road 101 = .ok (.iload_n 1, 1) := by decide +kernel
theorem dX12_road_102 : decode cX12_road 102 = .ok (.invokevirtual 281, 3) := by decide +kernel
theorem dX12_road_105 : decode cX12_road 105 = .ok (.ifCond .eq 7, 3) := by decide +kernel
theorem dX12_road_108 : decode cX12_road 108 = .ok (.iconst 0, 1) := by decide +kernel
theorem dX12_road_109 : decode cX12_road 109 = .ok (.goto 4, 3) := by decide +kernel
theorem dX12_road_112 : decode cX12_road 112 = .ok (.iconst 1, 1) := by decide +kernel
theorem dX12_road_113 : decode cX12_road 113 = .ok (.ireturn, 1) := by decide +kernel
theorem dX12_road_114 : decode cX12_road 114 = .ok (.iconst (-1), 1) := by decide +kernel
theorem dX12_road_115 : decode cX12_road 115 = .ok (.ireturn, 1) := by decide +kernel
theorem dX12_now_0 : decode cX12_now 0 = .ok (.aload_n 0, 1) := by decide +kernel
theorem dX12_now_1 : decode cX12_now 1 = .ok (.iconst 0, 1) := by decide +kernel
theorem dX12_now_2 : decode cX12_now 2 = .ok (.putfield 1, 3) := by decide +kernel
theorem dX12_now_5 : decode cX12_now 5 = .ok (.iconst 0, 1) := by decide +kernel
theorem dX12_now_6 : decode cX12_now 6 = .ok (.istore_n 2, 1) := by decide +kernel
theorem dX12_now_7 : decode cX12_now 7 = .ok (.iconst 0, 1) := by decide +kernel
theorem dX12_now_8 : decode cX12_now 8 = .ok (.istore_n 3, 1) := by decide +kernel
theorem dX12_now_9 : decode cX12_now 9 = .ok (.iconst 0, 1) := by decide +kernel
theorem dX12_now_10 : decode cX12_now 10 = .ok (.istore 4, 2) := by decide +kernel
theorem dX12_now_12 : decode cX12_now 12 = .ok (.iconst 0, 1) := by decide +kernel
theorem dX12_now_13 : decode cX12_now 13 = .ok (.istore 5, 2) := by decide +kernel
theorem dX12_now_15 : decode cX12_now 15 = .ok (.iconst 0, 1) := by decide +kernel
theorem dX12_now_16 : decode cX12_now 16 = .ok (.istore 6, 2) := by decide +kernel
theorem dX12_now_18 : decode cX12_now 18 = .ok (.iload 6, 2) := by decide +kernel
theorem dX12_now_20 : decode cX12_now 20 = .ok (.aload_n 0, 1) := by decide +kernel
theorem dX12_now_21 : decode cX12_now 21 = .ok (.getfield 33, 3) := by decide +kernel
theorem dX12_now_24 : decode cX12_now 24 = .ok (.iconst 2, 1) := by decide +kernel
theorem dX12_now_25 : decode cX12_now 25 = .ok (.iaload, 1) := by decide +kernel
theorem dX12_now_26 : decode cX12_now 26 = .ok (.if_icmp .ge 63, 3) := by decide +kernel
theorem dX12_now_29 : decode cX12_now 29 = .ok (.iload_n 2, 1) := by decide +kernel
theorem dX12_now_30 : decode cX12_now 30 = .ok (.aload_n 0, 1) := by decide +kernel
theorem dX12_now_31 : decode cX12_now 31 = .ok (.getfield 33, 3) := by decide +kernel
theorem dX12_now_34 : decode cX12_now 34 = .ok (.bipush 108, 2) := by decide +kernel
theorem dX12_now_36 : decode cX12_now 36 = .ok (.iload 6, 2) := by decide +kernel
theorem dX12_now_38 : decode cX12_now 38 = .ok (.iadd, 1) := by decide +kernel
theorem dX12_now_39 : decode cX12_now 39 = .ok (.iaload, 1) := by decide +kernel
theorem dX12_now_40 : decode cX12_now 40 = .ok (.aload_n 0, 1) := by decide +kernel
theorem dX12_now_41 : decode cX12_now 41 = .ok (.getfield 33, 3) := by decide +kernel
theorem dX12_now_44 : decode cX12_now 44 = .ok (.bipush 79, 2) := by decide +kernel
theorem dX12_now_46 : decode cX12_now 46 = .ok (.iload 6, 2) := by decide +kernel
theorem dX12_now_48 : decode cX12_now 48 = .ok (.iadd, 1) := by decide +kernel
theorem dX12_now_49 : decode cX12_now 49 = .ok (.iaload, 1) := by decide +kernel
theorem dX12_now_50 : decode cX12_now 50 = .ok (.if_icmp .ne 10, 3) := by decide +kernel
theorem dX12_now_53 : decode cX12_now 53 = .ok (.iconst 1, 1) := by decide +kernel
theorem dX12_now_54 : decode cX12_now 54 = .ok (.iload 6, 2) := by decide +kernel
theorem dX12_now_56 : decode cX12_now 56 = .ok (.ishl, 1) := by decide +kernel
theorem dX12_now_57 : decode cX12_now 57 = .ok (.goto 4, 3) := by decide +kernel
theorem dX12_now_60 : decode cX12_now 60 = .ok (.iconst 0, 1) := by decide +kernel
theorem dX12_now_61 : decode cX12_now 61 = .ok (.ior, 1) := by decide +kernel
theorem dX12_now_62 : decode cX12_now 62 = .ok (.istore_n 2, 1) := by decide +kernel
theorem dX12_now_63 : decode cX12_now 63 = .ok (.iload_n 3, 1) := by decide +kernel
theorem dX12_now_64 : decode cX12_now 64 = .ok (.aload_n 0, 1) := by decide +kernel
theorem dX12_now_65 : decode cX12_now 65 = .ok (.iload 6, 2) := by decide +kernel
theorem dX12_now_67 : decode cX12_now 67 = .ok (.invokevirtual 309, 3) := by decide +kernel
theorem dX12_now_70 : decode cX12_now 70 = .ok (.ifCond .ne 10, 3) := by decide +kernel
theorem dX12_now_73 : decode cX12_now 73 = .ok (.iconst 1, 1) := by decide +kernel
theorem dX12_now_74 : decode cX12_now 74 = .ok (.iload 6, 2) := by decide +kernel
theorem dX12_now_76 : decode cX12_now 76 = .ok (.ishl, 1) := by decide +kernel
theorem dX12_now_77 : decode cX12_now 77 = .ok (.goto 4, 3) := by decide +kernel
theorem dX12_now_80 : decode cX12_now 80 = .ok (.iconst 0, 1) := by decide +kernel
theorem dX12_now_81 : decode cX12_now 81 = .ok (.ior, 1) := by decide +kernel
theorem dX12_now_82 : decode cX12_now 82 = .ok (.istore_n 3, 1) := by decide +kernel
theorem dX12_now_83 : decode cX12_now 83 = .ok (.iinc 6 1, 3) := by decide +kernel
theorem dX12_now_86 : decode cX12_now 86 = .ok (.goto (-68), 3) := by decide +kernel
theorem dX12_now_89 : decode cX12_now 89 = .ok (.iconst 0, 1) := by decide +kernel
theorem dX12_now_90 : decode cX12_now 90 = .ok (.istore 6, 2) := by decide +kernel
theorem dX12_now_92 : decode cX12_now 92 = .ok (.iload 6, 2) := by decide +kernel
theorem dX12_now_94 : decode cX12_now 94 = .ok (.aload_n 0, 1) := by decide +kernel
theorem dX12_now_95 : decode cX12_now 95 = .ok (.getfield 33, 3) := by decide +kernel
theorem dX12_now_98 : decode cX12_now 98 = .ok (.iconst 0, 1) := by decide +kernel
theorem dX12_now_99 : decode cX12_now 99 = .ok (.iaload, 1) := by decide +kernel
theorem dX12_now_100 : decode cX12_now 100 = .ok (.if_icmp .ge 42, 3) := by decide +kernel
theorem dX12_now_103 : decode cX12_now 103 = .ok (.iload 4, 2) := by decide +kernel
theorem dX12_now_105 : decode cX12_now 105 = .ok (.aload_n 0, 1) := by decide +kernel
theorem dX12_now_106 : decode cX12_now 106 = .ok (.getfield 33, 3) := by decide +kernel
theorem dX12_now_109 : decode cX12_now 109 = .ok (.bipush 94, 2) := by decide +kernel
theorem dX12_now_111 : decode cX12_now 111 = .ok (.iload 6, 2) := by decide +kernel
theorem dX12_now_113 : decode cX12_now 113 = .ok (.iadd, 1) := by decide +kernel
theorem dX12_now_114 : decode cX12_now 114 = .ok (.iaload, 1) := by decide +kernel
theorem dX12_now_115 : decode cX12_now 115 = .ok (.iadd, 1) := by decide +kernel
theorem dX12_now_116 : decode cX12_now 116 = .ok (.istore 4, 2) := by decide +kernel
theorem dX12_now_118 : decode cX12_now 118 = .ok (.iload 5, 2) := by decide +kernel
theorem dX12_now_120 : decode cX12_now 120 = .ok (.aload_n 0, 1) := by decide +kernel
theorem dX12_now_121 : decode cX12_now 121 = .ok (.getfield 33, 3) := by decide +kernel
theorem dX12_now_124 : decode cX12_now 124 = .ok (.bipush 101, 2) := by decide +kernel
theorem dX12_now_126 : decode cX12_now 126 = .ok (.iload 6, 2) := by decide +kernel
theorem dX12_now_128 : decode cX12_now 128 = .ok (.iadd, 1) := by decide +kernel
theorem dX12_now_129 : decode cX12_now 129 = .ok (.iaload, 1) := by decide +kernel
theorem dX12_now_130 : decode cX12_now 130 = .ok (.invokestatic 315, 3) := by decide +kernel
theorem dX12_now_133 : decode cX12_now 133 = .ok (.iadd, 1) := by decide +kernel
theorem dX12_now_134 : decode cX12_now 134 = .ok (.istore 5, 2) := by decide +kernel
theorem dX12_now_136 : decode cX12_now 136 = .ok (.iinc 6 1, 3) := by decide +kernel
theorem dX12_now_139 : decode cX12_now 139 = .ok (.goto (-47), 3) := by decide +kernel
theorem dX12_now_142 : decode cX12_now 142 = .ok (.iload_n 1, 1) := by decide +kernel
theorem dX12_now_143 : decode cX12_now 143 = .ok (.tableswitch 84 0 7 #[45, 53, 58, 61, 69, 77, 79, 81], 45) := by decide +kernel
theorem dX12_now_188 : decode cX12_now 188 = .ok (.aload_n 0, 1) := by decide +kernel
theorem dX12_now_189 : decode cX12_now 189 = .ok (.getfield 33, 3) := by decide +kernel
theorem dX12_now_192 : decode cX12_now 192 = .ok (.bipush 91, 2) := by decide +kernel
theorem dX12_now_194 : decode cX12_now 194 = .ok (.iaload, 1) := by decide +kernel
theorem dX12_now_195 : decode cX12_now 195 = .ok (.ireturn, 1) := by decide +kernel
theorem dX12_now_196 : decode cX12_now 196 = .ok (.aload_n 0, 1) := by decide +kernel
theorem dX12_now_197 : decode cX12_now 197 = .ok (.invokevirtual 318, 3) := by decide +kernel
theorem dX12_now_200 : decode cX12_now 200 = .ok (.ireturn, 1) := by decide +kernel
theorem dX12_now_201 : decode cX12_now 201 = .ok (.iload 4, 2) := by decide +kernel
theorem dX12_now_203 : decode cX12_now 203 = .ok (.ireturn, 1) := by decide +kernel
theorem dX12_now_204 : decode cX12_now 204 = .ok (.aload_n 0, 1) := by decide +kernel
theorem dX12_now_205 : decode cX12_now 205 = .ok (.getfield 33, 3) := by decide +kernel
theorem dX12_now_208 : decode cX12_now 208 = .ok (.bipush 92, 2) := by decide +kernel
theorem dX12_now_210 : decode cX12_now 210 = .ok (.iaload, 1) := by decide +kernel
theorem dX12_now_211 : decode cX12_now 211 = .ok (.ireturn, 1) := by decide +kernel
theorem dX12_now_212 : decode cX12_now 212 = .ok (.aload_n 0, 1) := by decide +kernel
theorem dX12_now_213 : decode cX12_now 213 = .ok (.getfield 33, 3) := by decide +kernel
theorem dX12_now_216 : decode cX12_now 216 = .ok (.bipush 93, 2) := by decide +kernel
theorem dX12_now_218 : decode cX12_now 218 = .ok (.iaload, 1) := by decide +kernel
theorem dX12_now_219 : decode cX12_now 219 = .ok (.ireturn, 1) := by decide +kernel
theorem dX12_now_220 : decode cX12_now 220 = .ok (.iload_n 2, 1) := by decide +kernel
theorem dX12_now_221 : decode cX12_now 221 = .ok (.ireturn, 1) := by decide +kernel
theorem dX12_now_222 : decode cX12_now 222 = .ok (.iload_n 3, 1) := by decide +kernel
theorem dX12_now_223 : decode cX12_now 223 = .ok (.ireturn, 1) := by decide +kernel
theorem dX12_now_224 : decode cX12_now 224 = .ok (.iload 5, 2) := by decide +kernel
theorem dX12_now_226 : decode cX12_now 226 = .ok (.ireturn, 1) := by decide +kernel
theorem dX12_now_227 : decode cX12_now 227 = .ok (.iconst (-1), 1) := by decide +kernel
theorem dX12_now_228 : decode cX12_now 228 = .ok (.ireturn, 1) := by decide +kernel
theorem dX12_whyPact_0 : decode cX12_whyPact 0 = .ok (.iload_n 1, 1) := by decide +kernel
theorem dX12_whyPact_1 : decode cX12_whyPact 1 = .ok (.iload_n 2, 1) := by decide +kernel
theorem dX12_whyPact_2 : decode cX12_whyPact 2 = .ok (.if_icmp .ne 7, 3) := by decide +kernel
theorem dX12_whyPact_5 : decode cX12_whyPact 5 = .ok (.iconst 1, 1) := by decide +kernel
theorem dX12_whyPact_6 : decode cX12_whyPact 6 = .ok (.goto 24, 3) := by decide +kernel
theorem dX12_whyPact_9 : decode cX12_whyPact 9 = .ok (.aload_n 0, 1) := by decide +kernel
theorem dX12_whyPact_10 : decode cX12_whyPact 10 = .ok (.getfield 33, 3) := by decide +kernel
theorem dX12_whyPact_13 : decode cX12_whyPact 13 = .ok (.bipush 101, 2) := by decide +kernel
theorem dX12_whyPact_15 : decode cX12_whyPact 15 = .ok (.iload_n 1, 1) := by decide +kernel
theorem dX12_whyPact_16 : decode cX12_whyPact 16 = .ok (.iadd, 1) := by decide +kernel
theorem dX12_whyPact_17 : decode cX12_whyPact 17 = .ok (.iaload, 1) := by decide +kernel
theorem dX12_whyPact_18 : decode cX12_whyPact 18 = .ok (.iload_n 2, 1) := by decide +kernel
theorem dX12_whyPact_19 : decode cX12_whyPact 19 = .ok (.invokestatic 257, 3) := by decide +kernel
theorem dX12_whyPact_22 : decode cX12_whyPact 22 = .ok (.ifCond .eq 7, 3) := by decide +kernel
theorem dX12_whyPact_25 : decode cX12_whyPact 25 = .ok (.iconst 2, 1) := by decide +kernel
theorem dX12_whyPact_26 : decode cX12_whyPact 26 = .ok (.goto 4, 3) := by decide +kernel
theorem dX12_whyPact_29 : decode cX12_whyPact 29 = .ok (.iconst 0, 1) := by decide +kernel
theorem dX12_whyPact_30 : decode cX12_whyPact 30 = .ok (.ireturn, 1) := by decide +kernel
theorem dX12_whyTurn_0 : decode cX12_whyTurn 0 = .ok (.iload_n 1, 1) := by decide +kernel
theorem dX12_whyTurn_1 : decode cX12_whyTurn 1 = .ok (.aload_n 0, 1) := by decide +kernel
theorem dX12_whyTurn_2 : decode cX12_whyTurn 2 = .ok (.getfield 33, 3) := by decide +kernel
theorem dX12_whyTurn_5 : decode cX12_whyTurn 5 = .ok (.iconst 1, 1) := by decide +kernel
theorem dX12_whyTurn_6 : decode cX12_whyTurn 6 = .ok (.iaload, 1) := by decide +kernel
theorem dX12_whyTurn_7 : decode cX12_whyTurn 7 = .ok (.if_icmp .lt 7, 3) := by decide +kernel
theorem dX12_whyTurn_10 : decode cX12_whyTurn 10 = .ok (.iconst 1, 1) := by decide +kernel
theorem dX12_whyTurn_11 : decode cX12_whyTurn 11 = .ok (.goto 17, 3) := by decide +kernel
theorem dX12_whyTurn_14 : decode cX12_whyTurn 14 = .ok (.aload_n 0, 1) := by decide +kernel
theorem dX12_whyTurn_15 : decode cX12_whyTurn 15 = .ok (.iload_n 1, 1) := by decide +kernel
theorem dX12_whyTurn_16 : decode cX12_whyTurn 16 = .ok (.invokevirtual 281, 3) := by decide +kernel
theorem dX12_whyTurn_19 : decode cX12_whyTurn 19 = .ok (.iload_n 2, 1) := by decide +kernel
theorem dX12_whyTurn_20 : decode cX12_whyTurn 20 = .ok (.if_icmp .eq 7, 3) := by decide +kernel
theorem dX12_whyTurn_23 : decode cX12_whyTurn 23 = .ok (.iconst 2, 1) := by decide +kernel
theorem dX12_whyTurn_24 : decode cX12_whyTurn 24 = .ok (.goto 4, 3) := by decide +kernel
theorem dX12_whyTurn_27 : decode cX12_whyTurn 27 = .ok (.iconst 0, 1) := by decide +kernel
theorem dX12_whyTurn_28 : decode cX12_whyTurn 28 = .ok (.ireturn, 1) := by decide +kernel
theorem dX12_whyLend_0 : decode cX12_whyLend 0 = .ok (.iload_n 1, 1) := by decide +kernel
theorem dX12_whyLend_1 : decode cX12_whyLend 1 = .ok (.iload_n 2, 1) := by decide +kernel
theorem dX12_whyLend_2 : decode cX12_whyLend 2 = .ok (.if_icmp .ne 7, 3) := by decide +kernel
theorem dX12_whyLend_5 : decode cX12_whyLend 5 = .ok (.iconst 1, 1) := by decide +kernel
theorem dX12_whyLend_6 : decode cX12_whyLend 6 = .ok (.goto 21, 3) := by decide +kernel
theorem dX12_whyLend_9 : decode cX12_whyLend 9 = .ok (.aload_n 0, 1) := by decide +kernel
theorem dX12_whyLend_10 : decode cX12_whyLend 10 = .ok (.getfield 33, 3) := by decide +kernel
theorem dX12_whyLend_13 : decode cX12_whyLend 13 = .ok (.bipush 94, 2) := by decide +kernel
theorem dX12_whyLend_15 : decode cX12_whyLend 15 = .ok (.iload_n 1, 1) := by decide +kernel
theorem dX12_whyLend_16 : decode cX12_whyLend 16 = .ok (.iadd, 1) := by decide +kernel
theorem dX12_whyLend_17 : decode cX12_whyLend 17 = .ok (.iaload, 1) := by decide +kernel
theorem dX12_whyLend_18 : decode cX12_whyLend 18 = .ok (.iload_n 3, 1) := by decide +kernel
theorem dX12_whyLend_19 : decode cX12_whyLend 19 = .ok (.if_icmp .ge 7, 3) := by decide +kernel
theorem dX12_whyLend_22 : decode cX12_whyLend 22 = .ok (.iconst 2, 1) := by decide +kernel
theorem dX12_whyLend_23 : decode cX12_whyLend 23 = .ok (.goto 4, 3) := by decide +kernel
theorem dX12_whyLend_26 : decode cX12_whyLend 26 = .ok (.iconst 0, 1) := by decide +kernel
theorem dX12_whyLend_27 : decode cX12_whyLend 27 = .ok (.ireturn, 1) := by decide +kernel
theorem dX12_lends_0 : decode cX12_lends 0 = .ok (.aload_n 0, 1) := by decide +kernel
theorem dX12_lends_1 : decode cX12_lends 1 = .ok (.getfield 33, 3) := by decide +kernel
theorem dX12_lends_4 : decode cX12_lends 4 = .ok (.bipush 94, 2) := by decide +kernel
theorem dX12_lends_6 : decode cX12_lends 6 = .ok (.iload_n 1, 1) := by decide +kernel
theorem dX12_lends_7 : decode cX12_lends 7 = .ok (.iadd, 1) := by decide +kernel
theorem dX12_lends_8 : decode cX12_lends 8 = .ok (.dup2, 1) := by decide +kernel
theorem dX12_lends_9 : decode cX12_lends 9 = .ok (.iaload, 1) := by decide +kernel
theorem dX12_lends_10 : decode cX12_lends 10 = .ok (.iload_n 3, 1) := by decide +kernel
theorem dX12_lends_11 : decode cX12_lends 11 = .ok (.isub, 1) := by decide +kernel
theorem dX12_lends_12 : decode cX12_lends 12 = .ok (.iastore, 1) := by decide +kernel
theorem dX12_lends_13 : decode cX12_lends 13 = .ok (.aload_n 0, 1) := by decide +kernel
theorem dX12_lends_14 : decode cX12_lends 14 = .ok (.getfield 33, 3) := by decide +kernel
theorem dX12_lends_17 : decode cX12_lends 17 = .ok (.bipush 94, 2) := by decide +kernel
theorem dX12_lends_19 : decode cX12_lends 19 = .ok (.iload_n 2, 1) := by decide +kernel
theorem dX12_lends_20 : decode cX12_lends 20 = .ok (.iadd, 1) := by decide +kernel
theorem dX12_lends_21 : decode cX12_lends 21 = .ok (.dup2, 1) := by decide +kernel
theorem dX12_lends_22 : decode cX12_lends 22 = .ok (.iaload, 1) := by decide +kernel
theorem dX12_lends_23 : decode cX12_lends 23 = .ok (.iload_n 3, 1) := by decide +kernel
theorem dX12_lends_24 : decode cX12_lends 24 = .ok (.iadd, 1) := by decide +kernel
theorem dX12_lends_25 : decode cX12_lends 25 = .ok (.iastore, 1) := by decide +kernel
theorem dX12_lends_26 : decode cX12_lends 26 = .ok (.return_, 1) := by decide +kernel
theorem dX12_grows_0 : decode cX12_grows 0 = .ok (.aload_n 0, 1) := by decide +kernel
theorem dX12_grows_1 : decode cX12_grows 1 = .ok (.getfield 33, 3) := by decide +kernel
theorem dX12_grows_4 : decode cX12_grows 4 = .ok (.bipush 108, 2) := by decide +kernel
theorem dX12_grows_6 : decode cX12_grows 6 = .ok (.iload_n 1, 1) := by decide +kernel
theorem dX12_grows_7 : decode cX12_grows 7 = .ok (.iadd, 1) := by decide +kernel
theorem dX12_grows_8 : decode cX12_grows 8 = .ok (.iaload, 1) := by decide +kernel
theorem dX12_grows_9 : decode cX12_grows 9 = .ok (.aload_n 0, 1) := by decide +kernel
theorem dX12_grows_10 : decode cX12_grows 10 = .ok (.getfield 33, 3) := by decide +kernel
theorem dX12_grows_13 : decode cX12_grows 13 = .ok (.bipush 79, 2) := by decide +kernel
theorem dX12_grows_15 : decode cX12_grows 15 = .ok (.iload_n 1, 1) := by decide +kernel
theorem dX12_grows_16 : decode cX12_grows 16 = .ok (.iadd, 1) := by decide +kernel
theorem dX12_grows_17 : decode cX12_grows 17 = .ok (.iaload, 1) := by decide +kernel
theorem dX12_grows_18 : decode cX12_grows 18 = .ok (.if_icmp .ne 42, 3) := by decide +kernel
theorem dX12_grows_21 : decode cX12_grows 21 = .ok (.aload_n 0, 1) := by decide +kernel
theorem dX12_grows_22 : decode cX12_grows 22 = .ok (.getfield 33, 3) := by decide +kernel
theorem dX12_grows_25 : decode cX12_grows 25 = .ok (.bipush 114, 2) := by decide +kernel
theorem dX12_grows_27 : decode cX12_grows 27 = .ok (.iload_n 1, 1) := by decide +kernel
theorem dX12_grows_28 : decode cX12_grows 28 = .ok (.iadd, 1) := by decide +kernel
theorem dX12_grows_29 : decode cX12_grows 29 = .ok (.iaload, 1) := by decide +kernel
theorem dX12_grows_30 : decode cX12_grows 30 = .ok (.sipush 240, 3) := by decide +kernel
theorem dX12_grows_33 : decode cX12_grows 33 = .ok (.if_icmp .ge 27, 3) := by decide +kernel
theorem dX12_grows_36 : decode cX12_grows 36 = .ok (.aload_n 0, 1) := by decide +kernel
theorem dX12_grows_37 : decode cX12_grows 37 = .ok (.getfield 33, 3) := by decide +kernel
theorem dX12_grows_40 : decode cX12_grows 40 = .ok (.bipush 94, 2) := by decide +kernel
theorem dX12_grows_42 : decode cX12_grows 42 = .ok (.aload_n 0, 1) := by decide +kernel
theorem dX12_grows_43 : decode cX12_grows 43 = .ok (.getfield 33, 3) := by decide +kernel
theorem dX12_grows_46 : decode cX12_grows 46 = .ok (.bipush 79, 2) := by decide +kernel
theorem dX12_grows_48 : decode cX12_grows 48 = .ok (.iload_n 1, 1) := by decide +kernel
theorem dX12_grows_49 : decode cX12_grows 49 = .ok (.iadd, 1) := by decide +kernel
theorem dX12_grows_50 : decode cX12_grows 50 = .ok (.iaload, 1) := by decide +kernel
theorem dX12_grows_51 : decode cX12_grows 51 = .ok (.iadd, 1) := by decide +kernel
theorem dX12_grows_52 : decode cX12_grows 52 = .ok (.iaload, 1) := by decide +kernel
theorem dX12_grows_53 : decode cX12_grows 53 = .ok (.ifCond .le 7, 3) := by decide +kernel
theorem dX12_grows_56 : decode cX12_grows 56 = .ok (.iconst 1, 1) := by decide +kernel
theorem dX12_grows_57 : decode cX12_grows 57 = .ok (.goto 4, 3) := by decide +kernel
theorem dX12_grows_60 : decode cX12_grows 60 = .ok (.iconst 0, 1) := by decide +kernel
theorem dX12_grows_61 : decode cX12_grows 61 = .ok (.ireturn, 1) := by decide +kernel
theorem dX12_day_0 : decode cX12_day 0 = .ok (.iconst 0, 1) := by decide +kernel
theorem dX12_day_1 : decode cX12_day 1 = .ok (.istore_n 1, 1) := by decide +kernel
theorem dX12_day_2 : decode cX12_day 2 = .ok (.iload_n 1, 1) := by decide +kernel
theorem dX12_day_3 : decode cX12_day 3 = .ok (.aload_n 0, 1) := by decide +kernel
theorem dX12_day_4 : decode cX12_day 4 = .ok (.getfield 33, 3) := by decide +kernel
theorem dX12_day_7 : decode cX12_day 7 = .ok (.iconst 2, 1) := by decide +kernel
theorem dX12_day_8 : decode cX12_day 8 = .ok (.iaload, 1) := by decide +kernel
theorem dX12_day_9 : decode cX12_day 9 = .ok (.if_icmp .ge 54, 3) := by decide +kernel
theorem dX12_day_12 : decode cX12_day 12 = .ok (.aload_n 0, 1) := by decide +kernel
theorem dX12_day_13 : decode cX12_day 13 = .ok (.iload_n 1, 1) := by decide +kernel
theorem dX12_day_14 : decode cX12_day 14 = .ok (.invokevirtual 321, 3) := by decide +kernel
theorem dX12_day_17 : decode cX12_day 17 = .ok (.ifCond .ne 6, 3) := by decide +kernel
theorem dX12_day_20 : decode cX12_day 20 = .ok (.goto 37, 3) := by decide +kernel
theorem dX12_day_23 : decode cX12_day 23 = .ok (.aload_n 0, 1) := by decide +kernel
theorem dX12_day_24 : decode cX12_day 24 = .ok (.getfield 33, 3) := by decide +kernel
theorem dX12_day_27 : decode cX12_day 27 = .ok (.bipush 114, 2) := by decide +kernel
theorem dX12_day_29 : decode cX12_day 29 = .ok (.iload_n 1, 1) := by decide +kernel
theorem dX12_day_30 : decode cX12_day 30 = .ok (.iadd, 1) := by decide +kernel
theorem dX12_day_31 : decode cX12_day 31 = .ok (.dup2, 1) := by decide +kernel
theorem dX12_day_32 : decode cX12_day 32 = .ok (.iaload, 1) := by decide +kernel
theorem dX12_day_33 : decode cX12_day 33 = .ok (.iconst 1, 1) := by decide +kernel
theorem dX12_day_34 : decode cX12_day 34 = .ok (.iadd, 1) := by decide +kernel
theorem dX12_day_35 : decode cX12_day 35 = .ok (.iastore, 1) := by decide +kernel
theorem dX12_day_36 : decode cX12_day 36 = .ok (.aload_n 0, 1) := by decide +kernel
theorem dX12_day_37 : decode cX12_day 37 = .ok (.getfield 33, 3) := by decide +kernel
theorem dX12_day_40 : decode cX12_day 40 = .ok (.bipush 94, 2) := by decide +kernel
theorem dX12_day_42 : decode cX12_day 42 = .ok (.aload_n 0, 1) := by decide +kernel
theorem dX12_day_43 : decode cX12_day 43 = .ok (.getfield 33, 3) := by decide +kernel
theorem dX12_day_46 : decode cX12_day 46 = .ok (.bipush 79, 2) := by decide +kernel
theorem dX12_day_48 : decode cX12_day 48 = .ok (.iload_n 1, 1) := by decide +kernel
theorem dX12_day_49 : decode cX12_day 49 = .ok (.iadd, 1) := by decide +kernel
theorem dX12_day_50 : decode cX12_day 50 = .ok (.iaload, 1) := by decide +kernel
theorem dX12_day_51 : decode cX12_day 51 = .ok (.iadd, 1) := by decide +kernel
theorem dX12_day_52 : decode cX12_day 52 = .ok (.dup2, 1) := by decide +kernel
theorem dX12_day_53 : decode cX12_day 53 = .ok (.iaload, 1) := by decide +kernel
theorem dX12_day_54 : decode cX12_day 54 = .ok (.iconst 1, 1) := by decide +kernel
theorem dX12_day_55 : decode cX12_day 55 = .ok (.isub, 1) := by decide +kernel
theorem dX12_day_56 : decode cX12_day 56 = .ok (.iastore, 1) := by decide +kernel
theorem dX12_day_57 : decode cX12_day 57 = .ok (.iinc 1 1, 3) := by decide +kernel
theorem dX12_day_60 : decode cX12_day 60 = .ok (.goto (-58), 3) := by decide +kernel
theorem dX12_day_63 : decode cX12_day 63 = .ok (.aload_n 0, 1) := by decide +kernel
theorem dX12_day_64 : decode cX12_day 64 = .ok (.getfield 33, 3) := by decide +kernel
theorem dX12_day_67 : decode cX12_day 67 = .ok (.bipush 91, 2) := by decide +kernel
theorem dX12_day_69 : decode cX12_day 69 = .ok (.dup2, 1) := by decide +kernel
theorem dX12_day_70 : decode cX12_day 70 = .ok (.iaload, 1) := by decide +kernel
theorem dX12_day_71 : decode cX12_day 71 = .ok (.iconst 1, 1) := by decide +kernel
theorem dX12_day_72 : decode cX12_day 72 = .ok (.iadd, 1) := by decide +kernel
theorem dX12_day_73 : decode cX12_day 73 = .ok (.iastore, 1) := by decide +kernel
theorem dX12_day_74 : decode cX12_day 74 = .ok (.return_, 1) := by decide +kernel
theorem dX12_goesOn_0 : decode cX12_goesOn 0 = .ok (.iconst 0, 1) := by decide +kernel
theorem dX12_goesOn_1 : decode cX12_goesOn 1 = .ok (.istore_n 2, 1) := by decide +kernel
theorem dX12_goesOn_2 : decode cX12_goesOn 2 = .ok (.iload_n 2, 1) := by decide +kernel
theorem dX12_goesOn_3 : decode cX12_goesOn 3 = .ok (.iload_n 1, 1) := by decide +kernel
theorem dX12_goesOn_4 : decode cX12_goesOn 4 = .ok (.if_icmp .ge 26, 3) := by decide +kernel
theorem dX12_goesOn_7 : decode cX12_goesOn 7 = .ok (.aload_n 0, 1) := by decide +kernel
theorem dX12_goesOn_8 : decode cX12_goesOn 8 = .ok (.getfield 33, 3) := by decide +kernel
theorem dX12_goesOn_11 : decode cX12_goesOn 11 = .ok (.bipush 91, 2) := by decide +kernel
theorem dX12_goesOn_13 : decode cX12_goesOn 13 = .ok (.iaload, 1) := by decide +kernel
theorem dX12_goesOn_14 : decode cX12_goesOn 14 = .ok (.sipush 400, 3) := by decide +kernel
theorem dX12_goesOn_17 : decode cX12_goesOn 17 = .ok (.if_icmp .ge 13, 3) := by decide +kernel
theorem dX12_goesOn_20 : decode cX12_goesOn 20 = .ok (.aload_n 0, 1) := by decide +kernel
theorem dX12_goesOn_21 : decode cX12_goesOn 21 = .ok (.invokevirtual 324, 3) := by decide +kernel
theorem dX12_goesOn_24 : decode cX12_goesOn 24 = .ok (.iinc 2 1, 3) := by decide +kernel
theorem dX12_goesOn_27 : decode cX12_goesOn 27 = .ok (.goto (-25), 3) := by decide +kernel
theorem dX12_goesOn_30 : decode cX12_goesOn 30 = .ok (.iload_n 2, 1) := by decide +kernel
theorem dX12_goesOn_31 : decode cX12_goesOn 31 = .ok (.ireturn, 1) := by decide +kernel
theorem dX12_cross_0 : decode cX12_cross 0 = .ok (.aload_n 0, 1) := by decide +kernel
theorem dX12_cross_1 : decode cX12_cross 1 = .ok (.iconst 0, 1) := by decide +kernel
theorem dX12_cross_2 : decode cX12_cross 2 = .ok (.putfield 1, 3) := by decide +kernel
theorem dX12_cross_5 : decode cX12_cross 5 = .ok (.aload_n 0, 1) := by decide +kernel
theorem dX12_cross_6 : decode cX12_cross 6 = .ok (.iload_n 1, 1) := by decide +kernel
theorem dX12_cross_7 : decode cX12_cross 7 = .ok (.invokevirtual 302, 3) := by decide +kernel
theorem dX12_cross_10 : decode cX12_cross 10 = .ok (.ifCond .eq 11, 3) := by decide +kernel
theorem dX12_cross_13 : decode cX12_cross 13 = .ok (.aload_n 0, 1) := by decide +kernel
theorem dX12_cross_14 : decode cX12_cross 14 = .ok (.iload_n 2, 1) := by decide +kernel
theorem dX12_cross_15 : decode cX12_cross 15 = .ok (.invokevirtual 312, 3) := by decide +kernel
theorem dX12_cross_18 : decode cX12_cross 18 = .ok (.ifCond .ne 5, 3) := by decide +kernel
theorem dX12_cross_21 : decode cX12_cross 21 = .ok (.iconst (-1), 1) := by decide +kernel
theorem dX12_cross_22 : decode cX12_cross 22 = .ok (.ireturn, 1) := by decide +kernel
theorem dX12_cross_23 : decode cX12_cross 23 = .ok (.aload_n 0, 1) := by decide +kernel
theorem dX12_cross_24 : decode cX12_cross 24 = .ok (.iload_n 1, 1) := by decide +kernel
theorem dX12_cross_25 : decode cX12_cross 25 = .ok (.iload_n 2, 1) := by decide +kernel
theorem dX12_cross_26 : decode cX12_cross 26 = .ok (.invokevirtual 292, 3) := by decide +kernel
theorem dX12_cross_29 : decode cX12_cross 29 = .ok (.istore_n 3, 1) := by decide +kernel
theorem dX12_cross_30 : decode cX12_cross 30 = .ok (.iload_n 3, 1) := by decide +kernel
theorem dX12_cross_31 : decode cX12_cross 31 = .ok (.ifCond .le 5, 3) := by decide +kernel
theorem dX12_cross_34 : decode cX12_cross 34 = .ok (.iload_n 3, 1) := by decide +kernel
theorem dX12_cross_35 : decode cX12_cross 35 = .ok (.ireturn, 1) := by decide +kernel
theorem dX12_cross_36 : decode cX12_cross 36 = .ok (.aload_n 0, 1) := by decide +kernel
theorem dX12_cross_37 : decode cX12_cross 37 = .ok (.invokevirtual 327, 3) := by decide +kernel
theorem dX12_cross_40 : decode cX12_cross 40 = .ok (.aload_n 0, 1) := by decide +kernel
theorem dX12_cross_41 : decode cX12_cross 41 = .ok (.iload_n 1, 1) := by decide +kernel
theorem dX12_cross_42 : decode cX12_cross 42 = .ok (.iload_n 2, 1) := by decide +kernel
theorem dX12_cross_43 : decode cX12_cross 43 = .ok (.invokevirtual 330, 3) := by decide +kernel
theorem dX12_cross_46 : decode cX12_cross 46 = .ok (.iconst 0, 1) := by decide +kernel
theorem dX12_cross_47 : decode cX12_cross 47 = .ok (.ireturn, 1) := by decide +kernel
theorem dX12_pact_0 : decode cX12_pact 0 = .ok (.aload_n 0, 1) := by decide +kernel
theorem dX12_pact_1 : decode cX12_pact 1 = .ok (.iconst 0, 1) := by decide +kernel
theorem dX12_pact_2 : decode cX12_pact 2 = .ok (.putfield 1, 3) := by decide +kernel
theorem dX12_pact_5 : decode cX12_pact 5 = .ok (.aload_n 0, 1) := by decide +kernel
theorem dX12_pact_6 : decode cX12_pact 6 = .ok (.iload_n 1, 1) := by decide +kernel
theorem dX12_pact_7 : decode cX12_pact 7 = .ok (.invokevirtual 312, 3) := by decide +kernel
theorem dX12_pact_10 : decode cX12_pact 10 = .ok (.ifCond .eq 11, 3) := by decide +kernel
theorem dX12_pact_13 : decode cX12_pact 13 = .ok (.aload_n 0, 1) := by decide +kernel
theorem dX12_pact_14 : decode cX12_pact 14 = .ok (.iload_n 2, 1) := by decide +kernel
theorem dX12_pact_15 : decode cX12_pact 15 = .ok (.invokevirtual 312, 3) := by decide +kernel
theorem dX12_pact_18 : decode cX12_pact 18 = .ok (.ifCond .ne 5, 3) := by decide +kernel
theorem dX12_pact_21 : decode cX12_pact 21 = .ok (.iconst (-1), 1) := by decide +kernel
theorem dX12_pact_22 : decode cX12_pact 22 = .ok (.ireturn, 1) := by decide +kernel
theorem dX12_pact_23 : decode cX12_pact 23 = .ok (.aload_n 0, 1) := by decide +kernel
theorem dX12_pact_24 : decode cX12_pact 24 = .ok (.iload_n 1, 1) := by decide +kernel
theorem dX12_pact_25 : decode cX12_pact 25 = .ok (.iload_n 2, 1) := by decide +kernel
theorem dX12_pact_26 : decode cX12_pact 26 = .ok (.invokevirtual 334, 3) := by decide +kernel
theorem dX12_pact_29 : decode cX12_pact 29 = .ok (.istore_n 3, 1) := by decide +kernel
theorem dX12_pact_30 : decode cX12_pact 30 = .ok (.iload_n 3, 1) := by decide +kernel
theorem dX12_pact_31 : decode cX12_pact 31 = .ok (.ifCond .le 5, 3) := by decide +kernel
theorem dX12_pact_34 : decode cX12_pact 34 = .ok (.iload_n 3, 1) := by decide +kernel
theorem dX12_pact_35 : decode cX12_pact 35 = .ok (.ireturn, 1) := by decide +kernel
theorem dX12_pact_36 : decode cX12_pact 36 = .ok (.aload_n 0, 1) := by decide +kernel
theorem dX12_pact_37 : decode cX12_pact 37 = .ok (.invokevirtual 327, 3) := by decide +kernel
theorem dX12_pact_40 : decode cX12_pact 40 = .ok (.aload_n 0, 1) := by decide +kernel
theorem dX12_pact_41 : decode cX12_pact 41 = .ok (.getfield 33, 3) := by decide +kernel
theorem dX12_pact_44 : decode cX12_pact 44 = .ok (.bipush 101, 2) := by decide +kernel
theorem dX12_pact_46 : decode cX12_pact 46 = .ok (.iload_n 1, 1) := by decide +kernel
theorem dX12_pact_47 : decode cX12_pact 47 = .ok (.iadd, 1) := by decide +kernel
theorem dX12_pact_48 : decode cX12_pact 48 = .ok (.dup2, 1) := by decide +kernel
theorem dX12_pact_49 : decode cX12_pact 49 = .ok (.iaload, 1) := by decide +kernel
theorem dX12_pact_50 : decode cX12_pact 50 = .ok (.iconst 1, 1) := by decide +kernel
theorem dX12_pact_51 : decode cX12_pact 51 = .ok (.iload_n 2, 1) := by decide +kernel
theorem dX12_pact_52 : decode cX12_pact 52 = .ok (.ishl, 1) := by decide +kernel
theorem dX12_pact_53 : decode cX12_pact 53 = .ok (.ior, 1) := by decide +kernel
theorem dX12_pact_54 : decode cX12_pact 54 = .ok (.iastore, 1) := by decide +kernel
theorem dX12_pact_55 : decode cX12_pact 55 = .ok (.iconst 0, 1) := by decide +kernel
theorem dX12_pact_56 : decode cX12_pact 56 = .ok (.ireturn, 1) := by decide +kernel
theorem dX12_breaks_0 : decode cX12_breaks 0 = .ok (.aload_n 0, 1) := by decide +kernel
theorem dX12_breaks_1 : decode cX12_breaks 1 = .ok (.iconst 0, 1) := by decide +kernel
theorem dX12_breaks_2 : decode cX12_breaks 2 = .ok (.putfield 1, 3) := by decide +kernel
theorem dX12_breaks_5 : decode cX12_breaks 5 = .ok (.aload_n 0, 1) := by decide +kernel
theorem dX12_breaks_6 : decode cX12_breaks 6 = .ok (.iload_n 1, 1) := by decide +kernel
theorem dX12_breaks_7 : decode cX12_breaks 7 = .ok (.invokevirtual 312, 3) := by decide +kernel
theorem dX12_breaks_10 : decode cX12_breaks 10 = .ok (.ifCond .eq 11, 3) := by decide +kernel
theorem dX12_breaks_13 : decode cX12_breaks 13 = .ok (.aload_n 0, 1) := by decide +kernel
theorem dX12_breaks_14 : decode cX12_breaks 14 = .ok (.iload_n 2, 1) := by decide +kernel
theorem dX12_breaks_15 : decode cX12_breaks 15 = .ok (.invokevirtual 312, 3) := by decide +kernel
theorem dX12_breaks_18 : decode cX12_breaks 18 = .ok (.ifCond .ne 5, 3) := by decide +kernel
theorem dX12_breaks_21 : decode cX12_breaks 21 = .ok (.iconst (-1), 1) := by decide +kernel
theorem dX12_breaks_22 : decode cX12_breaks 22 = .ok (.ireturn, 1) := by decide +kernel
theorem dX12_breaks_23 : decode cX12_breaks 23 = .ok (.aload_n 0, 1) := by decide +kernel
theorem dX12_breaks_24 : decode cX12_breaks 24 = .ok (.getfield 33, 3) := by decide +kernel
theorem dX12_breaks_27 : decode cX12_breaks 27 = .ok (.bipush 101, 2) := by decide +kernel
theorem dX12_breaks_29 : decode cX12_breaks 29 = .ok (.iload_n 1, 1) := by decide +kernel
theorem dX12_breaks_30 : decode cX12_breaks 30 = .ok (.iadd, 1) := by decide +kernel
theorem dX12_breaks_31 : decode cX12_breaks 31 = .ok (.iaload, 1) := by decide +kernel
theorem dX12_breaks_32 : decode cX12_breaks 32 = .ok (.iload_n 2, 1) := by decide +kernel
theorem dX12_breaks_33 : decode cX12_breaks 33 = .ok (.invokestatic 257, 3) := by decide +kernel
theorem dX12_breaks_36 : decode cX12_breaks 36 = .ok (.ifCond .ne 5, 3) := by decide +kernel
theorem dX12_breaks_39 : decode cX12_breaks 39 = .ok (.iconst 1, 1) := by decide +kernel
theorem dX12_breaks_40 : decode cX12_breaks 40 = .ok (.ireturn, 1) := by decide +kernel
theorem dX12_breaks_41 : decode cX12_breaks 41 = .ok (.aload_n 0, 1) := by decide +kernel
theorem dX12_breaks_42 : decode cX12_breaks 42 = .ok (.invokevirtual 327, 3) := by decide +kernel
theorem dX12_breaks_45 : decode cX12_breaks 45 = .ok (.aload_n 0, 1) := by decide +kernel
theorem dX12_breaks_46 : decode cX12_breaks 46 = .ok (.getfield 33, 3) := by decide +kernel
theorem dX12_breaks_49 : decode cX12_breaks 49 = .ok (.bipush 101, 2) := by decide +kernel
theorem dX12_breaks_51 : decode cX12_breaks 51 = .ok (.iload_n 1, 1) := by decide +kernel
theorem dX12_breaks_52 : decode cX12_breaks 52 = .ok (.iadd, 1) := by decide +kernel
theorem dX12_breaks_53 : decode cX12_breaks 53 = .ok (.dup2, 1) := by decide +kernel
theorem dX12_breaks_54 : decode cX12_breaks 54 = .ok (.iaload, 1) := by decide +kernel
theorem dX12_breaks_55 : decode cX12_breaks 55 = .ok (.iconst 1, 1) := by decide +kernel
theorem dX12_breaks_56 : decode cX12_breaks 56 = .ok (.iload_n 2, 1) := by decide +kernel
theorem dX12_breaks_57 : decode cX12_breaks 57 = .ok (.ishl, 1) := by decide +kernel
theorem dX12_breaks_58 : decode cX12_breaks 58 = .ok (.ixor, 1) := by decide +kernel
theorem dX12_breaks_59 : decode cX12_breaks 59 = .ok (.iastore, 1) := by decide +kernel
theorem dX12_breaks_60 : decode cX12_breaks 60 = .ok (.iconst 0, 1) := by decide +kernel
theorem dX12_breaks_61 : decode cX12_breaks 61 = .ok (.ireturn, 1) := by decide +kernel
theorem dX12_turns_0 : decode cX12_turns 0 = .ok (.aload_n 0, 1) := by decide +kernel
theorem dX12_turns_1 : decode cX12_turns 1 = .ok (.iconst 0, 1) := by decide +kernel
theorem dX12_turns_2 : decode cX12_turns 2 = .ok (.putfield 1, 3) := by decide +kernel
theorem dX12_turns_5 : decode cX12_turns 5 = .ok (.iload_n 1, 1) := by decide +kernel
theorem dX12_turns_6 : decode cX12_turns 6 = .ok (.iconst 0, 1) := by decide +kernel
theorem dX12_turns_7 : decode cX12_turns 7 = .ok (.bipush 11, 2) := by decide +kernel
theorem dX12_turns_9 : decode cX12_turns 9 = .ok (.invokestatic 207, 3) := by decide +kernel
theorem dX12_turns_12 : decode cX12_turns 12 = .ok (.ifCond .ne 5, 3) := by decide +kernel
theorem dX12_turns_15 : decode cX12_turns 15 = .ok (.iconst (-1), 1) := by decide +kernel
theorem dX12_turns_16 : decode cX12_turns 16 = .ok (.ireturn, 1) := by decide +kernel
theorem dX12_turns_17 : decode cX12_turns 17 = .ok (.aload_n 0, 1) := by decide +kernel
theorem dX12_turns_18 : decode cX12_turns 18 = .ok (.iload_n 1, 1) := by decide +kernel
theorem dX12_turns_19 : decode cX12_turns 19 = .ok (.iload_n 2, 1) := by decide +kernel
theorem dX12_turns_20 : decode cX12_turns 20 = .ok (.invokevirtual 337, 3) := by decide +kernel
theorem dX12_turns_23 : decode cX12_turns 23 = .ok (.istore_n 3, 1) := by decide +kernel
theorem dX12_turns_24 : decode cX12_turns 24 = .ok (.iload_n 3, 1) := by decide +kernel
theorem dX12_turns_25 : decode cX12_turns 25 = .ok (.ifCond .le 5, 3) := by decide +kernel
theorem dX12_turns_28 : decode cX12_turns 28 = .ok (.iload_n 3, 1) := by decide +kernel
theorem dX12_turns_29 : decode cX12_turns 29 = .ok (.ireturn, 1) := by decide +kernel
theorem dX12_turns_30 : decode cX12_turns 30 = .ok (.aload_n 0, 1) := by decide +kernel
theorem dX12_turns_31 : decode cX12_turns 31 = .ok (.invokevirtual 327, 3) := by decide +kernel
theorem dX12_turns_34 : decode cX12_turns 34 = .ok (.aload_n 0, 1) := by decide +kernel
theorem dX12_turns_35 : decode cX12_turns 35 = .ok (.getfield 33, 3) := by decide +kernel
theorem dX12_turns_38 : decode cX12_turns 38 = .ok (.bipush 93, 2) := by decide +kernel
theorem dX12_turns_40 : decode cX12_turns 40 = .ok (.dup2, 1) := by decide +kernel
theorem dX12_turns_41 : decode cX12_turns 41 = .ok (.iaload, 1) := by decide +kernel
theorem dX12_turns_42 : decode cX12_turns 42 = .ok (.iconst 1, 1) := by decide +kernel
theorem dX12_turns_43 : decode cX12_turns 43 = .ok (.iload_n 1, 1) := by decide +kernel
theorem dX12_turns_44 : decode cX12_turns 44 = .ok (.ishl, 1) := by decide +kernel
theorem dX12_turns_45 : decode cX12_turns 45 = .ok (.ixor, 1) := by decide +kernel
theorem dX12_turns_46 : decode cX12_turns 46 = .ok (.iastore, 1) := by decide +kernel
theorem dX12_turns_47 : decode cX12_turns 47 = .ok (.iconst 0, 1) := by decide +kernel
theorem dX12_turns_48 : decode cX12_turns 48 = .ok (.ireturn, 1) := by decide +kernel
theorem dX12_close_0 : decode cX12_close 0 = .ok (.aload_n 0, 1) := by decide +kernel
theorem dX12_close_1 : decode cX12_close 1 = .ok (.iload_n 1, 1) := by decide +kernel
theorem dX12_close_2 : decode cX12_close 2 = .ok (.iconst 1, 1) := by decide +kernel
theorem dX12_close_3 : decode cX12_close 3 = .ok (.invokevirtual 341, 3) := by decide +kernel
theorem dX12_close_6 : decode cX12_close 6 = .ok (.ireturn, 1) := by decide +kernel
theorem dX12_open_0 : decode cX12_open 0 = .ok (.aload_n 0, 1) := by decide +kernel
theorem dX12_open_1 : decode cX12_open 1 = .ok (.iload_n 1, 1) := by decide +kernel
theorem dX12_open_2 : decode cX12_open 2 = .ok (.iconst 0, 1) := by decide +kernel
theorem dX12_open_3 : decode cX12_open 3 = .ok (.invokevirtual 341, 3) := by decide +kernel
theorem dX12_open_6 : decode cX12_open 6 = .ok (.ireturn, 1) := by decide +kernel
theorem dX12_lend_0 : decode cX12_lend 0 = .ok (.aload_n 0, 1) := by decide +kernel
theorem dX12_lend_1 : decode cX12_lend 1 = .ok (.iconst 0, 1) := by decide +kernel
theorem dX12_lend_2 : decode cX12_lend 2 = .ok (.putfield 1, 3) := by decide +kernel
theorem dX12_lend_5 : decode cX12_lend 5 = .ok (.aload_n 0, 1) := by decide +kernel
theorem dX12_lend_6 : decode cX12_lend 6 = .ok (.iload_n 1, 1) := by decide +kernel
theorem dX12_lend_7 : decode cX12_lend 7 = .ok (.invokevirtual 312, 3) := by decide +kernel
theorem dX12_lend_10 : decode cX12_lend 10 = .ok (.ifCond .eq 21, 3) := by decide +kernel
theorem dX12_lend_13 : decode cX12_lend 13 = .ok (.aload_n 0, 1) := by decide +kernel
theorem dX12_lend_14 : decode cX12_lend 14 = .ok (.iload_n 2, 1) := by decide +kernel
theorem dX12_lend_15 : decode cX12_lend 15 = .ok (.invokevirtual 312, 3) := by decide +kernel
theorem dX12_lend_18 : decode cX12_lend 18 = .ok (.ifCond .eq 13, 3) := by decide +kernel
theorem dX12_lend_21 : decode cX12_lend 21 = .ok (.iload_n 3, 1) := by decide +kernel
theorem dX12_lend_22 : decode cX12_lend 22 = .ok (.iconst 1, 1) := by decide +kernel
theorem dX12_lend_23 : decode cX12_lend 23 = .ok (.bipush 99, 2) := by decide +kernel
theorem dX12_lend_25 : decode cX12_lend 25 = .ok (.invokestatic 207, 3) := by decide +kernel
theorem dX12_lend_28 : decode cX12_lend 28 = .ok (.ifCond .ne 5, 3) := by decide +kernel
theorem dX12_lend_31 : decode cX12_lend 31 = .ok (.iconst (-1), 1) := by decide +kernel
theorem dX12_lend_32 : decode cX12_lend 32 = .ok (.ireturn, 1) := by decide +kernel
theorem dX12_lend_33 : decode cX12_lend 33 = .ok (.aload_n 0, 1) := by decide +kernel
theorem dX12_lend_34 : decode cX12_lend 34 = .ok (.iload_n 1, 1) := by decide +kernel
theorem dX12_lend_35 : decode cX12_lend 35 = .ok (.iload_n 2, 1) := by decide +kernel
theorem dX12_lend_36 : decode cX12_lend 36 = .ok (.iload_n 3, 1) := by decide +kernel
theorem dX12_lend_37 : decode cX12_lend 37 = .ok (.invokevirtual 344, 3) := by decide +kernel
theorem dX12_lend_40 : decode cX12_lend 40 = .ok (.istore 4, 2) := by decide +kernel
theorem dX12_lend_42 : decode cX12_lend 42 = .ok (.iload 4, 2) := by decide +kernel
theorem dX12_lend_44 : decode cX12_lend 44 = .ok (.ifCond .le 6, 3) := by decide +kernel
theorem dX12_lend_47 : decode cX12_lend 47 = .ok (.iload 4, 2) := by decide +kernel
theorem dX12_lend_49 : decode cX12_lend 49 = .ok (.ireturn, 1) := by decide +kernel
theorem dX12_lend_50 : decode cX12_lend 50 = .ok (.aload_n 0, 1) := by decide +kernel
theorem dX12_lend_51 : decode cX12_lend 51 = .ok (.invokevirtual 327, 3) := by decide +kernel
theorem dX12_lend_54 : decode cX12_lend 54 = .ok (.aload_n 0, 1) := by decide +kernel
theorem dX12_lend_55 : decode cX12_lend 55 = .ok (.iload_n 1, 1) := by decide +kernel
theorem dX12_lend_56 : decode cX12_lend 56 = .ok (.iload_n 2, 1) := by decide +kernel
theorem dX12_lend_57 : decode cX12_lend 57 = .ok (.iload_n 3, 1) := by decide +kernel
theorem dX12_lend_58 : decode cX12_lend 58 = .ok (.invokevirtual 347, 3) := by decide +kernel
theorem dX12_lend_61 : decode cX12_lend 61 = .ok (.iconst 0, 1) := by decide +kernel
theorem dX12_lend_62 : decode cX12_lend 62 = .ok (.ireturn, 1) := by decide +kernel
theorem dX12_days_0 : decode cX12_days 0 = .ok (.aload_n 0, 1) := by decide +kernel
theorem dX12_days_1 : decode cX12_days 1 = .ok (.iconst 0, 1) := by decide +kernel
theorem dX12_days_2 : decode cX12_days 2 = .ok (.putfield 1, 3) := by decide +kernel
theorem dX12_days_5 : decode cX12_days 5 = .ok (.iload_n 1, 1) := by decide +kernel
theorem dX12_days_6 : decode cX12_days 6 = .ok (.iconst 1, 1) := by decide +kernel
theorem dX12_days_7 : decode cX12_days 7 = .ok (.bipush 60, 2) := by decide +kernel
theorem dX12_days_9 : decode cX12_days 9 = .ok (.invokestatic 207, 3) := by decide +kernel
theorem dX12_days_12 : decode cX12_days 12 = .ok (.ifCond .ne 5, 3) := by decide +kernel
theorem dX12_days_15 : decode cX12_days 15 = .ok (.iconst (-1), 1) := by decide +kernel
theorem dX12_days_16 : decode cX12_days 16 = .ok (.ireturn, 1) := by decide +kernel
theorem dX12_days_17 : decode cX12_days 17 = .ok (.aload_n 0, 1) := by decide +kernel
theorem dX12_days_18 : decode cX12_days 18 = .ok (.getfield 33, 3) := by decide +kernel
theorem dX12_days_21 : decode cX12_days 21 = .ok (.bipush 91, 2) := by decide +kernel
theorem dX12_days_23 : decode cX12_days 23 = .ok (.iaload, 1) := by decide +kernel
theorem dX12_days_24 : decode cX12_days 24 = .ok (.sipush 400, 3) := by decide +kernel
theorem dX12_days_27 : decode cX12_days 27 = .ok (.if_icmp .ne 5, 3) := by decide +kernel
theorem dX12_days_30 : decode cX12_days 30 = .ok (.iconst 0, 1) := by decide +kernel
theorem dX12_days_31 : decode cX12_days 31 = .ok (.ireturn, 1) := by decide +kernel
theorem dX12_days_32 : decode cX12_days 32 = .ok (.aload_n 0, 1) := by decide +kernel
theorem dX12_days_33 : decode cX12_days 33 = .ok (.invokevirtual 327, 3) := by decide +kernel
theorem dX12_days_36 : decode cX12_days 36 = .ok (.aload_n 0, 1) := by decide +kernel
theorem dX12_days_37 : decode cX12_days 37 = .ok (.iload_n 1, 1) := by decide +kernel
theorem dX12_days_38 : decode cX12_days 38 = .ok (.invokevirtual 351, 3) := by decide +kernel
theorem dX12_days_41 : decode cX12_days 41 = .ok (.ireturn, 1) := by decide +kernel
theorem dX12_keep_0 : decode cX12_keep 0 = .ok (.aload_n 0, 1) := by decide +kernel
theorem dX12_keep_1 : decode cX12_keep 1 = .ok (.getfield 275, 3) := by decide +kernel
theorem dX12_keep_4 : decode cX12_keep 4 = .ok (.bipush 8, 2) := by decide +kernel
theorem dX12_keep_6 : decode cX12_keep 6 = .ok (.if_icmp .ne 39, 3) := by decide +kernel
theorem dX12_keep_9 : decode cX12_keep 9 = .ok (.iconst 0, 1) := by decide +kernel
theorem dX12_keep_10 : decode cX12_keep 10 = .ok (.istore_n 1, 1) := by decide +kernel
theorem dX12_keep_11 : decode cX12_keep 11 = .ok (.iload_n 1, 1) := by decide +kernel
theorem dX12_keep_12 : decode cX12_keep 12 = .ok (.sipush 329, 3) := by decide +kernel
theorem dX12_keep_15 : decode cX12_keep 15 = .ok (.if_icmp .ge 24, 3) := by decide +kernel
theorem dX12_keep_18 : decode cX12_keep 18 = .ok (.aload_n 0, 1) := by decide +kernel
theorem dX12_keep_19 : decode cX12_keep 19 = .ok (.getfield 50, 3) := by decide +kernel
theorem dX12_keep_22 : decode cX12_keep 22 = .ok (.iload_n 1, 1) := by decide +kernel
theorem dX12_keep_23 : decode cX12_keep 23 = .ok (.aload_n 0, 1) := by decide +kernel
theorem dX12_keep_24 : decode cX12_keep 24 = .ok (.getfield 50, 3) := by decide +kernel
theorem dX12_keep_27 : decode cX12_keep 27 = .ok (.iload_n 1, 1) := by decide +kernel
theorem dX12_keep_28 : decode cX12_keep 28 = .ok (.bipush 47, 2) := by decide +kernel
theorem dX12_keep_30 : decode cX12_keep 30 = .ok (.iadd, 1) := by decide +kernel
theorem dX12_keep_31 : decode cX12_keep 31 = .ok (.iaload, 1) := by decide +kernel
theorem dX12_keep_32 : decode cX12_keep 32 = .ok (.iastore, 1) := by decide +kernel
theorem dX12_keep_33 : decode cX12_keep 33 = .ok (.iinc 1 1, 3) := by decide +kernel
theorem dX12_keep_36 : decode cX12_keep 36 = .ok (.goto (-25), 3) := by decide +kernel
theorem dX12_keep_39 : decode cX12_keep 39 = .ok (.aload_n 0, 1) := by decide +kernel
theorem dX12_keep_40 : decode cX12_keep 40 = .ok (.bipush 7, 2) := by decide +kernel
theorem dX12_keep_42 : decode cX12_keep 42 = .ok (.putfield 275, 3) := by decide +kernel
theorem dX12_keep_45 : decode cX12_keep 45 = .ok (.iconst 0, 1) := by decide +kernel
theorem dX12_keep_46 : decode cX12_keep 46 = .ok (.istore_n 1, 1) := by decide +kernel
theorem dX12_keep_47 : decode cX12_keep 47 = .ok (.iload_n 1, 1) := by decide +kernel
theorem dX12_keep_48 : decode cX12_keep 48 = .ok (.bipush 47, 2) := by decide +kernel
theorem dX12_keep_50 : decode cX12_keep 50 = .ok (.if_icmp .ge 32, 3) := by decide +kernel
theorem dX12_keep_53 : decode cX12_keep 53 = .ok (.aload_n 0, 1) := by decide +kernel
theorem dX12_keep_54 : decode cX12_keep 54 = .ok (.getfield 50, 3) := by decide +kernel
theorem dX12_keep_57 : decode cX12_keep 57 = .ok (.bipush 47, 2) := by decide +kernel
theorem dX12_keep_59 : decode cX12_keep 59 = .ok (.aload_n 0, 1) := by decide +kernel
theorem dX12_keep_60 : decode cX12_keep 60 = .ok (.getfield 275, 3) := by decide +kernel
theorem dX12_keep_63 : decode cX12_keep 63 = .ok (.imul, 1) := by decide +kernel
theorem dX12_keep_64 : decode cX12_keep 64 = .ok (.iload_n 1, 1) := by decide +kernel
theorem dX12_keep_65 : decode cX12_keep 65 = .ok (.iadd, 1) := by decide +kernel
theorem dX12_keep_66 : decode cX12_keep 66 = .ok (.aload_n 0, 1) := by decide +kernel
theorem dX12_keep_67 : decode cX12_keep 67 = .ok (.getfield 33, 3) := by decide +kernel
theorem dX12_keep_70 : decode cX12_keep 70 = .ok (.bipush 91, 2) := by decide +kernel
theorem dX12_keep_72 : decode cX12_keep 72 = .ok (.iload_n 1, 1) := by decide +kernel
theorem dX12_keep_73 : decode cX12_keep 73 = .ok (.iadd, 1) := by decide +kernel
theorem dX12_keep_74 : decode cX12_keep 74 = .ok (.iaload, 1) := by decide +kernel
theorem dX12_keep_75 : decode cX12_keep 75 = .ok (.iastore, 1) := by decide +kernel
theorem dX12_keep_76 : decode cX12_keep 76 = .ok (.iinc 1 1, 3) := by decide +kernel
theorem dX12_keep_79 : decode cX12_keep 79 = .ok (.goto (-32), 3) := by decide +kernel
theorem dX12_keep_82 : decode cX12_keep 82 = .ok (.aload_n 0, 1) := by decide +kernel
theorem dX12_keep_83 : decode cX12_keep 83 = .ok (.dup, 1) := by decide +kernel
theorem dX12_keep_84 : decode cX12_keep 84 = .ok (.getfield 275, 3) := by decide +kernel
theorem dX12_keep_87 : decode cX12_keep 87 = .ok (.iconst 1, 1) := by decide +kernel
theorem dX12_keep_88 : decode cX12_keep 88 = .ok (.iadd, 1) := by decide +kernel
theorem dX12_keep_89 : decode cX12_keep 89 = .ok (.putfield 275, 3) := by decide +kernel
theorem dX12_keep_92 : decode cX12_keep 92 = .ok (.return_, 1) := by decide +kernel
theorem dX12_undo_0 : decode cX12_undo 0 = .ok (.aload_n 0, 1) := by decide +kernel
theorem dX12_undo_1 : decode cX12_undo 1 = .ok (.iconst 0, 1) := by decide +kernel
theorem dX12_undo_2 : decode cX12_undo 2 = .ok (.putfield 1, 3) := by decide +kernel
theorem dX12_undo_5 : decode cX12_undo 5 = .ok (.aload_n 0, 1) := by decide +kernel
theorem dX12_undo_6 : decode cX12_undo 6 = .ok (.getfield 275, 3) := by decide +kernel
theorem dX12_undo_9 : decode cX12_undo 9 = .ok (.ifCond .ne 5, 3) := by decide +kernel
theorem dX12_undo_12 : decode cX12_undo 12 = .ok (.iconst (-1), 1) := by decide +kernel
theorem dX12_undo_13 : decode cX12_undo 13 = .ok (.ireturn, 1) := by decide +kernel
theorem dX12_undo_14 : decode cX12_undo 14 = .ok (.aload_n 0, 1) := by decide +kernel
theorem dX12_undo_15 : decode cX12_undo 15 = .ok (.dup, 1) := by decide +kernel
theorem dX12_undo_16 : decode cX12_undo 16 = .ok (.getfield 275, 3) := by decide +kernel
theorem dX12_undo_19 : decode cX12_undo 19 = .ok (.iconst 1, 1) := by decide +kernel
theorem dX12_undo_20 : decode cX12_undo 20 = .ok (.isub, 1) := by decide +kernel
theorem dX12_undo_21 : decode cX12_undo 21 = .ok (.putfield 275, 3) := by decide +kernel
theorem dX12_undo_24 : decode cX12_undo 24 = .ok (.iconst 0, 1) := by decide +kernel
theorem dX12_undo_25 : decode cX12_undo 25 = .ok (.istore_n 1, 1) := by decide +kernel
theorem dX12_undo_26 : decode cX12_undo 26 = .ok (.iload_n 1, 1) := by decide +kernel
theorem dX12_undo_27 : decode cX12_undo 27 = .ok (.bipush 47, 2) := by decide +kernel
theorem dX12_undo_29 : decode cX12_undo 29 = .ok (.if_icmp .ge 32, 3) := by decide +kernel
theorem dX12_undo_32 : decode cX12_undo 32 = .ok (.aload_n 0, 1) := by decide +kernel
theorem dX12_undo_33 : decode cX12_undo 33 = .ok (.getfield 33, 3) := by decide +kernel
theorem dX12_undo_36 : decode cX12_undo 36 = .ok (.bipush 91, 2) := by decide +kernel
theorem dX12_undo_38 : decode cX12_undo 38 = .ok (.iload_n 1, 1) := by decide +kernel
theorem dX12_undo_39 : decode cX12_undo 39 = .ok (.iadd, 1) := by decide +kernel
theorem dX12_undo_40 : decode cX12_undo 40 = .ok (.aload_n 0, 1) := by decide +kernel
theorem dX12_undo_41 : decode cX12_undo 41 = .ok (.getfield 50, 3) := by decide +kernel
theorem dX12_undo_44 : decode cX12_undo 44 = .ok (.bipush 47, 2) := by decide +kernel
theorem dX12_undo_46 : decode cX12_undo 46 = .ok (.aload_n 0, 1) := by decide +kernel
theorem dX12_undo_47 : decode cX12_undo 47 = .ok (.getfield 275, 3) := by decide +kernel
theorem dX12_undo_50 : decode cX12_undo 50 = .ok (.imul, 1) := by decide +kernel
theorem dX12_undo_51 : decode cX12_undo 51 = .ok (.iload_n 1, 1) := by decide +kernel
theorem dX12_undo_52 : decode cX12_undo 52 = .ok (.iadd, 1) := by decide +kernel
theorem dX12_undo_53 : decode cX12_undo 53 = .ok (.iaload, 1) := by decide +kernel
theorem dX12_undo_54 : decode cX12_undo 54 = .ok (.iastore, 1) := by decide +kernel
theorem dX12_undo_55 : decode cX12_undo 55 = .ok (.iinc 1 1, 3) := by decide +kernel
theorem dX12_undo_58 : decode cX12_undo 58 = .ok (.goto (-32), 3) := by decide +kernel
theorem dX12_undo_61 : decode cX12_undo 61 = .ok (.aload_n 0, 1) := by decide +kernel
theorem dX12_undo_62 : decode cX12_undo 62 = .ok (.getfield 275, 3) := by decide +kernel
theorem dX12_undo_65 : decode cX12_undo 65 = .ok (.ireturn, 1) := by decide +kernel
theorem dX12_tries_0 : decode cX12_tries 0 = .ok (.iconst 0, 1) := by decide +kernel
theorem dX12_tries_1 : decode cX12_tries 1 = .ok (.istore_n 1, 1) := by decide +kernel
theorem dX12_tries_2 : decode cX12_tries 2 = .ok (.iload_n 1, 1) := by decide +kernel
theorem dX12_tries_3 : decode cX12_tries 3 = .ok (.bipush 47, 2) := by decide +kernel
theorem dX12_tries_5 : decode cX12_tries 5 = .ok (.if_icmp .ge 24, 3) := by decide +kernel
theorem dX12_tries_8 : decode cX12_tries 8 = .ok (.aload_n 0, 1) := by decide +kernel
theorem dX12_tries_9 : decode cX12_tries 9 = .ok (.getfield 53, 3) := by decide +kernel
theorem dX12_tries_12 : decode cX12_tries 12 = .ok (.iload_n 1, 1) := by decide +kernel
theorem dX12_tries_13 : decode cX12_tries 13 = .ok (.aload_n 0, 1) := by decide +kernel
theorem dX12_tries_14 : decode cX12_tries 14 = .ok (.getfield 33, 3) := by decide +kernel
theorem dX12_tries_17 : decode cX12_tries 17 = .ok (.bipush 91, 2) := by decide +kernel
theorem dX12_tries_19 : decode cX12_tries 19 = .ok (.iload_n 1, 1) := by decide +kernel
theorem dX12_tries_20 : decode cX12_tries 20 = .ok (.iadd, 1) := by decide +kernel
theorem dX12_tries_21 : decode cX12_tries 21 = .ok (.iaload, 1) := by decide +kernel
theorem dX12_tries_22 : decode cX12_tries 22 = .ok (.iastore, 1) := by decide +kernel
theorem dX12_tries_23 : decode cX12_tries 23 = .ok (.iinc 1 1, 3) := by decide +kernel
theorem dX12_tries_26 : decode cX12_tries 26 = .ok (.goto (-24), 3) := by decide +kernel
theorem dX12_tries_29 : decode cX12_tries 29 = .ok (.return_, 1) := by decide +kernel
theorem dX12_back_0 : decode cX12_back 0 = .ok (.iconst 0, 1) := by decide +kernel
theorem dX12_back_1 : decode cX12_back 1 = .ok (.istore_n 1, 1) := by decide +kernel
theorem dX12_back_2 : decode cX12_back 2 = .ok (.iload_n 1, 1) := by decide +kernel
theorem dX12_back_3 : decode cX12_back 3 = .ok (.bipush 47, 2) := by decide +kernel
theorem dX12_back_5 : decode cX12_back 5 = .ok (.if_icmp .ge 24, 3) := by decide +kernel
theorem dX12_back_8 : decode cX12_back 8 = .ok (.aload_n 0, 1) := by decide +kernel
theorem dX12_back_9 : decode cX12_back 9 = .ok (.getfield 33, 3) := by decide +kernel
theorem dX12_back_12 : decode cX12_back 12 = .ok (.bipush 91, 2) := by decide +kernel
theorem dX12_back_14 : decode cX12_back 14 = .ok (.iload_n 1, 1) := by decide +kernel
theorem dX12_back_15 : decode cX12_back 15 = .ok (.iadd, 1) := by decide +kernel
theorem dX12_back_16 : decode cX12_back 16 = .ok (.aload_n 0, 1) := by decide +kernel
theorem dX12_back_17 : decode cX12_back 17 = .ok (.getfield 53, 3) := by decide +kernel
theorem dX12_back_20 : decode cX12_back 20 = .ok (.iload_n 1, 1) := by decide +kernel
theorem dX12_back_21 : decode cX12_back 21 = .ok (.iaload, 1) := by decide +kernel
theorem dX12_back_22 : decode cX12_back 22 = .ok (.iastore, 1) := by decide +kernel
theorem dX12_back_23 : decode cX12_back 23 = .ok (.iinc 1 1, 3) := by decide +kernel
theorem dX12_back_26 : decode cX12_back 26 = .ok (.goto (-24), 3) := by decide +kernel
theorem dX12_back_29 : decode cX12_back 29 = .ok (.return_, 1) := by decide +kernel
theorem dX12_starts_0 : decode cX12_starts 0 = .ok (.aload_n 0, 1) := by decide +kernel
theorem dX12_starts_1 : decode cX12_starts 1 = .ok (.aload_n 0, 1) := by decide +kernel
theorem dX12_starts_2 : decode cX12_starts 2 = .ok (.getfield 33, 3) := by decide +kernel
theorem dX12_starts_5 : decode cX12_starts 5 = .ok (.bipush 79, 2) := by decide +kernel
theorem dX12_starts_7 : decode cX12_starts 7 = .ok (.iload_n 1, 1) := by decide +kernel
theorem dX12_starts_8 : decode cX12_starts 8 = .ok (.iadd, 1) := by decide +kernel
theorem dX12_starts_9 : decode cX12_starts 9 = .ok (.iaload, 1) := by decide +kernel
theorem dX12_starts_10 : decode cX12_starts 10 = .ok (.putfield 354, 3) := by decide +kernel
theorem dX12_starts_13 : decode cX12_starts 13 = .ok (.aload_n 0, 1) := by decide +kernel
theorem dX12_starts_14 : decode cX12_starts 14 = .ok (.aload_n 0, 1) := by decide +kernel
theorem dX12_starts_15 : decode cX12_starts 15 = .ok (.iload_n 1, 1) := by decide +kernel
theorem dX12_starts_16 : decode cX12_starts 16 = .ok (.invokevirtual 284, 3) := by decide +kernel
theorem dX12_starts_19 : decode cX12_starts 19 = .ok (.putfield 357, 3) := by decide +kernel
theorem dX12_starts_22 : decode cX12_starts 22 = .ok (.aload_n 0, 1) := by decide +kernel
theorem dX12_starts_23 : decode cX12_starts 23 = .ok (.iconst 0, 1) := by decide +kernel
theorem dX12_starts_24 : decode cX12_starts 24 = .ok (.putfield 360, 3) := by decide +kernel
theorem dX12_starts_27 : decode cX12_starts 27 = .ok (.aload_n 0, 1) := by decide +kernel
theorem dX12_starts_28 : decode cX12_starts 28 = .ok (.getfield 56, 3) := by decide +kernel
theorem dX12_starts_31 : decode cX12_starts 31 = .ok (.iconst 0, 1) := by decide +kernel
theorem dX12_starts_32 : decode cX12_starts 32 = .ok (.aload_n 0, 1) := by decide +kernel
theorem dX12_starts_33 : decode cX12_starts 33 = .ok (.getfield 33, 3) := by decide +kernel
theorem dX12_starts_36 : decode cX12_starts 36 = .ok (.bipush 108, 2) := by decide +kernel
theorem dX12_starts_38 : decode cX12_starts 38 = .ok (.iload_n 1, 1) := by decide +kernel
theorem dX12_starts_39 : decode cX12_starts 39 = .ok (.iadd, 1) := by decide +kernel
theorem dX12_starts_40 : decode cX12_starts 40 = .ok (.iaload, 1) := by decide +kernel
theorem dX12_starts_41 : decode cX12_starts 41 = .ok (.iastore, 1) := by decide +kernel
theorem dX12_starts_42 : decode cX12_starts 42 = .ok (.aload_n 0, 1) := by decide +kernel
theorem dX12_starts_43 : decode cX12_starts 43 = .ok (.getfield 59, 3) := by decide +kernel
theorem dX12_starts_46 : decode cX12_starts 46 = .ok (.iconst 0, 1) := by decide +kernel
theorem dX12_starts_47 : decode cX12_starts 47 = .ok (.aload_n 0, 1) := by decide +kernel
theorem dX12_starts_48 : decode cX12_starts 48 = .ok (.getfield 33, 3) := by decide +kernel
theorem dX12_starts_51 : decode cX12_starts 51 = .ok (.bipush 114, 2) := by decide +kernel
theorem dX12_starts_53 : decode cX12_starts 53 = .ok (.iload_n 1, 1) := by decide +kernel
theorem dX12_starts_54 : decode cX12_starts 54 = .ok (.iadd, 1) := by decide +kernel
theorem dX12_starts_55 : decode cX12_starts 55 = .ok (.iaload, 1) := by decide +kernel
theorem dX12_starts_56 : decode cX12_starts 56 = .ok (.iastore, 1) := by decide +kernel
theorem dX12_starts_57 : decode cX12_starts 57 = .ok (.aload_n 0, 1) := by decide +kernel
theorem dX12_starts_58 : decode cX12_starts 58 = .ok (.getfield 62, 3) := by decide +kernel
theorem dX12_starts_61 : decode cX12_starts 61 = .ok (.iconst 0, 1) := by decide +kernel
theorem dX12_starts_62 : decode cX12_starts 62 = .ok (.aload_n 0, 1) := by decide +kernel
theorem dX12_starts_63 : decode cX12_starts 63 = .ok (.getfield 33, 3) := by decide +kernel
theorem dX12_starts_66 : decode cX12_starts 66 = .ok (.bipush 94, 2) := by decide +kernel
theorem dX12_starts_68 : decode cX12_starts 68 = .ok (.aload_n 0, 1) := by decide +kernel
theorem dX12_starts_69 : decode cX12_starts 69 = .ok (.getfield 354, 3) := by decide +kernel
theorem dX12_starts_72 : decode cX12_starts 72 = .ok (.iadd, 1) := by decide +kernel
theorem dX12_starts_73 : decode cX12_starts 73 = .ok (.iaload, 1) := by decide +kernel
theorem dX12_starts_74 : decode cX12_starts 74 = .ok (.iastore, 1) := by decide +kernel
theorem dX12_starts_75 : decode cX12_starts 75 = .ok (.aload_n 0, 1) := by decide +kernel
theorem dX12_starts_76 : decode cX12_starts 76 = .ok (.getfield 65, 3) := by decide +kernel
theorem dX12_starts_79 : decode cX12_starts 79 = .ok (.iconst 0, 1) := by decide +kernel
theorem dX12_starts_80 : decode cX12_starts 80 = .ok (.iconst (-1), 1) := by decide +kernel
theorem dX12_starts_81 : decode cX12_starts 81 = .ok (.iastore, 1) := by decide +kernel
theorem dX12_starts_82 : decode cX12_starts 82 = .ok (.return_, 1) := by decide +kernel
theorem dX12_steps_0 : decode cX12_steps 0 = .ok (.aload_n 0, 1) := by decide +kernel
theorem dX12_steps_1 : decode cX12_steps 1 = .ok (.getfield 65, 3) := by decide +kernel
theorem dX12_steps_4 : decode cX12_steps 4 = .ok (.iload_n 1, 1) := by decide +kernel
theorem dX12_steps_5 : decode cX12_steps 5 = .ok (.iaload, 1) := by decide +kernel
theorem dX12_steps_6 : decode cX12_steps 6 = .ok (.istore_n 2, 1) := by decide +kernel
theorem dX12_steps_7 : decode cX12_steps 7 = .ok (.aload_n 0, 1) := by decide +kernel
theorem dX12_steps_8 : decode cX12_steps 8 = .ok (.aload_n 0, 1) := by decide +kernel
theorem dX12_steps_9 : decode cX12_steps 9 = .ok (.getfield 56, 3) := by decide +kernel
theorem dX12_steps_12 : decode cX12_steps 12 = .ok (.iload_n 1, 1) := by decide +kernel
theorem dX12_steps_13 : decode cX12_steps 13 = .ok (.iaload, 1) := by decide +kernel
theorem dX12_steps_14 : decode cX12_steps 14 = .ok (.iload_n 2, 1) := by decide +kernel
theorem dX12_steps_15 : decode cX12_steps 15 = .ok (.aload_n 0, 1) := by decide +kernel
theorem dX12_steps_16 : decode cX12_steps 16 = .ok (.getfield 59, 3) := by decide +kernel
theorem dX12_steps_19 : decode cX12_steps 19 = .ok (.iload_n 1, 1) := by decide +kernel
theorem dX12_steps_20 : decode cX12_steps 20 = .ok (.iaload, 1) := by decide +kernel
theorem dX12_steps_21 : decode cX12_steps 21 = .ok (.aload_n 0, 1) := by decide +kernel
theorem dX12_steps_22 : decode cX12_steps 22 = .ok (.getfield 357, 3) := by decide +kernel
theorem dX12_steps_25 : decode cX12_steps 25 = .ok (.invokevirtual 288, 3) := by decide +kernel
theorem dX12_steps_28 : decode cX12_steps 28 = .ok (.ifCond .le 5, 3) := by decide +kernel
theorem dX12_steps_31 : decode cX12_steps 31 = .ok (.iconst 0, 1) := by decide +kernel
theorem dX12_steps_32 : decode cX12_steps 32 = .ok (.ireturn, 1) := by decide +kernel
theorem dX12_steps_33 : decode cX12_steps 33 = .ok (.iload_n 2, 1) := by decide +kernel
theorem dX12_steps_34 : decode cX12_steps 34 = .ok (.aload_n 0, 1) := by decide +kernel
theorem dX12_steps_35 : decode cX12_steps 35 = .ok (.getfield 354, 3) := by decide +kernel
theorem dX12_steps_38 : decode cX12_steps 38 = .ok (.if_icmp .ne 23, 3) := by decide +kernel
theorem dX12_steps_41 : decode cX12_steps 41 = .ok (.aload_n 0, 1) := by decide +kernel
theorem dX12_steps_42 : decode cX12_steps 42 = .ok (.iload_n 2, 1) := by decide +kernel
theorem dX12_steps_43 : decode cX12_steps 43 = .ok (.aload_n 0, 1) := by decide +kernel
theorem dX12_steps_44 : decode cX12_steps 44 = .ok (.getfield 59, 3) := by decide +kernel
theorem dX12_steps_47 : decode cX12_steps 47 = .ok (.iload_n 1, 1) := by decide +kernel
theorem dX12_steps_48 : decode cX12_steps 48 = .ok (.iaload, 1) := by decide +kernel
theorem dX12_steps_49 : decode cX12_steps 49 = .ok (.aload_n 0, 1) := by decide +kernel
theorem dX12_steps_50 : decode cX12_steps 50 = .ok (.getfield 62, 3) := by decide +kernel
theorem dX12_steps_53 : decode cX12_steps 53 = .ok (.iload_n 1, 1) := by decide +kernel
theorem dX12_steps_54 : decode cX12_steps 54 = .ok (.iaload, 1) := by decide +kernel
theorem dX12_steps_55 : decode cX12_steps 55 = .ok (.invokevirtual 298, 3) := by decide +kernel
theorem dX12_steps_58 : decode cX12_steps 58 = .ok (.goto 4, 3) := by decide +kernel
theorem dX12_steps_61 : decode cX12_steps 61 = .ok (.iconst 0, 1) := by decide +kernel
theorem dX12_steps_62 : decode cX12_steps 62 = .ok (.istore_n 3, 1) := by decide +kernel
theorem dX12_steps_63 : decode cX12_steps 63 = .ok (.aload_n 0, 1) := by decide +kernel
theorem dX12_steps_64 : decode cX12_steps 64 = .ok (.getfield 56, 3) := by decide +kernel
theorem dX12_steps_67 : decode cX12_steps 67 = .ok (.iload_n 1, 1) := by decide +kernel
theorem dX12_steps_68 : decode cX12_steps 68 = .ok (.iconst 1, 1) := by decide +kernel
theorem dX12_steps_69 : decode cX12_steps 69 = .ok (.iadd, 1) := by decide +kernel
theorem dX12_steps_70 : decode cX12_steps 70 = .ok (.iload_n 2, 1) := by decide +kernel
theorem dX12_steps_71 : decode cX12_steps 71 = .ok (.iastore, 1) := by decide +kernel
theorem dX12_steps_72 : decode cX12_steps 72 = .ok (.aload_n 0, 1) := by decide +kernel
theorem dX12_steps_73 : decode cX12_steps 73 = .ok (.getfield 62, 3) := by decide +kernel
theorem dX12_steps_76 : decode cX12_steps 76 = .ok (.iload_n 1, 1) := by decide +kernel
theorem dX12_steps_77 : decode cX12_steps 77 = .ok (.iconst 1, 1) := by decide +kernel
theorem dX12_steps_78 : decode cX12_steps 78 = .ok (.iadd, 1) := by decide +kernel
theorem dX12_steps_79 : decode cX12_steps 79 = .ok (.aload_n 0, 1) := by decide +kernel
theorem dX12_steps_80 : decode cX12_steps 80 = .ok (.getfield 62, 3) := by decide +kernel
theorem dX12_steps_83 : decode cX12_steps 83 = .ok (.iload_n 1, 1) := by decide +kernel
theorem dX12_steps_84 : decode cX12_steps 84 = .ok (.iaload, 1) := by decide +kernel
theorem dX12_steps_85 : decode cX12_steps 85 = .ok (.iload_n 3, 1) := by decide +kernel
theorem dX12_steps_86 : decode cX12_steps 86 = .ok (.isub, 1) := by decide +kernel
theorem dX12_steps_87 : decode cX12_steps 87 = .ok (.iastore, 1) := by decide +kernel
theorem dX12_steps_88 : decode cX12_steps 88 = .ok (.aload_n 0, 1) := by decide +kernel
theorem dX12_steps_89 : decode cX12_steps 89 = .ok (.getfield 59, 3) := by decide +kernel
theorem dX12_steps_92 : decode cX12_steps 92 = .ok (.iload_n 1, 1) := by decide +kernel
theorem dX12_steps_93 : decode cX12_steps 93 = .ok (.iconst 1, 1) := by decide +kernel
theorem dX12_steps_94 : decode cX12_steps 94 = .ok (.iadd, 1) := by decide +kernel
theorem dX12_steps_95 : decode cX12_steps 95 = .ok (.aload_n 0, 1) := by decide +kernel
theorem dX12_steps_96 : decode cX12_steps 96 = .ok (.getfield 59, 3) := by decide +kernel
theorem dX12_steps_99 : decode cX12_steps 99 = .ok (.iload_n 1, 1) := by decide +kernel
theorem dX12_steps_100 : decode cX12_steps 100 = .ok (.iaload, 1) := by decide +kernel
theorem dX12_steps_101 : decode cX12_steps 101 = .ok (.iload_n 3, 1) := by decide +kernel
theorem dX12_steps_102 : decode cX12_steps 102 = .ok (.iadd, 1) := by decide +kernel
theorem dX12_steps_103 : decode cX12_steps 103 = .ok (.aload_n 0, 1) := by decide +kernel
theorem dX12_steps_104 : decode cX12_steps 104 = .ok (.getfield 357, 3) := by decide +kernel
theorem dX12_steps_107 : decode cX12_steps 107 = .ok (.iload_n 2, 1) := by decide +kernel
theorem dX12_steps_108 : decode cX12_steps 108 = .ok (.invokestatic 257, 3) := by decide +kernel
theorem dX12_steps_111 : decode cX12_steps 111 = .ok (.ifCond .eq 7, 3) := by decide +kernel
theorem dX12_steps_114 : decode cX12_steps 114 = .ok (.iconst 0, 1) := by decide +kernel
theorem dX12_steps_115 : decode cX12_steps 115 = .ok (.goto 11, 3) := by decide +kernel
theorem dX12_steps_118 : decode cX12_steps 118 = .ok (.aload_n 0, 1) := by decide +kernel
theorem dX12_steps_119 : decode cX12_steps 119 = .ok (.getfield 33, 3) := by decide +kernel
theorem dX12_steps_122 : decode cX12_steps 122 = .ok (.iconst 3, 1) := by decide +kernel
theorem dX12_steps_123 : decode cX12_steps 123 = .ok (.iload_n 2, 1) := by decide +kernel
theorem dX12_steps_124 : decode cX12_steps 124 = .ok (.iadd, 1) := by decide +kernel
theorem dX12_steps_125 : decode cX12_steps 125 = .ok (.iaload, 1) := by decide +kernel
theorem dX12_steps_126 : decode cX12_steps 126 = .ok (.isub, 1) := by decide +kernel
theorem dX12_steps_127 : decode cX12_steps 127 = .ok (.iastore, 1) := by decide +kernel
theorem dX12_steps_128 : decode cX12_steps 128 = .ok (.aload_n 0, 1) := by decide +kernel
theorem dX12_steps_129 : decode cX12_steps 129 = .ok (.getfield 65, 3) := by decide +kernel
theorem dX12_steps_132 : decode cX12_steps 132 = .ok (.iload_n 1, 1) := by decide +kernel
theorem dX12_steps_133 : decode cX12_steps 133 = .ok (.iconst 1, 1) := by decide +kernel
theorem dX12_steps_134 : decode cX12_steps 134 = .ok (.iadd, 1) := by decide +kernel
theorem dX12_steps_135 : decode cX12_steps 135 = .ok (.iconst (-1), 1) := by decide +kernel
theorem dX12_steps_136 : decode cX12_steps 136 = .ok (.iastore, 1) := by decide +kernel
theorem dX12_steps_137 : decode cX12_steps 137 = .ok (.iconst 1, 1) := by decide +kernel
theorem dX12_steps_138 : decode cX12_steps 138 = .ok (.ireturn, 1) := by decide +kernel
theorem dX12_goesTo_0 : decode cX12_goesTo 0 = .ok (.aload_n 0, 1) := by decide +kernel
theorem dX12_goesTo_1 : decode cX12_goesTo 1 = .ok (.getfield 360, 3) := by decide +kernel
theorem dX12_goesTo_4 : decode cX12_goesTo 4 = .ok (.iload_n 1, 1) := by decide +kernel
theorem dX12_goesTo_5 : decode cX12_goesTo 5 = .ok (.if_icmp .ne 13, 3) := by decide +kernel
theorem dX12_goesTo_8 : decode cX12_goesTo 8 = .ok (.aload_n 0, 1) := by decide +kernel
theorem dX12_goesTo_9 : decode cX12_goesTo 9 = .ok (.dup, 1) := by decide +kernel
theorem dX12_goesTo_10 : decode cX12_goesTo 10 = .ok (.getfield 360, 3) := by decide +kernel
theorem dX12_goesTo_13 : decode cX12_goesTo 13 = .ok (.iconst 1, 1) := by decide +kernel
theorem dX12_goesTo_14 : decode cX12_goesTo 14 = .ok (.isub, 1) := by decide +kernel
theorem dX12_goesTo_15 : decode cX12_goesTo 15 = .ok (.putfield 360, 3) := by decide +kernel
theorem dX12_goesTo_18 : decode cX12_goesTo 18 = .ok (.aload_n 0, 1) := by decide +kernel
theorem dX12_goesTo_19 : decode cX12_goesTo 19 = .ok (.getfield 360, 3) := by decide +kernel
theorem dX12_goesTo_22 : decode cX12_goesTo 22 = .ok (.ifCond .lt 81, 3) := by decide +kernel
theorem dX12_goesTo_25 : decode cX12_goesTo 25 = .ok (.aload_n 0, 1) := by decide +kernel
theorem dX12_goesTo_26 : decode cX12_goesTo 26 = .ok (.getfield 65, 3) := by decide +kernel
theorem dX12_goesTo_29 : decode cX12_goesTo 29 = .ok (.aload_n 0, 1) := by decide +kernel
theorem dX12_goesTo_30 : decode cX12_goesTo 30 = .ok (.getfield 360, 3) := by decide +kernel
theorem dX12_goesTo_33 : decode cX12_goesTo 33 = .ok (.dup2, 1) := by decide +kernel
theorem dX12_goesTo_34 : decode cX12_goesTo 34 = .ok (.iaload, 1) := by decide +kernel
theorem dX12_goesTo_35 : decode cX12_goesTo 35 = .ok (.iconst 1, 1) := by decide +kernel
theorem dX12_goesTo_36 : decode cX12_goesTo 36 = .ok (.iadd, 1) := by decide +kernel
theorem dX12_goesTo_37 : decode cX12_goesTo 37 = .ok (.iastore, 1) := by decide +kernel
theorem dX12_goesTo_38 : decode cX12_goesTo 38 = .ok (.aload_n 0, 1) := by decide +kernel
theorem dX12_goesTo_39 : decode cX12_goesTo 39 = .ok (.getfield 65, 3) := by decide +kernel
theorem dX12_goesTo_42 : decode cX12_goesTo 42 = .ok (.aload_n 0, 1) := by decide +kernel
theorem dX12_goesTo_43 : decode cX12_goesTo 43 = .ok (.getfield 360, 3) := by decide +kernel
theorem dX12_goesTo_46 : decode cX12_goesTo 46 = .ok (.iaload, 1) := by decide +kernel
theorem dX12_goesTo_47 : decode cX12_goesTo 47 = .ok (.aload_n 0, 1) := by decide +kernel
theorem dX12_goesTo_48 : decode cX12_goesTo 48 = .ok (.getfield 33, 3) := by decide +kernel
theorem dX12_goesTo_51 : decode cX12_goesTo 51 = .ok (.iconst 0, 1) := by decide +kernel
theorem dX12_goesTo_52 : decode cX12_goesTo 52 = .ok (.iaload, 1) := by decide +kernel
theorem dX12_goesTo_53 : decode cX12_goesTo 53 = .ok (.if_icmp .lt 16, 3) := by decide +kernel
theorem dX12_goesTo_56 : decode cX12_goesTo 56 = .ok (.aload_n 0, 1) := by decide +kernel
theorem dX12_goesTo_57 : decode cX12_goesTo 57 = .ok (.dup, 1) := by decide +kernel
theorem dX12_goesTo_58 : decode cX12_goesTo 58 = .ok (.getfield 360, 3) := by decide +kernel
theorem dX12_goesTo_61 : decode cX12_goesTo 61 = .ok (.iconst 1, 1) := by decide +kernel
theorem dX12_goesTo_62 : decode cX12_goesTo 62 = .ok (.isub, 1) := by decide +kernel
theorem dX12_goesTo_63 : decode cX12_goesTo 63 = .ok (.putfield 360, 3) := by decide +kernel
theorem dX12_goesTo_66 : decode cX12_goesTo 66 = .ok (.goto (-48), 3) := by decide +kernel
theorem dX12_goesTo_69 : decode cX12_goesTo 69 = .ok (.aload_n 0, 1) := by decide +kernel
theorem dX12_goesTo_70 : decode cX12_goesTo 70 = .ok (.aload_n 0, 1) := by decide +kernel
theorem dX12_goesTo_71 : decode cX12_goesTo 71 = .ok (.getfield 360, 3) := by decide +kernel
theorem dX12_goesTo_74 : decode cX12_goesTo 74 = .ok (.invokevirtual 363, 3) := by decide +kernel
theorem dX12_goesTo_77 : decode cX12_goesTo 77 = .ok (.ifCond .ne 6, 3) := by decide +kernel
theorem dX12_goesTo_80 : decode cX12_goesTo 80 = .ok (.goto (-62), 3) := by decide +kernel
theorem dX12_goesTo_83 : decode cX12_goesTo 83 = .ok (.aload_n 0, 1) := by decide +kernel
theorem dX12_goesTo_84 : decode cX12_goesTo 84 = .ok (.dup, 1) := by decide +kernel
theorem dX12_goesTo_85 : decode cX12_goesTo 85 = .ok (.getfield 360, 3) := by decide +kernel
theorem dX12_goesTo_88 : decode cX12_goesTo 88 = .ok (.iconst 1, 1) := by decide +kernel
theorem dX12_goesTo_89 : decode cX12_goesTo 89 = .ok (.iadd, 1) := by decide +kernel
theorem dX12_goesTo_90 : decode cX12_goesTo 90 = .ok (.putfield 360, 3) := by decide +kernel
theorem dX12_goesTo_93 : decode cX12_goesTo 93 = .ok (.aload_n 0, 1) := by decide +kernel
theorem dX12_goesTo_94 : decode cX12_goesTo 94 = .ok (.getfield 360, 3) := by decide +kernel
theorem dX12_goesTo_97 : decode cX12_goesTo 97 = .ok (.iload_n 1, 1) := by decide +kernel
theorem dX12_goesTo_98 : decode cX12_goesTo 98 = .ok (.if_icmp .ne (-80), 3) := by decide +kernel
theorem dX12_goesTo_101 : decode cX12_goesTo 101 = .ok (.iconst 1, 1) := by decide +kernel
theorem dX12_goesTo_102 : decode cX12_goesTo 102 = .ok (.ireturn, 1) := by decide +kernel
theorem dX12_goesTo_103 : decode cX12_goesTo 103 = .ok (.iconst 0, 1) := by decide +kernel
theorem dX12_goesTo_104 : decode cX12_goesTo 104 = .ok (.ireturn, 1) := by decide +kernel
theorem dX12_fewest_0 : decode cX12_fewest 0 = .ok (.iconst 0, 1) := by decide +kernel
theorem dX12_fewest_1 : decode cX12_fewest 1 = .ok (.istore 5, 2) := by decide +kernel
theorem dX12_fewest_3 : decode cX12_fewest 3 = .ok (.iload 5, 2) := by decide +kernel
theorem dX12_fewest_5 : decode cX12_fewest 5 = .ok (.iconst 5, 1) := by decide +kernel
theorem dX12_fewest_6 : decode cX12_fewest 6 = .ok (.if_icmp .gt 91, 3) := by decide +kernel
theorem dX12_fewest_9 : decode cX12_fewest 9 = .ok (.aload_n 0, 1) := by decide +kernel
theorem dX12_fewest_10 : decode cX12_fewest 10 = .ok (.iload_n 1, 1) := by decide +kernel
theorem dX12_fewest_11 : decode cX12_fewest 11 = .ok (.invokevirtual 366, 3) := by decide +kernel
theorem dX12_fewest_14 : decode cX12_fewest 14 = .ok (.aload_n 0, 1) := by decide +kernel
theorem dX12_fewest_15 : decode cX12_fewest 15 = .ok (.dup, 1) := by decide +kernel
theorem dX12_fewest_16 : decode cX12_fewest 16 = .ok (.getfield 357, 3) := by decide +kernel
theorem dX12_fewest_19 : decode cX12_fewest 19 = .ok (.iload 4, 2) := by decide +kernel
theorem dX12_fewest_21 : decode cX12_fewest 21 = .ok (.ior, 1) := by decide +kernel
theorem dX12_fewest_22 : decode cX12_fewest 22 = .ok (.putfield 357, 3) := by decide +kernel
theorem dX12_fewest_25 : decode cX12_fewest 25 = .ok (.iload 5, 2) := by decide +kernel
theorem dX12_fewest_27 : decode cX12_fewest 27 = .ok (.ifCond .ne 25, 3) := by decide +kernel
theorem dX12_fewest_30 : decode cX12_fewest 30 = .ok (.aload_n 0, 1) := by decide +kernel
theorem dX12_fewest_31 : decode cX12_fewest 31 = .ok (.getfield 56, 3) := by decide +kernel
theorem dX12_fewest_34 : decode cX12_fewest 34 = .ok (.iconst 0, 1) := by decide +kernel
theorem dX12_fewest_35 : decode cX12_fewest 35 = .ok (.iaload, 1) := by decide +kernel
theorem dX12_fewest_36 : decode cX12_fewest 36 = .ok (.iload_n 2, 1) := by decide +kernel
theorem dX12_fewest_37 : decode cX12_fewest 37 = .ok (.if_icmp .ne 15, 3) := by decide +kernel
theorem dX12_fewest_40 : decode cX12_fewest 40 = .ok (.aload_n 0, 1) := by decide +kernel
theorem dX12_fewest_41 : decode cX12_fewest 41 = .ok (.getfield 59, 3) := by decide +kernel
theorem dX12_fewest_44 : decode cX12_fewest 44 = .ok (.iconst 0, 1) := by decide +kernel
theorem dX12_fewest_45 : decode cX12_fewest 45 = .ok (.iaload, 1) := by decide +kernel
theorem dX12_fewest_46 : decode cX12_fewest 46 = .ok (.iload_n 3, 1) := by decide +kernel
theorem dX12_fewest_47 : decode cX12_fewest 47 = .ok (.if_icmp .lt 5, 3) := by decide +kernel
theorem dX12_fewest_50 : decode cX12_fewest 50 = .ok (.iconst 0, 1) := by decide +kernel
theorem dX12_fewest_51 : decode cX12_fewest 51 = .ok (.ireturn, 1) := by decide +kernel
theorem dX12_fewest_52 : decode cX12_fewest 52 = .ok (.iload 5, 2) := by decide +kernel
theorem dX12_fewest_54 : decode cX12_fewest 54 = .ok (.ifCond .le 37, 3) := by decide +kernel
theorem dX12_fewest_57 : decode cX12_fewest 57 = .ok (.aload_n 0, 1) := by decide +kernel
theorem dX12_fewest_58 : decode cX12_fewest 58 = .ok (.iload 5, 2) := by decide +kernel
theorem dX12_fewest_60 : decode cX12_fewest 60 = .ok (.invokevirtual 369, 3) := by decide +kernel
theorem dX12_fewest_63 : decode cX12_fewest 63 = .ok (.ifCond .eq 28, 3) := by decide +kernel
theorem dX12_fewest_66 : decode cX12_fewest 66 = .ok (.aload_n 0, 1) := by decide +kernel
theorem dX12_fewest_67 : decode cX12_fewest 67 = .ok (.getfield 56, 3) := by decide +kernel
theorem dX12_fewest_70 : decode cX12_fewest 70 = .ok (.iload 5, 2) := by decide +kernel
theorem dX12_fewest_72 : decode cX12_fewest 72 = .ok (.iaload, 1) := by decide +kernel
theorem dX12_fewest_73 : decode cX12_fewest 73 = .ok (.iload_n 2, 1) := by decide +kernel
