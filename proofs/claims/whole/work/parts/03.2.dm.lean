theorem dX12_fewest_74 : decode cX12_fewest 74 = .ok (.if_icmp .ne (-22), 3) := by decide +kernel
theorem dX12_fewest_77 : decode cX12_fewest 77 = .ok (.aload_n 0, 1) := by decide +kernel
theorem dX12_fewest_78 : decode cX12_fewest 78 = .ok (.getfield 59, 3) := by decide +kernel
theorem dX12_fewest_81 : decode cX12_fewest 81 = .ok (.iload 5, 2) := by decide +kernel
theorem dX12_fewest_83 : decode cX12_fewest 83 = .ok (.iaload, 1) := by decide +kernel
theorem dX12_fewest_84 : decode cX12_fewest 84 = .ok (.iload_n 3, 1) := by decide +kernel
theorem dX12_fewest_85 : decode cX12_fewest 85 = .ok (.if_icmp .lt (-33), 3) := by decide +kernel
theorem dX12_fewest_88 : decode cX12_fewest 88 = .ok (.iload 5, 2) := by decide +kernel
theorem dX12_fewest_90 : decode cX12_fewest 90 = .ok (.ireturn, 1) := by decide +kernel
theorem dX12_fewest_91 : decode cX12_fewest 91 = .ok (.iinc 5 1, 3) := by decide +kernel
theorem dX12_fewest_94 : decode cX12_fewest 94 = .ok (.goto (-91), 3) := by decide +kernel
theorem dX12_fewest_97 : decode cX12_fewest 97 = .ok (.ldc_w 372, 3) := by decide +kernel
theorem dX12_fewest_100 : decode cX12_fewest 100 = .ok (.ireturn, 1) := by decide +kernel
theorem dX12_way_0 : decode cX12_way 0 = .ok (.aload_n 0, 1) := by decide +kernel
theorem dX12_way_1 : decode cX12_way 1 = .ok (.iconst 0, 1) := by decide +kernel
theorem dX12_way_2 : decode cX12_way 2 = .ok (.putfield 1, 3) := by decide +kernel
theorem dX12_way_5 : decode cX12_way 5 = .ok (.aload_n 0, 1) := by decide +kernel
theorem dX12_way_6 : decode cX12_way 6 = .ok (.iload_n 1, 1) := by decide +kernel
theorem dX12_way_7 : decode cX12_way 7 = .ok (.invokevirtual 302, 3) := by decide +kernel
theorem dX12_way_10 : decode cX12_way 10 = .ok (.ifCond .eq 22, 3) := by decide +kernel
theorem dX12_way_13 : decode cX12_way 13 = .ok (.aload_n 0, 1) := by decide +kernel
theorem dX12_way_14 : decode cX12_way 14 = .ok (.iload_n 2, 1) := by decide +kernel
theorem dX12_way_15 : decode cX12_way 15 = .ok (.invokevirtual 312, 3) := by decide +kernel
theorem dX12_way_18 : decode cX12_way 18 = .ok (.ifCond .eq 14, 3) := by decide +kernel
theorem dX12_way_21 : decode cX12_way 21 = .ok (.iload_n 3, 1) := by decide +kernel
theorem dX12_way_22 : decode cX12_way 22 = .ok (.iconst 0, 1) := by decide +kernel
theorem dX12_way_23 : decode cX12_way 23 = .ok (.sipush 240, 3) := by decide +kernel
theorem dX12_way_26 : decode cX12_way 26 = .ok (.invokestatic 207, 3) := by decide +kernel
theorem dX12_way_29 : decode cX12_way 29 = .ok (.ifCond .ne 5, 3) := by decide +kernel
theorem dX12_way_32 : decode cX12_way 32 = .ok (.iconst (-1), 1) := by decide +kernel
theorem dX12_way_33 : decode cX12_way 33 = .ok (.ireturn, 1) := by decide +kernel
theorem dX12_way_34 : decode cX12_way 34 = .ok (.aload_n 0, 1) := by decide +kernel
theorem dX12_way_35 : decode cX12_way 35 = .ok (.iload_n 1, 1) := by decide +kernel
theorem dX12_way_36 : decode cX12_way 36 = .ok (.iload_n 2, 1) := by decide +kernel
theorem dX12_way_37 : decode cX12_way 37 = .ok (.iload_n 3, 1) := by decide +kernel
theorem dX12_way_38 : decode cX12_way 38 = .ok (.iconst 0, 1) := by decide +kernel
theorem dX12_way_39 : decode cX12_way 39 = .ok (.invokevirtual 373, 3) := by decide +kernel
theorem dX12_way_42 : decode cX12_way 42 = .ok (.istore 4, 2) := by decide +kernel
theorem dX12_way_44 : decode cX12_way 44 = .ok (.iload 4, 2) := by decide +kernel
theorem dX12_way_46 : decode cX12_way 46 = .ok (.ldc_w 372, 3) := by decide +kernel
theorem dX12_way_49 : decode cX12_way 49 = .ok (.if_icmp .ne 5, 3) := by decide +kernel
theorem dX12_way_52 : decode cX12_way 52 = .ok (.iconst (-1), 1) := by decide +kernel
theorem dX12_way_53 : decode cX12_way 53 = .ok (.ireturn, 1) := by decide +kernel
theorem dX12_way_54 : decode cX12_way 54 = .ok (.aload_n 0, 1) := by decide +kernel
theorem dX12_way_55 : decode cX12_way 55 = .ok (.iload 4, 2) := by decide +kernel
theorem dX12_way_57 : decode cX12_way 57 = .ok (.putfield 77, 3) := by decide +kernel
theorem dX12_way_60 : decode cX12_way 60 = .ok (.iconst 0, 1) := by decide +kernel
theorem dX12_way_61 : decode cX12_way 61 = .ok (.istore 5, 2) := by decide +kernel
theorem dX12_way_63 : decode cX12_way 63 = .ok (.iload 5, 2) := by decide +kernel
theorem dX12_way_65 : decode cX12_way 65 = .ok (.iload 4, 2) := by decide +kernel
theorem dX12_way_67 : decode cX12_way 67 = .ok (.if_icmp .ge 23, 3) := by decide +kernel
theorem dX12_way_70 : decode cX12_way 70 = .ok (.aload_n 0, 1) := by decide +kernel
theorem dX12_way_71 : decode cX12_way 71 = .ok (.getfield 68, 3) := by decide +kernel
theorem dX12_way_74 : decode cX12_way 74 = .ok (.iload 5, 2) := by decide +kernel
theorem dX12_way_76 : decode cX12_way 76 = .ok (.aload_n 0, 1) := by decide +kernel
theorem dX12_way_77 : decode cX12_way 77 = .ok (.getfield 65, 3) := by decide +kernel
theorem dX12_way_80 : decode cX12_way 80 = .ok (.iload 5, 2) := by decide +kernel
theorem dX12_way_82 : decode cX12_way 82 = .ok (.iaload, 1) := by decide +kernel
theorem dX12_way_83 : decode cX12_way 83 = .ok (.iastore, 1) := by decide +kernel
theorem dX12_way_84 : decode cX12_way 84 = .ok (.iinc 5 1, 3) := by decide +kernel
theorem dX12_way_87 : decode cX12_way 87 = .ok (.goto (-24), 3) := by decide +kernel
theorem dX12_way_90 : decode cX12_way 90 = .ok (.iload 4, 2) := by decide +kernel
theorem dX12_way_92 : decode cX12_way 92 = .ok (.ireturn, 1) := by decide +kernel
theorem dX12_wayAt_0 : decode cX12_wayAt 0 = .ok (.aload_n 0, 1) := by decide +kernel
theorem dX12_wayAt_1 : decode cX12_wayAt 1 = .ok (.iconst 0, 1) := by decide +kernel
theorem dX12_wayAt_2 : decode cX12_wayAt 2 = .ok (.putfield 1, 3) := by decide +kernel
theorem dX12_wayAt_5 : decode cX12_wayAt 5 = .ok (.iload_n 1, 1) := by decide +kernel
theorem dX12_wayAt_6 : decode cX12_wayAt 6 = .ok (.iconst 0, 1) := by decide +kernel
theorem dX12_wayAt_7 : decode cX12_wayAt 7 = .ok (.aload_n 0, 1) := by decide +kernel
theorem dX12_wayAt_8 : decode cX12_wayAt 8 = .ok (.getfield 77, 3) := by decide +kernel
theorem dX12_wayAt_11 : decode cX12_wayAt 11 = .ok (.iconst 1, 1) := by decide +kernel
theorem dX12_wayAt_12 : decode cX12_wayAt 12 = .ok (.isub, 1) := by decide +kernel
theorem dX12_wayAt_13 : decode cX12_wayAt 13 = .ok (.invokestatic 207, 3) := by decide +kernel
theorem dX12_wayAt_16 : decode cX12_wayAt 16 = .ok (.ifCond .eq 12, 3) := by decide +kernel
theorem dX12_wayAt_19 : decode cX12_wayAt 19 = .ok (.aload_n 0, 1) := by decide +kernel
theorem dX12_wayAt_20 : decode cX12_wayAt 20 = .ok (.getfield 68, 3) := by decide +kernel
theorem dX12_wayAt_23 : decode cX12_wayAt 23 = .ok (.iload_n 1, 1) := by decide +kernel
theorem dX12_wayAt_24 : decode cX12_wayAt 24 = .ok (.iaload, 1) := by decide +kernel
theorem dX12_wayAt_25 : decode cX12_wayAt 25 = .ok (.goto 4, 3) := by decide +kernel
theorem dX12_wayAt_28 : decode cX12_wayAt 28 = .ok (.iconst (-1), 1) := by decide +kernel
theorem dX12_wayAt_29 : decode cX12_wayAt 29 = .ok (.ireturn, 1) := by decide +kernel
theorem dX12_round_0 : decode cX12_round 0 = .ok (.aload_n 0, 1) := by decide +kernel
theorem dX12_round_1 : decode cX12_round 1 = .ok (.iconst 0, 1) := by decide +kernel
theorem dX12_round_2 : decode cX12_round 2 = .ok (.putfield 1, 3) := by decide +kernel
theorem dX12_round_5 : decode cX12_round 5 = .ok (.aload_n 0, 1) := by decide +kernel
theorem dX12_round_6 : decode cX12_round 6 = .ok (.iload_n 1, 1) := by decide +kernel
theorem dX12_round_7 : decode cX12_round 7 = .ok (.invokevirtual 302, 3) := by decide +kernel
theorem dX12_round_10 : decode cX12_round 10 = .ok (.ifCond .ne 5, 3) := by decide +kernel
theorem dX12_round_13 : decode cX12_round 13 = .ok (.iconst (-1), 1) := by decide +kernel
theorem dX12_round_14 : decode cX12_round 14 = .ok (.ireturn, 1) := by decide +kernel
theorem dX12_round_15 : decode cX12_round 15 = .ok (.iconst (-1), 1) := by decide +kernel
theorem dX12_round_16 : decode cX12_round 16 = .ok (.istore_n 2, 1) := by decide +kernel
theorem dX12_round_17 : decode cX12_round 17 = .ok (.iconst 1, 1) := by decide +kernel
theorem dX12_round_18 : decode cX12_round 18 = .ok (.istore_n 3, 1) := by decide +kernel
theorem dX12_round_19 : decode cX12_round 19 = .ok (.iload_n 3, 1) := by decide +kernel
theorem dX12_round_20 : decode cX12_round 20 = .ok (.iconst 5, 1) := by decide +kernel
theorem dX12_round_21 : decode cX12_round 21 = .ok (.if_icmp .gt 51, 3) := by decide +kernel
theorem dX12_round_24 : decode cX12_round 24 = .ok (.aload_n 0, 1) := by decide +kernel
theorem dX12_round_25 : decode cX12_round 25 = .ok (.iload_n 1, 1) := by decide +kernel
theorem dX12_round_26 : decode cX12_round 26 = .ok (.invokevirtual 366, 3) := by decide +kernel
theorem dX12_round_29 : decode cX12_round 29 = .ok (.aload_n 0, 1) := by decide +kernel
theorem dX12_round_30 : decode cX12_round 30 = .ok (.iload_n 3, 1) := by decide +kernel
theorem dX12_round_31 : decode cX12_round 31 = .ok (.invokevirtual 369, 3) := by decide +kernel
theorem dX12_round_34 : decode cX12_round 34 = .ok (.ifCond .eq 32, 3) := by decide +kernel
theorem dX12_round_37 : decode cX12_round 37 = .ok (.aload_n 0, 1) := by decide +kernel
theorem dX12_round_38 : decode cX12_round 38 = .ok (.getfield 56, 3) := by decide +kernel
theorem dX12_round_41 : decode cX12_round 41 = .ok (.iload_n 3, 1) := by decide +kernel
theorem dX12_round_42 : decode cX12_round 42 = .ok (.iaload, 1) := by decide +kernel
theorem dX12_round_43 : decode cX12_round 43 = .ok (.aload_n 0, 1) := by decide +kernel
theorem dX12_round_44 : decode cX12_round 44 = .ok (.getfield 56, 3) := by decide +kernel
theorem dX12_round_47 : decode cX12_round 47 = .ok (.iconst 0, 1) := by decide +kernel
theorem dX12_round_48 : decode cX12_round 48 = .ok (.iaload, 1) := by decide +kernel
theorem dX12_round_49 : decode cX12_round 49 = .ok (.if_icmp .ne (-20), 3) := by decide +kernel
theorem dX12_round_52 : decode cX12_round 52 = .ok (.iload_n 2, 1) := by decide +kernel
theorem dX12_round_53 : decode cX12_round 53 = .ok (.aload_n 0, 1) := by decide +kernel
theorem dX12_round_54 : decode cX12_round 54 = .ok (.getfield 59, 3) := by decide +kernel
theorem dX12_round_57 : decode cX12_round 57 = .ok (.iload_n 3, 1) := by decide +kernel
theorem dX12_round_58 : decode cX12_round 58 = .ok (.iaload, 1) := by decide +kernel
theorem dX12_round_59 : decode cX12_round 59 = .ok (.invokestatic 376, 3) := by decide +kernel
theorem dX12_round_62 : decode cX12_round 62 = .ok (.istore_n 2, 1) := by decide +kernel
theorem dX12_round_63 : decode cX12_round 63 = .ok (.goto (-34), 3) := by decide +kernel
theorem dX12_round_66 : decode cX12_round 66 = .ok (.iinc 3 1, 3) := by decide +kernel
theorem dX12_round_69 : decode cX12_round 69 = .ok (.goto (-50), 3) := by decide +kernel
theorem dX12_round_72 : decode cX12_round 72 = .ok (.iload_n 2, 1) := by decide +kernel
theorem dX12_round_73 : decode cX12_round 73 = .ok (.ireturn, 1) := by decide +kernel
theorem dX12_spare_0 : decode cX12_spare 0 = .ok (.aload_n 0, 1) := by decide +kernel
theorem dX12_spare_1 : decode cX12_spare 1 = .ok (.iconst 0, 1) := by decide +kernel
theorem dX12_spare_2 : decode cX12_spare 2 = .ok (.putfield 1, 3) := by decide +kernel
theorem dX12_spare_5 : decode cX12_spare 5 = .ok (.aload_n 0, 1) := by decide +kernel
theorem dX12_spare_6 : decode cX12_spare 6 = .ok (.iload_n 1, 1) := by decide +kernel
theorem dX12_spare_7 : decode cX12_spare 7 = .ok (.invokevirtual 302, 3) := by decide +kernel
theorem dX12_spare_10 : decode cX12_spare 10 = .ok (.ifCond .eq 22, 3) := by decide +kernel
theorem dX12_spare_13 : decode cX12_spare 13 = .ok (.aload_n 0, 1) := by decide +kernel
theorem dX12_spare_14 : decode cX12_spare 14 = .ok (.iload_n 2, 1) := by decide +kernel
theorem dX12_spare_15 : decode cX12_spare 15 = .ok (.invokevirtual 312, 3) := by decide +kernel
theorem dX12_spare_18 : decode cX12_spare 18 = .ok (.ifCond .eq 14, 3) := by decide +kernel
theorem dX12_spare_21 : decode cX12_spare 21 = .ok (.iload_n 3, 1) := by decide +kernel
theorem dX12_spare_22 : decode cX12_spare 22 = .ok (.iconst 0, 1) := by decide +kernel
theorem dX12_spare_23 : decode cX12_spare 23 = .ok (.sipush 240, 3) := by decide +kernel
theorem dX12_spare_26 : decode cX12_spare 26 = .ok (.invokestatic 207, 3) := by decide +kernel
theorem dX12_spare_29 : decode cX12_spare 29 = .ok (.ifCond .ne 5, 3) := by decide +kernel
theorem dX12_spare_32 : decode cX12_spare 32 = .ok (.iconst (-1), 1) := by decide +kernel
theorem dX12_spare_33 : decode cX12_spare 33 = .ok (.ireturn, 1) := by decide +kernel
theorem dX12_spare_34 : decode cX12_spare 34 = .ok (.aload_n 0, 1) := by decide +kernel
theorem dX12_spare_35 : decode cX12_spare 35 = .ok (.iload_n 1, 1) := by decide +kernel
theorem dX12_spare_36 : decode cX12_spare 36 = .ok (.invokevirtual 284, 3) := by decide +kernel
theorem dX12_spare_39 : decode cX12_spare 39 = .ok (.istore 4, 2) := by decide +kernel
theorem dX12_spare_41 : decode cX12_spare 41 = .ok (.iconst (-1), 1) := by decide +kernel
theorem dX12_spare_42 : decode cX12_spare 42 = .ok (.istore 5, 2) := by decide +kernel
theorem dX12_spare_44 : decode cX12_spare 44 = .ok (.iconst 0, 1) := by decide +kernel
theorem dX12_spare_45 : decode cX12_spare 45 = .ok (.istore 6, 2) := by decide +kernel
theorem dX12_spare_47 : decode cX12_spare 47 = .ok (.iload 6, 2) := by decide +kernel
theorem dX12_spare_49 : decode cX12_spare 49 = .ok (.iconst 1, 1) := by decide +kernel
theorem dX12_spare_50 : decode cX12_spare 50 = .ok (.aload_n 0, 1) := by decide +kernel
theorem dX12_spare_51 : decode cX12_spare 51 = .ok (.getfield 33, 3) := by decide +kernel
theorem dX12_spare_54 : decode cX12_spare 54 = .ok (.iconst 0, 1) := by decide +kernel
theorem dX12_spare_55 : decode cX12_spare 55 = .ok (.iaload, 1) := by decide +kernel
theorem dX12_spare_56 : decode cX12_spare 56 = .ok (.ishl, 1) := by decide +kernel
theorem dX12_spare_57 : decode cX12_spare 57 = .ok (.if_icmp .ge 57, 3) := by decide +kernel
theorem dX12_spare_60 : decode cX12_spare 60 = .ok (.iload 6, 2) := by decide +kernel
theorem dX12_spare_62 : decode cX12_spare 62 = .ok (.iload 4, 2) := by decide +kernel
theorem dX12_spare_64 : decode cX12_spare 64 = .ok (.iand, 1) := by decide +kernel
theorem dX12_spare_65 : decode cX12_spare 65 = .ok (.ifCond .ne 43, 3) := by decide +kernel
theorem dX12_spare_68 : decode cX12_spare 68 = .ok (.iload 5, 2) := by decide +kernel
theorem dX12_spare_70 : decode cX12_spare 70 = .ok (.ifCond .lt 19, 3) := by decide +kernel
theorem dX12_spare_73 : decode cX12_spare 73 = .ok (.iload 6, 2) := by decide +kernel
theorem dX12_spare_75 : decode cX12_spare 75 = .ok (.invokestatic 315, 3) := by decide +kernel
theorem dX12_spare_78 : decode cX12_spare 78 = .ok (.iload 5, 2) := by decide +kernel
theorem dX12_spare_80 : decode cX12_spare 80 = .ok (.invokestatic 315, 3) := by decide +kernel
theorem dX12_spare_83 : decode cX12_spare 83 = .ok (.if_icmp .lt 6, 3) := by decide +kernel
theorem dX12_spare_86 : decode cX12_spare 86 = .ok (.goto 22, 3) := by decide +kernel
theorem dX12_spare_89 : decode cX12_spare 89 = .ok (.aload_n 0, 1) := by decide +kernel
theorem dX12_spare_90 : decode cX12_spare 90 = .ok (.iload_n 1, 1) := by decide +kernel
theorem dX12_spare_91 : decode cX12_spare 91 = .ok (.iload_n 2, 1) := by decide +kernel
theorem dX12_spare_92 : decode cX12_spare 92 = .ok (.iload_n 3, 1) := by decide +kernel
theorem dX12_spare_93 : decode cX12_spare 93 = .ok (.iload 6, 2) := by decide +kernel
theorem dX12_spare_95 : decode cX12_spare 95 = .ok (.invokevirtual 373, 3) := by decide +kernel
theorem dX12_spare_98 : decode cX12_spare 98 = .ok (.ldc_w 372, 3) := by decide +kernel
theorem dX12_spare_101 : decode cX12_spare 101 = .ok (.if_icmp .ge 7, 3) := by decide +kernel
theorem dX12_spare_104 : decode cX12_spare 104 = .ok (.iload 6, 2) := by decide +kernel
theorem dX12_spare_106 : decode cX12_spare 106 = .ok (.istore 5, 2) := by decide +kernel
theorem dX12_spare_108 : decode cX12_spare 108 = .ok (.iinc 6 1, 3) := by decide +kernel
theorem dX12_spare_111 : decode cX12_spare 111 = .ok (.goto (-64), 3) := by decide +kernel
theorem dX12_spare_114 : decode cX12_spare 114 = .ok (.iload 5, 2) := by decide +kernel
theorem dX12_spare_116 : decode cX12_spare 116 = .ok (.ifCond .ge 5, 3) := by decide +kernel
theorem dX12_spare_119 : decode cX12_spare 119 = .ok (.iconst (-1), 1) := by decide +kernel
theorem dX12_spare_120 : decode cX12_spare 120 = .ok (.ireturn, 1) := by decide +kernel
theorem dX12_spare_121 : decode cX12_spare 121 = .ok (.aload_n 0, 1) := by decide +kernel
theorem dX12_spare_122 : decode cX12_spare 122 = .ok (.iconst 1, 1) := by decide +kernel
theorem dX12_spare_123 : decode cX12_spare 123 = .ok (.putfield 379, 3) := by decide +kernel
theorem dX12_spare_126 : decode cX12_spare 126 = .ok (.aload_n 0, 1) := by decide +kernel
theorem dX12_spare_127 : decode cX12_spare 127 = .ok (.iload 5, 2) := by decide +kernel
theorem dX12_spare_129 : decode cX12_spare 129 = .ok (.putfield 383, 3) := by decide +kernel
theorem dX12_spare_132 : decode cX12_spare 132 = .ok (.iload 5, 2) := by decide +kernel
theorem dX12_spare_134 : decode cX12_spare 134 = .ok (.invokestatic 315, 3) := by decide +kernel
theorem dX12_spare_137 : decode cX12_spare 137 = .ok (.ireturn, 1) := by decide +kernel
theorem dX12_spared_0 : decode cX12_spared 0 = .ok (.aload_n 0, 1) := by decide +kernel
theorem dX12_spared_1 : decode cX12_spared 1 = .ok (.iconst 0, 1) := by decide +kernel
theorem dX12_spared_2 : decode cX12_spared 2 = .ok (.putfield 1, 3) := by decide +kernel
theorem dX12_spared_5 : decode cX12_spared 5 = .ok (.aload_n 0, 1) := by decide +kernel
theorem dX12_spared_6 : decode cX12_spared 6 = .ok (.getfield 379, 3) := by decide +kernel
theorem dX12_spared_9 : decode cX12_spared 9 = .ok (.ifCond .eq 10, 3) := by decide +kernel
theorem dX12_spared_12 : decode cX12_spared 12 = .ok (.aload_n 0, 1) := by decide +kernel
theorem dX12_spared_13 : decode cX12_spared 13 = .ok (.getfield 383, 3) := by decide +kernel
theorem dX12_spared_16 : decode cX12_spared 16 = .ok (.goto 4, 3) := by decide +kernel
theorem dX12_spared_19 : decode cX12_spared 19 = .ok (.iconst (-1), 1) := by decide +kernel
theorem dX12_spared_20 : decode cX12_spared 20 = .ok (.ireturn, 1) := by decide +kernel
theorem dX12_made_0 : decode cX12_made 0 = .ok (.aload_n 0, 1) := by decide +kernel
theorem dX12_made_1 : decode cX12_made 1 = .ok (.iconst 0, 1) := by decide +kernel
theorem dX12_made_2 : decode cX12_made 2 = .ok (.putfield 1, 3) := by decide +kernel
theorem dX12_made_5 : decode cX12_made 5 = .ok (.aload_n 0, 1) := by decide +kernel
theorem dX12_made_6 : decode cX12_made 6 = .ok (.sipush 940, 3) := by decide +kernel
theorem dX12_made_9 : decode cX12_made 9 = .ok (.invokevirtual 263, 3) := by decide +kernel
theorem dX12_made_12 : decode cX12_made 12 = .ok (.aload_n 0, 1) := by decide +kernel
theorem dX12_made_13 : decode cX12_made 13 = .ok (.getfield 18, 3) := by decide +kernel
theorem dX12_made_16 : decode cX12_made 16 = .ok (.iconst 2, 1) := by decide +kernel
theorem dX12_made_17 : decode cX12_made 17 = .ok (.if_icmp .ne 15, 3) := by decide +kernel
theorem dX12_made_20 : decode cX12_made 20 = .ok (.aload_n 0, 1) := by decide +kernel
theorem dX12_made_21 : decode cX12_made 21 = .ok (.aload_n 0, 1) := by decide +kernel
theorem dX12_made_22 : decode cX12_made 22 = .ok (.iconst 0, 1) := by decide +kernel
theorem dX12_made_23 : decode cX12_made 23 = .ok (.invokevirtual 386, 3) := by decide +kernel
theorem dX12_made_26 : decode cX12_made 26 = .ok (.invokevirtual 302, 3) := by decide +kernel
theorem dX12_made_29 : decode cX12_made 29 = .ok (.ifCond .ne 5, 3) := by decide +kernel
theorem dX12_made_32 : decode cX12_made 32 = .ok (.iconst (-1), 1) := by decide +kernel
theorem dX12_made_33 : decode cX12_made 33 = .ok (.ireturn, 1) := by decide +kernel
theorem dX12_made_34 : decode cX12_made 34 = .ok (.iconst 0, 1) := by decide +kernel
theorem dX12_made_35 : decode cX12_made 35 = .ok (.istore_n 1, 1) := by decide +kernel
theorem dX12_made_36 : decode cX12_made 36 = .ok (.iconst 0, 1) := by decide +kernel
theorem dX12_made_37 : decode cX12_made 37 = .ok (.istore_n 2, 1) := by decide +kernel
theorem dX12_made_38 : decode cX12_made 38 = .ok (.iload_n 2, 1) := by decide +kernel
theorem dX12_made_39 : decode cX12_made 39 = .ok (.bipush 7, 2) := by decide +kernel
theorem dX12_made_41 : decode cX12_made 41 = .ok (.if_icmp .ge 16, 3) := by decide +kernel
theorem dX12_made_44 : decode cX12_made 44 = .ok (.aload_n 0, 1) := by decide +kernel
theorem dX12_made_45 : decode cX12_made 45 = .ok (.getfield 74, 3) := by decide +kernel
theorem dX12_made_48 : decode cX12_made 48 = .ok (.iload_n 2, 1) := by decide +kernel
theorem dX12_made_49 : decode cX12_made 49 = .ok (.iconst 0, 1) := by decide +kernel
theorem dX12_made_50 : decode cX12_made 50 = .ok (.iastore, 1) := by decide +kernel
theorem dX12_made_51 : decode cX12_made 51 = .ok (.iinc 2 1, 3) := by decide +kernel
theorem dX12_made_54 : decode cX12_made 54 = .ok (.goto (-16), 3) := by decide +kernel
theorem dX12_made_57 : decode cX12_made 57 = .ok (.iconst 1, 1) := by decide +kernel
theorem dX12_made_58 : decode cX12_made 58 = .ok (.istore_n 2, 1) := by decide +kernel
theorem dX12_made_59 : decode cX12_made 59 = .ok (.iload_n 2, 1) := by decide +kernel
theorem dX12_made_60 : decode cX12_made 60 = .ok (.iconst 5, 1) := by decide +kernel
theorem dX12_made_61 : decode cX12_made 61 = .ok (.if_icmp .ge 98, 3) := by decide +kernel
theorem dX12_made_64 : decode cX12_made 64 = .ok (.aload_n 0, 1) := by decide +kernel
theorem dX12_made_65 : decode cX12_made 65 = .ok (.aload_n 0, 1) := by decide +kernel
theorem dX12_made_66 : decode cX12_made 66 = .ok (.iconst 0, 1) := by decide +kernel
theorem dX12_made_67 : decode cX12_made 67 = .ok (.invokevirtual 386, 3) := by decide +kernel
theorem dX12_made_70 : decode cX12_made 70 = .ok (.invokevirtual 366, 3) := by decide +kernel
theorem dX12_made_73 : decode cX12_made 73 = .ok (.aload_n 0, 1) := by decide +kernel
theorem dX12_made_74 : decode cX12_made 74 = .ok (.iload_n 2, 1) := by decide +kernel
theorem dX12_made_75 : decode cX12_made 75 = .ok (.invokevirtual 369, 3) := by decide +kernel
theorem dX12_made_78 : decode cX12_made 78 = .ok (.ifCond .eq 75, 3) := by decide +kernel
theorem dX12_made_81 : decode cX12_made 81 = .ok (.aload_n 0, 1) := by decide +kernel
theorem dX12_made_82 : decode cX12_made 82 = .ok (.getfield 59, 3) := by decide +kernel
theorem dX12_made_85 : decode cX12_made 85 = .ok (.iload_n 2, 1) := by decide +kernel
theorem dX12_made_86 : decode cX12_made 86 = .ok (.iaload, 1) := by decide +kernel
theorem dX12_made_87 : decode cX12_made 87 = .ok (.aload_n 0, 1) := by decide +kernel
theorem dX12_made_88 : decode cX12_made 88 = .ok (.iconst 1, 1) := by decide +kernel
theorem dX12_made_89 : decode cX12_made 89 = .ok (.invokevirtual 386, 3) := by decide +kernel
theorem dX12_made_92 : decode cX12_made 92 = .ok (.if_icmp .eq 6, 3) := by decide +kernel
theorem dX12_made_95 : decode cX12_made 95 = .ok (.goto (-22), 3) := by decide +kernel
theorem dX12_made_98 : decode cX12_made 98 = .ok (.iload_n 1, 1) := by decide +kernel
theorem dX12_made_99 : decode cX12_made 99 = .ok (.ifCond .ne 33, 3) := by decide +kernel
theorem dX12_made_102 : decode cX12_made 102 = .ok (.aload_n 0, 1) := by decide +kernel
theorem dX12_made_103 : decode cX12_made 103 = .ok (.iload_n 2, 1) := by decide +kernel
theorem dX12_made_104 : decode cX12_made 104 = .ok (.putfield 80, 3) := by decide +kernel
theorem dX12_made_107 : decode cX12_made 107 = .ok (.iconst 0, 1) := by decide +kernel
theorem dX12_made_108 : decode cX12_made 108 = .ok (.istore_n 3, 1) := by decide +kernel
theorem dX12_made_109 : decode cX12_made 109 = .ok (.iload_n 3, 1) := by decide +kernel
theorem dX12_made_110 : decode cX12_made 110 = .ok (.iload_n 2, 1) := by decide +kernel
theorem dX12_made_111 : decode cX12_made 111 = .ok (.if_icmp .ge 21, 3) := by decide +kernel
theorem dX12_made_114 : decode cX12_made 114 = .ok (.aload_n 0, 1) := by decide +kernel
theorem dX12_made_115 : decode cX12_made 115 = .ok (.getfield 71, 3) := by decide +kernel
theorem dX12_made_118 : decode cX12_made 118 = .ok (.iload_n 3, 1) := by decide +kernel
theorem dX12_made_119 : decode cX12_made 119 = .ok (.aload_n 0, 1) := by decide +kernel
theorem dX12_made_120 : decode cX12_made 120 = .ok (.getfield 65, 3) := by decide +kernel
theorem dX12_made_123 : decode cX12_made 123 = .ok (.iload_n 3, 1) := by decide +kernel
theorem dX12_made_124 : decode cX12_made 124 = .ok (.iaload, 1) := by decide +kernel
theorem dX12_made_125 : decode cX12_made 125 = .ok (.iastore, 1) := by decide +kernel
theorem dX12_made_126 : decode cX12_made 126 = .ok (.iinc 3 1, 3) := by decide +kernel
theorem dX12_made_129 : decode cX12_made 129 = .ok (.goto (-20), 3) := by decide +kernel
theorem dX12_made_132 : decode cX12_made 132 = .ok (.iinc 1 1, 3) := by decide +kernel
theorem dX12_made_135 : decode cX12_made 135 = .ok (.aload_n 0, 1) := by decide +kernel
theorem dX12_made_136 : decode cX12_made 136 = .ok (.getfield 74, 3) := by decide +kernel
theorem dX12_made_139 : decode cX12_made 139 = .ok (.aload_n 0, 1) := by decide +kernel
theorem dX12_made_140 : decode cX12_made 140 = .ok (.getfield 56, 3) := by decide +kernel
theorem dX12_made_143 : decode cX12_made 143 = .ok (.iload_n 2, 1) := by decide +kernel
theorem dX12_made_144 : decode cX12_made 144 = .ok (.iaload, 1) := by decide +kernel
theorem dX12_made_145 : decode cX12_made 145 = .ok (.dup2, 1) := by decide +kernel
theorem dX12_made_146 : decode cX12_made 146 = .ok (.iaload, 1) := by decide +kernel
theorem dX12_made_147 : decode cX12_made 147 = .ok (.iconst 1, 1) := by decide +kernel
theorem dX12_made_148 : decode cX12_made 148 = .ok (.iadd, 1) := by decide +kernel
theorem dX12_made_149 : decode cX12_made 149 = .ok (.iastore, 1) := by decide +kernel
theorem dX12_made_150 : decode cX12_made 150 = .ok (.goto (-77), 3) := by decide +kernel
theorem dX12_made_153 : decode cX12_made 153 = .ok (.iinc 2 1, 3) := by decide +kernel
theorem dX12_made_156 : decode cX12_made 156 = .ok (.goto (-97), 3) := by decide +kernel
theorem dX12_made_159 : decode cX12_made 159 = .ok (.iload_n 1, 1) := by decide +kernel
theorem dX12_made_160 : decode cX12_made 160 = .ok (.ifCond .ne 5, 3) := by decide +kernel
theorem dX12_made_163 : decode cX12_made 163 = .ok (.iconst 0, 1) := by decide +kernel
theorem dX12_made_164 : decode cX12_made 164 = .ok (.ireturn, 1) := by decide +kernel
theorem dX12_made_165 : decode cX12_made 165 = .ok (.aload_n 0, 1) := by decide +kernel
theorem dX12_made_166 : decode cX12_made 166 = .ok (.iconst 0, 1) := by decide +kernel
theorem dX12_made_167 : decode cX12_made 167 = .ok (.putfield 389, 3) := by decide +kernel
theorem dX12_made_170 : decode cX12_made 170 = .ok (.iconst 1, 1) := by decide +kernel
theorem dX12_made_171 : decode cX12_made 171 = .ok (.istore_n 2, 1) := by decide +kernel
theorem dX12_made_172 : decode cX12_made 172 = .ok (.iload_n 2, 1) := by decide +kernel
theorem dX12_made_173 : decode cX12_made 173 = .ok (.aload_n 0, 1) := by decide +kernel
theorem dX12_made_174 : decode cX12_made 174 = .ok (.getfield 33, 3) := by decide +kernel
theorem dX12_made_177 : decode cX12_made 177 = .ok (.iconst 0, 1) := by decide +kernel
theorem dX12_made_178 : decode cX12_made 178 = .ok (.iaload, 1) := by decide +kernel
theorem dX12_made_179 : decode cX12_made 179 = .ok (.if_icmp .ge 32, 3) := by decide +kernel
theorem dX12_made_182 : decode cX12_made 182 = .ok (.aload_n 0, 1) := by decide +kernel
theorem dX12_made_183 : decode cX12_made 183 = .ok (.getfield 74, 3) := by decide +kernel
theorem dX12_made_186 : decode cX12_made 186 = .ok (.iload_n 2, 1) := by decide +kernel
theorem dX12_made_187 : decode cX12_made 187 = .ok (.iaload, 1) := by decide +kernel
theorem dX12_made_188 : decode cX12_made 188 = .ok (.aload_n 0, 1) := by decide +kernel
theorem dX12_made_189 : decode cX12_made 189 = .ok (.getfield 74, 3) := by decide +kernel
theorem dX12_made_192 : decode cX12_made 192 = .ok (.aload_n 0, 1) := by decide +kernel
theorem dX12_made_193 : decode cX12_made 193 = .ok (.getfield 389, 3) := by decide +kernel
theorem dX12_made_196 : decode cX12_made 196 = .ok (.iaload, 1) := by decide +kernel
theorem dX12_made_197 : decode cX12_made 197 = .ok (.if_icmp .le 8, 3) := by decide +kernel
theorem dX12_made_200 : decode cX12_made 200 = .ok (.aload_n 0, 1) := by decide +kernel
theorem dX12_made_201 : decode cX12_made 201 = .ok (.iload_n 2, 1) := by decide +kernel
theorem dX12_made_202 : decode cX12_made 202 = .ok (.putfield 389, 3) := by decide +kernel
theorem dX12_made_205 : decode cX12_made 205 = .ok (.iinc 2 1, 3) := by decide +kernel
theorem dX12_made_208 : decode cX12_made 208 = .ok (.goto (-36), 3) := by decide +kernel
theorem dX12_made_211 : decode cX12_made 211 = .ok (.iload_n 1, 1) := by decide +kernel
theorem dX12_made_212 : decode cX12_made 212 = .ok (.ireturn, 1) := by decide +kernel
theorem dX12_madeAt_0 : decode cX12_madeAt 0 = .ok (.aload_n 0, 1) := by decide +kernel
theorem dX12_madeAt_1 : decode cX12_madeAt 1 = .ok (.iconst 0, 1) := by decide +kernel
theorem dX12_madeAt_2 : decode cX12_madeAt 2 = .ok (.putfield 1, 3) := by decide +kernel
theorem dX12_madeAt_5 : decode cX12_madeAt 5 = .ok (.iload_n 1, 1) := by decide +kernel
theorem dX12_madeAt_6 : decode cX12_madeAt 6 = .ok (.iconst 0, 1) := by decide +kernel
theorem dX12_madeAt_7 : decode cX12_madeAt 7 = .ok (.aload_n 0, 1) := by decide +kernel
theorem dX12_madeAt_8 : decode cX12_madeAt 8 = .ok (.getfield 80, 3) := by decide +kernel
theorem dX12_madeAt_11 : decode cX12_madeAt 11 = .ok (.iconst 1, 1) := by decide +kernel
theorem dX12_madeAt_12 : decode cX12_madeAt 12 = .ok (.isub, 1) := by decide +kernel
theorem dX12_madeAt_13 : decode cX12_madeAt 13 = .ok (.invokestatic 207, 3) := by decide +kernel
theorem dX12_madeAt_16 : decode cX12_madeAt 16 = .ok (.ifCond .eq 12, 3) := by decide +kernel
theorem dX12_madeAt_19 : decode cX12_madeAt 19 = .ok (.aload_n 0, 1) := by decide +kernel
theorem dX12_madeAt_20 : decode cX12_madeAt 20 = .ok (.getfield 71, 3) := by decide +kernel
theorem dX12_madeAt_23 : decode cX12_madeAt 23 = .ok (.iload_n 1, 1) := by decide +kernel
theorem dX12_madeAt_24 : decode cX12_madeAt 24 = .ok (.iaload, 1) := by decide +kernel
theorem dX12_madeAt_25 : decode cX12_madeAt 25 = .ok (.goto 4, 3) := by decide +kernel
theorem dX12_madeAt_28 : decode cX12_madeAt 28 = .ok (.iconst (-1), 1) := by decide +kernel
theorem dX12_madeAt_29 : decode cX12_madeAt 29 = .ok (.ireturn, 1) := by decide +kernel
theorem dX12_likely_0 : decode cX12_likely 0 = .ok (.aload_n 0, 1) := by decide +kernel
theorem dX12_likely_1 : decode cX12_likely 1 = .ok (.iconst 0, 1) := by decide +kernel
theorem dX12_likely_2 : decode cX12_likely 2 = .ok (.putfield 1, 3) := by decide +kernel
theorem dX12_likely_5 : decode cX12_likely 5 = .ok (.aload_n 0, 1) := by decide +kernel
theorem dX12_likely_6 : decode cX12_likely 6 = .ok (.getfield 80, 3) := by decide +kernel
theorem dX12_likely_9 : decode cX12_likely 9 = .ok (.ifCond .le 10, 3) := by decide +kernel
theorem dX12_likely_12 : decode cX12_likely 12 = .ok (.aload_n 0, 1) := by decide +kernel
theorem dX12_likely_13 : decode cX12_likely 13 = .ok (.getfield 389, 3) := by decide +kernel
theorem dX12_likely_16 : decode cX12_likely 16 = .ok (.goto 4, 3) := by decide +kernel
theorem dX12_likely_19 : decode cX12_likely 19 = .ok (.iconst (-1), 1) := by decide +kernel
theorem dX12_likely_20 : decode cX12_likely 20 = .ok (.ireturn, 1) := by decide +kernel
theorem dX12_reorders_0 : decode cX12_reorders 0 = .ok (.iload_n 1, 1) := by decide +kernel
theorem dX12_reorders_1 : decode cX12_reorders 1 = .ok (.iconst 2, 1) := by decide +kernel
theorem dX12_reorders_2 : decode cX12_reorders 2 = .ok (.isub, 1) := by decide +kernel
theorem dX12_reorders_3 : decode cX12_reorders 3 = .ok (.istore_n 2, 1) := by decide +kernel
theorem dX12_reorders_4 : decode cX12_reorders 4 = .ok (.iload_n 2, 1) := by decide +kernel
theorem dX12_reorders_5 : decode cX12_reorders 5 = .ok (.ifCond .lt 26, 3) := by decide +kernel
theorem dX12_reorders_8 : decode cX12_reorders 8 = .ok (.aload_n 0, 1) := by decide +kernel
theorem dX12_reorders_9 : decode cX12_reorders 9 = .ok (.getfield 83, 3) := by decide +kernel
theorem dX12_reorders_12 : decode cX12_reorders 12 = .ok (.iload_n 2, 1) := by decide +kernel
theorem dX12_reorders_13 : decode cX12_reorders 13 = .ok (.iaload, 1) := by decide +kernel
theorem dX12_reorders_14 : decode cX12_reorders 14 = .ok (.aload_n 0, 1) := by decide +kernel
theorem dX12_reorders_15 : decode cX12_reorders 15 = .ok (.getfield 83, 3) := by decide +kernel
theorem dX12_reorders_18 : decode cX12_reorders 18 = .ok (.iload_n 2, 1) := by decide +kernel
theorem dX12_reorders_19 : decode cX12_reorders 19 = .ok (.iconst 1, 1) := by decide +kernel
theorem dX12_reorders_20 : decode cX12_reorders 20 = .ok (.iadd, 1) := by decide +kernel
theorem dX12_reorders_21 : decode cX12_reorders 21 = .ok (.iaload, 1) := by decide +kernel
theorem dX12_reorders_22 : decode cX12_reorders 22 = .ok (.if_icmp .le 9, 3) := by decide +kernel
theorem dX12_reorders_25 : decode cX12_reorders 25 = .ok (.iinc 2 (-1), 3) := by decide +kernel
theorem dX12_reorders_28 : decode cX12_reorders 28 = .ok (.goto (-24), 3) := by decide +kernel
theorem dX12_reorders_31 : decode cX12_reorders 31 = .ok (.iload_n 2, 1) := by decide +kernel
theorem dX12_reorders_32 : decode cX12_reorders 32 = .ok (.ifCond .ge 5, 3) := by decide +kernel
theorem dX12_reorders_35 : decode cX12_reorders 35 = .ok (.iconst 0, 1) := by decide +kernel
theorem dX12_reorders_36 : decode cX12_reorders 36 = .ok (.ireturn, 1) := by decide +kernel
theorem dX12_reorders_37 : decode cX12_reorders 37 = .ok (.iload_n 1, 1) := by decide +kernel
theorem dX12_reorders_38 : decode cX12_reorders 38 = .ok (.iconst 1, 1) := by decide +kernel
theorem dX12_reorders_39 : decode cX12_reorders 39 = .ok (.isub, 1) := by decide +kernel
theorem dX12_reorders_40 : decode cX12_reorders 40 = .ok (.istore_n 3, 1) := by decide +kernel
theorem dX12_reorders_41 : decode cX12_reorders 41 = .ok (.aload_n 0, 1) := by decide +kernel
theorem dX12_reorders_42 : decode cX12_reorders 42 = .ok (.getfield 83, 3) := by decide +kernel
theorem dX12_reorders_45 : decode cX12_reorders 45 = .ok (.iload_n 3, 1) := by decide +kernel
theorem dX12_reorders_46 : decode cX12_reorders 46 = .ok (.iaload, 1) := by decide +kernel
theorem dX12_reorders_47 : decode cX12_reorders 47 = .ok (.aload_n 0, 1) := by decide +kernel
theorem dX12_reorders_48 : decode cX12_reorders 48 = .ok (.getfield 83, 3) := by decide +kernel
theorem dX12_reorders_51 : decode cX12_reorders 51 = .ok (.iload_n 2, 1) := by decide +kernel
theorem dX12_reorders_52 : decode cX12_reorders 52 = .ok (.iaload, 1) := by decide +kernel
theorem dX12_reorders_53 : decode cX12_reorders 53 = .ok (.if_icmp .ge 9, 3) := by decide +kernel
theorem dX12_reorders_56 : decode cX12_reorders 56 = .ok (.iinc 3 (-1), 3) := by decide +kernel
theorem dX12_reorders_59 : decode cX12_reorders 59 = .ok (.goto (-18), 3) := by decide +kernel
theorem dX12_reorders_62 : decode cX12_reorders 62 = .ok (.aload_n 0, 1) := by decide +kernel
theorem dX12_reorders_63 : decode cX12_reorders 63 = .ok (.getfield 83, 3) := by decide +kernel
theorem dX12_reorders_66 : decode cX12_reorders 66 = .ok (.iload_n 2, 1) := by decide +kernel
theorem dX12_reorders_67 : decode cX12_reorders 67 = .ok (.iaload, 1) := by decide +kernel
theorem dX12_reorders_68 : decode cX12_reorders 68 = .ok (.istore 4, 2) := by decide +kernel
theorem dX12_reorders_70 : decode cX12_reorders 70 = .ok (.aload_n 0, 1) := by decide +kernel
theorem dX12_reorders_71 : decode cX12_reorders 71 = .ok (.getfield 83, 3) := by decide +kernel
theorem dX12_reorders_74 : decode cX12_reorders 74 = .ok (.iload_n 2, 1) := by decide +kernel
theorem dX12_reorders_75 : decode cX12_reorders 75 = .ok (.aload_n 0, 1) := by decide +kernel
theorem dX12_reorders_76 : decode cX12_reorders 76 = .ok (.getfield 83, 3) := by decide +kernel
theorem dX12_reorders_79 : decode cX12_reorders 79 = .ok (.iload_n 3, 1) := by decide +kernel
theorem dX12_reorders_80 : decode cX12_reorders 80 = .ok (.iaload, 1) := by decide +kernel
theorem dX12_reorders_81 : decode cX12_reorders 81 = .ok (.iastore, 1) := by decide +kernel
theorem dX12_reorders_82 : decode cX12_reorders 82 = .ok (.aload_n 0, 1) := by decide +kernel
theorem dX12_reorders_83 : decode cX12_reorders 83 = .ok (.getfield 83, 3) := by decide +kernel
theorem dX12_reorders_86 : decode cX12_reorders 86 = .ok (.iload_n 3, 1) := by decide +kernel
theorem dX12_reorders_87 : decode cX12_reorders 87 = .ok (.iload 4, 2) := by decide +kernel
theorem dX12_reorders_89 : decode cX12_reorders 89 = .ok (.iastore, 1) := by decide +kernel
theorem dX12_reorders_90 : decode cX12_reorders 90 = .ok (.iload_n 2, 1) := by decide +kernel
theorem dX12_reorders_91 : decode cX12_reorders 91 = .ok (.iconst 1, 1) := by decide +kernel
theorem dX12_reorders_92 : decode cX12_reorders 92 = .ok (.iadd, 1) := by decide +kernel
theorem dX12_reorders_93 : decode cX12_reorders 93 = .ok (.istore 5, 2) := by decide +kernel
theorem dX12_reorders_95 : decode cX12_reorders 95 = .ok (.iload_n 1, 1) := by decide +kernel
theorem dX12_reorders_96 : decode cX12_reorders 96 = .ok (.iconst 1, 1) := by decide +kernel
theorem dX12_reorders_97 : decode cX12_reorders 97 = .ok (.isub, 1) := by decide +kernel
theorem dX12_reorders_98 : decode cX12_reorders 98 = .ok (.istore 6, 2) := by decide +kernel
theorem dX12_reorders_100 : decode cX12_reorders 100 = .ok (.iload 5, 2) := by decide +kernel
theorem dX12_reorders_102 : decode cX12_reorders 102 = .ok (.iload 6, 2) := by decide +kernel
theorem dX12_reorders_104 : decode cX12_reorders 104 = .ok (.if_icmp .ge 44, 3) := by decide +kernel
theorem dX12_reorders_107 : decode cX12_reorders 107 = .ok (.aload_n 0, 1) := by decide +kernel
theorem dX12_reorders_108 : decode cX12_reorders 108 = .ok (.getfield 83, 3) := by decide +kernel
theorem dX12_reorders_111 : decode cX12_reorders 111 = .ok (.iload 5, 2) := by decide +kernel
theorem dX12_reorders_113 : decode cX12_reorders 113 = .ok (.iaload, 1) := by decide +kernel
theorem dX12_reorders_114 : decode cX12_reorders 114 = .ok (.istore 4, 2) := by decide +kernel
theorem dX12_reorders_116 : decode cX12_reorders 116 = .ok (.aload_n 0, 1) := by decide +kernel
theorem dX12_reorders_117 : decode cX12_reorders 117 = .ok (.getfield 83, 3) := by decide +kernel
theorem dX12_reorders_120 : decode cX12_reorders 120 = .ok (.iload 5, 2) := by decide +kernel
theorem dX12_reorders_122 : decode cX12_reorders 122 = .ok (.aload_n 0, 1) := by decide +kernel
theorem dX12_reorders_123 : decode cX12_reorders 123 = .ok (.getfield 83, 3) := by decide +kernel
theorem dX12_reorders_126 : decode cX12_reorders 126 = .ok (.iload 6, 2) := by decide +kernel
theorem dX12_reorders_128 : decode cX12_reorders 128 = .ok (.iaload, 1) := by decide +kernel
theorem dX12_reorders_129 : decode cX12_reorders 129 = .ok (.iastore, 1) := by decide +kernel
theorem dX12_reorders_130 : decode cX12_reorders 130 = .ok (.aload_n 0, 1) := by decide +kernel
theorem dX12_reorders_131 : decode cX12_reorders 131 = .ok (.getfield 83, 3) := by decide +kernel
theorem dX12_reorders_134 : decode cX12_reorders 134 = .ok (.iload 6, 2) := by decide +kernel
theorem dX12_reorders_136 : decode cX12_reorders 136 = .ok (.iload 4, 2) := by decide +kernel
theorem dX12_reorders_138 : decode cX12_reorders 138 = .ok (.iastore, 1) := by decide +kernel
theorem dX12_reorders_139 : decode cX12_reorders 139 = .ok (.iinc 5 1, 3) := by decide +kernel
theorem dX12_reorders_142 : decode cX12_reorders 142 = .ok (.iinc 6 (-1), 3) := by decide +kernel
theorem dX12_reorders_145 : decode cX12_reorders 145 = .ok (.goto (-45), 3) := by decide +kernel
theorem dX12_reorders_148 : decode cX12_reorders 148 = .ok (.iconst 1, 1) := by decide +kernel
theorem dX12_reorders_149 : decode cX12_reorders 149 = .ok (.ireturn, 1) := by decide +kernel
theorem dX12_caravan_0 : decode cX12_caravan 0 = .ok (.aload_n 0, 1) := by decide +kernel
theorem dX12_caravan_1 : decode cX12_caravan 1 = .ok (.iconst 0, 1) := by decide +kernel
theorem dX12_caravan_2 : decode cX12_caravan 2 = .ok (.putfield 1, 3) := by decide +kernel
theorem dX12_caravan_5 : decode cX12_caravan 5 = .ok (.aload_n 0, 1) := by decide +kernel
theorem dX12_caravan_6 : decode cX12_caravan 6 = .ok (.iload_n 1, 1) := by decide +kernel
theorem dX12_caravan_7 : decode cX12_caravan 7 = .ok (.invokevirtual 312, 3) := by decide +kernel
theorem dX12_caravan_10 : decode cX12_caravan 10 = .ok (.ifCond .ne 5, 3) := by decide +kernel
theorem dX12_caravan_13 : decode cX12_caravan 13 = .ok (.iconst (-1), 1) := by decide +kernel
theorem dX12_caravan_14 : decode cX12_caravan 14 = .ok (.ireturn, 1) := by decide +kernel
theorem dX12_caravan_15 : decode cX12_caravan 15 = .ok (.iconst 0, 1) := by decide +kernel
theorem dX12_caravan_16 : decode cX12_caravan 16 = .ok (.istore_n 2, 1) := by decide +kernel
theorem dX12_caravan_17 : decode cX12_caravan 17 = .ok (.iconst 0, 1) := by decide +kernel
theorem dX12_caravan_18 : decode cX12_caravan 18 = .ok (.istore_n 3, 1) := by decide +kernel
theorem dX12_caravan_19 : decode cX12_caravan 19 = .ok (.iload_n 3, 1) := by decide +kernel
theorem dX12_caravan_20 : decode cX12_caravan 20 = .ok (.aload_n 0, 1) := by decide +kernel
theorem dX12_caravan_21 : decode cX12_caravan 21 = .ok (.getfield 33, 3) := by decide +kernel
theorem dX12_caravan_24 : decode cX12_caravan 24 = .ok (.iconst 2, 1) := by decide +kernel
theorem dX12_caravan_25 : decode cX12_caravan 25 = .ok (.iaload, 1) := by decide +kernel
theorem dX12_caravan_26 : decode cX12_caravan 26 = .ok (.if_icmp .ge 31, 3) := by decide +kernel
theorem dX12_caravan_29 : decode cX12_caravan 29 = .ok (.aload_n 0, 1) := by decide +kernel
theorem dX12_caravan_30 : decode cX12_caravan 30 = .ok (.iload_n 3, 1) := by decide +kernel
theorem dX12_caravan_31 : decode cX12_caravan 31 = .ok (.iload_n 1, 1) := by decide +kernel
theorem dX12_caravan_32 : decode cX12_caravan 32 = .ok (.invokevirtual 292, 3) := by decide +kernel
theorem dX12_caravan_35 : decode cX12_caravan 35 = .ok (.ifCond .le 6, 3) := by decide +kernel
theorem dX12_caravan_38 : decode cX12_caravan 38 = .ok (.goto 13, 3) := by decide +kernel
theorem dX12_caravan_41 : decode cX12_caravan 41 = .ok (.aload_n 0, 1) := by decide +kernel
theorem dX12_caravan_42 : decode cX12_caravan 42 = .ok (.getfield 83, 3) := by decide +kernel
theorem dX12_caravan_45 : decode cX12_caravan 45 = .ok (.iload_n 2, 1) := by decide +kernel
theorem dX12_caravan_46 : decode cX12_caravan 46 = .ok (.iload_n 3, 1) := by decide +kernel
theorem dX12_caravan_47 : decode cX12_caravan 47 = .ok (.iastore, 1) := by decide +kernel
theorem dX12_caravan_48 : decode cX12_caravan 48 = .ok (.iinc 2 1, 3) := by decide +kernel
theorem dX12_caravan_51 : decode cX12_caravan 51 = .ok (.iinc 3 1, 3) := by decide +kernel
theorem dX12_caravan_54 : decode cX12_caravan 54 = .ok (.goto (-35), 3) := by decide +kernel
theorem dX12_caravan_57 : decode cX12_caravan 57 = .ok (.aload_n 0, 1) := by decide +kernel
theorem dX12_caravan_58 : decode cX12_caravan 58 = .ok (.invokevirtual 392, 3) := by decide +kernel
theorem dX12_caravan_61 : decode cX12_caravan 61 = .ok (.iconst (-1), 1) := by decide +kernel
theorem dX12_caravan_62 : decode cX12_caravan 62 = .ok (.istore_n 3, 1) := by decide +kernel
theorem dX12_caravan_63 : decode cX12_caravan 63 = .ok (.iconst 1, 1) := by decide +kernel
theorem dX12_caravan_64 : decode cX12_caravan 64 = .ok (.istore 4, 2) := by decide +kernel
theorem dX12_caravan_66 : decode cX12_caravan 66 = .ok (.iload 4, 2) := by decide +kernel
theorem dX12_caravan_68 : decode cX12_caravan 68 = .ok (.ifCond .eq 103, 3) := by decide +kernel
theorem dX12_caravan_71 : decode cX12_caravan 71 = .ok (.iconst 0, 1) := by decide +kernel
theorem dX12_caravan_72 : decode cX12_caravan 72 = .ok (.istore 5, 2) := by decide +kernel
theorem dX12_caravan_74 : decode cX12_caravan 74 = .ok (.iload 5, 2) := by decide +kernel
theorem dX12_caravan_76 : decode cX12_caravan 76 = .ok (.iload_n 2, 1) := by decide +kernel
theorem dX12_caravan_77 : decode cX12_caravan 77 = .ok (.if_icmp .ge 36, 3) := by decide +kernel
theorem dX12_caravan_80 : decode cX12_caravan 80 = .ok (.aload_n 0, 1) := by decide +kernel
theorem dX12_caravan_81 : decode cX12_caravan 81 = .ok (.aload_n 0, 1) := by decide +kernel
theorem dX12_caravan_82 : decode cX12_caravan 82 = .ok (.getfield 83, 3) := by decide +kernel
theorem dX12_caravan_85 : decode cX12_caravan 85 = .ok (.iload 5, 2) := by decide +kernel
theorem dX12_caravan_87 : decode cX12_caravan 87 = .ok (.iaload, 1) := by decide +kernel
theorem dX12_caravan_88 : decode cX12_caravan 88 = .ok (.iload_n 1, 1) := by decide +kernel
theorem dX12_caravan_89 : decode cX12_caravan 89 = .ok (.invokevirtual 292, 3) := by decide +kernel
theorem dX12_caravan_92 : decode cX12_caravan 92 = .ok (.ifCond .ne 15, 3) := by decide +kernel
theorem dX12_caravan_95 : decode cX12_caravan 95 = .ok (.aload_n 0, 1) := by decide +kernel
theorem dX12_caravan_96 : decode cX12_caravan 96 = .ok (.aload_n 0, 1) := by decide +kernel
theorem dX12_caravan_97 : decode cX12_caravan 97 = .ok (.getfield 83, 3) := by decide +kernel
theorem dX12_caravan_100 : decode cX12_caravan 100 = .ok (.iload 5, 2) := by decide +kernel
theorem dX12_caravan_102 : decode cX12_caravan 102 = .ok (.iaload, 1) := by decide +kernel
theorem dX12_caravan_103 : decode cX12_caravan 103 = .ok (.iload_n 1, 1) := by decide +kernel
theorem dX12_caravan_104 : decode cX12_caravan 104 = .ok (.invokevirtual 330, 3) := by decide +kernel
theorem dX12_caravan_107 : decode cX12_caravan 107 = .ok (.iinc 5 1, 3) := by decide +kernel
theorem dX12_caravan_110 : decode cX12_caravan 110 = .ok (.goto (-36), 3) := by decide +kernel
theorem dX12_caravan_113 : decode cX12_caravan 113 = .ok (.aload_n 0, 1) := by decide +kernel
theorem dX12_caravan_114 : decode cX12_caravan 114 = .ok (.invokevirtual 318, 3) := by decide +kernel
theorem dX12_caravan_117 : decode cX12_caravan 117 = .ok (.istore 5, 2) := by decide +kernel
theorem dX12_caravan_119 : decode cX12_caravan 119 = .ok (.aload_n 0, 1) := by decide +kernel
theorem dX12_caravan_120 : decode cX12_caravan 120 = .ok (.invokevirtual 395, 3) := by decide +kernel
theorem dX12_caravan_123 : decode cX12_caravan 123 = .ok (.iload 5, 2) := by decide +kernel
theorem dX12_caravan_125 : decode cX12_caravan 125 = .ok (.iload_n 3, 1) := by decide +kernel
theorem dX12_caravan_126 : decode cX12_caravan 126 = .ok (.if_icmp .le 35, 3) := by decide +kernel
theorem dX12_caravan_129 : decode cX12_caravan 129 = .ok (.iload 5, 2) := by decide +kernel
theorem dX12_caravan_131 : decode cX12_caravan 131 = .ok (.istore_n 3, 1) := by decide +kernel
theorem dX12_caravan_132 : decode cX12_caravan 132 = .ok (.iconst 0, 1) := by decide +kernel
theorem dX12_caravan_133 : decode cX12_caravan 133 = .ok (.istore 6, 2) := by decide +kernel
theorem dX12_caravan_135 : decode cX12_caravan 135 = .ok (.iload 6, 2) := by decide +kernel
theorem dX12_caravan_137 : decode cX12_caravan 137 = .ok (.iload_n 2, 1) := by decide +kernel
theorem dX12_caravan_138 : decode cX12_caravan 138 = .ok (.if_icmp .ge 23, 3) := by decide +kernel
theorem dX12_caravan_141 : decode cX12_caravan 141 = .ok (.aload_n 0, 1) := by decide +kernel
theorem dX12_caravan_142 : decode cX12_caravan 142 = .ok (.getfield 86, 3) := by decide +kernel
theorem dX12_caravan_145 : decode cX12_caravan 145 = .ok (.iload 6, 2) := by decide +kernel
theorem dX12_caravan_147 : decode cX12_caravan 147 = .ok (.aload_n 0, 1) := by decide +kernel
theorem dX12_caravan_148 : decode cX12_caravan 148 = .ok (.getfield 83, 3) := by decide +kernel
theorem dX12_caravan_151 : decode cX12_caravan 151 = .ok (.iload 6, 2) := by decide +kernel
theorem dX12_caravan_153 : decode cX12_caravan 153 = .ok (.iaload, 1) := by decide +kernel
theorem dX12_caravan_154 : decode cX12_caravan 154 = .ok (.iastore, 1) := by decide +kernel
theorem dX12_caravan_155 : decode cX12_caravan 155 = .ok (.iinc 6 1, 3) := by decide +kernel
theorem dX12_caravan_158 : decode cX12_caravan 158 = .ok (.goto (-23), 3) := by decide +kernel
theorem dX12_caravan_161 : decode cX12_caravan 161 = .ok (.aload_n 0, 1) := by decide +kernel
theorem dX12_caravan_162 : decode cX12_caravan 162 = .ok (.iload_n 2, 1) := by decide +kernel
theorem dX12_caravan_163 : decode cX12_caravan 163 = .ok (.invokevirtual 398, 3) := by decide +kernel
theorem dX12_caravan_166 : decode cX12_caravan 166 = .ok (.istore 4, 2) := by decide +kernel
theorem dX12_caravan_168 : decode cX12_caravan 168 = .ok (.goto (-102), 3) := by decide +kernel
theorem dX12_caravan_171 : decode cX12_caravan 171 = .ok (.aload_n 0, 1) := by decide +kernel
theorem dX12_caravan_172 : decode cX12_caravan 172 = .ok (.iload_n 2, 1) := by decide +kernel
theorem dX12_caravan_173 : decode cX12_caravan 173 = .ok (.putfield 89, 3) := by decide +kernel
theorem dX12_caravan_176 : decode cX12_caravan 176 = .ok (.iload_n 3, 1) := by decide +kernel
theorem dX12_caravan_177 : decode cX12_caravan 177 = .ok (.ireturn, 1) := by decide +kernel
theorem dX12_caravanAt_0 : decode cX12_caravanAt 0 = .ok (.aload_n 0, 1) := by decide +kernel
theorem dX12_caravanAt_1 : decode cX12_caravanAt 1 = .ok (.iconst 0, 1) := by decide +kernel
theorem dX12_caravanAt_2 : decode cX12_caravanAt 2 = .ok (.putfield 1, 3) := by decide +kernel
theorem dX12_caravanAt_5 : decode cX12_caravanAt 5 = .ok (.iload_n 1, 1) := by decide +kernel
theorem dX12_caravanAt_6 : decode cX12_caravanAt 6 = .ok (.iconst 0, 1) := by decide +kernel
theorem dX12_caravanAt_7 : decode cX12_caravanAt 7 = .ok (.aload_n 0, 1) := by decide +kernel
theorem dX12_caravanAt_8 : decode cX12_caravanAt 8 = .ok (.getfield 89, 3) := by decide +kernel
theorem dX12_caravanAt_11 : decode cX12_caravanAt 11 = .ok (.iconst 1, 1) := by decide +kernel
theorem dX12_caravanAt_12 : decode cX12_caravanAt 12 = .ok (.isub, 1) := by decide +kernel
theorem dX12_caravanAt_13 : decode cX12_caravanAt 13 = .ok (.invokestatic 207, 3) := by decide +kernel
theorem dX12_caravanAt_16 : decode cX12_caravanAt 16 = .ok (.ifCond .eq 12, 3) := by decide +kernel
theorem dX12_caravanAt_19 : decode cX12_caravanAt 19 = .ok (.aload_n 0, 1) := by decide +kernel
theorem dX12_caravanAt_20 : decode cX12_caravanAt 20 = .ok (.getfield 86, 3) := by decide +kernel
theorem dX12_caravanAt_23 : decode cX12_caravanAt 23 = .ok (.iload_n 1, 1) := by decide +kernel
theorem dX12_caravanAt_24 : decode cX12_caravanAt 24 = .ok (.iaload, 1) := by decide +kernel
theorem dX12_caravanAt_25 : decode cX12_caravanAt 25 = .ok (.goto 4, 3) := by decide +kernel
theorem dX12_caravanAt_28 : decode cX12_caravanAt 28 = .ok (.iconst (-1), 1) := by decide +kernel
theorem dX12_caravanAt_29 : decode cX12_caravanAt 29 = .ok (.ireturn, 1) := by decide +kernel
theorem dX12_areParted_0 : decode cX12_areParted 0 = .ok (.iconst 1, 1) := by decide +kernel
theorem dX12_areParted_1 : decode cX12_areParted 1 = .ok (.iload_n 1, 1) := by decide +kernel
theorem dX12_areParted_2 : decode cX12_areParted 2 = .ok (.ishl, 1) := by decide +kernel
theorem dX12_areParted_3 : decode cX12_areParted 3 = .ok (.istore 4, 2) := by decide +kernel
theorem dX12_areParted_5 : decode cX12_areParted 5 = .ok (.iconst 0, 1) := by decide +kernel
theorem dX12_areParted_6 : decode cX12_areParted 6 = .ok (.istore 5, 2) := by decide +kernel
theorem dX12_areParted_8 : decode cX12_areParted 8 = .ok (.iload 5, 2) := by decide +kernel
theorem dX12_areParted_10 : decode cX12_areParted 10 = .ok (.aload_n 0, 1) := by decide +kernel
theorem dX12_areParted_11 : decode cX12_areParted 11 = .ok (.getfield 33, 3) := by decide +kernel
theorem dX12_areParted_14 : decode cX12_areParted 14 = .ok (.iconst 0, 1) := by decide +kernel
theorem dX12_areParted_15 : decode cX12_areParted 15 = .ok (.iaload, 1) := by decide +kernel
theorem dX12_areParted_16 : decode cX12_areParted 16 = .ok (.if_icmp .ge 107, 3) := by decide +kernel
theorem dX12_areParted_19 : decode cX12_areParted 19 = .ok (.iconst 0, 1) := by decide +kernel
theorem dX12_areParted_20 : decode cX12_areParted 20 = .ok (.istore 6, 2) := by decide +kernel
theorem dX12_areParted_22 : decode cX12_areParted 22 = .ok (.iload 6, 2) := by decide +kernel
theorem dX12_areParted_24 : decode cX12_areParted 24 = .ok (.aload_n 0, 1) := by decide +kernel
theorem dX12_areParted_25 : decode cX12_areParted 25 = .ok (.getfield 33, 3) := by decide +kernel
theorem dX12_areParted_28 : decode cX12_areParted 28 = .ok (.iconst 1, 1) := by decide +kernel
theorem dX12_areParted_29 : decode cX12_areParted 29 = .ok (.iaload, 1) := by decide +kernel
theorem dX12_areParted_30 : decode cX12_areParted 30 = .ok (.if_icmp .ge 87, 3) := by decide +kernel
theorem dX12_areParted_33 : decode cX12_areParted 33 = .ok (.iload_n 3, 1) := by decide +kernel
theorem dX12_areParted_34 : decode cX12_areParted 34 = .ok (.iload 6, 2) := by decide +kernel
theorem dX12_areParted_36 : decode cX12_areParted 36 = .ok (.invokestatic 257, 3) := by decide +kernel
theorem dX12_areParted_39 : decode cX12_areParted 39 = .ok (.ifCond .ne 72, 3) := by decide +kernel
theorem dX12_areParted_42 : decode cX12_areParted 42 = .ok (.iload 4, 2) := by decide +kernel
theorem dX12_areParted_44 : decode cX12_areParted 44 = .ok (.aload_n 0, 1) := by decide +kernel
theorem dX12_areParted_45 : decode cX12_areParted 45 = .ok (.getfield 33, 3) := by decide +kernel
theorem dX12_areParted_48 : decode cX12_areParted 48 = .ok (.bipush 24, 2) := by decide +kernel
theorem dX12_areParted_50 : decode cX12_areParted 50 = .ok (.iload 6, 2) := by decide +kernel
theorem dX12_areParted_52 : decode cX12_areParted 52 = .ok (.iadd, 1) := by decide +kernel
theorem dX12_areParted_53 : decode cX12_areParted 53 = .ok (.iaload, 1) := by decide +kernel
theorem dX12_areParted_54 : decode cX12_areParted 54 = .ok (.invokestatic 257, 3) := by decide +kernel
theorem dX12_areParted_57 : decode cX12_areParted 57 = .ok (.ifCond .ne 24, 3) := by decide +kernel
theorem dX12_areParted_60 : decode cX12_areParted 60 = .ok (.iload 4, 2) := by decide +kernel
theorem dX12_areParted_62 : decode cX12_areParted 62 = .ok (.aload_n 0, 1) := by decide +kernel
theorem dX12_areParted_63 : decode cX12_areParted 63 = .ok (.getfield 33, 3) := by decide +kernel
theorem dX12_areParted_66 : decode cX12_areParted 66 = .ok (.bipush 36, 2) := by decide +kernel
theorem dX12_areParted_68 : decode cX12_areParted 68 = .ok (.iload 6, 2) := by decide +kernel
theorem dX12_areParted_70 : decode cX12_areParted 70 = .ok (.iadd, 1) := by decide +kernel
theorem dX12_areParted_71 : decode cX12_areParted 71 = .ok (.iaload, 1) := by decide +kernel
theorem dX12_areParted_72 : decode cX12_areParted 72 = .ok (.invokestatic 257, 3) := by decide +kernel
theorem dX12_areParted_75 : decode cX12_areParted 75 = .ok (.ifCond .ne 6, 3) := by decide +kernel
theorem dX12_areParted_78 : decode cX12_areParted 78 = .ok (.goto 33, 3) := by decide +kernel
theorem dX12_areParted_81 : decode cX12_areParted 81 = .ok (.iload 4, 2) := by decide +kernel
theorem dX12_areParted_83 : decode cX12_areParted 83 = .ok (.iconst 1, 1) := by decide +kernel
theorem dX12_areParted_84 : decode cX12_areParted 84 = .ok (.aload_n 0, 1) := by decide +kernel
theorem dX12_areParted_85 : decode cX12_areParted 85 = .ok (.getfield 33, 3) := by decide +kernel
theorem dX12_areParted_88 : decode cX12_areParted 88 = .ok (.bipush 24, 2) := by decide +kernel
theorem dX12_areParted_90 : decode cX12_areParted 90 = .ok (.iload 6, 2) := by decide +kernel
theorem dX12_areParted_92 : decode cX12_areParted 92 = .ok (.iadd, 1) := by decide +kernel
theorem dX12_areParted_93 : decode cX12_areParted 93 = .ok (.iaload, 1) := by decide +kernel
theorem dX12_areParted_94 : decode cX12_areParted 94 = .ok (.ishl, 1) := by decide +kernel
theorem dX12_areParted_95 : decode cX12_areParted 95 = .ok (.iconst 1, 1) := by decide +kernel
theorem dX12_areParted_96 : decode cX12_areParted 96 = .ok (.aload_n 0, 1) := by decide +kernel
theorem dX12_areParted_97 : decode cX12_areParted 97 = .ok (.getfield 33, 3) := by decide +kernel
theorem dX12_areParted_100 : decode cX12_areParted 100 = .ok (.bipush 36, 2) := by decide +kernel
theorem dX12_areParted_102 : decode cX12_areParted 102 = .ok (.iload 6, 2) := by decide +kernel
theorem dX12_areParted_104 : decode cX12_areParted 104 = .ok (.iadd, 1) := by decide +kernel
theorem dX12_areParted_105 : decode cX12_areParted 105 = .ok (.iaload, 1) := by decide +kernel
theorem dX12_areParted_106 : decode cX12_areParted 106 = .ok (.ishl, 1) := by decide +kernel
theorem dX12_areParted_107 : decode cX12_areParted 107 = .ok (.ior, 1) := by decide +kernel
theorem dX12_areParted_108 : decode cX12_areParted 108 = .ok (.ior, 1) := by decide +kernel
theorem dX12_areParted_109 : decode cX12_areParted 109 = .ok (.istore 4, 2) := by decide +kernel
theorem dX12_areParted_111 : decode cX12_areParted 111 = .ok (.iinc 6 1, 3) := by decide +kernel
theorem dX12_areParted_114 : decode cX12_areParted 114 = .ok (.goto (-92), 3) := by decide +kernel
theorem dX12_areParted_117 : decode cX12_areParted 117 = .ok (.iinc 5 1, 3) := by decide +kernel
theorem dX12_areParted_120 : decode cX12_areParted 120 = .ok (.goto (-112), 3) := by decide +kernel
theorem dX12_areParted_123 : decode cX12_areParted 123 = .ok (.iload 4, 2) := by decide +kernel
theorem dX12_areParted_125 : decode cX12_areParted 125 = .ok (.iload_n 2, 1) := by decide +kernel
theorem dX12_areParted_126 : decode cX12_areParted 126 = .ok (.invokestatic 257, 3) := by decide +kernel
theorem dX12_areParted_129 : decode cX12_areParted 129 = .ok (.ifCond .ne 7, 3) := by decide +kernel
theorem dX12_areParted_132 : decode cX12_areParted 132 = .ok (.iconst 1, 1) := by decide +kernel
theorem dX12_areParted_133 : decode cX12_areParted 133 = .ok (.goto 4, 3) := by decide +kernel
theorem dX12_areParted_136 : decode cX12_areParted 136 = .ok (.iconst 0, 1) := by decide +kernel
theorem dX12_areParted_137 : decode cX12_areParted 137 = .ok (.ireturn, 1) := by decide +kernel
theorem dX12_part_0 : decode cX12_part 0 = .ok (.aload_n 0, 1) := by decide +kernel
theorem dX12_part_1 : decode cX12_part 1 = .ok (.iconst 0, 1) := by decide +kernel
theorem dX12_part_2 : decode cX12_part 2 = .ok (.putfield 1, 3) := by decide +kernel
theorem dX12_part_5 : decode cX12_part 5 = .ok (.aload_n 0, 1) := by decide +kernel
theorem dX12_part_6 : decode cX12_part 6 = .ok (.iload_n 1, 1) := by decide +kernel
theorem dX12_part_7 : decode cX12_part 7 = .ok (.invokevirtual 312, 3) := by decide +kernel
theorem dX12_part_10 : decode cX12_part 10 = .ok (.ifCond .eq 16, 3) := by decide +kernel
theorem dX12_part_13 : decode cX12_part 13 = .ok (.aload_n 0, 1) := by decide +kernel
theorem dX12_part_14 : decode cX12_part 14 = .ok (.iload_n 2, 1) := by decide +kernel
theorem dX12_part_15 : decode cX12_part 15 = .ok (.invokevirtual 312, 3) := by decide +kernel
theorem dX12_part_18 : decode cX12_part 18 = .ok (.ifCond .eq 8, 3) := by decide +kernel
theorem dX12_part_21 : decode cX12_part 21 = .ok (.iload_n 1, 1) := by decide +kernel
theorem dX12_part_22 : decode cX12_part 22 = .ok (.iload_n 2, 1) := by decide +kernel
theorem dX12_part_23 : decode cX12_part 23 = .ok (.if_icmp .ne 5, 3) := by decide +kernel
theorem dX12_part_26 : decode cX12_part 26 = .ok (.iconst (-1), 1) := by decide +kernel
theorem dX12_part_27 : decode cX12_part 27 = .ok (.ireturn, 1) := by decide +kernel
theorem dX12_part_28 : decode cX12_part 28 = .ok (.iconst 1, 1) := by decide +kernel
theorem dX12_part_29 : decode cX12_part 29 = .ok (.aload_n 0, 1) := by decide +kernel
theorem dX12_part_30 : decode cX12_part 30 = .ok (.getfield 33, 3) := by decide +kernel
theorem dX12_part_33 : decode cX12_part 33 = .ok (.iconst 1, 1) := by decide +kernel
theorem dX12_part_34 : decode cX12_part 34 = .ok (.iaload, 1) := by decide +kernel
theorem dX12_part_35 : decode cX12_part 35 = .ok (.ishl, 1) := by decide +kernel
theorem dX12_part_36 : decode cX12_part 36 = .ok (.iconst 1, 1) := by decide +kernel
theorem dX12_part_37 : decode cX12_part 37 = .ok (.isub, 1) := by decide +kernel
theorem dX12_part_38 : decode cX12_part 38 = .ok (.aload_n 0, 1) := by decide +kernel
theorem dX12_part_39 : decode cX12_part 39 = .ok (.getfield 33, 3) := by decide +kernel
theorem dX12_part_42 : decode cX12_part 42 = .ok (.bipush 93, 2) := by decide +kernel
theorem dX12_part_44 : decode cX12_part 44 = .ok (.iaload, 1) := by decide +kernel
theorem dX12_part_45 : decode cX12_part 45 = .ok (.iconst (-1), 1) := by decide +kernel
theorem dX12_part_46 : decode cX12_part 46 = .ok (.ixor, 1) := by decide +kernel
theorem dX12_part_47 : decode cX12_part 47 = .ok (.iand, 1) := by decide +kernel
theorem dX12_part_48 : decode cX12_part 48 = .ok (.istore_n 3, 1) := by decide +kernel
theorem dX12_part_49 : decode cX12_part 49 = .ok (.iconst 0, 1) := by decide +kernel
theorem dX12_part_50 : decode cX12_part 50 = .ok (.istore 4, 2) := by decide +kernel
theorem dX12_part_52 : decode cX12_part 52 = .ok (.iload 4, 2) := by decide +kernel
theorem dX12_part_54 : decode cX12_part 54 = .ok (.iconst 1, 1) := by decide +kernel
theorem dX12_part_55 : decode cX12_part 55 = .ok (.aload_n 0, 1) := by decide +kernel
theorem dX12_part_56 : decode cX12_part 56 = .ok (.getfield 33, 3) := by decide +kernel
theorem dX12_part_59 : decode cX12_part 59 = .ok (.iconst 1, 1) := by decide +kernel
theorem dX12_part_60 : decode cX12_part 60 = .ok (.iaload, 1) := by decide +kernel
theorem dX12_part_61 : decode cX12_part 61 = .ok (.ishl, 1) := by decide +kernel
theorem dX12_part_62 : decode cX12_part 62 = .ok (.if_icmp .ge 56, 3) := by decide +kernel
theorem dX12_part_65 : decode cX12_part 65 = .ok (.iload 4, 2) := by decide +kernel
theorem dX12_part_67 : decode cX12_part 67 = .ok (.aload_n 0, 1) := by decide +kernel
theorem dX12_part_68 : decode cX12_part 68 = .ok (.getfield 33, 3) := by decide +kernel
theorem dX12_part_71 : decode cX12_part 71 = .ok (.bipush 93, 2) := by decide +kernel
theorem dX12_part_73 : decode cX12_part 73 = .ok (.iaload, 1) := by decide +kernel
theorem dX12_part_74 : decode cX12_part 74 = .ok (.iand, 1) := by decide +kernel
theorem dX12_part_75 : decode cX12_part 75 = .ok (.ifCond .ne 37, 3) := by decide +kernel
theorem dX12_part_78 : decode cX12_part 78 = .ok (.iload 4, 2) := by decide +kernel
theorem dX12_part_80 : decode cX12_part 80 = .ok (.invokestatic 315, 3) := by decide +kernel
theorem dX12_part_83 : decode cX12_part 83 = .ok (.iload_n 3, 1) := by decide +kernel
theorem dX12_part_84 : decode cX12_part 84 = .ok (.invokestatic 315, 3) := by decide +kernel
theorem dX12_part_87 : decode cX12_part 87 = .ok (.if_icmp .ge 25, 3) := by decide +kernel
theorem dX12_part_90 : decode cX12_part 90 = .ok (.aload_n 0, 1) := by decide +kernel
theorem dX12_part_91 : decode cX12_part 91 = .ok (.iload_n 1, 1) := by decide +kernel
theorem dX12_part_92 : decode cX12_part 92 = .ok (.iload_n 2, 1) := by decide +kernel
theorem dX12_part_93 : decode cX12_part 93 = .ok (.iload 4, 2) := by decide +kernel
theorem dX12_part_95 : decode cX12_part 95 = .ok (.aload_n 0, 1) := by decide +kernel
theorem dX12_part_96 : decode cX12_part 96 = .ok (.getfield 33, 3) := by decide +kernel
theorem dX12_part_99 : decode cX12_part 99 = .ok (.bipush 93, 2) := by decide +kernel
theorem dX12_part_101 : decode cX12_part 101 = .ok (.iaload, 1) := by decide +kernel
theorem dX12_part_102 : decode cX12_part 102 = .ok (.ior, 1) := by decide +kernel
theorem dX12_part_103 : decode cX12_part 103 = .ok (.invokevirtual 401, 3) := by decide +kernel
theorem dX12_part_106 : decode cX12_part 106 = .ok (.ifCond .eq 6, 3) := by decide +kernel
theorem dX12_part_109 : decode cX12_part 109 = .ok (.iload 4, 2) := by decide +kernel
theorem dX12_part_111 : decode cX12_part 111 = .ok (.istore_n 3, 1) := by decide +kernel
theorem dX12_part_112 : decode cX12_part 112 = .ok (.iinc 4 1, 3) := by decide +kernel
theorem dX12_part_115 : decode cX12_part 115 = .ok (.goto (-63), 3) := by decide +kernel
theorem dX12_part_118 : decode cX12_part 118 = .ok (.aload_n 0, 1) := by decide +kernel
theorem dX12_part_119 : decode cX12_part 119 = .ok (.iconst 1, 1) := by decide +kernel
theorem dX12_part_120 : decode cX12_part 120 = .ok (.putfield 404, 3) := by decide +kernel
theorem dX12_part_123 : decode cX12_part 123 = .ok (.aload_n 0, 1) := by decide +kernel
theorem dX12_part_124 : decode cX12_part 124 = .ok (.iload_n 3, 1) := by decide +kernel
theorem dX12_part_125 : decode cX12_part 125 = .ok (.putfield 407, 3) := by decide +kernel
theorem dX12_part_128 : decode cX12_part 128 = .ok (.iload_n 3, 1) := by decide +kernel
theorem dX12_part_129 : decode cX12_part 129 = .ok (.invokestatic 315, 3) := by decide +kernel
theorem dX12_part_132 : decode cX12_part 132 = .ok (.ireturn, 1) := by decide +kernel
theorem dX12_parting_0 : decode cX12_parting 0 = .ok (.aload_n 0, 1) := by decide +kernel
theorem dX12_parting_1 : decode cX12_parting 1 = .ok (.iconst 0, 1) := by decide +kernel
theorem dX12_parting_2 : decode cX12_parting 2 = .ok (.putfield 1, 3) := by decide +kernel
theorem dX12_parting_5 : decode cX12_parting 5 = .ok (.aload_n 0, 1) := by decide +kernel
theorem dX12_parting_6 : decode cX12_parting 6 = .ok (.getfield 404, 3) := by decide +kernel
theorem dX12_parting_9 : decode cX12_parting 9 = .ok (.ifCond .eq 10, 3) := by decide +kernel
theorem dX12_parting_12 : decode cX12_parting 12 = .ok (.aload_n 0, 1) := by decide +kernel
theorem dX12_parting_13 : decode cX12_parting 13 = .ok (.getfield 407, 3) := by decide +kernel
theorem dX12_parting_16 : decode cX12_parting 16 = .ok (.goto 4, 3) := by decide +kernel
theorem dX12_parting_19 : decode cX12_parting 19 = .ok (.iconst (-1), 1) := by decide +kernel
theorem dX12_parting_20 : decode cX12_parting 20 = .ok (.ireturn, 1) := by decide +kernel
theorem dX12_isRest_0 : decode cX12_isRest 0 = .ok (.iconst 1, 1) := by decide +kernel
theorem dX12_isRest_1 : decode cX12_isRest 1 = .ok (.istore_n 1, 1) := by decide +kernel
theorem dX12_isRest_2 : decode cX12_isRest 2 = .ok (.iconst 0, 1) := by decide +kernel
theorem dX12_isRest_3 : decode cX12_isRest 3 = .ok (.istore_n 2, 1) := by decide +kernel
theorem dX12_isRest_4 : decode cX12_isRest 4 = .ok (.iload_n 2, 1) := by decide +kernel
theorem dX12_isRest_5 : decode cX12_isRest 5 = .ok (.aload_n 0, 1) := by decide +kernel
theorem dX12_isRest_6 : decode cX12_isRest 6 = .ok (.getfield 33, 3) := by decide +kernel
theorem dX12_isRest_9 : decode cX12_isRest 9 = .ok (.iconst 2, 1) := by decide +kernel
theorem dX12_isRest_10 : decode cX12_isRest 10 = .ok (.iaload, 1) := by decide +kernel
theorem dX12_isRest_11 : decode cX12_isRest 11 = .ok (.if_icmp .ge 27, 3) := by decide +kernel
theorem dX12_isRest_14 : decode cX12_isRest 14 = .ok (.iload_n 1, 1) := by decide +kernel
theorem dX12_isRest_15 : decode cX12_isRest 15 = .ok (.ifCond .eq 15, 3) := by decide +kernel
theorem dX12_isRest_18 : decode cX12_isRest 18 = .ok (.aload_n 0, 1) := by decide +kernel
theorem dX12_isRest_19 : decode cX12_isRest 19 = .ok (.iload_n 2, 1) := by decide +kernel
theorem dX12_isRest_20 : decode cX12_isRest 20 = .ok (.invokevirtual 321, 3) := by decide +kernel
theorem dX12_isRest_23 : decode cX12_isRest 23 = .ok (.ifCond .ne 7, 3) := by decide +kernel
theorem dX12_isRest_26 : decode cX12_isRest 26 = .ok (.iconst 1, 1) := by decide +kernel
theorem dX12_isRest_27 : decode cX12_isRest 27 = .ok (.goto 4, 3) := by decide +kernel
theorem dX12_isRest_30 : decode cX12_isRest 30 = .ok (.iconst 0, 1) := by decide +kernel
theorem dX12_isRest_31 : decode cX12_isRest 31 = .ok (.istore_n 1, 1) := by decide +kernel
theorem dX12_isRest_32 : decode cX12_isRest 32 = .ok (.iinc 2 1, 3) := by decide +kernel
theorem dX12_isRest_35 : decode cX12_isRest 35 = .ok (.goto (-31), 3) := by decide +kernel
theorem dX12_isRest_38 : decode cX12_isRest 38 = .ok (.iload_n 1, 1) := by decide +kernel
theorem dX12_isRest_39 : decode cX12_isRest 39 = .ok (.ireturn, 1) := by decide +kernel
theorem dX12_rests_0 : decode cX12_rests 0 = .ok (.aload_n 0, 1) := by decide +kernel
theorem dX12_rests_1 : decode cX12_rests 1 = .ok (.iconst 0, 1) := by decide +kernel
theorem dX12_rests_2 : decode cX12_rests 2 = .ok (.putfield 1, 3) := by decide +kernel
theorem dX12_rests_5 : decode cX12_rests 5 = .ok (.aload_n 0, 1) := by decide +kernel
theorem dX12_rests_6 : decode cX12_rests 6 = .ok (.invokevirtual 392, 3) := by decide +kernel
theorem dX12_rests_9 : decode cX12_rests 9 = .ok (.iconst 0, 1) := by decide +kernel
theorem dX12_rests_10 : decode cX12_rests 10 = .ok (.istore_n 1, 1) := by decide +kernel
theorem dX12_rests_11 : decode cX12_rests 11 = .ok (.aload_n 0, 1) := by decide +kernel
theorem dX12_rests_12 : decode cX12_rests 12 = .ok (.getfield 33, 3) := by decide +kernel
theorem dX12_rests_15 : decode cX12_rests 15 = .ok (.bipush 91, 2) := by decide +kernel
theorem dX12_rests_17 : decode cX12_rests 17 = .ok (.iaload, 1) := by decide +kernel
theorem dX12_rests_18 : decode cX12_rests 18 = .ok (.sipush 400, 3) := by decide +kernel
theorem dX12_rests_21 : decode cX12_rests 21 = .ok (.if_icmp .ge 20, 3) := by decide +kernel
theorem dX12_rests_24 : decode cX12_rests 24 = .ok (.aload_n 0, 1) := by decide +kernel
theorem dX12_rests_25 : decode cX12_rests 25 = .ok (.invokevirtual 410, 3) := by decide +kernel
theorem dX12_rests_28 : decode cX12_rests 28 = .ok (.ifCond .ne 13, 3) := by decide +kernel
theorem dX12_rests_31 : decode cX12_rests 31 = .ok (.aload_n 0, 1) := by decide +kernel
theorem dX12_rests_32 : decode cX12_rests 32 = .ok (.invokevirtual 324, 3) := by decide +kernel
theorem dX12_rests_35 : decode cX12_rests 35 = .ok (.iinc 1 1, 3) := by decide +kernel
theorem dX12_rests_38 : decode cX12_rests 38 = .ok (.goto (-27), 3) := by decide +kernel
theorem dX12_rests_41 : decode cX12_rests 41 = .ok (.aload_n 0, 1) := by decide +kernel
theorem dX12_rests_42 : decode cX12_rests 42 = .ok (.getfield 33, 3) := by decide +kernel
theorem dX12_rests_45 : decode cX12_rests 45 = .ok (.bipush 91, 2) := by decide +kernel
theorem dX12_rests_47 : decode cX12_rests 47 = .ok (.iaload, 1) := by decide +kernel
theorem dX12_rests_48 : decode cX12_rests 48 = .ok (.sipush 400, 3) := by decide +kernel
theorem dX12_rests_51 : decode cX12_rests 51 = .ok (.if_icmp .ge 7, 3) := by decide +kernel
theorem dX12_rests_54 : decode cX12_rests 54 = .ok (.iconst 1, 1) := by decide +kernel
theorem dX12_rests_55 : decode cX12_rests 55 = .ok (.goto 4, 3) := by decide +kernel
theorem dX12_rests_58 : decode cX12_rests 58 = .ok (.iconst 0, 1) := by decide +kernel
theorem dX12_rests_59 : decode cX12_rests 59 = .ok (.istore_n 2, 1) := by decide +kernel
theorem dX12_rests_60 : decode cX12_rests 60 = .ok (.aload_n 0, 1) := by decide +kernel
theorem dX12_rests_61 : decode cX12_rests 61 = .ok (.invokevirtual 395, 3) := by decide +kernel
theorem dX12_rests_64 : decode cX12_rests 64 = .ok (.iload_n 2, 1) := by decide +kernel
theorem dX12_rests_65 : decode cX12_rests 65 = .ok (.ifCond .eq 7, 3) := by decide +kernel
theorem dX12_rests_68 : decode cX12_rests 68 = .ok (.iload_n 1, 1) := by decide +kernel
theorem dX12_rests_69 : decode cX12_rests 69 = .ok (.goto 4, 3) := by decide +kernel
theorem dX12_rests_72 : decode cX12_rests 72 = .ok (.iconst (-1), 1) := by decide +kernel
theorem dX12_rests_73 : decode cX12_rests 73 = .ok (.ireturn, 1) := by decide +kernel
theorem dX12_lays_0 : decode cX12_lays 0 = .ok (.aload_n 0, 1) := by decide +kernel
theorem dX12_lays_1 : decode cX12_lays 1 = .ok (.getfield 92, 3) := by decide +kernel
theorem dX12_lays_4 : decode cX12_lays 4 = .ok (.aload_n 0, 1) := by decide +kernel
theorem dX12_lays_5 : decode cX12_lays 5 = .ok (.getfield 413, 3) := by decide +kernel
theorem dX12_lays_8 : decode cX12_lays 8 = .ok (.iload_n 1, 1) := by decide +kernel
theorem dX12_lays_9 : decode cX12_lays 9 = .ok (.i2b, 1) := by decide +kernel
theorem dX12_lays_10 : decode cX12_lays 10 = .ok (.bastore, 1) := by decide +kernel
theorem dX12_lays_11 : decode cX12_lays 11 = .ok (.aload_n 0, 1) := by decide +kernel
theorem dX12_lays_12 : decode cX12_lays 12 = .ok (.dup, 1) := by decide +kernel
theorem dX12_lays_13 : decode cX12_lays 13 = .ok (.getfield 413, 3) := by decide +kernel
theorem dX12_lays_16 : decode cX12_lays 16 = .ok (.iconst 1, 1) := by decide +kernel
theorem dX12_lays_17 : decode cX12_lays 17 = .ok (.iadd, 1) := by decide +kernel
theorem dX12_lays_18 : decode cX12_lays 18 = .ok (.putfield 413, 3) := by decide +kernel
theorem dX12_lays_21 : decode cX12_lays 21 = .ok (.return_, 1) := by decide +kernel
theorem dX12_spells_0 : decode cX12_spells 0 = .ok (.bipush 56, 2) := by decide +kernel
theorem dX12_spells_2 : decode cX12_spells 2 = .ok (.istore_n 3, 1) := by decide +kernel
theorem dX12_spells_3 : decode cX12_spells 3 = .ok (.iload_n 3, 1) := by decide +kernel
theorem dX12_spells_4 : decode cX12_spells 4 = .ok (.ifCond .lt 33, 3) := by decide +kernel
theorem dX12_spells_7 : decode cX12_spells 7 = .ok (.lload_n 1, 1) := by decide +kernel
theorem dX12_spells_8 : decode cX12_spells 8 = .ok (.iload_n 3, 1) := by decide +kernel
theorem dX12_spells_9 : decode cX12_spells 9 = .ok (.lshr, 1) := by decide +kernel
theorem dX12_spells_10 : decode cX12_spells 10 = .ok (.ldc2_w 416, 3) := by decide +kernel
theorem dX12_spells_13 : decode cX12_spells 13 = .ok (.land, 1) := by decide +kernel
theorem dX12_spells_14 : decode cX12_spells 14 = .ok (.lconst 0, 1) := by decide +kernel
theorem dX12_spells_15 : decode cX12_spells 15 = .ok (.lcmp, 1) := by decide +kernel
theorem dX12_spells_16 : decode cX12_spells 16 = .ok (.ifCond .eq 15, 3) := by decide +kernel
theorem dX12_spells_19 : decode cX12_spells 19 = .ok (.aload_n 0, 1) := by decide +kernel
theorem dX12_spells_20 : decode cX12_spells 20 = .ok (.lload_n 1, 1) := by decide +kernel
theorem dX12_spells_21 : decode cX12_spells 21 = .ok (.iload_n 3, 1) := by decide +kernel
theorem dX12_spells_22 : decode cX12_spells 22 = .ok (.lshr, 1) := by decide +kernel
theorem dX12_spells_23 : decode cX12_spells 23 = .ok (.ldc2_w 416, 3) := by decide +kernel
theorem dX12_spells_26 : decode cX12_spells 26 = .ok (.land, 1) := by decide +kernel
theorem dX12_spells_27 : decode cX12_spells 27 = .ok (.l2i, 1) := by decide +kernel
theorem dX12_spells_28 : decode cX12_spells 28 = .ok (.invokevirtual 418, 3) := by decide +kernel
theorem dX12_spells_31 : decode cX12_spells 31 = .ok (.iinc 3 (-8), 3) := by decide +kernel
theorem dX12_spells_34 : decode cX12_spells 34 = .ok (.goto (-31), 3) := by decide +kernel
theorem dX12_spells_37 : decode cX12_spells 37 = .ok (.return_, 1) := by decide +kernel
theorem dX12_says_0 : decode cX12_says 0 = .ok (.aload_n 0, 1) := by decide +kernel
theorem dX12_says_1 : decode cX12_says 1 = .ok (.bipush 32, 2) := by decide +kernel
theorem dX12_says_3 : decode cX12_says 3 = .ok (.invokevirtual 418, 3) := by decide +kernel
theorem dX12_says_6 : decode cX12_says 6 = .ok (.aload_n 0, 1) := by decide +kernel
theorem dX12_says_7 : decode cX12_says 7 = .ok (.lload_n 1, 1) := by decide +kernel
theorem dX12_says_8 : decode cX12_says 8 = .ok (.invokevirtual 421, 3) := by decide +kernel
theorem dX12_says_11 : decode cX12_says 11 = .ok (.return_, 1) := by decide +kernel
theorem dX12_pass_0 : decode cX12_pass 0 = .ok (.aload_n 0, 1) := by decide +kernel
theorem dX12_pass_1 : decode cX12_pass 1 = .ok (.iconst 0, 1) := by decide +kernel
theorem dX12_pass_2 : decode cX12_pass 2 = .ok (.putfield 1, 3) := by decide +kernel
theorem dX12_pass_5 : decode cX12_pass 5 = .ok (.aload_n 0, 1) := by decide +kernel
theorem dX12_pass_6 : decode cX12_pass 6 = .ok (.iload_n 1, 1) := by decide +kernel
theorem dX12_pass_7 : decode cX12_pass 7 = .ok (.invokevirtual 302, 3) := by decide +kernel
theorem dX12_pass_10 : decode cX12_pass 10 = .ok (.ifCond .ne 5, 3) := by decide +kernel
theorem dX12_pass_13 : decode cX12_pass 13 = .ok (.iconst (-1), 1) := by decide +kernel
theorem dX12_pass_14 : decode cX12_pass 14 = .ok (.ireturn, 1) := by decide +kernel
theorem dX12_pass_15 : decode cX12_pass 15 = .ok (.aload_n 0, 1) := by decide +kernel
theorem dX12_pass_16 : decode cX12_pass 16 = .ok (.iconst 0, 1) := by decide +kernel
theorem dX12_pass_17 : decode cX12_pass 17 = .ok (.putfield 413, 3) := by decide +kernel
theorem dX12_pass_20 : decode cX12_pass 20 = .ok (.aload_n 0, 1) := by decide +kernel
theorem dX12_pass_21 : decode cX12_pass 21 = .ok (.aload_n 0, 1) := by decide +kernel
theorem dX12_pass_22 : decode cX12_pass 22 = .ok (.getfield 43, 3) := by decide +kernel
theorem dX12_pass_25 : decode cX12_pass 25 = .ok (.bipush 7, 2) := by decide +kernel
theorem dX12_pass_27 : decode cX12_pass 27 = .ok (.iload_n 1, 1) := by decide +kernel
theorem dX12_pass_28 : decode cX12_pass 28 = .ok (.iadd, 1) := by decide +kernel
theorem dX12_pass_29 : decode cX12_pass 29 = .ok (.laload, 1) := by decide +kernel
theorem dX12_pass_30 : decode cX12_pass 30 = .ok (.invokevirtual 421, 3) := by decide +kernel
theorem dX12_pass_33 : decode cX12_pass 33 = .ok (.aload_n 0, 1) := by decide +kernel
theorem dX12_pass_34 : decode cX12_pass 34 = .ok (.ldc2_w 150, 3) := by decide +kernel
theorem dX12_pass_37 : decode cX12_pass 37 = .ok (.invokevirtual 425, 3) := by decide +kernel
theorem dX12_pass_40 : decode cX12_pass 40 = .ok (.aload_n 0, 1) := by decide +kernel
theorem dX12_pass_41 : decode cX12_pass 41 = .ok (.aload_n 0, 1) := by decide +kernel
theorem dX12_pass_42 : decode cX12_pass 42 = .ok (.getfield 43, 3) := by decide +kernel
theorem dX12_pass_45 : decode cX12_pass 45 = .ok (.aload_n 0, 1) := by decide +kernel
theorem dX12_pass_46 : decode cX12_pass 46 = .ok (.getfield 33, 3) := by decide +kernel
theorem dX12_pass_49 : decode cX12_pass 49 = .ok (.bipush 79, 2) := by decide +kernel
theorem dX12_pass_51 : decode cX12_pass 51 = .ok (.iload_n 1, 1) := by decide +kernel
theorem dX12_pass_52 : decode cX12_pass 52 = .ok (.iadd, 1) := by decide +kernel
theorem dX12_pass_53 : decode cX12_pass 53 = .ok (.iaload, 1) := by decide +kernel
theorem dX12_pass_54 : decode cX12_pass 54 = .ok (.laload, 1) := by decide +kernel
theorem dX12_pass_55 : decode cX12_pass 55 = .ok (.invokevirtual 425, 3) := by decide +kernel
theorem dX12_pass_58 : decode cX12_pass 58 = .ok (.aload_n 0, 1) := by decide +kernel
theorem dX12_pass_59 : decode cX12_pass 59 = .ok (.ldc2_w 148, 3) := by decide +kernel
theorem dX12_pass_62 : decode cX12_pass 62 = .ok (.invokevirtual 425, 3) := by decide +kernel
theorem dX12_pass_65 : decode cX12_pass 65 = .ok (.aload_n 0, 1) := by decide +kernel
theorem dX12_pass_66 : decode cX12_pass 66 = .ok (.aload_n 0, 1) := by decide +kernel
theorem dX12_pass_67 : decode cX12_pass 67 = .ok (.getfield 43, 3) := by decide +kernel
theorem dX12_pass_70 : decode cX12_pass 70 = .ok (.aload_n 0, 1) := by decide +kernel
theorem dX12_pass_71 : decode cX12_pass 71 = .ok (.getfield 33, 3) := by decide +kernel
theorem dX12_pass_74 : decode cX12_pass 74 = .ok (.bipush 108, 2) := by decide +kernel
theorem dX12_pass_76 : decode cX12_pass 76 = .ok (.iload_n 1, 1) := by decide +kernel
theorem dX12_pass_77 : decode cX12_pass 77 = .ok (.iadd, 1) := by decide +kernel
theorem dX12_pass_78 : decode cX12_pass 78 = .ok (.iaload, 1) := by decide +kernel
theorem dX12_pass_79 : decode cX12_pass 79 = .ok (.laload, 1) := by decide +kernel
theorem dX12_pass_80 : decode cX12_pass 80 = .ok (.invokevirtual 425, 3) := by decide +kernel
theorem dX12_pass_83 : decode cX12_pass 83 = .ok (.aload_n 0, 1) := by decide +kernel
theorem dX12_pass_84 : decode cX12_pass 84 = .ok (.bipush 32, 2) := by decide +kernel
theorem dX12_pass_86 : decode cX12_pass 86 = .ok (.invokevirtual 418, 3) := by decide +kernel
theorem dX12_pass_89 : decode cX12_pass 89 = .ok (.aload_n 0, 1) := by decide +kernel
theorem dX12_pass_90 : decode cX12_pass 90 = .ok (.getfield 33, 3) := by decide +kernel
theorem dX12_pass_93 : decode cX12_pass 93 = .ok (.bipush 114, 2) := by decide +kernel
theorem dX12_pass_95 : decode cX12_pass 95 = .ok (.iload_n 1, 1) := by decide +kernel
theorem dX12_pass_96 : decode cX12_pass 96 = .ok (.iadd, 1) := by decide +kernel
theorem dX12_pass_97 : decode cX12_pass 97 = .ok (.iaload, 1) := by decide +kernel
theorem dX12_pass_98 : decode cX12_pass 98 = .ok (.istore_n 2, 1) := by decide +kernel
theorem dX12_pass_99 : decode cX12_pass 99 = .ok (.iload_n 2, 1) := by decide +kernel
theorem dX12_pass_100 : decode cX12_pass 100 = .ok (.bipush 99, 2) := by decide +kernel
theorem dX12_pass_102 : decode cX12_pass 102 = .ok (.if_icmp .le 14, 3) := by decide +kernel
theorem dX12_pass_105 : decode cX12_pass 105 = .ok (.aload_n 0, 1) := by decide +kernel
theorem dX12_pass_106 : decode cX12_pass 106 = .ok (.bipush 48, 2) := by decide +kernel
theorem dX12_pass_108 : decode cX12_pass 108 = .ok (.iload_n 2, 1) := by decide +kernel
theorem dX12_pass_109 : decode cX12_pass 109 = .ok (.bipush 100, 2) := by decide +kernel
theorem dX12_pass_111 : decode cX12_pass 111 = .ok (.idiv, 1) := by decide +kernel
theorem dX12_pass_112 : decode cX12_pass 112 = .ok (.iadd, 1) := by decide +kernel
theorem dX12_pass_113 : decode cX12_pass 113 = .ok (.invokevirtual 418, 3) := by decide +kernel
theorem dX12_pass_116 : decode cX12_pass 116 = .ok (.iload_n 2, 1) := by decide +kernel
theorem dX12_pass_117 : decode cX12_pass 117 = .ok (.bipush 9, 2) := by decide +kernel
theorem dX12_pass_119 : decode cX12_pass 119 = .ok (.if_icmp .le 17, 3) := by decide +kernel
theorem dX12_pass_122 : decode cX12_pass 122 = .ok (.aload_n 0, 1) := by decide +kernel
theorem dX12_pass_123 : decode cX12_pass 123 = .ok (.bipush 48, 2) := by decide +kernel
theorem dX12_pass_125 : decode cX12_pass 125 = .ok (.iload_n 2, 1) := by decide +kernel
theorem dX12_pass_126 : decode cX12_pass 126 = .ok (.bipush 10, 2) := by decide +kernel
theorem dX12_pass_128 : decode cX12_pass 128 = .ok (.idiv, 1) := by decide +kernel
theorem dX12_pass_129 : decode cX12_pass 129 = .ok (.bipush 10, 2) := by decide +kernel
theorem dX12_pass_131 : decode cX12_pass 131 = .ok (.irem, 1) := by decide +kernel
theorem dX12_pass_132 : decode cX12_pass 132 = .ok (.iadd, 1) := by decide +kernel
theorem dX12_pass_133 : decode cX12_pass 133 = .ok (.invokevirtual 418, 3) := by decide +kernel
theorem dX12_pass_136 : decode cX12_pass 136 = .ok (.aload_n 0, 1) := by decide +kernel
theorem dX12_pass_137 : decode cX12_pass 137 = .ok (.bipush 48, 2) := by decide +kernel
theorem dX12_pass_139 : decode cX12_pass 139 = .ok (.iload_n 2, 1) := by decide +kernel
theorem dX12_pass_140 : decode cX12_pass 140 = .ok (.bipush 10, 2) := by decide +kernel
theorem dX12_pass_142 : decode cX12_pass 142 = .ok (.irem, 1) := by decide +kernel
theorem dX12_pass_143 : decode cX12_pass 143 = .ok (.iadd, 1) := by decide +kernel
theorem dX12_pass_144 : decode cX12_pass 144 = .ok (.invokevirtual 418, 3) := by decide +kernel
theorem dX12_pass_147 : decode cX12_pass 147 = .ok (.aload_n 0, 1) := by decide +kernel
theorem dX12_pass_148 : decode cX12_pass 148 = .ok (.getfield 413, 3) := by decide +kernel
theorem dX12_pass_151 : decode cX12_pass 151 = .ok (.ireturn, 1) := by decide +kernel
theorem dX12_byteAt_0 : decode cX12_byteAt 0 = .ok (.aload_n 0, 1) := by decide +kernel
theorem dX12_byteAt_1 : decode cX12_byteAt 1 = .ok (.iconst 0, 1) := by decide +kernel
theorem dX12_byteAt_2 : decode cX12_byteAt 2 = .ok (.putfield 1, 3) := by decide +kernel
theorem dX12_byteAt_5 : decode cX12_byteAt 5 = .ok (.iload_n 1, 1) := by decide +kernel
theorem dX12_byteAt_6 : decode cX12_byteAt 6 = .ok (.iconst 0, 1) := by decide +kernel
theorem dX12_byteAt_7 : decode cX12_byteAt 7 = .ok (.aload_n 0, 1) := by decide +kernel
theorem dX12_byteAt_8 : decode cX12_byteAt 8 = .ok (.getfield 413, 3) := by decide +kernel
theorem dX12_byteAt_11 : decode cX12_byteAt 11 = .ok (.iconst 1, 1) := by decide +kernel
theorem dX12_byteAt_12 : decode cX12_byteAt 12 = .ok (.isub, 1) := by decide +kernel
theorem dX12_byteAt_13 : decode cX12_byteAt 13 = .ok (.invokestatic 207, 3) := by decide +kernel
theorem dX12_byteAt_16 : decode cX12_byteAt 16 = .ok (.ifCond .eq 12, 3) := by decide +kernel
theorem dX12_byteAt_19 : decode cX12_byteAt 19 = .ok (.aload_n 0, 1) := by decide +kernel
theorem dX12_byteAt_20 : decode cX12_byteAt 20 = .ok (.getfield 92, 3) := by decide +kernel
theorem dX12_byteAt_23 : decode cX12_byteAt 23 = .ok (.iload_n 1, 1) := by decide +kernel
theorem dX12_byteAt_24 : decode cX12_byteAt 24 = .ok (.baload, 1) := by decide +kernel
theorem dX12_byteAt_25 : decode cX12_byteAt 25 = .ok (.goto 4, 3) := by decide +kernel
theorem dX12_byteAt_28 : decode cX12_byteAt 28 = .ok (.iconst (-1), 1) := by decide +kernel
theorem dX12_byteAt_29 : decode cX12_byteAt 29 = .ok (.ireturn, 1) := by decide +kernel
theorem dX12_draw_0 : decode cX12_draw 0 = .ok (.aload_n 0, 1) := by decide +kernel
theorem dX12_draw_1 : decode cX12_draw 1 = .ok (.aload_n 0, 1) := by decide +kernel
theorem dX12_draw_2 : decode cX12_draw 2 = .ok (.getfield 428, 3) := by decide +kernel
theorem dX12_draw_5 : decode cX12_draw 5 = .ok (.ldc_w 431, 3) := by decide +kernel
theorem dX12_draw_8 : decode cX12_draw 8 = .ok (.imul, 1) := by decide +kernel
theorem dX12_draw_9 : decode cX12_draw 9 = .ok (.sipush 12345, 3) := by decide +kernel
theorem dX12_draw_12 : decode cX12_draw 12 = .ok (.iadd, 1) := by decide +kernel
theorem dX12_draw_13 : decode cX12_draw 13 = .ok (.putfield 428, 3) := by decide +kernel
theorem dX12_draw_16 : decode cX12_draw 16 = .ok (.aload_n 0, 1) := by decide +kernel
theorem dX12_draw_17 : decode cX12_draw 17 = .ok (.getfield 428, 3) := by decide +kernel
theorem dX12_draw_20 : decode cX12_draw 20 = .ok (.bipush 8, 2) := by decide +kernel
theorem dX12_draw_22 : decode cX12_draw 22 = .ok (.iushr, 1) := by decide +kernel
theorem dX12_draw_23 : decode cX12_draw 23 = .ok (.iload_n 1, 1) := by decide +kernel
theorem dX12_draw_24 : decode cX12_draw 24 = .ok (.irem, 1) := by decide +kernel
theorem dX12_draw_25 : decode cX12_draw 25 = .ok (.ireturn, 1) := by decide +kernel
theorem dX12_draws_0 : decode cX12_draws 0 = .ok (.aload_n 0, 1) := by decide +kernel
theorem dX12_draws_1 : decode cX12_draws 1 = .ok (.iload_n 2, 1) := by decide +kernel
theorem dX12_draws_2 : decode cX12_draws 2 = .ok (.putfield 428, 3) := by decide +kernel
theorem dX12_draws_5 : decode cX12_draws 5 = .ok (.iconst 0, 1) := by decide +kernel
theorem dX12_draws_6 : decode cX12_draws 6 = .ok (.istore_n 3, 1) := by decide +kernel
theorem dX12_draws_7 : decode cX12_draws 7 = .ok (.iload_n 3, 1) := by decide +kernel
theorem dX12_draws_8 : decode cX12_draws 8 = .ok (.iload_n 1, 1) := by decide +kernel
theorem dX12_draws_9 : decode cX12_draws 9 = .ok (.if_icmp .ge 116, 3) := by decide +kernel
theorem dX12_draws_12 : decode cX12_draws 12 = .ok (.aload_n 0, 1) := by decide +kernel
theorem dX12_draws_13 : decode cX12_draws 13 = .ok (.getfield 33, 3) := by decide +kernel
theorem dX12_draws_16 : decode cX12_draws 16 = .ok (.bipush 91, 2) := by decide +kernel
theorem dX12_draws_18 : decode cX12_draws 18 = .ok (.iaload, 1) := by decide +kernel
theorem dX12_draws_19 : decode cX12_draws 19 = .ok (.sipush 400, 3) := by decide +kernel
theorem dX12_draws_22 : decode cX12_draws 22 = .ok (.if_icmp .ge 103, 3) := by decide +kernel
theorem dX12_draws_25 : decode cX12_draws 25 = .ok (.aload_n 0, 1) := by decide +kernel
theorem dX12_draws_26 : decode cX12_draws 26 = .ok (.iconst 4, 1) := by decide +kernel
theorem dX12_draws_27 : decode cX12_draws 27 = .ok (.invokevirtual 432, 3) := by decide +kernel
theorem dX12_draws_30 : decode cX12_draws 30 = .ok (.ifCond .ne 34, 3) := by decide +kernel
theorem dX12_draws_33 : decode cX12_draws 33 = .ok (.aload_n 0, 1) := by decide +kernel
theorem dX12_draws_34 : decode cX12_draws 34 = .ok (.getfield 33, 3) := by decide +kernel
theorem dX12_draws_37 : decode cX12_draws 37 = .ok (.iconst 1, 1) := by decide +kernel
theorem dX12_draws_38 : decode cX12_draws 38 = .ok (.iaload, 1) := by decide +kernel
theorem dX12_draws_39 : decode cX12_draws 39 = .ok (.ifCond .le 25, 3) := by decide +kernel
theorem dX12_draws_42 : decode cX12_draws 42 = .ok (.aload_n 0, 1) := by decide +kernel
theorem dX12_draws_43 : decode cX12_draws 43 = .ok (.getfield 33, 3) := by decide +kernel
theorem dX12_draws_46 : decode cX12_draws 46 = .ok (.bipush 93, 2) := by decide +kernel
theorem dX12_draws_48 : decode cX12_draws 48 = .ok (.dup2, 1) := by decide +kernel
theorem dX12_draws_49 : decode cX12_draws 49 = .ok (.iaload, 1) := by decide +kernel
theorem dX12_draws_50 : decode cX12_draws 50 = .ok (.iconst 1, 1) := by decide +kernel
theorem dX12_draws_51 : decode cX12_draws 51 = .ok (.aload_n 0, 1) := by decide +kernel
theorem dX12_draws_52 : decode cX12_draws 52 = .ok (.aload_n 0, 1) := by decide +kernel
theorem dX12_draws_53 : decode cX12_draws 53 = .ok (.getfield 33, 3) := by decide +kernel
theorem dX12_draws_56 : decode cX12_draws 56 = .ok (.iconst 1, 1) := by decide +kernel
theorem dX12_draws_57 : decode cX12_draws 57 = .ok (.iaload, 1) := by decide +kernel
theorem dX12_draws_58 : decode cX12_draws 58 = .ok (.invokevirtual 432, 3) := by decide +kernel
theorem dX12_draws_61 : decode cX12_draws 61 = .ok (.ishl, 1) := by decide +kernel
theorem dX12_draws_62 : decode cX12_draws 62 = .ok (.ixor, 1) := by decide +kernel
theorem dX12_draws_63 : decode cX12_draws 63 = .ok (.iastore, 1) := by decide +kernel
theorem dX12_draws_64 : decode cX12_draws 64 = .ok (.iconst 0, 1) := by decide +kernel
theorem dX12_draws_65 : decode cX12_draws 65 = .ok (.istore 4, 2) := by decide +kernel
theorem dX12_draws_67 : decode cX12_draws 67 = .ok (.iload 4, 2) := by decide +kernel
theorem dX12_draws_69 : decode cX12_draws 69 = .ok (.aload_n 0, 1) := by decide +kernel
theorem dX12_draws_70 : decode cX12_draws 70 = .ok (.getfield 33, 3) := by decide +kernel
theorem dX12_draws_73 : decode cX12_draws 73 = .ok (.iconst 2, 1) := by decide +kernel
theorem dX12_draws_74 : decode cX12_draws 74 = .ok (.iaload, 1) := by decide +kernel
theorem dX12_draws_75 : decode cX12_draws 75 = .ok (.if_icmp .ge 40, 3) := by decide +kernel
theorem dX12_draws_78 : decode cX12_draws 78 = .ok (.aload_n 0, 1) := by decide +kernel
theorem dX12_draws_79 : decode cX12_draws 79 = .ok (.aload_n 0, 1) := by decide +kernel
theorem dX12_draws_80 : decode cX12_draws 80 = .ok (.getfield 33, 3) := by decide +kernel
theorem dX12_draws_83 : decode cX12_draws 83 = .ok (.iconst 0, 1) := by decide +kernel
theorem dX12_draws_84 : decode cX12_draws 84 = .ok (.iaload, 1) := by decide +kernel
theorem dX12_draws_85 : decode cX12_draws 85 = .ok (.invokevirtual 432, 3) := by decide +kernel
theorem dX12_draws_88 : decode cX12_draws 88 = .ok (.istore 5, 2) := by decide +kernel
theorem dX12_draws_90 : decode cX12_draws 90 = .ok (.aload_n 0, 1) := by decide +kernel
theorem dX12_draws_91 : decode cX12_draws 91 = .ok (.iload 4, 2) := by decide +kernel
theorem dX12_draws_93 : decode cX12_draws 93 = .ok (.iload 5, 2) := by decide +kernel
theorem dX12_draws_95 : decode cX12_draws 95 = .ok (.invokevirtual 292, 3) := by decide +kernel
theorem dX12_draws_98 : decode cX12_draws 98 = .ok (.ifCond .ne 11, 3) := by decide +kernel
theorem dX12_draws_101 : decode cX12_draws 101 = .ok (.aload_n 0, 1) := by decide +kernel
theorem dX12_draws_102 : decode cX12_draws 102 = .ok (.iload 4, 2) := by decide +kernel
theorem dX12_draws_104 : decode cX12_draws 104 = .ok (.iload 5, 2) := by decide +kernel
theorem dX12_draws_106 : decode cX12_draws 106 = .ok (.invokevirtual 330, 3) := by decide +kernel
theorem dX12_draws_109 : decode cX12_draws 109 = .ok (.iinc 4 1, 3) := by decide +kernel
theorem dX12_draws_112 : decode cX12_draws 112 = .ok (.goto (-45), 3) := by decide +kernel
theorem dX12_draws_115 : decode cX12_draws 115 = .ok (.aload_n 0, 1) := by decide +kernel
theorem dX12_draws_116 : decode cX12_draws 116 = .ok (.invokevirtual 324, 3) := by decide +kernel
theorem dX12_draws_119 : decode cX12_draws 119 = .ok (.iinc 3 1, 3) := by decide +kernel
theorem dX12_draws_122 : decode cX12_draws 122 = .ok (.goto (-115), 3) := by decide +kernel
theorem dX12_draws_125 : decode cX12_draws 125 = .ok (.iload_n 3, 1) := by decide +kernel
theorem dX12_draws_126 : decode cX12_draws 126 = .ok (.ireturn, 1) := by decide +kernel
theorem dX12_drawn_0 : decode cX12_drawn 0 = .ok (.aload_n 0, 1) := by decide +kernel
theorem dX12_drawn_1 : decode cX12_drawn 1 = .ok (.iconst 0, 1) := by decide +kernel
theorem dX12_drawn_2 : decode cX12_drawn 2 = .ok (.putfield 1, 3) := by decide +kernel
theorem dX12_drawn_5 : decode cX12_drawn 5 = .ok (.iload_n 1, 1) := by decide +kernel
theorem dX12_drawn_6 : decode cX12_drawn 6 = .ok (.iconst 1, 1) := by decide +kernel
theorem dX12_drawn_7 : decode cX12_drawn 7 = .ok (.bipush 60, 2) := by decide +kernel
theorem dX12_drawn_9 : decode cX12_drawn 9 = .ok (.invokestatic 207, 3) := by decide +kernel
theorem dX12_drawn_12 : decode cX12_drawn 12 = .ok (.ifCond .eq 12, 3) := by decide +kernel
theorem dX12_drawn_15 : decode cX12_drawn 15 = .ok (.aload_n 0, 1) := by decide +kernel
theorem dX12_drawn_16 : decode cX12_drawn 16 = .ok (.getfield 33, 3) := by decide +kernel
theorem dX12_drawn_19 : decode cX12_drawn 19 = .ok (.iconst 0, 1) := by decide +kernel
theorem dX12_drawn_20 : decode cX12_drawn 20 = .ok (.iaload, 1) := by decide +kernel
theorem dX12_drawn_21 : decode cX12_drawn 21 = .ok (.ifCond .ne 5, 3) := by decide +kernel
theorem dX12_drawn_24 : decode cX12_drawn 24 = .ok (.iconst (-1), 1) := by decide +kernel
theorem dX12_drawn_25 : decode cX12_drawn 25 = .ok (.ireturn, 1) := by decide +kernel
theorem dX12_drawn_26 : decode cX12_drawn 26 = .ok (.aload_n 0, 1) := by decide +kernel
theorem dX12_drawn_27 : decode cX12_drawn 27 = .ok (.getfield 33, 3) := by decide +kernel
theorem dX12_drawn_30 : decode cX12_drawn 30 = .ok (.bipush 91, 2) := by decide +kernel
theorem dX12_drawn_32 : decode cX12_drawn 32 = .ok (.iaload, 1) := by decide +kernel
theorem dX12_drawn_33 : decode cX12_drawn 33 = .ok (.sipush 400, 3) := by decide +kernel
theorem dX12_drawn_36 : decode cX12_drawn 36 = .ok (.if_icmp .ge 7, 3) := by decide +kernel
theorem dX12_drawn_39 : decode cX12_drawn 39 = .ok (.aload_n 0, 1) := by decide +kernel
theorem dX12_drawn_40 : decode cX12_drawn 40 = .ok (.invokevirtual 327, 3) := by decide +kernel
theorem dX12_drawn_43 : decode cX12_drawn 43 = .ok (.aload_n 0, 1) := by decide +kernel
theorem dX12_drawn_44 : decode cX12_drawn 44 = .ok (.iload_n 1, 1) := by decide +kernel
theorem dX12_drawn_45 : decode cX12_drawn 45 = .ok (.iload_n 2, 1) := by decide +kernel
theorem dX12_drawn_46 : decode cX12_drawn 46 = .ok (.invokevirtual 435, 3) := by decide +kernel
theorem dX12_drawn_49 : decode cX12_drawn 49 = .ok (.ireturn, 1) := by decide +kernel
theorem dX12_odds_0 : decode cX12_odds 0 = .ok (.aload_n 0, 1) := by decide +kernel
theorem dX12_odds_1 : decode cX12_odds 1 = .ok (.iconst 0, 1) := by decide +kernel
theorem dX12_odds_2 : decode cX12_odds 2 = .ok (.putfield 1, 3) := by decide +kernel
theorem dX12_odds_5 : decode cX12_odds 5 = .ok (.aload_n 0, 1) := by decide +kernel
theorem dX12_odds_6 : decode cX12_odds 6 = .ok (.iload_n 1, 1) := by decide +kernel
theorem dX12_odds_7 : decode cX12_odds 7 = .ok (.invokevirtual 302, 3) := by decide +kernel
theorem dX12_odds_10 : decode cX12_odds 10 = .ok (.ifCond .eq 13, 3) := by decide +kernel
theorem dX12_odds_13 : decode cX12_odds 13 = .ok (.iload_n 2, 1) := by decide +kernel
theorem dX12_odds_14 : decode cX12_odds 14 = .ok (.iconst 1, 1) := by decide +kernel
theorem dX12_odds_15 : decode cX12_odds 15 = .ok (.bipush 30, 2) := by decide +kernel
theorem dX12_odds_17 : decode cX12_odds 17 = .ok (.invokestatic 207, 3) := by decide +kernel
theorem dX12_odds_20 : decode cX12_odds 20 = .ok (.ifCond .ne 5, 3) := by decide +kernel
theorem dX12_odds_23 : decode cX12_odds 23 = .ok (.iconst (-1), 1) := by decide +kernel
theorem dX12_odds_24 : decode cX12_odds 24 = .ok (.ireturn, 1) := by decide +kernel
theorem dX12_odds_25 : decode cX12_odds 25 = .ok (.aload_n 0, 1) := by decide +kernel
theorem dX12_odds_26 : decode cX12_odds 26 = .ok (.invokevirtual 392, 3) := by decide +kernel
theorem dX12_odds_29 : decode cX12_odds 29 = .ok (.aload_n 0, 1) := by decide +kernel
theorem dX12_odds_30 : decode cX12_odds 30 = .ok (.getfield 33, 3) := by decide +kernel
theorem dX12_odds_33 : decode cX12_odds 33 = .ok (.bipush 114, 2) := by decide +kernel
theorem dX12_odds_35 : decode cX12_odds 35 = .ok (.iload_n 1, 1) := by decide +kernel
theorem dX12_odds_36 : decode cX12_odds 36 = .ok (.iadd, 1) := by decide +kernel
theorem dX12_odds_37 : decode cX12_odds 37 = .ok (.iaload, 1) := by decide +kernel
theorem dX12_odds_38 : decode cX12_odds 38 = .ok (.istore 4, 2) := by decide +kernel
theorem dX12_odds_40 : decode cX12_odds 40 = .ok (.iconst 0, 1) := by decide +kernel
theorem dX12_odds_41 : decode cX12_odds 41 = .ok (.istore 5, 2) := by decide +kernel
theorem dX12_odds_43 : decode cX12_odds 43 = .ok (.iconst 0, 1) := by decide +kernel
theorem dX12_odds_44 : decode cX12_odds 44 = .ok (.istore 6, 2) := by decide +kernel
theorem dX12_odds_46 : decode cX12_odds 46 = .ok (.iload 6, 2) := by decide +kernel
theorem dX12_odds_48 : decode cX12_odds 48 = .ok (.iload_n 2, 1) := by decide +kernel
theorem dX12_odds_49 : decode cX12_odds 49 = .ok (.if_icmp .ge 48, 3) := by decide +kernel
theorem dX12_odds_52 : decode cX12_odds 52 = .ok (.aload_n 0, 1) := by decide +kernel
theorem dX12_odds_53 : decode cX12_odds 53 = .ok (.bipush 20, 2) := by decide +kernel
theorem dX12_odds_55 : decode cX12_odds 55 = .ok (.iload_n 3, 1) := by decide +kernel
theorem dX12_odds_56 : decode cX12_odds 56 = .ok (.iload 6, 2) := by decide +kernel
theorem dX12_odds_58 : decode cX12_odds 58 = .ok (.iadd, 1) := by decide +kernel
theorem dX12_odds_59 : decode cX12_odds 59 = .ok (.invokevirtual 435, 3) := by decide +kernel
theorem dX12_odds_62 : decode cX12_odds 62 = .ok (.pop, 1) := by decide +kernel
theorem dX12_odds_63 : decode cX12_odds 63 = .ok (.iload 5, 2) := by decide +kernel
theorem dX12_odds_65 : decode cX12_odds 65 = .ok (.aload_n 0, 1) := by decide +kernel
theorem dX12_odds_66 : decode cX12_odds 66 = .ok (.getfield 33, 3) := by decide +kernel
theorem dX12_odds_69 : decode cX12_odds 69 = .ok (.bipush 114, 2) := by decide +kernel
theorem dX12_odds_71 : decode cX12_odds 71 = .ok (.iload_n 1, 1) := by decide +kernel
theorem dX12_odds_72 : decode cX12_odds 72 = .ok (.iadd, 1) := by decide +kernel
theorem dX12_odds_73 : decode cX12_odds 73 = .ok (.iaload, 1) := by decide +kernel
theorem dX12_odds_74 : decode cX12_odds 74 = .ok (.iload 4, 2) := by decide +kernel
theorem dX12_odds_76 : decode cX12_odds 76 = .ok (.if_icmp .le 7, 3) := by decide +kernel
theorem dX12_odds_79 : decode cX12_odds 79 = .ok (.iconst 1, 1) := by decide +kernel
theorem dX12_odds_80 : decode cX12_odds 80 = .ok (.goto 4, 3) := by decide +kernel
theorem dX12_odds_83 : decode cX12_odds 83 = .ok (.iconst 0, 1) := by decide +kernel
theorem dX12_odds_84 : decode cX12_odds 84 = .ok (.iadd, 1) := by decide +kernel
theorem dX12_odds_85 : decode cX12_odds 85 = .ok (.istore 5, 2) := by decide +kernel
theorem dX12_odds_87 : decode cX12_odds 87 = .ok (.aload_n 0, 1) := by decide +kernel
theorem dX12_odds_88 : decode cX12_odds 88 = .ok (.invokevirtual 395, 3) := by decide +kernel
theorem dX12_odds_91 : decode cX12_odds 91 = .ok (.iinc 6 1, 3) := by decide +kernel
theorem dX12_odds_94 : decode cX12_odds 94 = .ok (.goto (-48), 3) := by decide +kernel
theorem dX12_odds_97 : decode cX12_odds 97 = .ok (.iload 5, 2) := by decide +kernel
theorem dX12_odds_99 : decode cX12_odds 99 = .ok (.ireturn, 1) := by decide +kernel
theorem dX12_bookLine_0 : decode cX12_bookLine 0 = .ok (.iconst 4, 1) := by decide +kernel
theorem dX12_bookLine_1 : decode cX12_bookLine 1 = .ok (.aload_n 0, 1) := by decide +kernel
theorem dX12_bookLine_2 : decode cX12_bookLine 2 = .ok (.getfield 438, 3) := by decide +kernel
theorem dX12_bookLine_5 : decode cX12_bookLine 5 = .ok (.imul, 1) := by decide +kernel
theorem dX12_bookLine_6 : decode cX12_bookLine 6 = .ok (.istore_n 1, 1) := by decide +kernel
theorem dX12_bookLine_7 : decode cX12_bookLine 7 = .ok (.aload_n 0, 1) := by decide +kernel
theorem dX12_bookLine_8 : decode cX12_bookLine 8 = .ok (.ldc2_w 126, 3) := by decide +kernel
theorem dX12_bookLine_11 : decode cX12_bookLine 11 = .ok (.invokevirtual 229, 3) := by decide +kernel
theorem dX12_bookLine_14 : decode cX12_bookLine 14 = .ok (.ifCond .eq 7, 3) := by decide +kernel
theorem dX12_bookLine_17 : decode cX12_bookLine 17 = .ok (.iconst 1, 1) := by decide +kernel
theorem dX12_bookLine_18 : decode cX12_bookLine 18 = .ok (.goto 75, 3) := by decide +kernel
theorem dX12_bookLine_21 : decode cX12_bookLine 21 = .ok (.aload_n 0, 1) := by decide +kernel
theorem dX12_bookLine_22 : decode cX12_bookLine 22 = .ok (.ldc2_w 128, 3) := by decide +kernel
theorem dX12_bookLine_25 : decode cX12_bookLine 25 = .ok (.invokevirtual 229, 3) := by decide +kernel
theorem dX12_bookLine_28 : decode cX12_bookLine 28 = .ok (.ifCond .eq 7, 3) := by decide +kernel
theorem dX12_bookLine_31 : decode cX12_bookLine 31 = .ok (.iconst 2, 1) := by decide +kernel
theorem dX12_bookLine_32 : decode cX12_bookLine 32 = .ok (.goto 61, 3) := by decide +kernel
theorem dX12_bookLine_35 : decode cX12_bookLine 35 = .ok (.aload_n 0, 1) := by decide +kernel
theorem dX12_bookLine_36 : decode cX12_bookLine 36 = .ok (.ldc2_w 130, 3) := by decide +kernel
theorem dX12_bookLine_39 : decode cX12_bookLine 39 = .ok (.invokevirtual 229, 3) := by decide +kernel
theorem dX12_bookLine_42 : decode cX12_bookLine 42 = .ok (.ifCond .eq 7, 3) := by decide +kernel
theorem dX12_bookLine_45 : decode cX12_bookLine 45 = .ok (.iconst 3, 1) := by decide +kernel
theorem dX12_bookLine_46 : decode cX12_bookLine 46 = .ok (.goto 47, 3) := by decide +kernel
theorem dX12_bookLine_49 : decode cX12_bookLine 49 = .ok (.aload_n 0, 1) := by decide +kernel
theorem dX12_bookLine_50 : decode cX12_bookLine 50 = .ok (.ldc2_w 132, 3) := by decide +kernel
theorem dX12_bookLine_53 : decode cX12_bookLine 53 = .ok (.invokevirtual 229, 3) := by decide +kernel
theorem dX12_bookLine_56 : decode cX12_bookLine 56 = .ok (.ifCond .eq 7, 3) := by decide +kernel
theorem dX12_bookLine_59 : decode cX12_bookLine 59 = .ok (.iconst 4, 1) := by decide +kernel
theorem dX12_bookLine_60 : decode cX12_bookLine 60 = .ok (.goto 33, 3) := by decide +kernel
theorem dX12_bookLine_63 : decode cX12_bookLine 63 = .ok (.aload_n 0, 1) := by decide +kernel
theorem dX12_bookLine_64 : decode cX12_bookLine 64 = .ok (.ldc2_w 134, 3) := by decide +kernel
theorem dX12_bookLine_67 : decode cX12_bookLine 67 = .ok (.invokevirtual 229, 3) := by decide +kernel
theorem dX12_bookLine_70 : decode cX12_bookLine 70 = .ok (.ifCond .eq 7, 3) := by decide +kernel
theorem dX12_bookLine_73 : decode cX12_bookLine 73 = .ok (.iconst 5, 1) := by decide +kernel
theorem dX12_bookLine_74 : decode cX12_bookLine 74 = .ok (.goto 19, 3) := by decide +kernel
theorem dX12_bookLine_77 : decode cX12_bookLine 77 = .ok (.aload_n 0, 1) := by decide +kernel
theorem dX12_bookLine_78 : decode cX12_bookLine 78 = .ok (.ldc2_w 136, 3) := by decide +kernel
theorem dX12_bookLine_81 : decode cX12_bookLine 81 = .ok (.invokevirtual 229, 3) := by decide +kernel
theorem dX12_bookLine_84 : decode cX12_bookLine 84 = .ok (.ifCond .eq 8, 3) := by decide +kernel
theorem dX12_bookLine_87 : decode cX12_bookLine 87 = .ok (.bipush 6, 2) := by decide +kernel
theorem dX12_bookLine_89 : decode cX12_bookLine 89 = .ok (.goto 4, 3) := by decide +kernel
theorem dX12_bookLine_92 : decode cX12_bookLine 92 = .ok (.iconst 0, 1) := by decide +kernel
theorem dX12_bookLine_93 : decode cX12_bookLine 93 = .ok (.istore_n 2, 1) := by decide +kernel
theorem dX12_bookLine_94 : decode cX12_bookLine 94 = .ok (.iload_n 2, 1) := by decide +kernel
theorem dX12_bookLine_95 : decode cX12_bookLine 95 = .ok (.ifCond .ne 20, 3) := by decide +kernel
theorem dX12_bookLine_98 : decode cX12_bookLine 98 = .ok (.aload_n 0, 1) := by decide +kernel
theorem dX12_bookLine_99 : decode cX12_bookLine 99 = .ok (.bipush 7, 2) := by decide +kernel
theorem dX12_bookLine_101 : decode cX12_bookLine 101 = .ok (.aload_n 0, 1) := by decide +kernel
theorem dX12_bookLine_102 : decode cX12_bookLine 102 = .ok (.getfield 33, 3) := by decide +kernel
theorem dX12_bookLine_105 : decode cX12_bookLine 105 = .ok (.iconst 2, 1) := by decide +kernel
theorem dX12_bookLine_106 : decode cX12_bookLine 106 = .ok (.iaload, 1) := by decide +kernel
theorem dX12_bookLine_107 : decode cX12_bookLine 107 = .ok (.invokevirtual 226, 3) := by decide +kernel
theorem dX12_bookLine_110 : decode cX12_bookLine 110 = .ok (.ifCond .ne 5, 3) := by decide +kernel
theorem dX12_bookLine_113 : decode cX12_bookLine 113 = .ok (.iconst 0, 1) := by decide +kernel
theorem dX12_bookLine_114 : decode cX12_bookLine 114 = .ok (.ireturn, 1) := by decide +kernel
theorem dX12_bookLine_115 : decode cX12_bookLine 115 = .ok (.aload_n 0, 1) := by decide +kernel
theorem dX12_bookLine_116 : decode cX12_bookLine 116 = .ok (.getfield 438, 3) := by decide +kernel
theorem dX12_bookLine_119 : decode cX12_bookLine 119 = .ok (.bipush 40, 2) := by decide +kernel
theorem dX12_bookLine_121 : decode cX12_bookLine 121 = .ok (.if_icmp .ne 9, 3) := by decide +kernel
theorem dX12_bookLine_124 : decode cX12_bookLine 124 = .ok (.aload_n 0, 1) := by decide +kernel
theorem dX12_bookLine_125 : decode cX12_bookLine 125 = .ok (.iconst 4, 1) := by decide +kernel
theorem dX12_bookLine_126 : decode cX12_bookLine 126 = .ok (.invokevirtual 201, 3) := by decide +kernel
theorem dX12_bookLine_129 : decode cX12_bookLine 129 = .ok (.ireturn, 1) := by decide +kernel
theorem dX12_bookLine_130 : decode cX12_bookLine 130 = .ok (.aload_n 0, 1) := by decide +kernel
theorem dX12_bookLine_131 : decode cX12_bookLine 131 = .ok (.getfield 211, 3) := by decide +kernel
theorem dX12_bookLine_134 : decode cX12_bookLine 134 = .ok (.istore_n 3, 1) := by decide +kernel
theorem dX12_bookLine_135 : decode cX12_bookLine 135 = .ok (.aload_n 0, 1) := by decide +kernel
theorem dX12_bookLine_136 : decode cX12_bookLine 136 = .ok (.invokevirtual 204, 3) := by decide +kernel
theorem dX12_bookLine_139 : decode cX12_bookLine 139 = .ok (.aload_n 0, 1) := by decide +kernel
theorem dX12_bookLine_140 : decode cX12_bookLine 140 = .ok (.getfield 40, 3) := by decide +kernel
theorem dX12_bookLine_143 : decode cX12_bookLine 143 = .ok (.iload_n 1, 1) := by decide +kernel
theorem dX12_bookLine_144 : decode cX12_bookLine 144 = .ok (.iload_n 2, 1) := by decide +kernel
theorem dX12_bookLine_145 : decode cX12_bookLine 145 = .ok (.iastore, 1) := by decide +kernel
theorem dX12_bookLine_146 : decode cX12_bookLine 146 = .ok (.iload_n 2, 1) := by decide +kernel
theorem dX12_bookLine_147 : decode cX12_bookLine 147 = .ok (.ifCond .ne 35, 3) := by decide +kernel
theorem dX12_bookLine_150 : decode cX12_bookLine 150 = .ok (.aload_n 0, 1) := by decide +kernel
theorem dX12_bookLine_151 : decode cX12_bookLine 151 = .ok (.ldc2_w 124, 3) := by decide +kernel
theorem dX12_bookLine_154 : decode cX12_bookLine 154 = .ok (.invokevirtual 229, 3) := by decide +kernel
theorem dX12_bookLine_157 : decode cX12_bookLine 157 = .ok (.ifCond .ne 9, 3) := by decide +kernel
theorem dX12_bookLine_160 : decode cX12_bookLine 160 = .ok (.aload_n 0, 1) := by decide +kernel
theorem dX12_bookLine_161 : decode cX12_bookLine 161 = .ok (.iconst 1, 1) := by decide +kernel
theorem dX12_bookLine_162 : decode cX12_bookLine 162 = .ok (.invokevirtual 201, 3) := by decide +kernel
theorem dX12_bookLine_165 : decode cX12_bookLine 165 = .ok (.ireturn, 1) := by decide +kernel
theorem dX12_bookLine_166 : decode cX12_bookLine 166 = .ok (.aload_n 0, 1) := by decide +kernel
theorem dX12_bookLine_167 : decode cX12_bookLine 167 = .ok (.invokevirtual 204, 3) := by decide +kernel
theorem dX12_bookLine_170 : decode cX12_bookLine 170 = .ok (.aload_n 0, 1) := by decide +kernel
theorem dX12_bookLine_171 : decode cX12_bookLine 171 = .ok (.getfield 40, 3) := by decide +kernel
theorem dX12_bookLine_174 : decode cX12_bookLine 174 = .ok (.iload_n 1, 1) := by decide +kernel
theorem dX12_bookLine_175 : decode cX12_bookLine 175 = .ok (.iconst 1, 1) := by decide +kernel
theorem dX12_bookLine_176 : decode cX12_bookLine 176 = .ok (.iadd, 1) := by decide +kernel
theorem dX12_bookLine_177 : decode cX12_bookLine 177 = .ok (.iload_n 3, 1) := by decide +kernel
theorem dX12_bookLine_178 : decode cX12_bookLine 178 = .ok (.iastore, 1) := by decide +kernel
theorem dX12_bookLine_179 : decode cX12_bookLine 179 = .ok (.goto 71, 3) := by decide +kernel
theorem dX12_bookLine_182 : decode cX12_bookLine 182 = .ok (.iload_n 2, 1) := by decide +kernel
theorem dX12_bookLine_183 : decode cX12_bookLine 183 = .ok (.bipush 6, 2) := by decide +kernel
theorem dX12_bookLine_185 : decode cX12_bookLine 185 = .ok (.if_icmp .ne 13, 3) := by decide +kernel
theorem dX12_bookLine_188 : decode cX12_bookLine 188 = .ok (.aload_n 0, 1) := by decide +kernel
theorem dX12_bookLine_189 : decode cX12_bookLine 189 = .ok (.iconst 1, 1) := by decide +kernel
theorem dX12_bookLine_190 : decode cX12_bookLine 190 = .ok (.bipush 60, 2) := by decide +kernel
theorem dX12_bookLine_192 : decode cX12_bookLine 192 = .ok (.invokevirtual 214, 3) := by decide +kernel
theorem dX12_bookLine_195 : decode cX12_bookLine 195 = .ok (.goto 34, 3) := by decide +kernel
theorem dX12_bookLine_198 : decode cX12_bookLine 198 = .ok (.iload_n 2, 1) := by decide +kernel
theorem dX12_bookLine_199 : decode cX12_bookLine 199 = .ok (.iconst 3, 1) := by decide +kernel
theorem dX12_bookLine_200 : decode cX12_bookLine 200 = .ok (.if_icmp .eq 8, 3) := by decide +kernel
theorem dX12_bookLine_203 : decode cX12_bookLine 203 = .ok (.iload_n 2, 1) := by decide +kernel
theorem dX12_bookLine_204 : decode cX12_bookLine 204 = .ok (.iconst 4, 1) := by decide +kernel
theorem dX12_bookLine_205 : decode cX12_bookLine 205 = .ok (.if_icmp .ne 13, 3) := by decide +kernel
theorem dX12_bookLine_208 : decode cX12_bookLine 208 = .ok (.aload_n 0, 1) := by decide +kernel
theorem dX12_bookLine_209 : decode cX12_bookLine 209 = .ok (.iconst 0, 1) := by decide +kernel
theorem dX12_bookLine_210 : decode cX12_bookLine 210 = .ok (.bipush 11, 2) := by decide +kernel
theorem dX12_bookLine_212 : decode cX12_bookLine 212 = .ok (.invokevirtual 214, 3) := by decide +kernel
theorem dX12_bookLine_215 : decode cX12_bookLine 215 = .ok (.goto 14, 3) := by decide +kernel
theorem dX12_bookLine_218 : decode cX12_bookLine 218 = .ok (.aload_n 0, 1) := by decide +kernel
theorem dX12_bookLine_219 : decode cX12_bookLine 219 = .ok (.iconst 0, 1) := by decide +kernel
theorem dX12_bookLine_220 : decode cX12_bookLine 220 = .ok (.aload_n 0, 1) := by decide +kernel
theorem dX12_bookLine_221 : decode cX12_bookLine 221 = .ok (.getfield 33, 3) := by decide +kernel
theorem dX12_bookLine_224 : decode cX12_bookLine 224 = .ok (.iconst 0, 1) := by decide +kernel
theorem dX12_bookLine_225 : decode cX12_bookLine 225 = .ok (.iaload, 1) := by decide +kernel
theorem dX12_bookLine_226 : decode cX12_bookLine 226 = .ok (.invokevirtual 260, 3) := by decide +kernel
theorem dX12_bookLine_229 : decode cX12_bookLine 229 = .ok (.istore 4, 2) := by decide +kernel
theorem dX12_bookLine_231 : decode cX12_bookLine 231 = .ok (.iload 4, 2) := by decide +kernel
theorem dX12_bookLine_233 : decode cX12_bookLine 233 = .ok (.ifCond .ne 5, 3) := by decide +kernel
theorem dX12_bookLine_236 : decode cX12_bookLine 236 = .ok (.iconst 0, 1) := by decide +kernel
theorem dX12_bookLine_237 : decode cX12_bookLine 237 = .ok (.ireturn, 1) := by decide +kernel
theorem dX12_bookLine_238 : decode cX12_bookLine 238 = .ok (.aload_n 0, 1) := by decide +kernel
theorem dX12_bookLine_239 : decode cX12_bookLine 239 = .ok (.getfield 40, 3) := by decide +kernel
theorem dX12_bookLine_242 : decode cX12_bookLine 242 = .ok (.iload_n 1, 1) := by decide +kernel
theorem dX12_bookLine_243 : decode cX12_bookLine 243 = .ok (.iconst 1, 1) := by decide +kernel
theorem dX12_bookLine_244 : decode cX12_bookLine 244 = .ok (.iadd, 1) := by decide +kernel
theorem dX12_bookLine_245 : decode cX12_bookLine 245 = .ok (.aload_n 0, 1) := by decide +kernel
theorem dX12_bookLine_246 : decode cX12_bookLine 246 = .ok (.getfield 211, 3) := by decide +kernel
theorem dX12_bookLine_249 : decode cX12_bookLine 249 = .ok (.iastore, 1) := by decide +kernel
theorem dX12_bookLine_250 : decode cX12_bookLine 250 = .ok (.iload_n 2, 1) := by decide +kernel
theorem dX12_bookLine_251 : decode cX12_bookLine 251 = .ok (.iconst 3, 1) := by decide +kernel
theorem dX12_bookLine_252 : decode cX12_bookLine 252 = .ok (.if_icmp .eq 14, 3) := by decide +kernel
theorem dX12_bookLine_255 : decode cX12_bookLine 255 = .ok (.iload_n 2, 1) := by decide +kernel
theorem dX12_bookLine_256 : decode cX12_bookLine 256 = .ok (.iconst 4, 1) := by decide +kernel
theorem dX12_bookLine_257 : decode cX12_bookLine 257 = .ok (.if_icmp .eq 9, 3) := by decide +kernel
theorem dX12_bookLine_260 : decode cX12_bookLine 260 = .ok (.iload_n 2, 1) := by decide +kernel
theorem dX12_bookLine_261 : decode cX12_bookLine 261 = .ok (.bipush 6, 2) := by decide +kernel
theorem dX12_bookLine_263 : decode cX12_bookLine 263 = .ok (.if_icmp .ne 5, 3) := by decide +kernel
theorem dX12_bookLine_266 : decode cX12_bookLine 266 = .ok (.iconst 1, 1) := by decide +kernel
theorem dX12_bookLine_267 : decode cX12_bookLine 267 = .ok (.ireturn, 1) := by decide +kernel
theorem dX12_bookLine_268 : decode cX12_bookLine 268 = .ok (.aload_n 0, 1) := by decide +kernel
theorem dX12_bookLine_269 : decode cX12_bookLine 269 = .ok (.iconst 0, 1) := by decide +kernel
theorem dX12_bookLine_270 : decode cX12_bookLine 270 = .ok (.aload_n 0, 1) := by decide +kernel
theorem dX12_bookLine_271 : decode cX12_bookLine 271 = .ok (.getfield 33, 3) := by decide +kernel
theorem dX12_bookLine_274 : decode cX12_bookLine 274 = .ok (.iconst 0, 1) := by decide +kernel
theorem dX12_bookLine_275 : decode cX12_bookLine 275 = .ok (.iaload, 1) := by decide +kernel
theorem dX12_bookLine_276 : decode cX12_bookLine 276 = .ok (.invokevirtual 260, 3) := by decide +kernel
theorem dX12_bookLine_279 : decode cX12_bookLine 279 = .ok (.ifCond .ne 5, 3) := by decide +kernel
theorem dX12_bookLine_282 : decode cX12_bookLine 282 = .ok (.iconst 0, 1) := by decide +kernel
theorem dX12_bookLine_283 : decode cX12_bookLine 283 = .ok (.ireturn, 1) := by decide +kernel
theorem dX12_bookLine_284 : decode cX12_bookLine 284 = .ok (.aload_n 0, 1) := by decide +kernel
theorem dX12_bookLine_285 : decode cX12_bookLine 285 = .ok (.getfield 40, 3) := by decide +kernel
theorem dX12_bookLine_288 : decode cX12_bookLine 288 = .ok (.iload_n 1, 1) := by decide +kernel
theorem dX12_bookLine_289 : decode cX12_bookLine 289 = .ok (.iconst 2, 1) := by decide +kernel
theorem dX12_bookLine_290 : decode cX12_bookLine 290 = .ok (.iadd, 1) := by decide +kernel
theorem dX12_bookLine_291 : decode cX12_bookLine 291 = .ok (.aload_n 0, 1) := by decide +kernel
theorem dX12_bookLine_292 : decode cX12_bookLine 292 = .ok (.getfield 211, 3) := by decide +kernel
theorem dX12_bookLine_295 : decode cX12_bookLine 295 = .ok (.iastore, 1) := by decide +kernel
theorem dX12_bookLine_296 : decode cX12_bookLine 296 = .ok (.iload_n 2, 1) := by decide +kernel
theorem dX12_bookLine_297 : decode cX12_bookLine 297 = .ok (.iconst 5, 1) := by decide +kernel
theorem dX12_bookLine_298 : decode cX12_bookLine 298 = .ok (.if_icmp .eq 5, 3) := by decide +kernel
theorem dX12_bookLine_301 : decode cX12_bookLine 301 = .ok (.iconst 1, 1) := by decide +kernel
theorem dX12_bookLine_302 : decode cX12_bookLine 302 = .ok (.ireturn, 1) := by decide +kernel
theorem dX12_bookLine_303 : decode cX12_bookLine 303 = .ok (.aload_n 0, 1) := by decide +kernel
theorem dX12_bookLine_304 : decode cX12_bookLine 304 = .ok (.iconst 1, 1) := by decide +kernel
theorem dX12_bookLine_305 : decode cX12_bookLine 305 = .ok (.bipush 99, 2) := by decide +kernel
theorem dX12_bookLine_307 : decode cX12_bookLine 307 = .ok (.invokevirtual 214, 3) := by decide +kernel
theorem dX12_bookLine_310 : decode cX12_bookLine 310 = .ok (.ifCond .ne 5, 3) := by decide +kernel
theorem dX12_bookLine_313 : decode cX12_bookLine 313 = .ok (.iconst 0, 1) := by decide +kernel
theorem dX12_bookLine_314 : decode cX12_bookLine 314 = .ok (.ireturn, 1) := by decide +kernel
theorem dX12_bookLine_315 : decode cX12_bookLine 315 = .ok (.aload_n 0, 1) := by decide +kernel
theorem dX12_bookLine_316 : decode cX12_bookLine 316 = .ok (.getfield 40, 3) := by decide +kernel
theorem dX12_bookLine_319 : decode cX12_bookLine 319 = .ok (.iload_n 1, 1) := by decide +kernel
theorem dX12_bookLine_320 : decode cX12_bookLine 320 = .ok (.iconst 3, 1) := by decide +kernel
theorem dX12_bookLine_321 : decode cX12_bookLine 321 = .ok (.iadd, 1) := by decide +kernel
theorem dX12_bookLine_322 : decode cX12_bookLine 322 = .ok (.aload_n 0, 1) := by decide +kernel
theorem dX12_bookLine_323 : decode cX12_bookLine 323 = .ok (.getfield 211, 3) := by decide +kernel
theorem dX12_bookLine_326 : decode cX12_bookLine 326 = .ok (.iastore, 1) := by decide +kernel
theorem dX12_bookLine_327 : decode cX12_bookLine 327 = .ok (.iconst 1, 1) := by decide +kernel
theorem dX12_bookLine_328 : decode cX12_bookLine 328 = .ok (.ireturn, 1) := by decide +kernel
theorem dX12_does_0 : decode cX12_does 0 = .ok (.iconst 0, 1) := by decide +kernel
theorem dX12_does_1 : decode cX12_does 1 = .ok (.istore 5, 2) := by decide +kernel
theorem dX12_does_3 : decode cX12_does 3 = .ok (.iload_n 1, 1) := by decide +kernel
theorem dX12_does_4 : decode cX12_does 4 = .ok (.tableswitch 203 0 5 #[40, 62, 93, 139, 139, 177], 40) := by decide +kernel
theorem dX12_does_44 : decode cX12_does 44 = .ok (.aload_n 0, 1) := by decide +kernel
theorem dX12_does_45 : decode cX12_does 45 = .ok (.iload_n 2, 1) := by decide +kernel
theorem dX12_does_46 : decode cX12_does 46 = .ok (.iload_n 3, 1) := by decide +kernel
theorem dX12_does_47 : decode cX12_does 47 = .ok (.invokevirtual 292, 3) := by decide +kernel
theorem dX12_does_50 : decode cX12_does 50 = .ok (.istore 5, 2) := by decide +kernel
theorem dX12_does_52 : decode cX12_does 52 = .ok (.iload 5, 2) := by decide +kernel
theorem dX12_does_54 : decode cX12_does 54 = .ok (.ifCond .ne 177, 3) := by decide +kernel
theorem dX12_does_57 : decode cX12_does 57 = .ok (.aload_n 0, 1) := by decide +kernel
theorem dX12_does_58 : decode cX12_does 58 = .ok (.iload_n 2, 1) := by decide +kernel
theorem dX12_does_59 : decode cX12_does 59 = .ok (.iload_n 3, 1) := by decide +kernel
theorem dX12_does_60 : decode cX12_does 60 = .ok (.invokevirtual 330, 3) := by decide +kernel
theorem dX12_does_63 : decode cX12_does 63 = .ok (.goto 168, 3) := by decide +kernel
theorem dX12_does_66 : decode cX12_does 66 = .ok (.aload_n 0, 1) := by decide +kernel
theorem dX12_does_67 : decode cX12_does 67 = .ok (.iload_n 2, 1) := by decide +kernel
theorem dX12_does_68 : decode cX12_does 68 = .ok (.iload_n 3, 1) := by decide +kernel
theorem dX12_does_69 : decode cX12_does 69 = .ok (.invokevirtual 334, 3) := by decide +kernel
theorem dX12_does_72 : decode cX12_does 72 = .ok (.istore 5, 2) := by decide +kernel
theorem dX12_does_74 : decode cX12_does 74 = .ok (.iload 5, 2) := by decide +kernel
theorem dX12_does_76 : decode cX12_does 76 = .ok (.ifCond .ne 155, 3) := by decide +kernel
theorem dX12_does_79 : decode cX12_does 79 = .ok (.aload_n 0, 1) := by decide +kernel
theorem dX12_does_80 : decode cX12_does 80 = .ok (.getfield 33, 3) := by decide +kernel
theorem dX12_does_83 : decode cX12_does 83 = .ok (.bipush 101, 2) := by decide +kernel
theorem dX12_does_85 : decode cX12_does 85 = .ok (.iload_n 2, 1) := by decide +kernel
theorem dX12_does_86 : decode cX12_does 86 = .ok (.iadd, 1) := by decide +kernel
theorem dX12_does_87 : decode cX12_does 87 = .ok (.dup2, 1) := by decide +kernel
theorem dX12_does_88 : decode cX12_does 88 = .ok (.iaload, 1) := by decide +kernel
theorem dX12_does_89 : decode cX12_does 89 = .ok (.iconst 1, 1) := by decide +kernel
theorem dX12_does_90 : decode cX12_does 90 = .ok (.iload_n 3, 1) := by decide +kernel
theorem dX12_does_91 : decode cX12_does 91 = .ok (.ishl, 1) := by decide +kernel
theorem dX12_does_92 : decode cX12_does 92 = .ok (.ior, 1) := by decide +kernel
theorem dX12_does_93 : decode cX12_does 93 = .ok (.iastore, 1) := by decide +kernel
theorem dX12_does_94 : decode cX12_does 94 = .ok (.goto 137, 3) := by decide +kernel
theorem dX12_does_97 : decode cX12_does 97 = .ok (.aload_n 0, 1) := by decide +kernel
theorem dX12_does_98 : decode cX12_does 98 = .ok (.getfield 33, 3) := by decide +kernel
theorem dX12_does_101 : decode cX12_does 101 = .ok (.bipush 101, 2) := by decide +kernel
theorem dX12_does_103 : decode cX12_does 103 = .ok (.iload_n 2, 1) := by decide +kernel
theorem dX12_does_104 : decode cX12_does 104 = .ok (.iadd, 1) := by decide +kernel
theorem dX12_does_105 : decode cX12_does 105 = .ok (.iaload, 1) := by decide +kernel
theorem dX12_does_106 : decode cX12_does 106 = .ok (.iload_n 3, 1) := by decide +kernel
theorem dX12_does_107 : decode cX12_does 107 = .ok (.invokestatic 257, 3) := by decide +kernel
theorem dX12_does_110 : decode cX12_does 110 = .ok (.ifCond .eq 7, 3) := by decide +kernel
theorem dX12_does_113 : decode cX12_does 113 = .ok (.iconst 0, 1) := by decide +kernel
theorem dX12_does_114 : decode cX12_does 114 = .ok (.goto 4, 3) := by decide +kernel
theorem dX12_does_117 : decode cX12_does 117 = .ok (.iconst 1, 1) := by decide +kernel
theorem dX12_does_118 : decode cX12_does 118 = .ok (.istore 5, 2) := by decide +kernel
theorem dX12_does_120 : decode cX12_does 120 = .ok (.iload 5, 2) := by decide +kernel
theorem dX12_does_122 : decode cX12_does 122 = .ok (.ifCond .ne 109, 3) := by decide +kernel
theorem dX12_does_125 : decode cX12_does 125 = .ok (.aload_n 0, 1) := by decide +kernel
theorem dX12_does_126 : decode cX12_does 126 = .ok (.getfield 33, 3) := by decide +kernel
theorem dX12_does_129 : decode cX12_does 129 = .ok (.bipush 101, 2) := by decide +kernel
theorem dX12_does_131 : decode cX12_does 131 = .ok (.iload_n 2, 1) := by decide +kernel
theorem dX12_does_132 : decode cX12_does 132 = .ok (.iadd, 1) := by decide +kernel
theorem dX12_does_133 : decode cX12_does 133 = .ok (.dup2, 1) := by decide +kernel
theorem dX12_does_134 : decode cX12_does 134 = .ok (.iaload, 1) := by decide +kernel
theorem dX12_does_135 : decode cX12_does 135 = .ok (.iconst 1, 1) := by decide +kernel
theorem dX12_does_136 : decode cX12_does 136 = .ok (.iload_n 3, 1) := by decide +kernel
theorem dX12_does_137 : decode cX12_does 137 = .ok (.ishl, 1) := by decide +kernel
theorem dX12_does_138 : decode cX12_does 138 = .ok (.ixor, 1) := by decide +kernel
theorem dX12_does_139 : decode cX12_does 139 = .ok (.iastore, 1) := by decide +kernel
theorem dX12_does_140 : decode cX12_does 140 = .ok (.goto 91, 3) := by decide +kernel
theorem dX12_does_143 : decode cX12_does 143 = .ok (.aload_n 0, 1) := by decide +kernel
theorem dX12_does_144 : decode cX12_does 144 = .ok (.iload_n 2, 1) := by decide +kernel
theorem dX12_does_145 : decode cX12_does 145 = .ok (.iload_n 1, 1) := by decide +kernel
theorem dX12_does_146 : decode cX12_does 146 = .ok (.iconst 3, 1) := by decide +kernel
theorem dX12_does_147 : decode cX12_does 147 = .ok (.if_icmp .ne 7, 3) := by decide +kernel
theorem dX12_does_150 : decode cX12_does 150 = .ok (.iconst 1, 1) := by decide +kernel
theorem dX12_does_151 : decode cX12_does 151 = .ok (.goto 4, 3) := by decide +kernel
theorem dX12_does_154 : decode cX12_does 154 = .ok (.iconst 0, 1) := by decide +kernel
theorem dX12_does_155 : decode cX12_does 155 = .ok (.invokevirtual 337, 3) := by decide +kernel
theorem dX12_does_158 : decode cX12_does 158 = .ok (.istore 5, 2) := by decide +kernel
theorem dX12_does_160 : decode cX12_does 160 = .ok (.iload 5, 2) := by decide +kernel
theorem dX12_does_162 : decode cX12_does 162 = .ok (.ifCond .ne 69, 3) := by decide +kernel
theorem dX12_does_165 : decode cX12_does 165 = .ok (.aload_n 0, 1) := by decide +kernel
theorem dX12_does_166 : decode cX12_does 166 = .ok (.getfield 33, 3) := by decide +kernel
theorem dX12_does_169 : decode cX12_does 169 = .ok (.bipush 93, 2) := by decide +kernel
theorem dX12_does_171 : decode cX12_does 171 = .ok (.dup2, 1) := by decide +kernel
theorem dX12_does_172 : decode cX12_does 172 = .ok (.iaload, 1) := by decide +kernel
theorem dX12_does_173 : decode cX12_does 173 = .ok (.iconst 1, 1) := by decide +kernel
theorem dX12_does_174 : decode cX12_does 174 = .ok (.iload_n 2, 1) := by decide +kernel
theorem dX12_does_175 : decode cX12_does 175 = .ok (.ishl, 1) := by decide +kernel
theorem dX12_does_176 : decode cX12_does 176 = .ok (.ixor, 1) := by decide +kernel
theorem dX12_does_177 : decode cX12_does 177 = .ok (.iastore, 1) := by decide +kernel
theorem dX12_does_178 : decode cX12_does 178 = .ok (.goto 53, 3) := by decide +kernel
theorem dX12_does_181 : decode cX12_does 181 = .ok (.aload_n 0, 1) := by decide +kernel
theorem dX12_does_182 : decode cX12_does 182 = .ok (.iload_n 2, 1) := by decide +kernel
theorem dX12_does_183 : decode cX12_does 183 = .ok (.iload_n 3, 1) := by decide +kernel
theorem dX12_does_184 : decode cX12_does 184 = .ok (.iload 4, 2) := by decide +kernel
theorem dX12_does_186 : decode cX12_does 186 = .ok (.invokevirtual 344, 3) := by decide +kernel
theorem dX12_does_189 : decode cX12_does 189 = .ok (.istore 5, 2) := by decide +kernel
theorem dX12_does_191 : decode cX12_does 191 = .ok (.iload 5, 2) := by decide +kernel
theorem dX12_does_193 : decode cX12_does 193 = .ok (.ifCond .ne 38, 3) := by decide +kernel
theorem dX12_does_196 : decode cX12_does 196 = .ok (.aload_n 0, 1) := by decide +kernel
theorem dX12_does_197 : decode cX12_does 197 = .ok (.iload_n 2, 1) := by decide +kernel
theorem dX12_does_198 : decode cX12_does 198 = .ok (.iload_n 3, 1) := by decide +kernel
theorem dX12_does_199 : decode cX12_does 199 = .ok (.iload 4, 2) := by decide +kernel
theorem dX12_does_201 : decode cX12_does 201 = .ok (.invokevirtual 347, 3) := by decide +kernel
theorem dX12_does_204 : decode cX12_does 204 = .ok (.goto 27, 3) := by decide +kernel
theorem dX12_does_207 : decode cX12_does 207 = .ok (.aload_n 0, 1) := by decide +kernel
theorem dX12_does_208 : decode cX12_does 208 = .ok (.getfield 33, 3) := by decide +kernel
theorem dX12_does_211 : decode cX12_does 211 = .ok (.bipush 91, 2) := by decide +kernel
theorem dX12_does_213 : decode cX12_does 213 = .ok (.iaload, 1) := by decide +kernel
