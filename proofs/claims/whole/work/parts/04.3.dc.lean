theorem dX11_road_99 : decode cX11_road 99 = .ok (.getfield 142, 3) := by decide +kernel
theorem dX11_road_102 : decode cX11_road 102 = .ok (.getfield 197, 3) := by decide +kernel
theorem dX11_road_105 : decode cX11_road 105 = .ok (.iload_n 1, 1) := by decide +kernel
theorem dX11_road_106 : decode cX11_road 106 = .ok (.iaload, 1) := by decide +kernel
theorem dX11_road_107 : decode cX11_road 107 = .ok (.ireturn, 1) := by decide +kernel
theorem dX11_road_108 : decode cX11_road 108 = .ok (.aload_n 0, 1) := by decide +kernel
theorem dX11_road_109 : decode cX11_road 109 = .ok (.getfield 72, 3) := by decide +kernel
theorem dX11_road_112 : decode cX11_road 112 = .ok (.getfield 200, 3) := by decide +kernel
theorem dX11_road_115 : decode cX11_road 115 = .ok (.iload_n 1, 1) := by decide +kernel
theorem dX11_road_116 : decode cX11_road 116 = .ok (.invokestatic 203, 3) := by decide +kernel
theorem dX11_road_119 : decode cX11_road 119 = .ok (.ifCond .eq 7, 3) := by decide +kernel
theorem dX11_road_122 : decode cX11_road 122 = .ok (.iconst 1, 1) := by decide +kernel
theorem dX11_road_123 : decode cX11_road 123 = .ok (.goto 4, 3) := by decide +kernel
theorem dX11_road_126 : decode cX11_road 126 = .ok (.iconst 0, 1) := by decide +kernel
theorem dX11_road_127 : decode cX11_road 127 = .ok (.ireturn, 1) := by decide +kernel
theorem dX11_road_128 : decode cX11_road 128 = .ok (.iconst (-1), 1) := by decide +kernel
theorem dX11_road_129 : decode cX11_road 129 = .ok (.ireturn, 1) := by decide +kernel
theorem dX11_now_0 : decode cX11_now 0 = .ok (.iload_n 1, 1) := by decide +kernel
theorem dX11_now_1 : decode cX11_now 1 = .ok (.tableswitch 111 0 7 #[47, 55, 63, 71, 79, 87, 95, 103], 47) := by decide +kernel
theorem dX11_now_48 : decode cX11_now 48 = .ok (.aload_n 0, 1) := by decide +kernel
theorem dX11_now_49 : decode cX11_now 49 = .ok (.getfield 72, 3) := by decide +kernel
theorem dX11_now_52 : decode cX11_now 52 = .ok (.getfield 207, 3) := by decide +kernel
theorem dX11_now_55 : decode cX11_now 55 = .ok (.ireturn, 1) := by decide +kernel
theorem dX11_now_56 : decode cX11_now 56 = .ok (.aload_n 0, 1) := by decide +kernel
theorem dX11_now_57 : decode cX11_now 57 = .ok (.getfield 72, 3) := by decide +kernel
theorem dX11_now_60 : decode cX11_now 60 = .ok (.invokevirtual 210, 3) := by decide +kernel
theorem dX11_now_63 : decode cX11_now 63 = .ok (.ireturn, 1) := by decide +kernel
theorem dX11_now_64 : decode cX11_now 64 = .ok (.aload_n 0, 1) := by decide +kernel
theorem dX11_now_65 : decode cX11_now 65 = .ok (.getfield 72, 3) := by decide +kernel
theorem dX11_now_68 : decode cX11_now 68 = .ok (.invokevirtual 213, 3) := by decide +kernel
theorem dX11_now_71 : decode cX11_now 71 = .ok (.ireturn, 1) := by decide +kernel
theorem dX11_now_72 : decode cX11_now 72 = .ok (.aload_n 0, 1) := by decide +kernel
theorem dX11_now_73 : decode cX11_now 73 = .ok (.getfield 72, 3) := by decide +kernel
theorem dX11_now_76 : decode cX11_now 76 = .ok (.invokevirtual 216, 3) := by decide +kernel
theorem dX11_now_79 : decode cX11_now 79 = .ok (.ireturn, 1) := by decide +kernel
theorem dX11_now_80 : decode cX11_now 80 = .ok (.aload_n 0, 1) := by decide +kernel
theorem dX11_now_81 : decode cX11_now 81 = .ok (.getfield 72, 3) := by decide +kernel
theorem dX11_now_84 : decode cX11_now 84 = .ok (.getfield 200, 3) := by decide +kernel
theorem dX11_now_87 : decode cX11_now 87 = .ok (.ireturn, 1) := by decide +kernel
theorem dX11_now_88 : decode cX11_now 88 = .ok (.aload_n 0, 1) := by decide +kernel
theorem dX11_now_89 : decode cX11_now 89 = .ok (.getfield 72, 3) := by decide +kernel
theorem dX11_now_92 : decode cX11_now 92 = .ok (.invokevirtual 219, 3) := by decide +kernel
theorem dX11_now_95 : decode cX11_now 95 = .ok (.ireturn, 1) := by decide +kernel
theorem dX11_now_96 : decode cX11_now 96 = .ok (.aload_n 0, 1) := by decide +kernel
theorem dX11_now_97 : decode cX11_now 97 = .ok (.getfield 72, 3) := by decide +kernel
theorem dX11_now_100 : decode cX11_now 100 = .ok (.invokevirtual 222, 3) := by decide +kernel
theorem dX11_now_103 : decode cX11_now 103 = .ok (.ireturn, 1) := by decide +kernel
theorem dX11_now_104 : decode cX11_now 104 = .ok (.aload_n 0, 1) := by decide +kernel
theorem dX11_now_105 : decode cX11_now 105 = .ok (.getfield 72, 3) := by decide +kernel
theorem dX11_now_108 : decode cX11_now 108 = .ok (.invokevirtual 225, 3) := by decide +kernel
theorem dX11_now_111 : decode cX11_now 111 = .ok (.ireturn, 1) := by decide +kernel
theorem dX11_now_112 : decode cX11_now 112 = .ok (.iconst (-1), 1) := by decide +kernel
theorem dX11_now_113 : decode cX11_now 113 = .ok (.ireturn, 1) := by decide +kernel
theorem dX11_cross_0 : decode cX11_cross 0 = .ok (.aload_n 0, 1) := by decide +kernel
theorem dX11_cross_1 : decode cX11_cross 1 = .ok (.iload_n 1, 1) := by decide +kernel
theorem dX11_cross_2 : decode cX11_cross 2 = .ok (.invokevirtual 135, 3) := by decide +kernel
theorem dX11_cross_5 : decode cX11_cross 5 = .ok (.ifCond .eq 22, 3) := by decide +kernel
theorem dX11_cross_8 : decode cX11_cross 8 = .ok (.aload_n 0, 1) := by decide +kernel
theorem dX11_cross_9 : decode cX11_cross 9 = .ok (.iload_n 2, 1) := by decide +kernel
theorem dX11_cross_10 : decode cX11_cross 10 = .ok (.invokevirtual 167, 3) := by decide +kernel
theorem dX11_cross_13 : decode cX11_cross 13 = .ok (.ifCond .eq 14, 3) := by decide +kernel
theorem dX11_cross_16 : decode cX11_cross 16 = .ok (.aload_n 0, 1) := by decide +kernel
theorem dX11_cross_17 : decode cX11_cross 17 = .ok (.iconst 0, 1) := by decide +kernel
theorem dX11_cross_18 : decode cX11_cross 18 = .ok (.iload_n 1, 1) := by decide +kernel
theorem dX11_cross_19 : decode cX11_cross 19 = .ok (.iload_n 2, 1) := by decide +kernel
theorem dX11_cross_20 : decode cX11_cross 20 = .ok (.iconst 0, 1) := by decide +kernel
theorem dX11_cross_21 : decode cX11_cross 21 = .ok (.invokevirtual 228, 3) := by decide +kernel
theorem dX11_cross_24 : decode cX11_cross 24 = .ok (.goto 4, 3) := by decide +kernel
theorem dX11_cross_27 : decode cX11_cross 27 = .ok (.iconst (-1), 1) := by decide +kernel
theorem dX11_cross_28 : decode cX11_cross 28 = .ok (.ireturn, 1) := by decide +kernel
theorem dX11_pact_0 : decode cX11_pact 0 = .ok (.aload_n 0, 1) := by decide +kernel
theorem dX11_pact_1 : decode cX11_pact 1 = .ok (.iload_n 1, 1) := by decide +kernel
theorem dX11_pact_2 : decode cX11_pact 2 = .ok (.invokevirtual 167, 3) := by decide +kernel
theorem dX11_pact_5 : decode cX11_pact 5 = .ok (.ifCond .eq 22, 3) := by decide +kernel
theorem dX11_pact_8 : decode cX11_pact 8 = .ok (.aload_n 0, 1) := by decide +kernel
theorem dX11_pact_9 : decode cX11_pact 9 = .ok (.iload_n 2, 1) := by decide +kernel
theorem dX11_pact_10 : decode cX11_pact 10 = .ok (.invokevirtual 167, 3) := by decide +kernel
theorem dX11_pact_13 : decode cX11_pact 13 = .ok (.ifCond .eq 14, 3) := by decide +kernel
theorem dX11_pact_16 : decode cX11_pact 16 = .ok (.aload_n 0, 1) := by decide +kernel
theorem dX11_pact_17 : decode cX11_pact 17 = .ok (.iconst 1, 1) := by decide +kernel
theorem dX11_pact_18 : decode cX11_pact 18 = .ok (.iload_n 1, 1) := by decide +kernel
theorem dX11_pact_19 : decode cX11_pact 19 = .ok (.iload_n 2, 1) := by decide +kernel
theorem dX11_pact_20 : decode cX11_pact 20 = .ok (.iconst 0, 1) := by decide +kernel
theorem dX11_pact_21 : decode cX11_pact 21 = .ok (.invokevirtual 228, 3) := by decide +kernel
theorem dX11_pact_24 : decode cX11_pact 24 = .ok (.goto 4, 3) := by decide +kernel
theorem dX11_pact_27 : decode cX11_pact 27 = .ok (.iconst (-1), 1) := by decide +kernel
theorem dX11_pact_28 : decode cX11_pact 28 = .ok (.ireturn, 1) := by decide +kernel
theorem dX11_breaks_0 : decode cX11_breaks 0 = .ok (.aload_n 0, 1) := by decide +kernel
theorem dX11_breaks_1 : decode cX11_breaks 1 = .ok (.iload_n 1, 1) := by decide +kernel
theorem dX11_breaks_2 : decode cX11_breaks 2 = .ok (.invokevirtual 167, 3) := by decide +kernel
theorem dX11_breaks_5 : decode cX11_breaks 5 = .ok (.ifCond .eq 22, 3) := by decide +kernel
theorem dX11_breaks_8 : decode cX11_breaks 8 = .ok (.aload_n 0, 1) := by decide +kernel
theorem dX11_breaks_9 : decode cX11_breaks 9 = .ok (.iload_n 2, 1) := by decide +kernel
theorem dX11_breaks_10 : decode cX11_breaks 10 = .ok (.invokevirtual 167, 3) := by decide +kernel
theorem dX11_breaks_13 : decode cX11_breaks 13 = .ok (.ifCond .eq 14, 3) := by decide +kernel
theorem dX11_breaks_16 : decode cX11_breaks 16 = .ok (.aload_n 0, 1) := by decide +kernel
theorem dX11_breaks_17 : decode cX11_breaks 17 = .ok (.iconst 2, 1) := by decide +kernel
theorem dX11_breaks_18 : decode cX11_breaks 18 = .ok (.iload_n 1, 1) := by decide +kernel
theorem dX11_breaks_19 : decode cX11_breaks 19 = .ok (.iload_n 2, 1) := by decide +kernel
theorem dX11_breaks_20 : decode cX11_breaks 20 = .ok (.iconst 0, 1) := by decide +kernel
theorem dX11_breaks_21 : decode cX11_breaks 21 = .ok (.invokevirtual 228, 3) := by decide +kernel
theorem dX11_breaks_24 : decode cX11_breaks 24 = .ok (.goto 4, 3) := by decide +kernel
theorem dX11_breaks_27 : decode cX11_breaks 27 = .ok (.iconst (-1), 1) := by decide +kernel
theorem dX11_breaks_28 : decode cX11_breaks 28 = .ok (.ireturn, 1) := by decide +kernel
theorem dX11_close_0 : decode cX11_close 0 = .ok (.iload_n 1, 1) := by decide +kernel
theorem dX11_close_1 : decode cX11_close 1 = .ok (.ifCond .lt 20, 3) := by decide +kernel
theorem dX11_close_4 : decode cX11_close 4 = .ok (.iload_n 1, 1) := by decide +kernel
theorem dX11_close_5 : decode cX11_close 5 = .ok (.bipush 12, 2) := by decide +kernel
theorem dX11_close_7 : decode cX11_close 7 = .ok (.if_icmp .ge 14, 3) := by decide +kernel
theorem dX11_close_10 : decode cX11_close 10 = .ok (.aload_n 0, 1) := by decide +kernel
theorem dX11_close_11 : decode cX11_close 11 = .ok (.iconst 3, 1) := by decide +kernel
theorem dX11_close_12 : decode cX11_close 12 = .ok (.iload_n 1, 1) := by decide +kernel
theorem dX11_close_13 : decode cX11_close 13 = .ok (.iconst 0, 1) := by decide +kernel
theorem dX11_close_14 : decode cX11_close 14 = .ok (.iconst 0, 1) := by decide +kernel
theorem dX11_close_15 : decode cX11_close 15 = .ok (.invokevirtual 228, 3) := by decide +kernel
theorem dX11_close_18 : decode cX11_close 18 = .ok (.goto 4, 3) := by decide +kernel
theorem dX11_close_21 : decode cX11_close 21 = .ok (.iconst (-1), 1) := by decide +kernel
theorem dX11_close_22 : decode cX11_close 22 = .ok (.ireturn, 1) := by decide +kernel
theorem dX11_open_0 : decode cX11_open 0 = .ok (.iload_n 1, 1) := by decide +kernel
theorem dX11_open_1 : decode cX11_open 1 = .ok (.ifCond .lt 20, 3) := by decide +kernel
theorem dX11_open_4 : decode cX11_open 4 = .ok (.iload_n 1, 1) := by decide +kernel
theorem dX11_open_5 : decode cX11_open 5 = .ok (.bipush 12, 2) := by decide +kernel
theorem dX11_open_7 : decode cX11_open 7 = .ok (.if_icmp .ge 14, 3) := by decide +kernel
theorem dX11_open_10 : decode cX11_open 10 = .ok (.aload_n 0, 1) := by decide +kernel
theorem dX11_open_11 : decode cX11_open 11 = .ok (.iconst 4, 1) := by decide +kernel
theorem dX11_open_12 : decode cX11_open 12 = .ok (.iload_n 1, 1) := by decide +kernel
theorem dX11_open_13 : decode cX11_open 13 = .ok (.iconst 0, 1) := by decide +kernel
theorem dX11_open_14 : decode cX11_open 14 = .ok (.iconst 0, 1) := by decide +kernel
theorem dX11_open_15 : decode cX11_open 15 = .ok (.invokevirtual 228, 3) := by decide +kernel
theorem dX11_open_18 : decode cX11_open 18 = .ok (.goto 4, 3) := by decide +kernel
theorem dX11_open_21 : decode cX11_open 21 = .ok (.iconst (-1), 1) := by decide +kernel
theorem dX11_open_22 : decode cX11_open 22 = .ok (.ireturn, 1) := by decide +kernel
theorem dX11_lend_0 : decode cX11_lend 0 = .ok (.aload_n 0, 1) := by decide +kernel
theorem dX11_lend_1 : decode cX11_lend 1 = .ok (.iload_n 1, 1) := by decide +kernel
theorem dX11_lend_2 : decode cX11_lend 2 = .ok (.invokevirtual 167, 3) := by decide +kernel
theorem dX11_lend_5 : decode cX11_lend 5 = .ok (.ifCond .eq 22, 3) := by decide +kernel
theorem dX11_lend_8 : decode cX11_lend 8 = .ok (.aload_n 0, 1) := by decide +kernel
theorem dX11_lend_9 : decode cX11_lend 9 = .ok (.iload_n 2, 1) := by decide +kernel
theorem dX11_lend_10 : decode cX11_lend 10 = .ok (.invokevirtual 167, 3) := by decide +kernel
theorem dX11_lend_13 : decode cX11_lend 13 = .ok (.ifCond .eq 14, 3) := by decide +kernel
theorem dX11_lend_16 : decode cX11_lend 16 = .ok (.iload_n 3, 1) := by decide +kernel
theorem dX11_lend_17 : decode cX11_lend 17 = .ok (.iconst 1, 1) := by decide +kernel
theorem dX11_lend_18 : decode cX11_lend 18 = .ok (.if_icmp .lt 9, 3) := by decide +kernel
theorem dX11_lend_21 : decode cX11_lend 21 = .ok (.iload_n 3, 1) := by decide +kernel
theorem dX11_lend_22 : decode cX11_lend 22 = .ok (.bipush 99, 2) := by decide +kernel
theorem dX11_lend_24 : decode cX11_lend 24 = .ok (.if_icmp .le 5, 3) := by decide +kernel
theorem dX11_lend_27 : decode cX11_lend 27 = .ok (.iconst (-1), 1) := by decide +kernel
theorem dX11_lend_28 : decode cX11_lend 28 = .ok (.ireturn, 1) := by decide +kernel
theorem dX11_lend_29 : decode cX11_lend 29 = .ok (.aload_n 0, 1) := by decide +kernel
theorem dX11_lend_30 : decode cX11_lend 30 = .ok (.iconst 5, 1) := by decide +kernel
theorem dX11_lend_31 : decode cX11_lend 31 = .ok (.iload_n 1, 1) := by decide +kernel
theorem dX11_lend_32 : decode cX11_lend 32 = .ok (.iload_n 2, 1) := by decide +kernel
theorem dX11_lend_33 : decode cX11_lend 33 = .ok (.iload_n 3, 1) := by decide +kernel
theorem dX11_lend_34 : decode cX11_lend 34 = .ok (.invokevirtual 228, 3) := by decide +kernel
theorem dX11_lend_37 : decode cX11_lend 37 = .ok (.ireturn, 1) := by decide +kernel
theorem dX11_days_0 : decode cX11_days 0 = .ok (.iload_n 1, 1) := by decide +kernel
theorem dX11_days_1 : decode cX11_days 1 = .ok (.iconst 1, 1) := by decide +kernel
theorem dX11_days_2 : decode cX11_days 2 = .ok (.if_icmp .lt 9, 3) := by decide +kernel
theorem dX11_days_5 : decode cX11_days 5 = .ok (.iload_n 1, 1) := by decide +kernel
theorem dX11_days_6 : decode cX11_days 6 = .ok (.bipush 60, 2) := by decide +kernel
theorem dX11_days_8 : decode cX11_days 8 = .ok (.if_icmp .le 5, 3) := by decide +kernel
theorem dX11_days_11 : decode cX11_days 11 = .ok (.iconst (-1), 1) := by decide +kernel
theorem dX11_days_12 : decode cX11_days 12 = .ok (.ireturn, 1) := by decide +kernel
theorem dX11_days_13 : decode cX11_days 13 = .ok (.iload_n 1, 1) := by decide +kernel
theorem dX11_days_14 : decode cX11_days 14 = .ok (.sipush 400, 3) := by decide +kernel
theorem dX11_days_17 : decode cX11_days 17 = .ok (.aload_n 0, 1) := by decide +kernel
theorem dX11_days_18 : decode cX11_days 18 = .ok (.getfield 72, 3) := by decide +kernel
theorem dX11_days_21 : decode cX11_days 21 = .ok (.getfield 207, 3) := by decide +kernel
theorem dX11_days_24 : decode cX11_days 24 = .ok (.isub, 1) := by decide +kernel
theorem dX11_days_25 : decode cX11_days 25 = .ok (.invokestatic 232, 3) := by decide +kernel
theorem dX11_days_28 : decode cX11_days 28 = .ok (.istore_n 2, 1) := by decide +kernel
theorem dX11_days_29 : decode cX11_days 29 = .ok (.iload_n 2, 1) := by decide +kernel
theorem dX11_days_30 : decode cX11_days 30 = .ok (.ifCond .le 13, 3) := by decide +kernel
theorem dX11_days_33 : decode cX11_days 33 = .ok (.aload_n 0, 1) := by decide +kernel
theorem dX11_days_34 : decode cX11_days 34 = .ok (.bipush 6, 2) := by decide +kernel
theorem dX11_days_36 : decode cX11_days 36 = .ok (.iconst 0, 1) := by decide +kernel
theorem dX11_days_37 : decode cX11_days 37 = .ok (.iconst 0, 1) := by decide +kernel
theorem dX11_days_38 : decode cX11_days 38 = .ok (.iload_n 2, 1) := by decide +kernel
theorem dX11_days_39 : decode cX11_days 39 = .ok (.invokevirtual 228, 3) := by decide +kernel
theorem dX11_days_42 : decode cX11_days 42 = .ok (.pop, 1) := by decide +kernel
theorem dX11_days_43 : decode cX11_days 43 = .ok (.iload_n 2, 1) := by decide +kernel
theorem dX11_days_44 : decode cX11_days 44 = .ok (.ireturn, 1) := by decide +kernel
theorem dX11_undo_0 : decode cX11_undo 0 = .ok (.aload_n 0, 1) := by decide +kernel
theorem dX11_undo_1 : decode cX11_undo 1 = .ok (.getfield 26, 3) := by decide +kernel
theorem dX11_undo_4 : decode cX11_undo 4 = .ok (.ifCond .ne 5, 3) := by decide +kernel
theorem dX11_undo_7 : decode cX11_undo 7 = .ok (.iconst (-1), 1) := by decide +kernel
theorem dX11_undo_8 : decode cX11_undo 8 = .ok (.ireturn, 1) := by decide +kernel
theorem dX11_undo_9 : decode cX11_undo 9 = .ok (.aload_n 0, 1) := by decide +kernel
theorem dX11_undo_10 : decode cX11_undo 10 = .ok (.aload_n 0, 1) := by decide +kernel
theorem dX11_undo_11 : decode cX11_undo 11 = .ok (.getfield 22, 3) := by decide +kernel
theorem dX11_undo_14 : decode cX11_undo 14 = .ok (.ifCond .ne 8, 3) := by decide +kernel
theorem dX11_undo_17 : decode cX11_undo 17 = .ok (.bipush 7, 2) := by decide +kernel
theorem dX11_undo_19 : decode cX11_undo 19 = .ok (.goto 9, 3) := by decide +kernel
theorem dX11_undo_22 : decode cX11_undo 22 = .ok (.aload_n 0, 1) := by decide +kernel
theorem dX11_undo_23 : decode cX11_undo 23 = .ok (.getfield 22, 3) := by decide +kernel
theorem dX11_undo_26 : decode cX11_undo 26 = .ok (.iconst 1, 1) := by decide +kernel
theorem dX11_undo_27 : decode cX11_undo 27 = .ok (.isub, 1) := by decide +kernel
theorem dX11_undo_28 : decode cX11_undo 28 = .ok (.putfield 22, 3) := by decide +kernel
theorem dX11_undo_31 : decode cX11_undo 31 = .ok (.aload_n 0, 1) := by decide +kernel
theorem dX11_undo_32 : decode cX11_undo 32 = .ok (.dup, 1) := by decide +kernel
theorem dX11_undo_33 : decode cX11_undo 33 = .ok (.getfield 26, 3) := by decide +kernel
theorem dX11_undo_36 : decode cX11_undo 36 = .ok (.iconst 1, 1) := by decide +kernel
theorem dX11_undo_37 : decode cX11_undo 37 = .ok (.isub, 1) := by decide +kernel
theorem dX11_undo_38 : decode cX11_undo 38 = .ok (.putfield 26, 3) := by decide +kernel
theorem dX11_undo_41 : decode cX11_undo 41 = .ok (.aload_n 0, 1) := by decide +kernel
theorem dX11_undo_42 : decode cX11_undo 42 = .ok (.getfield 72, 3) := by decide +kernel
theorem dX11_undo_45 : decode cX11_undo 45 = .ok (.getfield 238, 3) := by decide +kernel
theorem dX11_undo_48 : decode cX11_undo 48 = .ok (.astore_n 1, 1) := by decide +kernel
theorem dX11_undo_49 : decode cX11_undo 49 = .ok (.aload_n 0, 1) := by decide +kernel
theorem dX11_undo_50 : decode cX11_undo 50 = .ok (.getfield 72, 3) := by decide +kernel
theorem dX11_undo_53 : decode cX11_undo 53 = .ok (.aload_n 0, 1) := by decide +kernel
theorem dX11_undo_54 : decode cX11_undo 54 = .ok (.getfield 18, 3) := by decide +kernel
theorem dX11_undo_57 : decode cX11_undo 57 = .ok (.aload_n 0, 1) := by decide +kernel
theorem dX11_undo_58 : decode cX11_undo 58 = .ok (.getfield 22, 3) := by decide +kernel
theorem dX11_undo_61 : decode cX11_undo 61 = .ok (.aaload, 1) := by decide +kernel
theorem dX11_undo_62 : decode cX11_undo 62 = .ok (.invokevirtual 132, 3) := by decide +kernel
theorem dX11_undo_65 : decode cX11_undo 65 = .ok (.aload_n 0, 1) := by decide +kernel
theorem dX11_undo_66 : decode cX11_undo 66 = .ok (.getfield 72, 3) := by decide +kernel
theorem dX11_undo_69 : decode cX11_undo 69 = .ok (.aload_n 1, 1) := by decide +kernel
theorem dX11_undo_70 : decode cX11_undo 70 = .ok (.putfield 238, 3) := by decide +kernel
theorem dX11_undo_73 : decode cX11_undo 73 = .ok (.aload_n 0, 1) := by decide +kernel
theorem dX11_undo_74 : decode cX11_undo 74 = .ok (.getfield 26, 3) := by decide +kernel
theorem dX11_undo_77 : decode cX11_undo 77 = .ok (.ireturn, 1) := by decide +kernel
theorem dX11_way_0 : decode cX11_way 0 = .ok (.aload_n 0, 1) := by decide +kernel
theorem dX11_way_1 : decode cX11_way 1 = .ok (.iload_n 1, 1) := by decide +kernel
theorem dX11_way_2 : decode cX11_way 2 = .ok (.invokevirtual 135, 3) := by decide +kernel
theorem dX11_way_5 : decode cX11_way 5 = .ok (.ifCond .eq 18, 3) := by decide +kernel
theorem dX11_way_8 : decode cX11_way 8 = .ok (.aload_n 0, 1) := by decide +kernel
theorem dX11_way_9 : decode cX11_way 9 = .ok (.iload_n 2, 1) := by decide +kernel
theorem dX11_way_10 : decode cX11_way 10 = .ok (.invokevirtual 167, 3) := by decide +kernel
theorem dX11_way_13 : decode cX11_way 13 = .ok (.ifCond .eq 10, 3) := by decide +kernel
theorem dX11_way_16 : decode cX11_way 16 = .ok (.iload_n 3, 1) := by decide +kernel
theorem dX11_way_17 : decode cX11_way 17 = .ok (.invokestatic 242, 3) := by decide +kernel
theorem dX11_way_20 : decode cX11_way 20 = .ok (.ifCond .ne 5, 3) := by decide +kernel
theorem dX11_way_23 : decode cX11_way 23 = .ok (.iconst (-1), 1) := by decide +kernel
theorem dX11_way_24 : decode cX11_way 24 = .ok (.ireturn, 1) := by decide +kernel
theorem dX11_way_25 : decode cX11_way 25 = .ok (.aload_n 0, 1) := by decide +kernel
theorem dX11_way_26 : decode cX11_way 26 = .ok (.getfield 100, 3) := by decide +kernel
theorem dX11_way_29 : decode cX11_way 29 = .ok (.aload_n 0, 1) := by decide +kernel
theorem dX11_way_30 : decode cX11_way 30 = .ok (.getfield 72, 3) := by decide +kernel
theorem dX11_way_33 : decode cX11_way 33 = .ok (.iload_n 1, 1) := by decide +kernel
theorem dX11_way_34 : decode cX11_way 34 = .ok (.iconst 0, 1) := by decide +kernel
theorem dX11_way_35 : decode cX11_way 35 = .ok (.iload_n 2, 1) := by decide +kernel
theorem dX11_way_36 : decode cX11_way 36 = .ok (.iload_n 3, 1) := by decide +kernel
theorem dX11_way_37 : decode cX11_way 37 = .ok (.invokevirtual 245, 3) := by decide +kernel
theorem dX11_way_40 : decode cX11_way 40 = .ok (.ifCond .ne 5, 3) := by decide +kernel
theorem dX11_way_43 : decode cX11_way 43 = .ok (.iconst (-1), 1) := by decide +kernel
theorem dX11_way_44 : decode cX11_way 44 = .ok (.ireturn, 1) := by decide +kernel
theorem dX11_way_45 : decode cX11_way 45 = .ok (.aload_n 0, 1) := by decide +kernel
theorem dX11_way_46 : decode cX11_way 46 = .ok (.getfield 44, 3) := by decide +kernel
theorem dX11_way_49 : decode cX11_way 49 = .ok (.aload_n 0, 1) := by decide +kernel
theorem dX11_way_50 : decode cX11_way 50 = .ok (.getfield 100, 3) := by decide +kernel
theorem dX11_way_53 : decode cX11_way 53 = .ok (.getfield 249, 3) := by decide +kernel
theorem dX11_way_56 : decode cX11_way 56 = .ok (.invokevirtual 252, 3) := by decide +kernel
theorem dX11_way_59 : decode cX11_way 59 = .ok (.aload_n 0, 1) := by decide +kernel
theorem dX11_way_60 : decode cX11_way 60 = .ok (.getfield 44, 3) := by decide +kernel
theorem dX11_way_63 : decode cX11_way 63 = .ok (.getfield 255, 3) := by decide +kernel
theorem dX11_way_66 : decode cX11_way 66 = .ok (.ireturn, 1) := by decide +kernel
theorem dX11_wayAt_0 : decode cX11_wayAt 0 = .ok (.aload_n 0, 1) := by decide +kernel
theorem dX11_wayAt_1 : decode cX11_wayAt 1 = .ok (.getfield 44, 3) := by decide +kernel
theorem dX11_wayAt_4 : decode cX11_wayAt 4 = .ok (.iload_n 1, 1) := by decide +kernel
theorem dX11_wayAt_5 : decode cX11_wayAt 5 = .ok (.invokevirtual 256, 3) := by decide +kernel
theorem dX11_wayAt_8 : decode cX11_wayAt 8 = .ok (.ireturn, 1) := by decide +kernel
theorem dX11_round_0 : decode cX11_round 0 = .ok (.aload_n 0, 1) := by decide +kernel
theorem dX11_round_1 : decode cX11_round 1 = .ok (.iload_n 1, 1) := by decide +kernel
theorem dX11_round_2 : decode cX11_round 2 = .ok (.invokevirtual 135, 3) := by decide +kernel
theorem dX11_round_5 : decode cX11_round 5 = .ok (.ifCond .eq 18, 3) := by decide +kernel
theorem dX11_round_8 : decode cX11_round 8 = .ok (.aload_n 0, 1) := by decide +kernel
theorem dX11_round_9 : decode cX11_round 9 = .ok (.getfield 100, 3) := by decide +kernel
theorem dX11_round_12 : decode cX11_round 12 = .ok (.aload_n 0, 1) := by decide +kernel
theorem dX11_round_13 : decode cX11_round 13 = .ok (.getfield 72, 3) := by decide +kernel
theorem dX11_round_16 : decode cX11_round 16 = .ok (.iload_n 1, 1) := by decide +kernel
theorem dX11_round_17 : decode cX11_round 17 = .ok (.invokevirtual 258, 3) := by decide +kernel
theorem dX11_round_20 : decode cX11_round 20 = .ok (.goto 4, 3) := by decide +kernel
theorem dX11_round_23 : decode cX11_round 23 = .ok (.iconst (-1), 1) := by decide +kernel
theorem dX11_round_24 : decode cX11_round 24 = .ok (.ireturn, 1) := by decide +kernel
theorem dX11_spare_0 : decode cX11_spare 0 = .ok (.aload_n 0, 1) := by decide +kernel
theorem dX11_spare_1 : decode cX11_spare 1 = .ok (.iload_n 1, 1) := by decide +kernel
theorem dX11_spare_2 : decode cX11_spare 2 = .ok (.invokevirtual 135, 3) := by decide +kernel
theorem dX11_spare_5 : decode cX11_spare 5 = .ok (.ifCond .eq 18, 3) := by decide +kernel
theorem dX11_spare_8 : decode cX11_spare 8 = .ok (.aload_n 0, 1) := by decide +kernel
theorem dX11_spare_9 : decode cX11_spare 9 = .ok (.iload_n 2, 1) := by decide +kernel
theorem dX11_spare_10 : decode cX11_spare 10 = .ok (.invokevirtual 167, 3) := by decide +kernel
theorem dX11_spare_13 : decode cX11_spare 13 = .ok (.ifCond .eq 10, 3) := by decide +kernel
theorem dX11_spare_16 : decode cX11_spare 16 = .ok (.iload_n 3, 1) := by decide +kernel
theorem dX11_spare_17 : decode cX11_spare 17 = .ok (.invokestatic 242, 3) := by decide +kernel
theorem dX11_spare_20 : decode cX11_spare 20 = .ok (.ifCond .ne 5, 3) := by decide +kernel
theorem dX11_spare_23 : decode cX11_spare 23 = .ok (.iconst (-1), 1) := by decide +kernel
theorem dX11_spare_24 : decode cX11_spare 24 = .ok (.ireturn, 1) := by decide +kernel
theorem dX11_spare_25 : decode cX11_spare 25 = .ok (.aload_n 0, 1) := by decide +kernel
theorem dX11_spare_26 : decode cX11_spare 26 = .ok (.getfield 72, 3) := by decide +kernel
theorem dX11_spare_29 : decode cX11_spare 29 = .ok (.getfield 142, 3) := by decide +kernel
theorem dX11_spare_32 : decode cX11_spare 32 = .ok (.getfield 146, 3) := by decide +kernel
theorem dX11_spare_35 : decode cX11_spare 35 = .ok (.iload_n 1, 1) := by decide +kernel
theorem dX11_spare_36 : decode cX11_spare 36 = .ok (.iaload, 1) := by decide +kernel
theorem dX11_spare_37 : decode cX11_spare 37 = .ok (.istore 4, 2) := by decide +kernel
theorem dX11_spare_39 : decode cX11_spare 39 = .ok (.iconst 1, 1) := by decide +kernel
theorem dX11_spare_40 : decode cX11_spare 40 = .ok (.aload_n 0, 1) := by decide +kernel
theorem dX11_spare_41 : decode cX11_spare 41 = .ok (.getfield 72, 3) := by decide +kernel
theorem dX11_spare_44 : decode cX11_spare 44 = .ok (.getfield 142, 3) := by decide +kernel
theorem dX11_spare_47 : decode cX11_spare 47 = .ok (.getfield 262, 3) := by decide +kernel
theorem dX11_spare_50 : decode cX11_spare 50 = .ok (.ishl, 1) := by decide +kernel
theorem dX11_spare_51 : decode cX11_spare 51 = .ok (.iconst 1, 1) := by decide +kernel
theorem dX11_spare_52 : decode cX11_spare 52 = .ok (.isub, 1) := by decide +kernel
theorem dX11_spare_53 : decode cX11_spare 53 = .ok (.istore 5, 2) := by decide +kernel
theorem dX11_spare_55 : decode cX11_spare 55 = .ok (.iload 5, 2) := by decide +kernel
theorem dX11_spare_57 : decode cX11_spare 57 = .ok (.iconst 1, 1) := by decide +kernel
theorem dX11_spare_58 : decode cX11_spare 58 = .ok (.iload 4, 2) := by decide +kernel
theorem dX11_spare_60 : decode cX11_spare 60 = .ok (.ishl, 1) := by decide +kernel
theorem dX11_spare_61 : decode cX11_spare 61 = .ok (.iconst (-1), 1) := by decide +kernel
theorem dX11_spare_62 : decode cX11_spare 62 = .ok (.ixor, 1) := by decide +kernel
theorem dX11_spare_63 : decode cX11_spare 63 = .ok (.iand, 1) := by decide +kernel
theorem dX11_spare_64 : decode cX11_spare 64 = .ok (.aload_n 0, 1) := by decide +kernel
theorem dX11_spare_65 : decode cX11_spare 65 = .ok (.getfield 72, 3) := by decide +kernel
theorem dX11_spare_68 : decode cX11_spare 68 = .ok (.getfield 179, 3) := by decide +kernel
theorem dX11_spare_71 : decode cX11_spare 71 = .ok (.iload 4, 2) := by decide +kernel
theorem dX11_spare_73 : decode cX11_spare 73 = .ok (.iaload, 1) := by decide +kernel
theorem dX11_spare_74 : decode cX11_spare 74 = .ok (.iconst (-1), 1) := by decide +kernel
theorem dX11_spare_75 : decode cX11_spare 75 = .ok (.ixor, 1) := by decide +kernel
theorem dX11_spare_76 : decode cX11_spare 76 = .ok (.iand, 1) := by decide +kernel
theorem dX11_spare_77 : decode cX11_spare 77 = .ok (.istore 6, 2) := by decide +kernel
theorem dX11_spare_79 : decode cX11_spare 79 = .ok (.iconst 0, 1) := by decide +kernel
theorem dX11_spare_80 : decode cX11_spare 80 = .ok (.istore 7, 2) := by decide +kernel
theorem dX11_spare_82 : decode cX11_spare 82 = .ok (.iload 7, 2) := by decide +kernel
theorem dX11_spare_84 : decode cX11_spare 84 = .ok (.bipush 7, 2) := by decide +kernel
theorem dX11_spare_86 : decode cX11_spare 86 = .ok (.if_icmp .gt 85, 3) := by decide +kernel
theorem dX11_spare_89 : decode cX11_spare 89 = .ok (.iconst 0, 1) := by decide +kernel
theorem dX11_spare_90 : decode cX11_spare 90 = .ok (.istore 8, 2) := by decide +kernel
theorem dX11_spare_92 : decode cX11_spare 92 = .ok (.iload 8, 2) := by decide +kernel
theorem dX11_spare_94 : decode cX11_spare 94 = .ok (.iload 6, 2) := by decide +kernel
theorem dX11_spare_96 : decode cX11_spare 96 = .ok (.if_icmp .gt 69, 3) := by decide +kernel
theorem dX11_spare_99 : decode cX11_spare 99 = .ok (.iload 8, 2) := by decide +kernel
theorem dX11_spare_101 : decode cX11_spare 101 = .ok (.iload 6, 2) := by decide +kernel
theorem dX11_spare_103 : decode cX11_spare 103 = .ok (.iconst (-1), 1) := by decide +kernel
theorem dX11_spare_104 : decode cX11_spare 104 = .ok (.ixor, 1) := by decide +kernel
theorem dX11_spare_105 : decode cX11_spare 105 = .ok (.iand, 1) := by decide +kernel
theorem dX11_spare_106 : decode cX11_spare 106 = .ok (.ifCond .ne 17, 3) := by decide +kernel
theorem dX11_spare_109 : decode cX11_spare 109 = .ok (.iload 8, 2) := by decide +kernel
theorem dX11_spare_111 : decode cX11_spare 111 = .ok (.invokestatic 265, 3) := by decide +kernel
theorem dX11_spare_114 : decode cX11_spare 114 = .ok (.iload 7, 2) := by decide +kernel
theorem dX11_spare_116 : decode cX11_spare 116 = .ok (.if_icmp .ne 7, 3) := by decide +kernel
theorem dX11_spare_119 : decode cX11_spare 119 = .ok (.iconst 1, 1) := by decide +kernel
theorem dX11_spare_120 : decode cX11_spare 120 = .ok (.goto 4, 3) := by decide +kernel
theorem dX11_spare_123 : decode cX11_spare 123 = .ok (.iconst 0, 1) := by decide +kernel
theorem dX11_spare_124 : decode cX11_spare 124 = .ok (.istore 9, 2) := by decide +kernel
theorem dX11_spare_126 : decode cX11_spare 126 = .ok (.iload 9, 2) := by decide +kernel
theorem dX11_spare_128 : decode cX11_spare 128 = .ok (.ifCond .eq 31, 3) := by decide +kernel
theorem dX11_spare_131 : decode cX11_spare 131 = .ok (.aload_n 0, 1) := by decide +kernel
theorem dX11_spare_132 : decode cX11_spare 132 = .ok (.getfield 100, 3) := by decide +kernel
theorem dX11_spare_135 : decode cX11_spare 135 = .ok (.aload_n 0, 1) := by decide +kernel
theorem dX11_spare_136 : decode cX11_spare 136 = .ok (.getfield 72, 3) := by decide +kernel
theorem dX11_spare_139 : decode cX11_spare 139 = .ok (.iload_n 1, 1) := by decide +kernel
theorem dX11_spare_140 : decode cX11_spare 140 = .ok (.iload 8, 2) := by decide +kernel
theorem dX11_spare_142 : decode cX11_spare 142 = .ok (.iload_n 2, 1) := by decide +kernel
theorem dX11_spare_143 : decode cX11_spare 143 = .ok (.iload_n 3, 1) := by decide +kernel
theorem dX11_spare_144 : decode cX11_spare 144 = .ok (.invokevirtual 245, 3) := by decide +kernel
theorem dX11_spare_147 : decode cX11_spare 147 = .ok (.ifCond .eq 12, 3) := by decide +kernel
theorem dX11_spare_150 : decode cX11_spare 150 = .ok (.aload_n 0, 1) := by decide +kernel
theorem dX11_spare_151 : decode cX11_spare 151 = .ok (.iload 8, 2) := by decide +kernel
theorem dX11_spare_153 : decode cX11_spare 153 = .ok (.putfield 60, 3) := by decide +kernel
theorem dX11_spare_156 : decode cX11_spare 156 = .ok (.iload 7, 2) := by decide +kernel
theorem dX11_spare_158 : decode cX11_spare 158 = .ok (.ireturn, 1) := by decide +kernel
theorem dX11_spare_159 : decode cX11_spare 159 = .ok (.iinc 8 1, 3) := by decide +kernel
theorem dX11_spare_162 : decode cX11_spare 162 = .ok (.goto (-70), 3) := by decide +kernel
theorem dX11_spare_165 : decode cX11_spare 165 = .ok (.iinc 7 1, 3) := by decide +kernel
theorem dX11_spare_168 : decode cX11_spare 168 = .ok (.goto (-86), 3) := by decide +kernel
theorem dX11_spare_171 : decode cX11_spare 171 = .ok (.iconst (-1), 1) := by decide +kernel
theorem dX11_spare_172 : decode cX11_spare 172 = .ok (.ireturn, 1) := by decide +kernel
theorem dX11_spared_0 : decode cX11_spared 0 = .ok (.aload_n 0, 1) := by decide +kernel
theorem dX11_spared_1 : decode cX11_spared 1 = .ok (.getfield 60, 3) := by decide +kernel
theorem dX11_spared_4 : decode cX11_spared 4 = .ok (.ireturn, 1) := by decide +kernel
theorem dX11_made_0 : decode cX11_made 0 = .ok (.aload_n 0, 1) := by decide +kernel
theorem dX11_made_1 : decode cX11_made 1 = .ok (.getfield 10, 3) := by decide +kernel
theorem dX11_made_4 : decode cX11_made 4 = .ok (.getfield 113, 3) := by decide +kernel
theorem dX11_made_7 : decode cX11_made 7 = .ok (.istore_n 1, 1) := by decide +kernel
theorem dX11_made_8 : decode cX11_made 8 = .ok (.aload_n 0, 1) := by decide +kernel
theorem dX11_made_9 : decode cX11_made 9 = .ok (.getfield 10, 3) := by decide +kernel
theorem dX11_made_12 : decode cX11_made 12 = .ok (.iconst 0, 1) := by decide +kernel
theorem dX11_made_13 : decode cX11_made 13 = .ok (.putfield 113, 3) := by decide +kernel
theorem dX11_made_16 : decode cX11_made 16 = .ok (.iload_n 1, 1) := by decide +kernel
theorem dX11_made_17 : decode cX11_made 17 = .ok (.iconst 2, 1) := by decide +kernel
theorem dX11_made_18 : decode cX11_made 18 = .ok (.if_icmp .ne 18, 3) := by decide +kernel
theorem dX11_made_21 : decode cX11_made 21 = .ok (.aload_n 0, 1) := by decide +kernel
theorem dX11_made_22 : decode cX11_made 22 = .ok (.aload_n 0, 1) := by decide +kernel
theorem dX11_made_23 : decode cX11_made 23 = .ok (.getfield 10, 3) := by decide +kernel
theorem dX11_made_26 : decode cX11_made 26 = .ok (.iconst 0, 1) := by decide +kernel
theorem dX11_made_27 : decode cX11_made 27 = .ok (.invokevirtual 270, 3) := by decide +kernel
theorem dX11_made_30 : decode cX11_made 30 = .ok (.invokevirtual 135, 3) := by decide +kernel
theorem dX11_made_33 : decode cX11_made 33 = .ok (.ifCond .ne 5, 3) := by decide +kernel
theorem dX11_made_36 : decode cX11_made 36 = .ok (.iconst (-1), 1) := by decide +kernel
theorem dX11_made_37 : decode cX11_made 37 = .ok (.ireturn, 1) := by decide +kernel
theorem dX11_made_38 : decode cX11_made 38 = .ok (.aload_n 0, 1) := by decide +kernel
theorem dX11_made_39 : decode cX11_made 39 = .ok (.getfield 100, 3) := by decide +kernel
theorem dX11_made_42 : decode cX11_made 42 = .ok (.aload_n 0, 1) := by decide +kernel
theorem dX11_made_43 : decode cX11_made 43 = .ok (.getfield 72, 3) := by decide +kernel
theorem dX11_made_46 : decode cX11_made 46 = .ok (.aload_n 0, 1) := by decide +kernel
theorem dX11_made_47 : decode cX11_made 47 = .ok (.getfield 10, 3) := by decide +kernel
theorem dX11_made_50 : decode cX11_made 50 = .ok (.iconst 0, 1) := by decide +kernel
theorem dX11_made_51 : decode cX11_made 51 = .ok (.invokevirtual 270, 3) := by decide +kernel
theorem dX11_made_54 : decode cX11_made 54 = .ok (.aload_n 0, 1) := by decide +kernel
theorem dX11_made_55 : decode cX11_made 55 = .ok (.getfield 10, 3) := by decide +kernel
theorem dX11_made_58 : decode cX11_made 58 = .ok (.iconst 1, 1) := by decide +kernel
theorem dX11_made_59 : decode cX11_made 59 = .ok (.invokevirtual 270, 3) := by decide +kernel
theorem dX11_made_62 : decode cX11_made 62 = .ok (.invokevirtual 273, 3) := by decide +kernel
theorem dX11_made_65 : decode cX11_made 65 = .ok (.istore_n 2, 1) := by decide +kernel
theorem dX11_made_66 : decode cX11_made 66 = .ok (.iload_n 2, 1) := by decide +kernel
theorem dX11_made_67 : decode cX11_made 67 = .ok (.ifCond .le 28, 3) := by decide +kernel
theorem dX11_made_70 : decode cX11_made 70 = .ok (.aload_n 0, 1) := by decide +kernel
theorem dX11_made_71 : decode cX11_made 71 = .ok (.getfield 48, 3) := by decide +kernel
theorem dX11_made_74 : decode cX11_made 74 = .ok (.aload_n 0, 1) := by decide +kernel
theorem dX11_made_75 : decode cX11_made 75 = .ok (.getfield 100, 3) := by decide +kernel
theorem dX11_made_78 : decode cX11_made 78 = .ok (.getfield 249, 3) := by decide +kernel
theorem dX11_made_81 : decode cX11_made 81 = .ok (.invokevirtual 252, 3) := by decide +kernel
theorem dX11_made_84 : decode cX11_made 84 = .ok (.aload_n 0, 1) := by decide +kernel
theorem dX11_made_85 : decode cX11_made 85 = .ok (.aload_n 0, 1) := by decide +kernel
theorem dX11_made_86 : decode cX11_made 86 = .ok (.getfield 100, 3) := by decide +kernel
theorem dX11_made_89 : decode cX11_made 89 = .ok (.invokevirtual 277, 3) := by decide +kernel
theorem dX11_made_92 : decode cX11_made 92 = .ok (.putfield 57, 3) := by decide +kernel
theorem dX11_made_95 : decode cX11_made 95 = .ok (.iload_n 2, 1) := by decide +kernel
theorem dX11_made_96 : decode cX11_made 96 = .ok (.ireturn, 1) := by decide +kernel
theorem dX11_madeAt_0 : decode cX11_madeAt 0 = .ok (.aload_n 0, 1) := by decide +kernel
theorem dX11_madeAt_1 : decode cX11_madeAt 1 = .ok (.getfield 48, 3) := by decide +kernel
theorem dX11_madeAt_4 : decode cX11_madeAt 4 = .ok (.iload_n 1, 1) := by decide +kernel
theorem dX11_madeAt_5 : decode cX11_madeAt 5 = .ok (.invokevirtual 256, 3) := by decide +kernel
theorem dX11_madeAt_8 : decode cX11_madeAt 8 = .ok (.ireturn, 1) := by decide +kernel
theorem dX11_likely_0 : decode cX11_likely 0 = .ok (.aload_n 0, 1) := by decide +kernel
theorem dX11_likely_1 : decode cX11_likely 1 = .ok (.getfield 57, 3) := by decide +kernel
theorem dX11_likely_4 : decode cX11_likely 4 = .ok (.ireturn, 1) := by decide +kernel
theorem dX11_caravan_0 : decode cX11_caravan 0 = .ok (.aload_n 0, 1) := by decide +kernel
theorem dX11_caravan_1 : decode cX11_caravan 1 = .ok (.iload_n 1, 1) := by decide +kernel
theorem dX11_caravan_2 : decode cX11_caravan 2 = .ok (.invokevirtual 167, 3) := by decide +kernel
theorem dX11_caravan_5 : decode cX11_caravan 5 = .ok (.ifCond .ne 5, 3) := by decide +kernel
theorem dX11_caravan_8 : decode cX11_caravan 8 = .ok (.iconst (-1), 1) := by decide +kernel
theorem dX11_caravan_9 : decode cX11_caravan 9 = .ok (.ireturn, 1) := by decide +kernel
theorem dX11_caravan_10 : decode cX11_caravan 10 = .ok (.aload_n 0, 1) := by decide +kernel
theorem dX11_caravan_11 : decode cX11_caravan 11 = .ok (.getfield 109, 3) := by decide +kernel
theorem dX11_caravan_14 : decode cX11_caravan 14 = .ok (.aload_n 0, 1) := by decide +kernel
theorem dX11_caravan_15 : decode cX11_caravan 15 = .ok (.getfield 72, 3) := by decide +kernel
theorem dX11_caravan_18 : decode cX11_caravan 18 = .ok (.iload_n 1, 1) := by decide +kernel
theorem dX11_caravan_19 : decode cX11_caravan 19 = .ok (.invokevirtual 280, 3) := by decide +kernel
theorem dX11_caravan_22 : decode cX11_caravan 22 = .ok (.istore_n 2, 1) := by decide +kernel
theorem dX11_caravan_23 : decode cX11_caravan 23 = .ok (.aload_n 0, 1) := by decide +kernel
theorem dX11_caravan_24 : decode cX11_caravan 24 = .ok (.getfield 51, 3) := by decide +kernel
theorem dX11_caravan_27 : decode cX11_caravan 27 = .ok (.aload_n 0, 1) := by decide +kernel
theorem dX11_caravan_28 : decode cX11_caravan 28 = .ok (.getfield 109, 3) := by decide +kernel
theorem dX11_caravan_31 : decode cX11_caravan 31 = .ok (.getfield 283, 3) := by decide +kernel
theorem dX11_caravan_34 : decode cX11_caravan 34 = .ok (.invokevirtual 252, 3) := by decide +kernel
theorem dX11_caravan_37 : decode cX11_caravan 37 = .ok (.iload_n 2, 1) := by decide +kernel
theorem dX11_caravan_38 : decode cX11_caravan 38 = .ok (.ireturn, 1) := by decide +kernel
theorem dX11_caravanAt_0 : decode cX11_caravanAt 0 = .ok (.aload_n 0, 1) := by decide +kernel
theorem dX11_caravanAt_1 : decode cX11_caravanAt 1 = .ok (.getfield 51, 3) := by decide +kernel
theorem dX11_caravanAt_4 : decode cX11_caravanAt 4 = .ok (.iload_n 1, 1) := by decide +kernel
theorem dX11_caravanAt_5 : decode cX11_caravanAt 5 = .ok (.invokevirtual 256, 3) := by decide +kernel
theorem dX11_caravanAt_8 : decode cX11_caravanAt 8 = .ok (.ireturn, 1) := by decide +kernel
theorem dX11_part_0 : decode cX11_part 0 = .ok (.aload_n 0, 1) := by decide +kernel
theorem dX11_part_1 : decode cX11_part 1 = .ok (.iload_n 1, 1) := by decide +kernel
theorem dX11_part_2 : decode cX11_part 2 = .ok (.invokevirtual 167, 3) := by decide +kernel
theorem dX11_part_5 : decode cX11_part 5 = .ok (.ifCond .eq 16, 3) := by decide +kernel
theorem dX11_part_8 : decode cX11_part 8 = .ok (.aload_n 0, 1) := by decide +kernel
theorem dX11_part_9 : decode cX11_part 9 = .ok (.iload_n 2, 1) := by decide +kernel
theorem dX11_part_10 : decode cX11_part 10 = .ok (.invokevirtual 167, 3) := by decide +kernel
theorem dX11_part_13 : decode cX11_part 13 = .ok (.ifCond .eq 8, 3) := by decide +kernel
theorem dX11_part_16 : decode cX11_part 16 = .ok (.iload_n 1, 1) := by decide +kernel
theorem dX11_part_17 : decode cX11_part 17 = .ok (.iload_n 2, 1) := by decide +kernel
theorem dX11_part_18 : decode cX11_part 18 = .ok (.if_icmp .ne 5, 3) := by decide +kernel
theorem dX11_part_21 : decode cX11_part 21 = .ok (.iconst (-1), 1) := by decide +kernel
theorem dX11_part_22 : decode cX11_part 22 = .ok (.ireturn, 1) := by decide +kernel
theorem dX11_part_23 : decode cX11_part 23 = .ok (.iconst 1, 1) := by decide +kernel
theorem dX11_part_24 : decode cX11_part 24 = .ok (.aload_n 0, 1) := by decide +kernel
theorem dX11_part_25 : decode cX11_part 25 = .ok (.getfield 72, 3) := by decide +kernel
theorem dX11_part_28 : decode cX11_part 28 = .ok (.getfield 142, 3) := by decide +kernel
theorem dX11_part_31 : decode cX11_part 31 = .ok (.getfield 185, 3) := by decide +kernel
theorem dX11_part_34 : decode cX11_part 34 = .ok (.ishl, 1) := by decide +kernel
theorem dX11_part_35 : decode cX11_part 35 = .ok (.iconst 1, 1) := by decide +kernel
theorem dX11_part_36 : decode cX11_part 36 = .ok (.isub, 1) := by decide +kernel
theorem dX11_part_37 : decode cX11_part 37 = .ok (.aload_n 0, 1) := by decide +kernel
theorem dX11_part_38 : decode cX11_part 38 = .ok (.getfield 72, 3) := by decide +kernel
theorem dX11_part_41 : decode cX11_part 41 = .ok (.getfield 200, 3) := by decide +kernel
theorem dX11_part_44 : decode cX11_part 44 = .ok (.iconst (-1), 1) := by decide +kernel
theorem dX11_part_45 : decode cX11_part 45 = .ok (.ixor, 1) := by decide +kernel
theorem dX11_part_46 : decode cX11_part 46 = .ok (.iand, 1) := by decide +kernel
theorem dX11_part_47 : decode cX11_part 47 = .ok (.istore_n 3, 1) := by decide +kernel
theorem dX11_part_48 : decode cX11_part 48 = .ok (.iconst 0, 1) := by decide +kernel
theorem dX11_part_49 : decode cX11_part 49 = .ok (.istore 4, 2) := by decide +kernel
theorem dX11_part_51 : decode cX11_part 51 = .ok (.iload 4, 2) := by decide +kernel
theorem dX11_part_53 : decode cX11_part 53 = .ok (.bipush 12, 2) := by decide +kernel
theorem dX11_part_55 : decode cX11_part 55 = .ok (.if_icmp .gt 89, 3) := by decide +kernel
theorem dX11_part_58 : decode cX11_part 58 = .ok (.iconst 0, 1) := by decide +kernel
theorem dX11_part_59 : decode cX11_part 59 = .ok (.istore 5, 2) := by decide +kernel
theorem dX11_part_61 : decode cX11_part 61 = .ok (.iload 5, 2) := by decide +kernel
theorem dX11_part_63 : decode cX11_part 63 = .ok (.iload_n 3, 1) := by decide +kernel
theorem dX11_part_64 : decode cX11_part 64 = .ok (.if_icmp .gt 74, 3) := by decide +kernel
theorem dX11_part_67 : decode cX11_part 67 = .ok (.iload 5, 2) := by decide +kernel
theorem dX11_part_69 : decode cX11_part 69 = .ok (.iload_n 3, 1) := by decide +kernel
theorem dX11_part_70 : decode cX11_part 70 = .ok (.iconst (-1), 1) := by decide +kernel
theorem dX11_part_71 : decode cX11_part 71 = .ok (.ixor, 1) := by decide +kernel
theorem dX11_part_72 : decode cX11_part 72 = .ok (.iand, 1) := by decide +kernel
theorem dX11_part_73 : decode cX11_part 73 = .ok (.ifCond .ne 17, 3) := by decide +kernel
theorem dX11_part_76 : decode cX11_part 76 = .ok (.iload 5, 2) := by decide +kernel
theorem dX11_part_78 : decode cX11_part 78 = .ok (.invokestatic 265, 3) := by decide +kernel
theorem dX11_part_81 : decode cX11_part 81 = .ok (.iload 4, 2) := by decide +kernel
theorem dX11_part_83 : decode cX11_part 83 = .ok (.if_icmp .ne 7, 3) := by decide +kernel
theorem dX11_part_86 : decode cX11_part 86 = .ok (.iconst 1, 1) := by decide +kernel
theorem dX11_part_87 : decode cX11_part 87 = .ok (.goto 4, 3) := by decide +kernel
theorem dX11_part_90 : decode cX11_part 90 = .ok (.iconst 0, 1) := by decide +kernel
theorem dX11_part_91 : decode cX11_part 91 = .ok (.istore 6, 2) := by decide +kernel
theorem dX11_part_93 : decode cX11_part 93 = .ok (.iload 6, 2) := by decide +kernel
theorem dX11_part_95 : decode cX11_part 95 = .ok (.ifCond .eq 37, 3) := by decide +kernel
theorem dX11_part_98 : decode cX11_part 98 = .ok (.aload_n 0, 1) := by decide +kernel
theorem dX11_part_99 : decode cX11_part 99 = .ok (.getfield 72, 3) := by decide +kernel
theorem dX11_part_102 : decode cX11_part 102 = .ok (.getfield 142, 3) := by decide +kernel
theorem dX11_part_105 : decode cX11_part 105 = .ok (.iload_n 1, 1) := by decide +kernel
theorem dX11_part_106 : decode cX11_part 106 = .ok (.iload_n 2, 1) := by decide +kernel
theorem dX11_part_107 : decode cX11_part 107 = .ok (.aload_n 0, 1) := by decide +kernel
theorem dX11_part_108 : decode cX11_part 108 = .ok (.getfield 72, 3) := by decide +kernel
theorem dX11_part_111 : decode cX11_part 111 = .ok (.getfield 200, 3) := by decide +kernel
theorem dX11_part_114 : decode cX11_part 114 = .ok (.iload 5, 2) := by decide +kernel
theorem dX11_part_116 : decode cX11_part 116 = .ok (.ior, 1) := by decide +kernel
theorem dX11_part_117 : decode cX11_part 117 = .ok (.invokevirtual 284, 3) := by decide +kernel
theorem dX11_part_120 : decode cX11_part 120 = .ok (.ifCond .eq 12, 3) := by decide +kernel
theorem dX11_part_123 : decode cX11_part 123 = .ok (.aload_n 0, 1) := by decide +kernel
theorem dX11_part_124 : decode cX11_part 124 = .ok (.iload 5, 2) := by decide +kernel
theorem dX11_part_126 : decode cX11_part 126 = .ok (.putfield 63, 3) := by decide +kernel
theorem dX11_part_129 : decode cX11_part 129 = .ok (.iload 4, 2) := by decide +kernel
theorem dX11_part_131 : decode cX11_part 131 = .ok (.ireturn, 1) := by decide +kernel
theorem dX11_part_132 : decode cX11_part 132 = .ok (.iinc 5 1, 3) := by decide +kernel
theorem dX11_part_135 : decode cX11_part 135 = .ok (.goto (-74), 3) := by decide +kernel
theorem dX11_part_138 : decode cX11_part 138 = .ok (.iinc 4 1, 3) := by decide +kernel
theorem dX11_part_141 : decode cX11_part 141 = .ok (.goto (-90), 3) := by decide +kernel
theorem dX11_part_144 : decode cX11_part 144 = .ok (.iconst (-1), 1) := by decide +kernel
theorem dX11_part_145 : decode cX11_part 145 = .ok (.ireturn, 1) := by decide +kernel
theorem dX11_parting_0 : decode cX11_parting 0 = .ok (.aload_n 0, 1) := by decide +kernel
theorem dX11_parting_1 : decode cX11_parting 1 = .ok (.getfield 63, 3) := by decide +kernel
theorem dX11_parting_4 : decode cX11_parting 4 = .ok (.ireturn, 1) := by decide +kernel
theorem dX11_rests_0 : decode cX11_rests 0 = .ok (.aload_n 0, 1) := by decide +kernel
theorem dX11_rests_1 : decode cX11_rests 1 = .ok (.getfield 76, 3) := by decide +kernel
theorem dX11_rests_4 : decode cX11_rests 4 = .ok (.aload_n 0, 1) := by decide +kernel
theorem dX11_rests_5 : decode cX11_rests 5 = .ok (.getfield 72, 3) := by decide +kernel
theorem dX11_rests_8 : decode cX11_rests 8 = .ok (.invokevirtual 132, 3) := by decide +kernel
theorem dX11_rests_11 : decode cX11_rests 11 = .ok (.iconst 0, 1) := by decide +kernel
theorem dX11_rests_12 : decode cX11_rests 12 = .ok (.istore_n 1, 1) := by decide +kernel
theorem dX11_rests_13 : decode cX11_rests 13 = .ok (.iload_n 1, 1) := by decide +kernel
theorem dX11_rests_14 : decode cX11_rests 14 = .ok (.sipush 400, 3) := by decide +kernel
theorem dX11_rests_17 : decode cX11_rests 17 = .ok (.if_icmp .ge 41, 3) := by decide +kernel
theorem dX11_rests_20 : decode cX11_rests 20 = .ok (.aload_n 0, 1) := by decide +kernel
theorem dX11_rests_21 : decode cX11_rests 21 = .ok (.getfield 76, 3) := by decide +kernel
theorem dX11_rests_24 : decode cX11_rests 24 = .ok (.getfield 207, 3) := by decide +kernel
theorem dX11_rests_27 : decode cX11_rests 27 = .ok (.sipush 400, 3) := by decide +kernel
theorem dX11_rests_30 : decode cX11_rests 30 = .ok (.if_icmp .ge 28, 3) := by decide +kernel
theorem dX11_rests_33 : decode cX11_rests 33 = .ok (.aload_n 0, 1) := by decide +kernel
theorem dX11_rests_34 : decode cX11_rests 34 = .ok (.getfield 76, 3) := by decide +kernel
theorem dX11_rests_37 : decode cX11_rests 37 = .ok (.invokevirtual 288, 3) := by decide +kernel
theorem dX11_rests_40 : decode cX11_rests 40 = .ok (.ifCond .ne 5, 3) := by decide +kernel
theorem dX11_rests_43 : decode cX11_rests 43 = .ok (.iload_n 1, 1) := by decide +kernel
theorem dX11_rests_44 : decode cX11_rests 44 = .ok (.ireturn, 1) := by decide +kernel
theorem dX11_rests_45 : decode cX11_rests 45 = .ok (.aload_n 0, 1) := by decide +kernel
theorem dX11_rests_46 : decode cX11_rests 46 = .ok (.getfield 76, 3) := by decide +kernel
theorem dX11_rests_49 : decode cX11_rests 49 = .ok (.invokevirtual 292, 3) := by decide +kernel
theorem dX11_rests_52 : decode cX11_rests 52 = .ok (.iinc 1 1, 3) := by decide +kernel
theorem dX11_rests_55 : decode cX11_rests 55 = .ok (.goto (-42), 3) := by decide +kernel
theorem dX11_rests_58 : decode cX11_rests 58 = .ok (.iconst (-1), 1) := by decide +kernel
theorem dX11_rests_59 : decode cX11_rests 59 = .ok (.ireturn, 1) := by decide +kernel
theorem dX11_pass_0 : decode cX11_pass 0 = .ok (.aload_n 0, 1) := by decide +kernel
theorem dX11_pass_1 : decode cX11_pass 1 = .ok (.iload_n 1, 1) := by decide +kernel
theorem dX11_pass_2 : decode cX11_pass 2 = .ok (.invokevirtual 135, 3) := by decide +kernel
theorem dX11_pass_5 : decode cX11_pass 5 = .ok (.ifCond .ne 5, 3) := by decide +kernel
theorem dX11_pass_8 : decode cX11_pass 8 = .ok (.iconst (-1), 1) := by decide +kernel
theorem dX11_pass_9 : decode cX11_pass 9 = .ok (.ireturn, 1) := by decide +kernel
theorem dX11_pass_10 : decode cX11_pass 10 = .ok (.aload_n 0, 1) := by decide +kernel
theorem dX11_pass_11 : decode cX11_pass 11 = .ok (.getfield 72, 3) := by decide +kernel
theorem dX11_pass_14 : decode cX11_pass 14 = .ok (.getfield 142, 3) := by decide +kernel
theorem dX11_pass_17 : decode cX11_pass 17 = .ok (.astore_n 2, 1) := by decide +kernel
theorem dX11_pass_18 : decode cX11_pass 18 = .ok (.aload_n 0, 1) := by decide +kernel
theorem dX11_pass_19 : decode cX11_pass 19 = .ok (.getfield 54, 3) := by decide +kernel
theorem dX11_pass_22 : decode cX11_pass 22 = .ok (.iconst 0, 1) := by decide +kernel
theorem dX11_pass_23 : decode cX11_pass 23 = .ok (.putfield 255, 3) := by decide +kernel
theorem dX11_pass_26 : decode cX11_pass 26 = .ok (.aload_n 0, 1) := by decide +kernel
theorem dX11_pass_27 : decode cX11_pass 27 = .ok (.getfield 54, 3) := by decide +kernel
theorem dX11_pass_30 : decode cX11_pass 30 = .ok (.aload_n 2, 1) := by decide +kernel
theorem dX11_pass_31 : decode cX11_pass 31 = .ok (.getfield 295, 3) := by decide +kernel
theorem dX11_pass_34 : decode cX11_pass 34 = .ok (.iload_n 1, 1) := by decide +kernel
theorem dX11_pass_35 : decode cX11_pass 35 = .ok (.laload, 1) := by decide +kernel
theorem dX11_pass_36 : decode cX11_pass 36 = .ok (.invokevirtual 299, 3) := by decide +kernel
theorem dX11_pass_39 : decode cX11_pass 39 = .ok (.aload_n 0, 1) := by decide +kernel
theorem dX11_pass_40 : decode cX11_pass 40 = .ok (.getfield 54, 3) := by decide +kernel
theorem dX11_pass_43 : decode cX11_pass 43 = .ok (.ldc_w 303, 3) := by decide +kernel
theorem dX11_pass_46 : decode cX11_pass 46 = .ok (.invokevirtual 305, 3) := by decide +kernel
theorem dX11_pass_49 : decode cX11_pass 49 = .ok (.aload_n 0, 1) := by decide +kernel
theorem dX11_pass_50 : decode cX11_pass 50 = .ok (.getfield 54, 3) := by decide +kernel
theorem dX11_pass_53 : decode cX11_pass 53 = .ok (.aload_n 2, 1) := by decide +kernel
theorem dX11_pass_54 : decode cX11_pass 54 = .ok (.getfield 309, 3) := by decide +kernel
theorem dX11_pass_57 : decode cX11_pass 57 = .ok (.aload_n 2, 1) := by decide +kernel
theorem dX11_pass_58 : decode cX11_pass 58 = .ok (.getfield 146, 3) := by decide +kernel
theorem dX11_pass_61 : decode cX11_pass 61 = .ok (.iload_n 1, 1) := by decide +kernel
theorem dX11_pass_62 : decode cX11_pass 62 = .ok (.iaload, 1) := by decide +kernel
theorem dX11_pass_63 : decode cX11_pass 63 = .ok (.laload, 1) := by decide +kernel
theorem dX11_pass_64 : decode cX11_pass 64 = .ok (.invokevirtual 299, 3) := by decide +kernel
theorem dX11_pass_67 : decode cX11_pass 67 = .ok (.aload_n 0, 1) := by decide +kernel
theorem dX11_pass_68 : decode cX11_pass 68 = .ok (.getfield 54, 3) := by decide +kernel
theorem dX11_pass_71 : decode cX11_pass 71 = .ok (.ldc_w 312, 3) := by decide +kernel
theorem dX11_pass_74 : decode cX11_pass 74 = .ok (.invokevirtual 305, 3) := by decide +kernel
theorem dX11_pass_77 : decode cX11_pass 77 = .ok (.aload_n 0, 1) := by decide +kernel
theorem dX11_pass_78 : decode cX11_pass 78 = .ok (.getfield 54, 3) := by decide +kernel
theorem dX11_pass_81 : decode cX11_pass 81 = .ok (.aload_n 2, 1) := by decide +kernel
theorem dX11_pass_82 : decode cX11_pass 82 = .ok (.getfield 309, 3) := by decide +kernel
theorem dX11_pass_85 : decode cX11_pass 85 = .ok (.aload_n 0, 1) := by decide +kernel
theorem dX11_pass_86 : decode cX11_pass 86 = .ok (.getfield 72, 3) := by decide +kernel
theorem dX11_pass_89 : decode cX11_pass 89 = .ok (.getfield 149, 3) := by decide +kernel
theorem dX11_pass_92 : decode cX11_pass 92 = .ok (.iload_n 1, 1) := by decide +kernel
theorem dX11_pass_93 : decode cX11_pass 93 = .ok (.iaload, 1) := by decide +kernel
theorem dX11_pass_94 : decode cX11_pass 94 = .ok (.laload, 1) := by decide +kernel
theorem dX11_pass_95 : decode cX11_pass 95 = .ok (.invokevirtual 299, 3) := by decide +kernel
theorem dX11_pass_98 : decode cX11_pass 98 = .ok (.aload_n 0, 1) := by decide +kernel
theorem dX11_pass_99 : decode cX11_pass 99 = .ok (.getfield 54, 3) := by decide +kernel
theorem dX11_pass_102 : decode cX11_pass 102 = .ok (.ldc_w 314, 3) := by decide +kernel
theorem dX11_pass_105 : decode cX11_pass 105 = .ok (.invokevirtual 305, 3) := by decide +kernel
theorem dX11_pass_108 : decode cX11_pass 108 = .ok (.aload_n 0, 1) := by decide +kernel
theorem dX11_pass_109 : decode cX11_pass 109 = .ok (.getfield 54, 3) := by decide +kernel
theorem dX11_pass_112 : decode cX11_pass 112 = .ok (.aload_n 0, 1) := by decide +kernel
theorem dX11_pass_113 : decode cX11_pass 113 = .ok (.getfield 72, 3) := by decide +kernel
theorem dX11_pass_116 : decode cX11_pass 116 = .ok (.getfield 152, 3) := by decide +kernel
theorem dX11_pass_119 : decode cX11_pass 119 = .ok (.iload_n 1, 1) := by decide +kernel
theorem dX11_pass_120 : decode cX11_pass 120 = .ok (.iaload, 1) := by decide +kernel
theorem dX11_pass_121 : decode cX11_pass 121 = .ok (.invokevirtual 316, 3) := by decide +kernel
theorem dX11_pass_124 : decode cX11_pass 124 = .ok (.aload_n 0, 1) := by decide +kernel
theorem dX11_pass_125 : decode cX11_pass 125 = .ok (.getfield 54, 3) := by decide +kernel
theorem dX11_pass_128 : decode cX11_pass 128 = .ok (.getfield 255, 3) := by decide +kernel
theorem dX11_pass_131 : decode cX11_pass 131 = .ok (.ireturn, 1) := by decide +kernel
theorem dX11_byteAt_0 : decode cX11_byteAt 0 = .ok (.aload_n 0, 1) := by decide +kernel
theorem dX11_byteAt_1 : decode cX11_byteAt 1 = .ok (.getfield 54, 3) := by decide +kernel
theorem dX11_byteAt_4 : decode cX11_byteAt 4 = .ok (.iload_n 1, 1) := by decide +kernel
theorem dX11_byteAt_5 : decode cX11_byteAt 5 = .ok (.invokevirtual 256, 3) := by decide +kernel
theorem dX11_byteAt_8 : decode cX11_byteAt 8 = .ok (.ireturn, 1) := by decide +kernel
theorem dX11_drawn_0 : decode cX11_drawn 0 = .ok (.iload_n 1, 1) := by decide +kernel
theorem dX11_drawn_1 : decode cX11_drawn 1 = .ok (.iconst 1, 1) := by decide +kernel
theorem dX11_drawn_2 : decode cX11_drawn 2 = .ok (.if_icmp .lt 22, 3) := by decide +kernel
theorem dX11_drawn_5 : decode cX11_drawn 5 = .ok (.iload_n 1, 1) := by decide +kernel
theorem dX11_drawn_6 : decode cX11_drawn 6 = .ok (.bipush 60, 2) := by decide +kernel
theorem dX11_drawn_8 : decode cX11_drawn 8 = .ok (.if_icmp .gt 16, 3) := by decide +kernel
theorem dX11_drawn_11 : decode cX11_drawn 11 = .ok (.aload_n 0, 1) := by decide +kernel
theorem dX11_drawn_12 : decode cX11_drawn 12 = .ok (.getfield 72, 3) := by decide +kernel
theorem dX11_drawn_15 : decode cX11_drawn 15 = .ok (.getfield 142, 3) := by decide +kernel
theorem dX11_drawn_18 : decode cX11_drawn 18 = .ok (.getfield 262, 3) := by decide +kernel
theorem dX11_drawn_21 : decode cX11_drawn 21 = .ok (.ifCond .ne 5, 3) := by decide +kernel
theorem dX11_drawn_24 : decode cX11_drawn 24 = .ok (.iconst (-1), 1) := by decide +kernel
theorem dX11_drawn_25 : decode cX11_drawn 25 = .ok (.ireturn, 1) := by decide +kernel
theorem dX11_drawn_26 : decode cX11_drawn 26 = .ok (.aload_n 0, 1) := by decide +kernel
theorem dX11_drawn_27 : decode cX11_drawn 27 = .ok (.getfield 72, 3) := by decide +kernel
theorem dX11_drawn_30 : decode cX11_drawn 30 = .ok (.getfield 207, 3) := by decide +kernel
theorem dX11_drawn_33 : decode cX11_drawn 33 = .ok (.sipush 400, 3) := by decide +kernel
theorem dX11_drawn_36 : decode cX11_drawn 36 = .ok (.if_icmp .lt 5, 3) := by decide +kernel
theorem dX11_drawn_39 : decode cX11_drawn 39 = .ok (.iconst 0, 1) := by decide +kernel
theorem dX11_drawn_40 : decode cX11_drawn 40 = .ok (.ireturn, 1) := by decide +kernel
theorem dX11_drawn_41 : decode cX11_drawn 41 = .ok (.aload_n 0, 1) := by decide +kernel
theorem dX11_drawn_42 : decode cX11_drawn 42 = .ok (.invokevirtual 319, 3) := by decide +kernel
theorem dX11_drawn_45 : decode cX11_drawn 45 = .ok (.aload_n 0, 1) := by decide +kernel
theorem dX11_drawn_46 : decode cX11_drawn 46 = .ok (.getfield 72, 3) := by decide +kernel
theorem dX11_drawn_49 : decode cX11_drawn 49 = .ok (.iload_n 1, 1) := by decide +kernel
theorem dX11_drawn_50 : decode cX11_drawn 50 = .ok (.iload_n 2, 1) := by decide +kernel
theorem dX11_drawn_51 : decode cX11_drawn 51 = .ok (.invokevirtual 322, 3) := by decide +kernel
theorem dX11_drawn_54 : decode cX11_drawn 54 = .ok (.ireturn, 1) := by decide +kernel
theorem dX11_odds_0 : decode cX11_odds 0 = .ok (.aload_n 0, 1) := by decide +kernel
theorem dX11_odds_1 : decode cX11_odds 1 = .ok (.iload_n 1, 1) := by decide +kernel
theorem dX11_odds_2 : decode cX11_odds 2 = .ok (.invokevirtual 135, 3) := by decide +kernel
theorem dX11_odds_5 : decode cX11_odds 5 = .ok (.ifCond .eq 14, 3) := by decide +kernel
theorem dX11_odds_8 : decode cX11_odds 8 = .ok (.iload_n 2, 1) := by decide +kernel
theorem dX11_odds_9 : decode cX11_odds 9 = .ok (.iconst 1, 1) := by decide +kernel
theorem dX11_odds_10 : decode cX11_odds 10 = .ok (.if_icmp .lt 9, 3) := by decide +kernel
theorem dX11_odds_13 : decode cX11_odds 13 = .ok (.iload_n 2, 1) := by decide +kernel
theorem dX11_odds_14 : decode cX11_odds 14 = .ok (.bipush 30, 2) := by decide +kernel
theorem dX11_odds_16 : decode cX11_odds 16 = .ok (.if_icmp .le 5, 3) := by decide +kernel
theorem dX11_odds_19 : decode cX11_odds 19 = .ok (.iconst (-1), 1) := by decide +kernel
theorem dX11_odds_20 : decode cX11_odds 20 = .ok (.ireturn, 1) := by decide +kernel
theorem dX11_odds_21 : decode cX11_odds 21 = .ok (.iconst 0, 1) := by decide +kernel
theorem dX11_odds_22 : decode cX11_odds 22 = .ok (.istore 4, 2) := by decide +kernel
theorem dX11_odds_24 : decode cX11_odds 24 = .ok (.iconst 0, 1) := by decide +kernel
theorem dX11_odds_25 : decode cX11_odds 25 = .ok (.istore 5, 2) := by decide +kernel
theorem dX11_odds_27 : decode cX11_odds 27 = .ok (.iload 5, 2) := by decide +kernel
theorem dX11_odds_29 : decode cX11_odds 29 = .ok (.iload_n 2, 1) := by decide +kernel
theorem dX11_odds_30 : decode cX11_odds 30 = .ok (.if_icmp .ge 58, 3) := by decide +kernel
theorem dX11_odds_33 : decode cX11_odds 33 = .ok (.aload_n 0, 1) := by decide +kernel
theorem dX11_odds_34 : decode cX11_odds 34 = .ok (.getfield 76, 3) := by decide +kernel
theorem dX11_odds_37 : decode cX11_odds 37 = .ok (.aload_n 0, 1) := by decide +kernel
theorem dX11_odds_38 : decode cX11_odds 38 = .ok (.getfield 72, 3) := by decide +kernel
theorem dX11_odds_41 : decode cX11_odds 41 = .ok (.invokevirtual 132, 3) := by decide +kernel
theorem dX11_odds_44 : decode cX11_odds 44 = .ok (.aload_n 0, 1) := by decide +kernel
theorem dX11_odds_45 : decode cX11_odds 45 = .ok (.getfield 76, 3) := by decide +kernel
theorem dX11_odds_48 : decode cX11_odds 48 = .ok (.bipush 20, 2) := by decide +kernel
theorem dX11_odds_50 : decode cX11_odds 50 = .ok (.iload_n 3, 1) := by decide +kernel
theorem dX11_odds_51 : decode cX11_odds 51 = .ok (.iload 5, 2) := by decide +kernel
theorem dX11_odds_53 : decode cX11_odds 53 = .ok (.iadd, 1) := by decide +kernel
theorem dX11_odds_54 : decode cX11_odds 54 = .ok (.invokevirtual 322, 3) := by decide +kernel
theorem dX11_odds_57 : decode cX11_odds 57 = .ok (.pop, 1) := by decide +kernel
theorem dX11_odds_58 : decode cX11_odds 58 = .ok (.aload_n 0, 1) := by decide +kernel
theorem dX11_odds_59 : decode cX11_odds 59 = .ok (.getfield 76, 3) := by decide +kernel
theorem dX11_odds_62 : decode cX11_odds 62 = .ok (.getfield 152, 3) := by decide +kernel
theorem dX11_odds_65 : decode cX11_odds 65 = .ok (.iload_n 1, 1) := by decide +kernel
theorem dX11_odds_66 : decode cX11_odds 66 = .ok (.iaload, 1) := by decide +kernel
theorem dX11_odds_67 : decode cX11_odds 67 = .ok (.aload_n 0, 1) := by decide +kernel
theorem dX11_odds_68 : decode cX11_odds 68 = .ok (.getfield 72, 3) := by decide +kernel
theorem dX11_odds_71 : decode cX11_odds 71 = .ok (.getfield 152, 3) := by decide +kernel
theorem dX11_odds_74 : decode cX11_odds 74 = .ok (.iload_n 1, 1) := by decide +kernel
theorem dX11_odds_75 : decode cX11_odds 75 = .ok (.iaload, 1) := by decide +kernel
theorem dX11_odds_76 : decode cX11_odds 76 = .ok (.if_icmp .le 6, 3) := by decide +kernel
theorem dX11_odds_79 : decode cX11_odds 79 = .ok (.iinc 4 1, 3) := by decide +kernel
theorem dX11_odds_82 : decode cX11_odds 82 = .ok (.iinc 5 1, 3) := by decide +kernel
theorem dX11_odds_85 : decode cX11_odds 85 = .ok (.goto (-58), 3) := by decide +kernel
theorem dX11_odds_88 : decode cX11_odds 88 = .ok (.iload 4, 2) := by decide +kernel
theorem dX11_odds_90 : decode cX11_odds 90 = .ok (.ireturn, 1) := by decide +kernel
theorem dX11_book_0 : decode cX11_book 0 = .ok (.iload_n 1, 1) := by decide +kernel
theorem dX11_book_1 : decode cX11_book 1 = .ok (.ifCond .eq 12, 3) := by decide +kernel
theorem dX11_book_4 : decode cX11_book 4 = .ok (.iload_n 1, 1) := by decide +kernel
theorem dX11_book_5 : decode cX11_book 5 = .ok (.iconst 1, 1) := by decide +kernel
theorem dX11_book_6 : decode cX11_book 6 = .ok (.if_icmp .eq 7, 3) := by decide +kernel
theorem dX11_book_9 : decode cX11_book 9 = .ok (.sipush (-1000), 3) := by decide +kernel
theorem dX11_book_12 : decode cX11_book 12 = .ok (.ireturn, 1) := by decide +kernel
theorem dX11_book_13 : decode cX11_book 13 = .ok (.aload_n 0, 1) := by decide +kernel
theorem dX11_book_14 : decode cX11_book 14 = .ok (.getfield 93, 3) := by decide +kernel
theorem dX11_book_17 : decode cX11_book 17 = .ok (.aload_n 0, 1) := by decide +kernel
theorem dX11_book_18 : decode cX11_book 18 = .ok (.getfield 72, 3) := by decide +kernel
theorem dX11_book_21 : decode cX11_book 21 = .ok (.getfield 142, 3) := by decide +kernel
theorem dX11_book_24 : decode cX11_book 24 = .ok (.invokevirtual 325, 3) := by decide +kernel
theorem dX11_book_27 : decode cX11_book 27 = .ok (.aload_n 0, 1) := by decide +kernel
theorem dX11_book_28 : decode cX11_book 28 = .ok (.getfield 10, 3) := by decide +kernel
theorem dX11_book_31 : decode cX11_book 31 = .ok (.iconst 0, 1) := by decide +kernel
theorem dX11_book_32 : decode cX11_book 32 = .ok (.putfield 113, 3) := by decide +kernel
theorem dX11_book_35 : decode cX11_book 35 = .ok (.aload_n 0, 1) := by decide +kernel
theorem dX11_book_36 : decode cX11_book 36 = .ok (.getfield 10, 3) := by decide +kernel
theorem dX11_book_39 : decode cX11_book 39 = .ok (.getfield 126, 3) := by decide +kernel
theorem dX11_book_42 : decode cX11_book 42 = .ok (.ifCond .eq 14, 3) := by decide +kernel
theorem dX11_book_45 : decode cX11_book 45 = .ok (.bipush (-2), 2) := by decide +kernel
theorem dX11_book_47 : decode cX11_book 47 = .ok (.aload_n 0, 1) := by decide +kernel
theorem dX11_book_48 : decode cX11_book 48 = .ok (.getfield 10, 3) := by decide +kernel
theorem dX11_book_51 : decode cX11_book 51 = .ok (.getfield 129, 3) := by decide +kernel
theorem dX11_book_54 : decode cX11_book 54 = .ok (.isub, 1) := by decide +kernel
theorem dX11_book_55 : decode cX11_book 55 = .ok (.ireturn, 1) := by decide +kernel
theorem dX11_book_56 : decode cX11_book 56 = .ok (.aload_n 0, 1) := by decide +kernel
theorem dX11_book_57 : decode cX11_book 57 = .ok (.getfield 76, 3) := by decide +kernel
theorem dX11_book_60 : decode cX11_book 60 = .ok (.aload_n 0, 1) := by decide +kernel
theorem dX11_book_61 : decode cX11_book 61 = .ok (.getfield 72, 3) := by decide +kernel
theorem dX11_book_64 : decode cX11_book 64 = .ok (.invokevirtual 132, 3) := by decide +kernel
theorem dX11_book_67 : decode cX11_book 67 = .ok (.aload_n 0, 1) := by decide +kernel
theorem dX11_book_68 : decode cX11_book 68 = .ok (.getfield 93, 3) := by decide +kernel
theorem dX11_book_71 : decode cX11_book 71 = .ok (.aload_n 0, 1) := by decide +kernel
theorem dX11_book_72 : decode cX11_book 72 = .ok (.getfield 76, 3) := by decide +kernel
theorem dX11_book_75 : decode cX11_book 75 = .ok (.invokevirtual 327, 3) := by decide +kernel
theorem dX11_book_78 : decode cX11_book 78 = .ok (.istore_n 2, 1) := by decide +kernel
theorem dX11_book_79 : decode cX11_book 79 = .ok (.aload_n 0, 1) := by decide +kernel
theorem dX11_book_80 : decode cX11_book 80 = .ok (.getfield 35, 3) := by decide +kernel
theorem dX11_book_83 : decode cX11_book 83 = .ok (.iconst 0, 1) := by decide +kernel
theorem dX11_book_84 : decode cX11_book 84 = .ok (.aload_n 0, 1) := by decide +kernel
theorem dX11_book_85 : decode cX11_book 85 = .ok (.getfield 93, 3) := by decide +kernel
theorem dX11_book_88 : decode cX11_book 88 = .ok (.getfield 331, 3) := by decide +kernel
theorem dX11_book_91 : decode cX11_book 91 = .ok (.iastore, 1) := by decide +kernel
theorem dX11_book_92 : decode cX11_book 92 = .ok (.aload_n 0, 1) := by decide +kernel
theorem dX11_book_93 : decode cX11_book 93 = .ok (.getfield 35, 3) := by decide +kernel
theorem dX11_book_96 : decode cX11_book 96 = .ok (.iconst 1, 1) := by decide +kernel
theorem dX11_book_97 : decode cX11_book 97 = .ok (.iload_n 2, 1) := by decide +kernel
theorem dX11_book_98 : decode cX11_book 98 = .ok (.iastore, 1) := by decide +kernel
theorem dX11_book_99 : decode cX11_book 99 = .ok (.aload_n 0, 1) := by decide +kernel
theorem dX11_book_100 : decode cX11_book 100 = .ok (.getfield 35, 3) := by decide +kernel
theorem dX11_book_103 : decode cX11_book 103 = .ok (.iconst 2, 1) := by decide +kernel
theorem dX11_book_104 : decode cX11_book 104 = .ok (.aload_n 0, 1) := by decide +kernel
theorem dX11_book_105 : decode cX11_book 105 = .ok (.getfield 76, 3) := by decide +kernel
theorem dX11_book_108 : decode cX11_book 108 = .ok (.getfield 207, 3) := by decide +kernel
theorem dX11_book_111 : decode cX11_book 111 = .ok (.iastore, 1) := by decide +kernel
theorem dX11_book_112 : decode cX11_book 112 = .ok (.aload_n 0, 1) := by decide +kernel
theorem dX11_book_113 : decode cX11_book 113 = .ok (.getfield 35, 3) := by decide +kernel
theorem dX11_book_116 : decode cX11_book 116 = .ok (.iconst 3, 1) := by decide +kernel
theorem dX11_book_117 : decode cX11_book 117 = .ok (.aload_n 0, 1) := by decide +kernel
theorem dX11_book_118 : decode cX11_book 118 = .ok (.getfield 76, 3) := by decide +kernel
theorem dX11_book_121 : decode cX11_book 121 = .ok (.invokevirtual 210, 3) := by decide +kernel
theorem dX11_book_124 : decode cX11_book 124 = .ok (.iastore, 1) := by decide +kernel
theorem dX11_book_125 : decode cX11_book 125 = .ok (.iload_n 1, 1) := by decide +kernel
theorem dX11_book_126 : decode cX11_book 126 = .ok (.iconst 1, 1) := by decide +kernel
theorem dX11_book_127 : decode cX11_book 127 = .ok (.if_icmp .ne 22, 3) := by decide +kernel
theorem dX11_book_130 : decode cX11_book 130 = .ok (.iload_n 2, 1) := by decide +kernel
theorem dX11_book_131 : decode cX11_book 131 = .ok (.ifCond .le 18, 3) := by decide +kernel
theorem dX11_book_134 : decode cX11_book 134 = .ok (.aload_n 0, 1) := by decide +kernel
theorem dX11_book_135 : decode cX11_book 135 = .ok (.invokevirtual 319, 3) := by decide +kernel
theorem dX11_book_138 : decode cX11_book 138 = .ok (.aload_n 0, 1) := by decide +kernel
theorem dX11_book_139 : decode cX11_book 139 = .ok (.getfield 72, 3) := by decide +kernel
theorem dX11_book_142 : decode cX11_book 142 = .ok (.aload_n 0, 1) := by decide +kernel
theorem dX11_book_143 : decode cX11_book 143 = .ok (.getfield 76, 3) := by decide +kernel
theorem dX11_book_146 : decode cX11_book 146 = .ok (.invokevirtual 132, 3) := by decide +kernel
theorem dX11_book_149 : decode cX11_book 149 = .ok (.aload_n 0, 1) := by decide +kernel
theorem dX11_book_150 : decode cX11_book 150 = .ok (.getfield 93, 3) := by decide +kernel
theorem dX11_book_153 : decode cX11_book 153 = .ok (.getfield 331, 3) := by decide +kernel
theorem dX11_book_156 : decode cX11_book 156 = .ok (.ifCond .ne 7, 3) := by decide +kernel
theorem dX11_book_159 : decode cX11_book 159 = .ok (.iconst (-1), 1) := by decide +kernel
theorem dX11_book_160 : decode cX11_book 160 = .ok (.goto 4, 3) := by decide +kernel
theorem dX11_book_163 : decode cX11_book 163 = .ok (.iload_n 2, 1) := by decide +kernel
theorem dX11_book_164 : decode cX11_book 164 = .ok (.ireturn, 1) := by decide +kernel
theorem dX11_told_0 : decode cX11_told 0 = .ok (.iload_n 1, 1) := by decide +kernel
theorem dX11_told_1 : decode cX11_told 1 = .ok (.ifCond .lt 21, 3) := by decide +kernel
theorem dX11_told_4 : decode cX11_told 4 = .ok (.iload_n 1, 1) := by decide +kernel
theorem dX11_told_5 : decode cX11_told 5 = .ok (.aload_n 0, 1) := by decide +kernel
theorem dX11_told_6 : decode cX11_told 6 = .ok (.getfield 35, 3) := by decide +kernel
theorem dX11_told_9 : decode cX11_told 9 = .ok (.arraylength, 1) := by decide +kernel
theorem dX11_told_10 : decode cX11_told 10 = .ok (.if_icmp .ge 12, 3) := by decide +kernel
theorem dX11_told_13 : decode cX11_told 13 = .ok (.aload_n 0, 1) := by decide +kernel
theorem dX11_told_14 : decode cX11_told 14 = .ok (.getfield 35, 3) := by decide +kernel
theorem dX11_told_17 : decode cX11_told 17 = .ok (.iload_n 1, 1) := by decide +kernel
theorem dX11_told_18 : decode cX11_told 18 = .ok (.iaload, 1) := by decide +kernel
theorem dX11_told_19 : decode cX11_told 19 = .ok (.goto 4, 3) := by decide +kernel
theorem dX11_told_22 : decode cX11_told 22 = .ok (.iconst (-1), 1) := by decide +kernel
theorem dX11_told_23 : decode cX11_told 23 = .ok (.ireturn, 1) := by decide +kernel
theorem dX11_sentence_0 : decode cX11_sentence 0 = .ok (.new 334, 3) := by decide +kernel
theorem dX11_sentence_3 : decode cX11_sentence 3 = .ok (.dup, 1) := by decide +kernel
theorem dX11_sentence_4 : decode cX11_sentence 4 = .ok (.aload_n 0, 1) := by decide +kernel
theorem dX11_sentence_5 : decode cX11_sentence 5 = .ok (.getfield 10, 3) := by decide +kernel
theorem dX11_sentence_8 : decode cX11_sentence 8 = .ok (.aload_n 0, 1) := by decide +kernel
theorem dX11_sentence_9 : decode cX11_sentence 9 = .ok (.getfield 72, 3) := by decide +kernel
theorem dX11_sentence_12 : decode cX11_sentence 12 = .ok (.getfield 142, 3) := by decide +kernel
theorem dX11_sentence_15 : decode cX11_sentence 15 = .ok (.invokespecial 336, 3) := by decide +kernel
theorem dX11_sentence_18 : decode cX11_sentence 18 = .ok (.astore_n 1, 1) := by decide +kernel
theorem dX11_sentence_19 : decode cX11_sentence 19 = .ok (.aload_n 1, 1) := by decide +kernel
theorem dX11_sentence_20 : decode cX11_sentence 20 = .ok (.invokevirtual 337, 3) := by decide +kernel
theorem dX11_sentence_23 : decode cX11_sentence 23 = .ok (.aload_n 0, 1) := by decide +kernel
theorem dX11_sentence_24 : decode cX11_sentence 24 = .ok (.getfield 10, 3) := by decide +kernel
theorem dX11_sentence_27 : decode cX11_sentence 27 = .ok (.iconst 0, 1) := by decide +kernel
theorem dX11_sentence_28 : decode cX11_sentence 28 = .ok (.putfield 113, 3) := by decide +kernel
theorem dX11_sentence_31 : decode cX11_sentence 31 = .ok (.aload_n 0, 1) := by decide +kernel
theorem dX11_sentence_32 : decode cX11_sentence 32 = .ok (.getfield 10, 3) := by decide +kernel
theorem dX11_sentence_35 : decode cX11_sentence 35 = .ok (.getfield 126, 3) := by decide +kernel
theorem dX11_sentence_38 : decode cX11_sentence 38 = .ok (.ifCond .eq 13, 3) := by decide +kernel
theorem dX11_sentence_41 : decode cX11_sentence 41 = .ok (.iconst (-1), 1) := by decide +kernel
theorem dX11_sentence_42 : decode cX11_sentence 42 = .ok (.aload_n 0, 1) := by decide +kernel
theorem dX11_sentence_43 : decode cX11_sentence 43 = .ok (.getfield 10, 3) := by decide +kernel
theorem dX11_sentence_46 : decode cX11_sentence 46 = .ok (.getfield 129, 3) := by decide +kernel
theorem dX11_sentence_49 : decode cX11_sentence 49 = .ok (.isub, 1) := by decide +kernel
theorem dX11_sentence_50 : decode cX11_sentence 50 = .ok (.ireturn, 1) := by decide +kernel
theorem dX11_sentence_51 : decode cX11_sentence 51 = .ok (.aload_n 0, 1) := by decide +kernel
theorem dX11_sentence_52 : decode cX11_sentence 52 = .ok (.getfield 72, 3) := by decide +kernel
theorem dX11_sentence_55 : decode cX11_sentence 55 = .ok (.aload_n 1, 1) := by decide +kernel
theorem dX11_sentence_56 : decode cX11_sentence 56 = .ok (.putfield 238, 3) := by decide +kernel
theorem dX11_sentence_59 : decode cX11_sentence 59 = .ok (.aload_n 1, 1) := by decide +kernel
theorem dX11_sentence_60 : decode cX11_sentence 60 = .ok (.getfield 339, 3) := by decide +kernel
theorem dX11_sentence_63 : decode cX11_sentence 63 = .ok (.ireturn, 1) := by decide +kernel
theorem dX11_said_0 : decode cX11_said 0 = .ok (.aload_n 0, 1) := by decide +kernel
theorem dX11_said_1 : decode cX11_said 1 = .ok (.getfield 72, 3) := by decide +kernel
theorem dX11_said_4 : decode cX11_said 4 = .ok (.getfield 238, 3) := by decide +kernel
theorem dX11_said_7 : decode cX11_said 7 = .ok (.ifnull 8, 3) := by decide +kernel
theorem dX11_said_10 : decode cX11_said 10 = .ok (.iload_n 1, 1) := by decide +kernel
theorem dX11_said_11 : decode cX11_said 11 = .ok (.iconst (-1), 1) := by decide +kernel
theorem dX11_said_12 : decode cX11_said 12 = .ok (.if_icmp .ge 5, 3) := by decide +kernel
theorem dX11_said_15 : decode cX11_said 15 = .ok (.iconst (-1), 1) := by decide +kernel
theorem dX11_said_16 : decode cX11_said 16 = .ok (.ireturn, 1) := by decide +kernel
theorem dX11_said_17 : decode cX11_said 17 = .ok (.aload_n 0, 1) := by decide +kernel
theorem dX11_said_18 : decode cX11_said 18 = .ok (.getfield 72, 3) := by decide +kernel
theorem dX11_said_21 : decode cX11_said 21 = .ok (.getfield 238, 3) := by decide +kernel
theorem dX11_said_24 : decode cX11_said 24 = .ok (.aload_n 0, 1) := by decide +kernel
theorem dX11_said_25 : decode cX11_said 25 = .ok (.getfield 72, 3) := by decide +kernel
theorem dX11_said_28 : decode cX11_said 28 = .ok (.invokevirtual 342, 3) := by decide +kernel
theorem dX11_said_31 : decode cX11_said 31 = .ok (.istore_n 2, 1) := by decide +kernel
theorem dX11_said_32 : decode cX11_said 32 = .ok (.iload_n 1, 1) := by decide +kernel
theorem dX11_said_33 : decode cX11_said 33 = .ok (.iconst (-1), 1) := by decide +kernel
theorem dX11_said_34 : decode cX11_said 34 = .ok (.if_icmp .ne 8, 3) := by decide +kernel
theorem dX11_said_37 : decode cX11_said 37 = .ok (.iload_n 2, 1) := by decide +kernel
theorem dX11_said_38 : decode cX11_said 38 = .ok (.invokestatic 265, 3) := by decide +kernel
theorem dX11_said_41 : decode cX11_said 41 = .ok (.ireturn, 1) := by decide +kernel
theorem dX11_said_42 : decode cX11_said 42 = .ok (.iconst 0, 1) := by decide +kernel
theorem dX11_said_43 : decode cX11_said 43 = .ok (.istore_n 3, 1) := by decide +kernel
theorem dX11_said_44 : decode cX11_said 44 = .ok (.iconst 0, 1) := by decide +kernel
theorem dX11_said_45 : decode cX11_said 45 = .ok (.istore 4, 2) := by decide +kernel
theorem dX11_said_47 : decode cX11_said 47 = .ok (.iload 4, 2) := by decide +kernel
theorem dX11_said_49 : decode cX11_said 49 = .ok (.aload_n 0, 1) := by decide +kernel
theorem dX11_said_50 : decode cX11_said 50 = .ok (.getfield 72, 3) := by decide +kernel
theorem dX11_said_53 : decode cX11_said 53 = .ok (.getfield 142, 3) := by decide +kernel
theorem dX11_said_56 : decode cX11_said 56 = .ok (.getfield 345, 3) := by decide +kernel
theorem dX11_said_59 : decode cX11_said 59 = .ok (.if_icmp .ge 29, 3) := by decide +kernel
theorem dX11_said_62 : decode cX11_said 62 = .ok (.iload_n 2, 1) := by decide +kernel
theorem dX11_said_63 : decode cX11_said 63 = .ok (.iload 4, 2) := by decide +kernel
theorem dX11_said_65 : decode cX11_said 65 = .ok (.invokestatic 203, 3) := by decide +kernel
theorem dX11_said_68 : decode cX11_said 68 = .ok (.ifCond .eq 14, 3) := by decide +kernel
theorem dX11_said_71 : decode cX11_said 71 = .ok (.iload_n 3, 1) := by decide +kernel
theorem dX11_said_72 : decode cX11_said 72 = .ok (.iload_n 1, 1) := by decide +kernel
theorem dX11_said_73 : decode cX11_said 73 = .ok (.if_icmp .ne 6, 3) := by decide +kernel
theorem dX11_said_76 : decode cX11_said 76 = .ok (.iload 4, 2) := by decide +kernel
theorem dX11_said_78 : decode cX11_said 78 = .ok (.ireturn, 1) := by decide +kernel
theorem dX11_said_79 : decode cX11_said 79 = .ok (.iinc 3 1, 3) := by decide +kernel
theorem dX11_said_82 : decode cX11_said 82 = .ok (.iinc 4 1, 3) := by decide +kernel
theorem dX11_said_85 : decode cX11_said 85 = .ok (.goto (-38), 3) := by decide +kernel
theorem dX11_said_88 : decode cX11_said 88 = .ok (.iconst (-1), 1) := by decide +kernel
theorem dX11_said_89 : decode cX11_said 89 = .ok (.ireturn, 1) := by decide +kernel
theorem dX11_image_0 : decode cX11_image 0 = .ok (.iload_n 1, 1) := by decide +kernel
theorem dX11_image_1 : decode cX11_image 1 = .ok (.ifCond .lt 8, 3) := by decide +kernel
theorem dX11_image_4 : decode cX11_image 4 = .ok (.iload_n 1, 1) := by decide +kernel
theorem dX11_image_5 : decode cX11_image 5 = .ok (.iconst 2, 1) := by decide +kernel
theorem dX11_image_6 : decode cX11_image 6 = .ok (.if_icmp .lt 5, 3) := by decide +kernel
theorem dX11_image_9 : decode cX11_image 9 = .ok (.iconst 0, 1) := by decide +kernel
theorem dX11_image_10 : decode cX11_image 10 = .ok (.ireturn, 1) := by decide +kernel
theorem dX11_image_11 : decode cX11_image 11 = .ok (.aload_n 0, 1) := by decide +kernel
theorem dX11_image_12 : decode cX11_image 12 = .ok (.getfield 29, 3) := by decide +kernel
theorem dX11_image_15 : decode cX11_image 15 = .ok (.iload_n 1, 1) := by decide +kernel
theorem dX11_image_16 : decode cX11_image 16 = .ok (.aaload, 1) := by decide +kernel
theorem dX11_image_17 : decode cX11_image 17 = .ok (.aload_n 0, 1) := by decide +kernel
theorem dX11_image_18 : decode cX11_image 18 = .ok (.getfield 72, 3) := by decide +kernel
theorem dX11_image_21 : decode cX11_image 21 = .ok (.invokevirtual 132, 3) := by decide +kernel
theorem dX11_image_24 : decode cX11_image 24 = .ok (.aload_n 0, 1) := by decide +kernel
theorem dX11_image_25 : decode cX11_image 25 = .ok (.dup, 1) := by decide +kernel
theorem dX11_image_26 : decode cX11_image 26 = .ok (.getfield 32, 3) := by decide +kernel
theorem dX11_image_29 : decode cX11_image 29 = .ok (.iconst 1, 1) := by decide +kernel
theorem dX11_image_30 : decode cX11_image 30 = .ok (.iload_n 1, 1) := by decide +kernel
theorem dX11_image_31 : decode cX11_image 31 = .ok (.ishl, 1) := by decide +kernel
theorem dX11_image_32 : decode cX11_image 32 = .ok (.ior, 1) := by decide +kernel
theorem dX11_image_33 : decode cX11_image 33 = .ok (.putfield 32, 3) := by decide +kernel
theorem dX11_image_36 : decode cX11_image 36 = .ok (.iconst 1, 1) := by decide +kernel
theorem dX11_image_37 : decode cX11_image 37 = .ok (.ireturn, 1) := by decide +kernel
theorem dX11_restore_0 : decode cX11_restore 0 = .ok (.iload_n 1, 1) := by decide +kernel
theorem dX11_restore_1 : decode cX11_restore 1 = .ok (.ifCond .lt 19, 3) := by decide +kernel
theorem dX11_restore_4 : decode cX11_restore 4 = .ok (.iload_n 1, 1) := by decide +kernel
theorem dX11_restore_5 : decode cX11_restore 5 = .ok (.iconst 2, 1) := by decide +kernel
theorem dX11_restore_6 : decode cX11_restore 6 = .ok (.if_icmp .ge 14, 3) := by decide +kernel
theorem dX11_restore_9 : decode cX11_restore 9 = .ok (.aload_n 0, 1) := by decide +kernel
theorem dX11_restore_10 : decode cX11_restore 10 = .ok (.getfield 32, 3) := by decide +kernel
theorem dX11_restore_13 : decode cX11_restore 13 = .ok (.iload_n 1, 1) := by decide +kernel
theorem dX11_restore_14 : decode cX11_restore 14 = .ok (.invokestatic 203, 3) := by decide +kernel
theorem dX11_restore_17 : decode cX11_restore 17 = .ok (.ifCond .ne 5, 3) := by decide +kernel
theorem dX11_restore_20 : decode cX11_restore 20 = .ok (.iconst 0, 1) := by decide +kernel
theorem dX11_restore_21 : decode cX11_restore 21 = .ok (.ireturn, 1) := by decide +kernel
theorem dX11_restore_22 : decode cX11_restore 22 = .ok (.aload_n 0, 1) := by decide +kernel
theorem dX11_restore_23 : decode cX11_restore 23 = .ok (.getfield 72, 3) := by decide +kernel
theorem dX11_restore_26 : decode cX11_restore 26 = .ok (.aload_n 0, 1) := by decide +kernel
theorem dX11_restore_27 : decode cX11_restore 27 = .ok (.getfield 29, 3) := by decide +kernel
theorem dX11_restore_30 : decode cX11_restore 30 = .ok (.iload_n 1, 1) := by decide +kernel
theorem dX11_restore_31 : decode cX11_restore 31 = .ok (.aaload, 1) := by decide +kernel
theorem dX11_restore_32 : decode cX11_restore 32 = .ok (.invokevirtual 132, 3) := by decide +kernel
theorem dX11_restore_35 : decode cX11_restore 35 = .ok (.aload_n 0, 1) := by decide +kernel
theorem dX11_restore_36 : decode cX11_restore 36 = .ok (.iconst 0, 1) := by decide +kernel
theorem dX11_restore_37 : decode cX11_restore 37 = .ok (.putfield 26, 3) := by decide +kernel
theorem dX11_restore_40 : decode cX11_restore 40 = .ok (.iconst 1, 1) := by decide +kernel
theorem dX11_restore_41 : decode cX11_restore 41 = .ok (.ireturn, 1) := by decide +kernel
theorem dX11_count_0 : decode cX11_count 0 = .ok (.iload_n 1, 1) := by decide +kernel
theorem dX11_count_1 : decode cX11_count 1 = .ok (.tableswitch 72 0 3 #[31, 42, 53, 64], 31) := by decide +kernel
theorem dX11_count_32 : decode cX11_count 32 = .ok (.aload_n 0, 1) := by decide +kernel
theorem dX11_count_33 : decode cX11_count 33 = .ok (.getfield 72, 3) := by decide +kernel
theorem dX11_count_36 : decode cX11_count 36 = .ok (.getfield 142, 3) := by decide +kernel
theorem dX11_count_39 : decode cX11_count 39 = .ok (.getfield 262, 3) := by decide +kernel
theorem dX11_count_42 : decode cX11_count 42 = .ok (.ireturn, 1) := by decide +kernel
theorem dX11_count_43 : decode cX11_count 43 = .ok (.aload_n 0, 1) := by decide +kernel
theorem dX11_count_44 : decode cX11_count 44 = .ok (.getfield 72, 3) := by decide +kernel
theorem dX11_count_47 : decode cX11_count 47 = .ok (.getfield 142, 3) := by decide +kernel
theorem dX11_count_50 : decode cX11_count 50 = .ok (.getfield 185, 3) := by decide +kernel
theorem dX11_count_53 : decode cX11_count 53 = .ok (.ireturn, 1) := by decide +kernel
theorem dX11_count_54 : decode cX11_count 54 = .ok (.aload_n 0, 1) := by decide +kernel
theorem dX11_count_55 : decode cX11_count 55 = .ok (.getfield 72, 3) := by decide +kernel
theorem dX11_count_58 : decode cX11_count 58 = .ok (.getfield 142, 3) := by decide +kernel
theorem dX11_count_61 : decode cX11_count 61 = .ok (.getfield 345, 3) := by decide +kernel
theorem dX11_count_64 : decode cX11_count 64 = .ok (.ireturn, 1) := by decide +kernel
theorem dX11_count_65 : decode cX11_count 65 = .ok (.aload_n 0, 1) := by decide +kernel
theorem dX11_count_66 : decode cX11_count 66 = .ok (.getfield 10, 3) := by decide +kernel
theorem dX11_count_69 : decode cX11_count 69 = .ok (.getfield 113, 3) := by decide +kernel
theorem dX11_count_72 : decode cX11_count 72 = .ok (.ireturn, 1) := by decide +kernel
theorem dX11_count_73 : decode cX11_count 73 = .ok (.iconst (-1), 1) := by decide +kernel
theorem dX11_count_74 : decode cX11_count 74 = .ok (.ireturn, 1) := by decide +kernel
theorem dX11_isLand_0 : decode cX11_isLand 0 = .ok (.iload_n 1, 1) := by decide +kernel
theorem dX11_isLand_1 : decode cX11_isLand 1 = .ok (.ifCond .lt 21, 3) := by decide +kernel
theorem dX11_isLand_4 : decode cX11_isLand 4 = .ok (.iload_n 1, 1) := by decide +kernel
theorem dX11_isLand_5 : decode cX11_isLand 5 = .ok (.aload_n 0, 1) := by decide +kernel
theorem dX11_isLand_6 : decode cX11_isLand 6 = .ok (.getfield 72, 3) := by decide +kernel
theorem dX11_isLand_9 : decode cX11_isLand 9 = .ok (.getfield 142, 3) := by decide +kernel
theorem dX11_isLand_12 : decode cX11_isLand 12 = .ok (.getfield 262, 3) := by decide +kernel
theorem dX11_isLand_15 : decode cX11_isLand 15 = .ok (.if_icmp .ge 7, 3) := by decide +kernel
theorem dX11_isLand_18 : decode cX11_isLand 18 = .ok (.iconst 1, 1) := by decide +kernel
theorem dX11_isLand_19 : decode cX11_isLand 19 = .ok (.goto 4, 3) := by decide +kernel
theorem dX11_isLand_22 : decode cX11_isLand 22 = .ok (.iconst 0, 1) := by decide +kernel
theorem dX11_isLand_23 : decode cX11_isLand 23 = .ok (.ireturn, 1) := by decide +kernel
theorem dX11_isPerson_0 : decode cX11_isPerson 0 = .ok (.iload_n 1, 1) := by decide +kernel
theorem dX11_isPerson_1 : decode cX11_isPerson 1 = .ok (.ifCond .lt 21, 3) := by decide +kernel
theorem dX11_isPerson_4 : decode cX11_isPerson 4 = .ok (.iload_n 1, 1) := by decide +kernel
theorem dX11_isPerson_5 : decode cX11_isPerson 5 = .ok (.aload_n 0, 1) := by decide +kernel
theorem dX11_isPerson_6 : decode cX11_isPerson 6 = .ok (.getfield 72, 3) := by decide +kernel
theorem dX11_isPerson_9 : decode cX11_isPerson 9 = .ok (.getfield 142, 3) := by decide +kernel
theorem dX11_isPerson_12 : decode cX11_isPerson 12 = .ok (.getfield 345, 3) := by decide +kernel
theorem dX11_isPerson_15 : decode cX11_isPerson 15 = .ok (.if_icmp .ge 7, 3) := by decide +kernel
theorem dX11_isPerson_18 : decode cX11_isPerson 18 = .ok (.iconst 1, 1) := by decide +kernel
theorem dX11_isPerson_19 : decode cX11_isPerson 19 = .ok (.goto 4, 3) := by decide +kernel
theorem dX11_isPerson_22 : decode cX11_isPerson 22 = .ok (.iconst 0, 1) := by decide +kernel
theorem dX11_isPerson_23 : decode cX11_isPerson 23 = .ok (.ireturn, 1) := by decide +kernel
theorem dX11_isLength_0 : decode cX11_isLength 0 = .ok (.iload_n 0, 1) := by decide +kernel
theorem dX11_isLength_1 : decode cX11_isLength 1 = .ok (.ifCond .lt 14, 3) := by decide +kernel
theorem dX11_isLength_4 : decode cX11_isLength 4 = .ok (.iload_n 0, 1) := by decide +kernel
theorem dX11_isLength_5 : decode cX11_isLength 5 = .ok (.sipush 240, 3) := by decide +kernel
theorem dX11_isLength_8 : decode cX11_isLength 8 = .ok (.if_icmp .gt 7, 3) := by decide +kernel
theorem dX11_isLength_11 : decode cX11_isLength 11 = .ok (.iconst 1, 1) := by decide +kernel
theorem dX11_isLength_12 : decode cX11_isLength 12 = .ok (.goto 4, 3) := by decide +kernel
theorem dX11_isLength_15 : decode cX11_isLength 15 = .ok (.iconst 0, 1) := by decide +kernel
theorem dX11_isLength_16 : decode cX11_isLength 16 = .ok (.ireturn, 1) := by decide +kernel
theorem dX11_hasBit_0 : decode cX11_hasBit 0 = .ok (.iload_n 0, 1) := by decide +kernel
theorem dX11_hasBit_1 : decode cX11_hasBit 1 = .ok (.iload_n 1, 1) := by decide +kernel
theorem dX11_hasBit_2 : decode cX11_hasBit 2 = .ok (.iushr, 1) := by decide +kernel
theorem dX11_hasBit_3 : decode cX11_hasBit 3 = .ok (.iconst 1, 1) := by decide +kernel
theorem dX11_hasBit_4 : decode cX11_hasBit 4 = .ok (.iand, 1) := by decide +kernel
theorem dX11_hasBit_5 : decode cX11_hasBit 5 = .ok (.iconst 1, 1) := by decide +kernel
theorem dX11_hasBit_6 : decode cX11_hasBit 6 = .ok (.if_icmp .ne 7, 3) := by decide +kernel
theorem dX11_hasBit_9 : decode cX11_hasBit 9 = .ok (.iconst 1, 1) := by decide +kernel
theorem dX11_hasBit_10 : decode cX11_hasBit 10 = .ok (.goto 4, 3) := by decide +kernel
theorem dX11_hasBit_13 : decode cX11_hasBit 13 = .ok (.iconst 0, 1) := by decide +kernel
theorem dX11_hasBit_14 : decode cX11_hasBit 14 = .ok (.ireturn, 1) := by decide +kernel
theorem dX11_attempt_0 : decode cX11_attempt 0 = .ok (.aload_n 0, 1) := by decide +kernel
theorem dX11_attempt_1 : decode cX11_attempt 1 = .ok (.getfield 72, 3) := by decide +kernel
theorem dX11_attempt_4 : decode cX11_attempt 4 = .ok (.iload_n 1, 1) := by decide +kernel
theorem dX11_attempt_5 : decode cX11_attempt 5 = .ok (.iload_n 2, 1) := by decide +kernel
theorem dX11_attempt_6 : decode cX11_attempt 6 = .ok (.iload_n 3, 1) := by decide +kernel
theorem dX11_attempt_7 : decode cX11_attempt 7 = .ok (.iload 4, 2) := by decide +kernel
theorem dX11_attempt_9 : decode cX11_attempt 9 = .ok (.invokevirtual 347, 3) := by decide +kernel
theorem dX11_attempt_12 : decode cX11_attempt 12 = .ok (.istore 5, 2) := by decide +kernel
theorem dX11_attempt_14 : decode cX11_attempt 14 = .ok (.iload 5, 2) := by decide +kernel
theorem dX11_attempt_16 : decode cX11_attempt 16 = .ok (.ifCond .ne 19, 3) := by decide +kernel
theorem dX11_attempt_19 : decode cX11_attempt 19 = .ok (.aload_n 0, 1) := by decide +kernel
theorem dX11_attempt_20 : decode cX11_attempt 20 = .ok (.invokevirtual 319, 3) := by decide +kernel
theorem dX11_attempt_23 : decode cX11_attempt 23 = .ok (.aload_n 0, 1) := by decide +kernel
theorem dX11_attempt_24 : decode cX11_attempt 24 = .ok (.getfield 72, 3) := by decide +kernel
theorem dX11_attempt_27 : decode cX11_attempt 27 = .ok (.iload_n 1, 1) := by decide +kernel
theorem dX11_attempt_28 : decode cX11_attempt 28 = .ok (.iload_n 2, 1) := by decide +kernel
theorem dX11_attempt_29 : decode cX11_attempt 29 = .ok (.iload_n 3, 1) := by decide +kernel
theorem dX11_attempt_30 : decode cX11_attempt 30 = .ok (.iload 4, 2) := by decide +kernel
theorem dX11_attempt_32 : decode cX11_attempt 32 = .ok (.invokevirtual 350, 3) := by decide +kernel
theorem dX11_attempt_35 : decode cX11_attempt 35 = .ok (.iload 5, 2) := by decide +kernel
theorem dX11_attempt_37 : decode cX11_attempt 37 = .ok (.ireturn, 1) := by decide +kernel
theorem dX11_keep_0 : decode cX11_keep 0 = .ok (.aload_n 0, 1) := by decide +kernel
theorem dX11_keep_1 : decode cX11_keep 1 = .ok (.getfield 18, 3) := by decide +kernel
theorem dX11_keep_4 : decode cX11_keep 4 = .ok (.aload_n 0, 1) := by decide +kernel
theorem dX11_keep_5 : decode cX11_keep 5 = .ok (.getfield 22, 3) := by decide +kernel
theorem dX11_keep_8 : decode cX11_keep 8 = .ok (.aaload, 1) := by decide +kernel
theorem dX11_keep_9 : decode cX11_keep 9 = .ok (.aload_n 0, 1) := by decide +kernel
theorem dX11_keep_10 : decode cX11_keep 10 = .ok (.getfield 72, 3) := by decide +kernel
theorem dX11_keep_13 : decode cX11_keep 13 = .ok (.invokevirtual 132, 3) := by decide +kernel
theorem dX11_keep_16 : decode cX11_keep 16 = .ok (.aload_n 0, 1) := by decide +kernel
theorem dX11_keep_17 : decode cX11_keep 17 = .ok (.aload_n 0, 1) := by decide +kernel
theorem dX11_keep_18 : decode cX11_keep 18 = .ok (.getfield 22, 3) := by decide +kernel
theorem dX11_keep_21 : decode cX11_keep 21 = .ok (.bipush 7, 2) := by decide +kernel
theorem dX11_keep_23 : decode cX11_keep 23 = .ok (.if_icmp .ne 7, 3) := by decide +kernel
theorem dX11_keep_26 : decode cX11_keep 26 = .ok (.iconst 0, 1) := by decide +kernel
theorem dX11_keep_27 : decode cX11_keep 27 = .ok (.goto 9, 3) := by decide +kernel
theorem dX11_keep_30 : decode cX11_keep 30 = .ok (.aload_n 0, 1) := by decide +kernel
theorem dX11_keep_31 : decode cX11_keep 31 = .ok (.getfield 22, 3) := by decide +kernel
theorem dX11_keep_34 : decode cX11_keep 34 = .ok (.iconst 1, 1) := by decide +kernel
theorem dX11_keep_35 : decode cX11_keep 35 = .ok (.iadd, 1) := by decide +kernel
theorem dX11_keep_36 : decode cX11_keep 36 = .ok (.putfield 22, 3) := by decide +kernel
theorem dX11_keep_39 : decode cX11_keep 39 = .ok (.aload_n 0, 1) := by decide +kernel
theorem dX11_keep_40 : decode cX11_keep 40 = .ok (.aload_n 0, 1) := by decide +kernel
theorem dX11_keep_41 : decode cX11_keep 41 = .ok (.getfield 26, 3) := by decide +kernel
theorem dX11_keep_44 : decode cX11_keep 44 = .ok (.iconst 1, 1) := by decide +kernel
theorem dX11_keep_45 : decode cX11_keep 45 = .ok (.iadd, 1) := by decide +kernel
theorem dX11_keep_46 : decode cX11_keep 46 = .ok (.bipush 8, 2) := by decide +kernel
theorem dX11_keep_48 : decode cX11_keep 48 = .ok (.invokestatic 232, 3) := by decide +kernel
theorem dX11_keep_51 : decode cX11_keep 51 = .ok (.putfield 26, 3) := by decide +kernel
theorem dX11_keep_54 : decode cX11_keep 54 = .ok (.return_, 1) := by decide +kernel
