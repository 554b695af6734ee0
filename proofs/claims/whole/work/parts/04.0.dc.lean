theorem dX1_init_0 : decode cX1_init 0 = .ok (.aload_n 0, 1) := by decide +kernel
theorem dX1_init_1 : decode cX1_init 1 = .ok (.invokespecial 3, 3) := by decide +kernel
theorem dX1_init_4 : decode cX1_init 4 = .ok (.aload_n 0, 1) := by decide +kernel
theorem dX1_init_5 : decode cX1_init 5 = .ok (.bipush 40, 2) := by decide +kernel
theorem dX1_init_7 : decode cX1_init 7 = .ok (.newarray .int, 2) := by decide +kernel
theorem dX1_init_9 : decode cX1_init 9 = .ok (.putfield 9, 3) := by decide +kernel
theorem dX1_init_12 : decode cX1_init 12 = .ok (.aload_n 0, 1) := by decide +kernel
theorem dX1_init_13 : decode cX1_init 13 = .ok (.bipush 40, 2) := by decide +kernel
theorem dX1_init_15 : decode cX1_init 15 = .ok (.newarray .int, 2) := by decide +kernel
theorem dX1_init_17 : decode cX1_init 17 = .ok (.putfield 15, 3) := by decide +kernel
theorem dX1_init_20 : decode cX1_init 20 = .ok (.aload_n 0, 1) := by decide +kernel
theorem dX1_init_21 : decode cX1_init 21 = .ok (.bipush 40, 2) := by decide +kernel
theorem dX1_init_23 : decode cX1_init 23 = .ok (.newarray .int, 2) := by decide +kernel
theorem dX1_init_25 : decode cX1_init 25 = .ok (.putfield 18, 3) := by decide +kernel
theorem dX1_init_28 : decode cX1_init 28 = .ok (.aload_n 0, 1) := by decide +kernel
theorem dX1_init_29 : decode cX1_init 29 = .ok (.bipush 40, 2) := by decide +kernel
theorem dX1_init_31 : decode cX1_init 31 = .ok (.newarray .int, 2) := by decide +kernel
theorem dX1_init_33 : decode cX1_init 33 = .ok (.putfield 21, 3) := by decide +kernel
theorem dX1_init_36 : decode cX1_init 36 = .ok (.aload_n 0, 1) := by decide +kernel
theorem dX1_init_37 : decode cX1_init 37 = .ok (.iconst 0, 1) := by decide +kernel
theorem dX1_init_38 : decode cX1_init 38 = .ok (.putfield 24, 3) := by decide +kernel
theorem dX1_init_41 : decode cX1_init 41 = .ok (.aload_n 0, 1) := by decide +kernel
theorem dX1_init_42 : decode cX1_init 42 = .ok (.iconst 0, 1) := by decide +kernel
theorem dX1_init_43 : decode cX1_init 43 = .ok (.putfield 28, 3) := by decide +kernel
theorem dX1_init_46 : decode cX1_init 46 = .ok (.aload_n 0, 1) := by decide +kernel
theorem dX1_init_47 : decode cX1_init 47 = .ok (.aload_n 1, 1) := by decide +kernel
theorem dX1_init_48 : decode cX1_init 48 = .ok (.putfield 31, 3) := by decide +kernel
theorem dX1_init_51 : decode cX1_init 51 = .ok (.aload_n 0, 1) := by decide +kernel
theorem dX1_init_52 : decode cX1_init 52 = .ok (.aload_n 2, 1) := by decide +kernel
theorem dX1_init_53 : decode cX1_init 53 = .ok (.putfield 35, 3) := by decide +kernel
theorem dX1_init_56 : decode cX1_init 56 = .ok (.return_, 1) := by decide +kernel
theorem dX1_read_0 : decode cX1_read 0 = .ok (.aload_n 0, 1) := by decide +kernel
theorem dX1_read_1 : decode cX1_read 1 = .ok (.aload_n 1, 1) := by decide +kernel
theorem dX1_read_2 : decode cX1_read 2 = .ok (.putfield 35, 3) := by decide +kernel
theorem dX1_read_5 : decode cX1_read 5 = .ok (.aload_n 0, 1) := by decide +kernel
theorem dX1_read_6 : decode cX1_read 6 = .ok (.iconst 0, 1) := by decide +kernel
theorem dX1_read_7 : decode cX1_read 7 = .ok (.putfield 24, 3) := by decide +kernel
theorem dX1_read_10 : decode cX1_read 10 = .ok (.aload_n 0, 1) := by decide +kernel
theorem dX1_read_11 : decode cX1_read 11 = .ok (.getfield 31, 3) := by decide +kernel
theorem dX1_read_14 : decode cX1_read 14 = .ok (.sipush 400, 3) := by decide +kernel
theorem dX1_read_17 : decode cX1_read 17 = .ok (.invokevirtual 39, 3) := by decide +kernel
theorem dX1_read_20 : decode cX1_read 20 = .ok (.iconst 1, 1) := by decide +kernel
theorem dX1_read_21 : decode cX1_read 21 = .ok (.istore_n 2, 1) := by decide +kernel
theorem dX1_read_22 : decode cX1_read 22 = .ok (.iload_n 2, 1) := by decide +kernel
theorem dX1_read_23 : decode cX1_read 23 = .ok (.ifCond .eq 60, 3) := by decide +kernel
theorem dX1_read_26 : decode cX1_read 26 = .ok (.aload_n 0, 1) := by decide +kernel
theorem dX1_read_27 : decode cX1_read 27 = .ok (.getfield 24, 3) := by decide +kernel
theorem dX1_read_30 : decode cX1_read 30 = .ok (.bipush 40, 2) := by decide +kernel
theorem dX1_read_32 : decode cX1_read 32 = .ok (.if_icmp .gt 51, 3) := by decide +kernel
theorem dX1_read_35 : decode cX1_read 35 = .ok (.aload_n 0, 1) := by decide +kernel
theorem dX1_read_36 : decode cX1_read 36 = .ok (.getfield 31, 3) := by decide +kernel
theorem dX1_read_39 : decode cX1_read 39 = .ok (.invokevirtual 45, 3) := by decide +kernel
theorem dX1_read_42 : decode cX1_read 42 = .ok (.ifCond .ne 41, 3) := by decide +kernel
theorem dX1_read_45 : decode cX1_read 45 = .ok (.aload_n 0, 1) := by decide +kernel
theorem dX1_read_46 : decode cX1_read 46 = .ok (.invokevirtual 49, 3) := by decide +kernel
theorem dX1_read_49 : decode cX1_read 49 = .ok (.ifCond .eq 19, 3) := by decide +kernel
theorem dX1_read_52 : decode cX1_read 52 = .ok (.aload_n 0, 1) := by decide +kernel
theorem dX1_read_53 : decode cX1_read 53 = .ok (.getfield 31, 3) := by decide +kernel
theorem dX1_read_56 : decode cX1_read 56 = .ok (.bipush 59, 2) := by decide +kernel
theorem dX1_read_58 : decode cX1_read 58 = .ok (.invokevirtual 52, 3) := by decide +kernel
theorem dX1_read_61 : decode cX1_read 61 = .ok (.ifCond .eq 7, 3) := by decide +kernel
theorem dX1_read_64 : decode cX1_read 64 = .ok (.iconst 1, 1) := by decide +kernel
theorem dX1_read_65 : decode cX1_read 65 = .ok (.goto 4, 3) := by decide +kernel
theorem dX1_read_68 : decode cX1_read 68 = .ok (.iconst 0, 1) := by decide +kernel
theorem dX1_read_69 : decode cX1_read 69 = .ok (.istore_n 2, 1) := by decide +kernel
theorem dX1_read_70 : decode cX1_read 70 = .ok (.aload_n 0, 1) := by decide +kernel
theorem dX1_read_71 : decode cX1_read 71 = .ok (.dup, 1) := by decide +kernel
theorem dX1_read_72 : decode cX1_read 72 = .ok (.getfield 24, 3) := by decide +kernel
theorem dX1_read_75 : decode cX1_read 75 = .ok (.iconst 1, 1) := by decide +kernel
theorem dX1_read_76 : decode cX1_read 76 = .ok (.iadd, 1) := by decide +kernel
theorem dX1_read_77 : decode cX1_read 77 = .ok (.putfield 24, 3) := by decide +kernel
theorem dX1_read_80 : decode cX1_read 80 = .ok (.goto (-58), 3) := by decide +kernel
theorem dX1_read_83 : decode cX1_read 83 = .ok (.return_, 1) := by decide +kernel
theorem dX1_readLine_0 : decode cX1_readLine 0 = .ok (.aload_n 0, 1) := by decide +kernel
theorem dX1_readLine_1 : decode cX1_readLine 1 = .ok (.getfield 31, 3) := by decide +kernel
theorem dX1_readLine_4 : decode cX1_readLine 4 = .ok (.invokevirtual 56, 3) := by decide +kernel
theorem dX1_readLine_7 : decode cX1_readLine 7 = .ok (.ifCond .eq 8, 3) := by decide +kernel
theorem dX1_readLine_10 : decode cX1_readLine 10 = .ok (.aload_n 0, 1) := by decide +kernel
theorem dX1_readLine_11 : decode cX1_readLine 11 = .ok (.invokevirtual 59, 3) := by decide +kernel
theorem dX1_readLine_14 : decode cX1_readLine 14 = .ok (.ireturn, 1) := by decide +kernel
theorem dX1_readLine_15 : decode cX1_readLine 15 = .ok (.aload_n 0, 1) := by decide +kernel
theorem dX1_readLine_16 : decode cX1_readLine 16 = .ok (.getfield 31, 3) := by decide +kernel
theorem dX1_readLine_19 : decode cX1_readLine 19 = .ok (.getfield 62, 3) := by decide +kernel
theorem dX1_readLine_22 : decode cX1_readLine 22 = .ok (.ifnonnull 12, 3) := by decide +kernel
theorem dX1_readLine_25 : decode cX1_readLine 25 = .ok (.aload_n 0, 1) := by decide +kernel
theorem dX1_readLine_26 : decode cX1_readLine 26 = .ok (.getfield 31, 3) := by decide +kernel
theorem dX1_readLine_29 : decode cX1_readLine 29 = .ok (.iconst 1, 1) := by decide +kernel
theorem dX1_readLine_30 : decode cX1_readLine 30 = .ok (.invokevirtual 66, 3) := by decide +kernel
theorem dX1_readLine_33 : decode cX1_readLine 33 = .ok (.ireturn, 1) := by decide +kernel
theorem dX1_readLine_34 : decode cX1_readLine 34 = .ok (.getstatic 69, 3) := by decide +kernel
theorem dX1_readLine_37 : decode cX1_readLine 37 = .ok (.aload_n 0, 1) := by decide +kernel
theorem dX1_readLine_38 : decode cX1_readLine 38 = .ok (.getfield 31, 3) := by decide +kernel
theorem dX1_readLine_41 : decode cX1_readLine 41 = .ok (.getfield 62, 3) := by decide +kernel
theorem dX1_readLine_44 : decode cX1_readLine 44 = .ok (.invokevirtual 74, 3) := by decide +kernel
theorem dX1_readLine_47 : decode cX1_readLine 47 = .ok (.iaload, 1) := by decide +kernel
theorem dX1_readLine_48 : decode cX1_readLine 48 = .ok (.tableswitch 178 6 11 #[40, 61, 82, 103, 124, 154], 40) := by decide +kernel
theorem dX1_readLine_88 : decode cX1_readLine 88 = .ok (.aload_n 0, 1) := by decide +kernel
theorem dX1_readLine_89 : decode cX1_readLine 89 = .ok (.iconst 1, 1) := by decide +kernel
theorem dX1_readLine_90 : decode cX1_readLine 90 = .ok (.invokevirtual 80, 3) := by decide +kernel
theorem dX1_readLine_93 : decode cX1_readLine 93 = .ok (.ifCond .eq 14, 3) := by decide +kernel
theorem dX1_readLine_96 : decode cX1_readLine 96 = .ok (.aload_n 0, 1) := by decide +kernel
theorem dX1_readLine_97 : decode cX1_readLine 97 = .ok (.invokevirtual 83, 3) := by decide +kernel
theorem dX1_readLine_100 : decode cX1_readLine 100 = .ok (.ifCond .eq 7, 3) := by decide +kernel
theorem dX1_readLine_103 : decode cX1_readLine 103 = .ok (.iconst 1, 1) := by decide +kernel
theorem dX1_readLine_104 : decode cX1_readLine 104 = .ok (.goto 4, 3) := by decide +kernel
theorem dX1_readLine_107 : decode cX1_readLine 107 = .ok (.iconst 0, 1) := by decide +kernel
theorem dX1_readLine_108 : decode cX1_readLine 108 = .ok (.ireturn, 1) := by decide +kernel
theorem dX1_readLine_109 : decode cX1_readLine 109 = .ok (.aload_n 0, 1) := by decide +kernel
theorem dX1_readLine_110 : decode cX1_readLine 110 = .ok (.iconst 2, 1) := by decide +kernel
theorem dX1_readLine_111 : decode cX1_readLine 111 = .ok (.invokevirtual 80, 3) := by decide +kernel
theorem dX1_readLine_114 : decode cX1_readLine 114 = .ok (.ifCond .eq 14, 3) := by decide +kernel
theorem dX1_readLine_117 : decode cX1_readLine 117 = .ok (.aload_n 0, 1) := by decide +kernel
theorem dX1_readLine_118 : decode cX1_readLine 118 = .ok (.invokevirtual 83, 3) := by decide +kernel
theorem dX1_readLine_121 : decode cX1_readLine 121 = .ok (.ifCond .eq 7, 3) := by decide +kernel
theorem dX1_readLine_124 : decode cX1_readLine 124 = .ok (.iconst 1, 1) := by decide +kernel
theorem dX1_readLine_125 : decode cX1_readLine 125 = .ok (.goto 4, 3) := by decide +kernel
theorem dX1_readLine_128 : decode cX1_readLine 128 = .ok (.iconst 0, 1) := by decide +kernel
theorem dX1_readLine_129 : decode cX1_readLine 129 = .ok (.ireturn, 1) := by decide +kernel
theorem dX1_readLine_130 : decode cX1_readLine 130 = .ok (.aload_n 0, 1) := by decide +kernel
theorem dX1_readLine_131 : decode cX1_readLine 131 = .ok (.iconst 3, 1) := by decide +kernel
theorem dX1_readLine_132 : decode cX1_readLine 132 = .ok (.invokevirtual 80, 3) := by decide +kernel
theorem dX1_readLine_135 : decode cX1_readLine 135 = .ok (.ifCond .eq 14, 3) := by decide +kernel
theorem dX1_readLine_138 : decode cX1_readLine 138 = .ok (.aload_n 0, 1) := by decide +kernel
theorem dX1_readLine_139 : decode cX1_readLine 139 = .ok (.invokevirtual 86, 3) := by decide +kernel
theorem dX1_readLine_142 : decode cX1_readLine 142 = .ok (.ifCond .eq 7, 3) := by decide +kernel
theorem dX1_readLine_145 : decode cX1_readLine 145 = .ok (.iconst 1, 1) := by decide +kernel
theorem dX1_readLine_146 : decode cX1_readLine 146 = .ok (.goto 4, 3) := by decide +kernel
theorem dX1_readLine_149 : decode cX1_readLine 149 = .ok (.iconst 0, 1) := by decide +kernel
theorem dX1_readLine_150 : decode cX1_readLine 150 = .ok (.ireturn, 1) := by decide +kernel
theorem dX1_readLine_151 : decode cX1_readLine 151 = .ok (.aload_n 0, 1) := by decide +kernel
theorem dX1_readLine_152 : decode cX1_readLine 152 = .ok (.iconst 4, 1) := by decide +kernel
theorem dX1_readLine_153 : decode cX1_readLine 153 = .ok (.invokevirtual 80, 3) := by decide +kernel
theorem dX1_readLine_156 : decode cX1_readLine 156 = .ok (.ifCond .eq 14, 3) := by decide +kernel
theorem dX1_readLine_159 : decode cX1_readLine 159 = .ok (.aload_n 0, 1) := by decide +kernel
theorem dX1_readLine_160 : decode cX1_readLine 160 = .ok (.invokevirtual 86, 3) := by decide +kernel
theorem dX1_readLine_163 : decode cX1_readLine 163 = .ok (.ifCond .eq 7, 3) := by decide +kernel
theorem dX1_readLine_166 : decode cX1_readLine 166 = .ok (.iconst 1, 1) := by decide +kernel
theorem dX1_readLine_167 : decode cX1_readLine 167 = .ok (.goto 4, 3) := by decide +kernel
theorem dX1_readLine_170 : decode cX1_readLine 170 = .ok (.iconst 0, 1) := by decide +kernel
theorem dX1_readLine_171 : decode cX1_readLine 171 = .ok (.ireturn, 1) := by decide +kernel
theorem dX1_readLine_172 : decode cX1_readLine 172 = .ok (.aload_n 0, 1) := by decide +kernel
theorem dX1_readLine_173 : decode cX1_readLine 173 = .ok (.iconst 5, 1) := by decide +kernel
theorem dX1_readLine_174 : decode cX1_readLine 174 = .ok (.invokevirtual 80, 3) := by decide +kernel
theorem dX1_readLine_177 : decode cX1_readLine 177 = .ok (.ifCond .eq 23, 3) := by decide +kernel
theorem dX1_readLine_180 : decode cX1_readLine 180 = .ok (.aload_n 0, 1) := by decide +kernel
theorem dX1_readLine_181 : decode cX1_readLine 181 = .ok (.invokevirtual 83, 3) := by decide +kernel
theorem dX1_readLine_184 : decode cX1_readLine 184 = .ok (.ifCond .eq 16, 3) := by decide +kernel
theorem dX1_readLine_187 : decode cX1_readLine 187 = .ok (.aload_n 0, 1) := by decide +kernel
theorem dX1_readLine_188 : decode cX1_readLine 188 = .ok (.bipush 99, 2) := by decide +kernel
theorem dX1_readLine_190 : decode cX1_readLine 190 = .ok (.invokevirtual 89, 3) := by decide +kernel
theorem dX1_readLine_193 : decode cX1_readLine 193 = .ok (.ifCond .eq 7, 3) := by decide +kernel
theorem dX1_readLine_196 : decode cX1_readLine 196 = .ok (.iconst 1, 1) := by decide +kernel
theorem dX1_readLine_197 : decode cX1_readLine 197 = .ok (.goto 4, 3) := by decide +kernel
theorem dX1_readLine_200 : decode cX1_readLine 200 = .ok (.iconst 0, 1) := by decide +kernel
theorem dX1_readLine_201 : decode cX1_readLine 201 = .ok (.ireturn, 1) := by decide +kernel
theorem dX1_readLine_202 : decode cX1_readLine 202 = .ok (.aload_n 0, 1) := by decide +kernel
theorem dX1_readLine_203 : decode cX1_readLine 203 = .ok (.bipush 6, 2) := by decide +kernel
theorem dX1_readLine_205 : decode cX1_readLine 205 = .ok (.invokevirtual 80, 3) := by decide +kernel
theorem dX1_readLine_208 : decode cX1_readLine 208 = .ok (.ifCond .eq 16, 3) := by decide +kernel
theorem dX1_readLine_211 : decode cX1_readLine 211 = .ok (.aload_n 0, 1) := by decide +kernel
theorem dX1_readLine_212 : decode cX1_readLine 212 = .ok (.bipush 60, 2) := by decide +kernel
theorem dX1_readLine_214 : decode cX1_readLine 214 = .ok (.invokevirtual 89, 3) := by decide +kernel
theorem dX1_readLine_217 : decode cX1_readLine 217 = .ok (.ifCond .eq 7, 3) := by decide +kernel
theorem dX1_readLine_220 : decode cX1_readLine 220 = .ok (.iconst 1, 1) := by decide +kernel
theorem dX1_readLine_221 : decode cX1_readLine 221 = .ok (.goto 4, 3) := by decide +kernel
theorem dX1_readLine_224 : decode cX1_readLine 224 = .ok (.iconst 0, 1) := by decide +kernel
theorem dX1_readLine_225 : decode cX1_readLine 225 = .ok (.ireturn, 1) := by decide +kernel
theorem dX1_readLine_226 : decode cX1_readLine 226 = .ok (.aload_n 0, 1) := by decide +kernel
theorem dX1_readLine_227 : decode cX1_readLine 227 = .ok (.getfield 31, 3) := by decide +kernel
theorem dX1_readLine_230 : decode cX1_readLine 230 = .ok (.iconst 1, 1) := by decide +kernel
theorem dX1_readLine_231 : decode cX1_readLine 231 = .ok (.invokevirtual 66, 3) := by decide +kernel
theorem dX1_readLine_234 : decode cX1_readLine 234 = .ok (.ireturn, 1) := by decide +kernel
theorem dX1_beginLine_0 : decode cX1_beginLine 0 = .ok (.aload_n 0, 1) := by decide +kernel
theorem dX1_beginLine_1 : decode cX1_beginLine 1 = .ok (.getfield 24, 3) := by decide +kernel
theorem dX1_beginLine_4 : decode cX1_beginLine 4 = .ok (.bipush 40, 2) := by decide +kernel
theorem dX1_beginLine_6 : decode cX1_beginLine 6 = .ok (.if_icmp .lt 12, 3) := by decide +kernel
theorem dX1_beginLine_9 : decode cX1_beginLine 9 = .ok (.aload_n 0, 1) := by decide +kernel
theorem dX1_beginLine_10 : decode cX1_beginLine 10 = .ok (.getfield 31, 3) := by decide +kernel
theorem dX1_beginLine_13 : decode cX1_beginLine 13 = .ok (.iconst 4, 1) := by decide +kernel
theorem dX1_beginLine_14 : decode cX1_beginLine 14 = .ok (.invokevirtual 66, 3) := by decide +kernel
theorem dX1_beginLine_17 : decode cX1_beginLine 17 = .ok (.ireturn, 1) := by decide +kernel
theorem dX1_beginLine_18 : decode cX1_beginLine 18 = .ok (.aload_n 0, 1) := by decide +kernel
theorem dX1_beginLine_19 : decode cX1_beginLine 19 = .ok (.getfield 9, 3) := by decide +kernel
theorem dX1_beginLine_22 : decode cX1_beginLine 22 = .ok (.aload_n 0, 1) := by decide +kernel
theorem dX1_beginLine_23 : decode cX1_beginLine 23 = .ok (.getfield 24, 3) := by decide +kernel
theorem dX1_beginLine_26 : decode cX1_beginLine 26 = .ok (.iload_n 1, 1) := by decide +kernel
theorem dX1_beginLine_27 : decode cX1_beginLine 27 = .ok (.iastore, 1) := by decide +kernel
theorem dX1_beginLine_28 : decode cX1_beginLine 28 = .ok (.aload_n 0, 1) := by decide +kernel
theorem dX1_beginLine_29 : decode cX1_beginLine 29 = .ok (.getfield 31, 3) := by decide +kernel
theorem dX1_beginLine_32 : decode cX1_beginLine 32 = .ok (.invokevirtual 92, 3) := by decide +kernel
theorem dX1_beginLine_35 : decode cX1_beginLine 35 = .ok (.iconst 1, 1) := by decide +kernel
theorem dX1_beginLine_36 : decode cX1_beginLine 36 = .ok (.ireturn, 1) := by decide +kernel
theorem dX1_readCrossing_0 : decode cX1_readCrossing 0 = .ok (.aload_n 0, 1) := by decide +kernel
theorem dX1_readCrossing_1 : decode cX1_readCrossing 1 = .ok (.getfield 31, 3) := by decide +kernel
theorem dX1_readCrossing_4 : decode cX1_readCrossing 4 = .ok (.aload_n 0, 1) := by decide +kernel
theorem dX1_readCrossing_5 : decode cX1_readCrossing 5 = .ok (.getfield 35, 3) := by decide +kernel
theorem dX1_readCrossing_8 : decode cX1_readCrossing 8 = .ok (.invokevirtual 95, 3) := by decide +kernel
theorem dX1_readCrossing_11 : decode cX1_readCrossing 11 = .ok (.istore_n 1, 1) := by decide +kernel
theorem dX1_readCrossing_12 : decode cX1_readCrossing 12 = .ok (.iload_n 1, 1) := by decide +kernel
theorem dX1_readCrossing_13 : decode cX1_readCrossing 13 = .ok (.iconst (-1), 1) := by decide +kernel
theorem dX1_readCrossing_14 : decode cX1_readCrossing 14 = .ok (.if_icmp .eq 24, 3) := by decide +kernel
theorem dX1_readCrossing_17 : decode cX1_readCrossing 17 = .ok (.aload_n 0, 1) := by decide +kernel
theorem dX1_readCrossing_18 : decode cX1_readCrossing 18 = .ok (.iconst 0, 1) := by decide +kernel
theorem dX1_readCrossing_19 : decode cX1_readCrossing 19 = .ok (.invokevirtual 80, 3) := by decide +kernel
theorem dX1_readCrossing_22 : decode cX1_readCrossing 22 = .ok (.ifCond .eq 16, 3) := by decide +kernel
theorem dX1_readCrossing_25 : decode cX1_readCrossing 25 = .ok (.aload_n 0, 1) := by decide +kernel
theorem dX1_readCrossing_26 : decode cX1_readCrossing 26 = .ok (.getfield 31, 3) := by decide +kernel
theorem dX1_readCrossing_29 : decode cX1_readCrossing 29 = .ok (.getstatic 99, 3) := by decide +kernel
theorem dX1_readCrossing_32 : decode cX1_readCrossing 32 = .ok (.invokevirtual 102, 3) := by decide +kernel
theorem dX1_readCrossing_35 : decode cX1_readCrossing 35 = .ok (.ifCond .ne 5, 3) := by decide +kernel
theorem dX1_readCrossing_38 : decode cX1_readCrossing 38 = .ok (.iconst 0, 1) := by decide +kernel
theorem dX1_readCrossing_39 : decode cX1_readCrossing 39 = .ok (.ireturn, 1) := by decide +kernel
theorem dX1_readCrossing_40 : decode cX1_readCrossing 40 = .ok (.aload_n 0, 1) := by decide +kernel
theorem dX1_readCrossing_41 : decode cX1_readCrossing 41 = .ok (.getfield 31, 3) := by decide +kernel
theorem dX1_readCrossing_44 : decode cX1_readCrossing 44 = .ok (.aload_n 0, 1) := by decide +kernel
theorem dX1_readCrossing_45 : decode cX1_readCrossing 45 = .ok (.getfield 35, 3) := by decide +kernel
theorem dX1_readCrossing_48 : decode cX1_readCrossing 48 = .ok (.invokevirtual 106, 3) := by decide +kernel
theorem dX1_readCrossing_51 : decode cX1_readCrossing 51 = .ok (.istore_n 2, 1) := by decide +kernel
theorem dX1_readCrossing_52 : decode cX1_readCrossing 52 = .ok (.aload_n 0, 1) := by decide +kernel
theorem dX1_readCrossing_53 : decode cX1_readCrossing 53 = .ok (.getfield 15, 3) := by decide +kernel
theorem dX1_readCrossing_56 : decode cX1_readCrossing 56 = .ok (.aload_n 0, 1) := by decide +kernel
theorem dX1_readCrossing_57 : decode cX1_readCrossing 57 = .ok (.getfield 24, 3) := by decide +kernel
theorem dX1_readCrossing_60 : decode cX1_readCrossing 60 = .ok (.iload_n 1, 1) := by decide +kernel
theorem dX1_readCrossing_61 : decode cX1_readCrossing 61 = .ok (.iastore, 1) := by decide +kernel
theorem dX1_readCrossing_62 : decode cX1_readCrossing 62 = .ok (.aload_n 0, 1) := by decide +kernel
theorem dX1_readCrossing_63 : decode cX1_readCrossing 63 = .ok (.getfield 18, 3) := by decide +kernel
theorem dX1_readCrossing_66 : decode cX1_readCrossing 66 = .ok (.aload_n 0, 1) := by decide +kernel
theorem dX1_readCrossing_67 : decode cX1_readCrossing 67 = .ok (.getfield 24, 3) := by decide +kernel
theorem dX1_readCrossing_70 : decode cX1_readCrossing 70 = .ok (.iload_n 2, 1) := by decide +kernel
theorem dX1_readCrossing_71 : decode cX1_readCrossing 71 = .ok (.iastore, 1) := by decide +kernel
theorem dX1_readCrossing_72 : decode cX1_readCrossing 72 = .ok (.iload_n 2, 1) := by decide +kernel
theorem dX1_readCrossing_73 : decode cX1_readCrossing 73 = .ok (.iconst (-1), 1) := by decide +kernel
theorem dX1_readCrossing_74 : decode cX1_readCrossing 74 = .ok (.if_icmp .eq 7, 3) := by decide +kernel
theorem dX1_readCrossing_77 : decode cX1_readCrossing 77 = .ok (.iconst 1, 1) := by decide +kernel
theorem dX1_readCrossing_78 : decode cX1_readCrossing 78 = .ok (.goto 4, 3) := by decide +kernel
theorem dX1_readCrossing_81 : decode cX1_readCrossing 81 = .ok (.iconst 0, 1) := by decide +kernel
theorem dX1_readCrossing_82 : decode cX1_readCrossing 82 = .ok (.ireturn, 1) := by decide +kernel
theorem dX1_readTwo_0 : decode cX1_readTwo 0 = .ok (.aload_n 0, 1) := by decide +kernel
theorem dX1_readTwo_1 : decode cX1_readTwo 1 = .ok (.getfield 31, 3) := by decide +kernel
theorem dX1_readTwo_4 : decode cX1_readTwo 4 = .ok (.aload_n 0, 1) := by decide +kernel
theorem dX1_readTwo_5 : decode cX1_readTwo 5 = .ok (.getfield 35, 3) := by decide +kernel
theorem dX1_readTwo_8 : decode cX1_readTwo 8 = .ok (.invokevirtual 106, 3) := by decide +kernel
theorem dX1_readTwo_11 : decode cX1_readTwo 11 = .ok (.istore_n 1, 1) := by decide +kernel
theorem dX1_readTwo_12 : decode cX1_readTwo 12 = .ok (.iload_n 1, 1) := by decide +kernel
theorem dX1_readTwo_13 : decode cX1_readTwo 13 = .ok (.iconst (-1), 1) := by decide +kernel
theorem dX1_readTwo_14 : decode cX1_readTwo 14 = .ok (.if_icmp .ne 5, 3) := by decide +kernel
theorem dX1_readTwo_17 : decode cX1_readTwo 17 = .ok (.iconst 0, 1) := by decide +kernel
theorem dX1_readTwo_18 : decode cX1_readTwo 18 = .ok (.ireturn, 1) := by decide +kernel
theorem dX1_readTwo_19 : decode cX1_readTwo 19 = .ok (.aload_n 0, 1) := by decide +kernel
theorem dX1_readTwo_20 : decode cX1_readTwo 20 = .ok (.getfield 31, 3) := by decide +kernel
theorem dX1_readTwo_23 : decode cX1_readTwo 23 = .ok (.aload_n 0, 1) := by decide +kernel
theorem dX1_readTwo_24 : decode cX1_readTwo 24 = .ok (.getfield 35, 3) := by decide +kernel
theorem dX1_readTwo_27 : decode cX1_readTwo 27 = .ok (.invokevirtual 106, 3) := by decide +kernel
theorem dX1_readTwo_30 : decode cX1_readTwo 30 = .ok (.istore_n 2, 1) := by decide +kernel
theorem dX1_readTwo_31 : decode cX1_readTwo 31 = .ok (.aload_n 0, 1) := by decide +kernel
theorem dX1_readTwo_32 : decode cX1_readTwo 32 = .ok (.getfield 15, 3) := by decide +kernel
theorem dX1_readTwo_35 : decode cX1_readTwo 35 = .ok (.aload_n 0, 1) := by decide +kernel
theorem dX1_readTwo_36 : decode cX1_readTwo 36 = .ok (.getfield 24, 3) := by decide +kernel
theorem dX1_readTwo_39 : decode cX1_readTwo 39 = .ok (.iload_n 1, 1) := by decide +kernel
theorem dX1_readTwo_40 : decode cX1_readTwo 40 = .ok (.iastore, 1) := by decide +kernel
theorem dX1_readTwo_41 : decode cX1_readTwo 41 = .ok (.aload_n 0, 1) := by decide +kernel
theorem dX1_readTwo_42 : decode cX1_readTwo 42 = .ok (.getfield 18, 3) := by decide +kernel
theorem dX1_readTwo_45 : decode cX1_readTwo 45 = .ok (.aload_n 0, 1) := by decide +kernel
theorem dX1_readTwo_46 : decode cX1_readTwo 46 = .ok (.getfield 24, 3) := by decide +kernel
theorem dX1_readTwo_49 : decode cX1_readTwo 49 = .ok (.iload_n 2, 1) := by decide +kernel
theorem dX1_readTwo_50 : decode cX1_readTwo 50 = .ok (.iastore, 1) := by decide +kernel
theorem dX1_readTwo_51 : decode cX1_readTwo 51 = .ok (.iload_n 2, 1) := by decide +kernel
theorem dX1_readTwo_52 : decode cX1_readTwo 52 = .ok (.iconst (-1), 1) := by decide +kernel
theorem dX1_readTwo_53 : decode cX1_readTwo 53 = .ok (.if_icmp .eq 7, 3) := by decide +kernel
theorem dX1_readTwo_56 : decode cX1_readTwo 56 = .ok (.iconst 1, 1) := by decide +kernel
theorem dX1_readTwo_57 : decode cX1_readTwo 57 = .ok (.goto 4, 3) := by decide +kernel
theorem dX1_readTwo_60 : decode cX1_readTwo 60 = .ok (.iconst 0, 1) := by decide +kernel
theorem dX1_readTwo_61 : decode cX1_readTwo 61 = .ok (.ireturn, 1) := by decide +kernel
theorem dX1_readRoad_0 : decode cX1_readRoad 0 = .ok (.aload_n 0, 1) := by decide +kernel
theorem dX1_readRoad_1 : decode cX1_readRoad 1 = .ok (.getfield 31, 3) := by decide +kernel
theorem dX1_readRoad_4 : decode cX1_readRoad 4 = .ok (.iconst 0, 1) := by decide +kernel
theorem dX1_readRoad_5 : decode cX1_readRoad 5 = .ok (.bipush 11, 2) := by decide +kernel
theorem dX1_readRoad_7 : decode cX1_readRoad 7 = .ok (.invokevirtual 109, 3) := by decide +kernel
theorem dX1_readRoad_10 : decode cX1_readRoad 10 = .ok (.istore_n 1, 1) := by decide +kernel
theorem dX1_readRoad_11 : decode cX1_readRoad 11 = .ok (.aload_n 0, 1) := by decide +kernel
theorem dX1_readRoad_12 : decode cX1_readRoad 12 = .ok (.getfield 15, 3) := by decide +kernel
theorem dX1_readRoad_15 : decode cX1_readRoad 15 = .ok (.aload_n 0, 1) := by decide +kernel
theorem dX1_readRoad_16 : decode cX1_readRoad 16 = .ok (.getfield 24, 3) := by decide +kernel
theorem dX1_readRoad_19 : decode cX1_readRoad 19 = .ok (.iload_n 1, 1) := by decide +kernel
theorem dX1_readRoad_20 : decode cX1_readRoad 20 = .ok (.iastore, 1) := by decide +kernel
theorem dX1_readRoad_21 : decode cX1_readRoad 21 = .ok (.iload_n 1, 1) := by decide +kernel
theorem dX1_readRoad_22 : decode cX1_readRoad 22 = .ok (.iconst (-1), 1) := by decide +kernel
theorem dX1_readRoad_23 : decode cX1_readRoad 23 = .ok (.if_icmp .eq 7, 3) := by decide +kernel
theorem dX1_readRoad_26 : decode cX1_readRoad 26 = .ok (.iconst 1, 1) := by decide +kernel
theorem dX1_readRoad_27 : decode cX1_readRoad 27 = .ok (.goto 4, 3) := by decide +kernel
theorem dX1_readRoad_30 : decode cX1_readRoad 30 = .ok (.iconst 0, 1) := by decide +kernel
theorem dX1_readRoad_31 : decode cX1_readRoad 31 = .ok (.ireturn, 1) := by decide +kernel
theorem dX1_readAmount_0 : decode cX1_readAmount 0 = .ok (.aload_n 0, 1) := by decide +kernel
theorem dX1_readAmount_1 : decode cX1_readAmount 1 = .ok (.getfield 31, 3) := by decide +kernel
theorem dX1_readAmount_4 : decode cX1_readAmount 4 = .ok (.iconst 1, 1) := by decide +kernel
theorem dX1_readAmount_5 : decode cX1_readAmount 5 = .ok (.iload_n 1, 1) := by decide +kernel
theorem dX1_readAmount_6 : decode cX1_readAmount 6 = .ok (.invokevirtual 109, 3) := by decide +kernel
theorem dX1_readAmount_9 : decode cX1_readAmount 9 = .ok (.istore_n 2, 1) := by decide +kernel
theorem dX1_readAmount_10 : decode cX1_readAmount 10 = .ok (.aload_n 0, 1) := by decide +kernel
theorem dX1_readAmount_11 : decode cX1_readAmount 11 = .ok (.getfield 21, 3) := by decide +kernel
theorem dX1_readAmount_14 : decode cX1_readAmount 14 = .ok (.aload_n 0, 1) := by decide +kernel
theorem dX1_readAmount_15 : decode cX1_readAmount 15 = .ok (.getfield 24, 3) := by decide +kernel
theorem dX1_readAmount_18 : decode cX1_readAmount 18 = .ok (.iload_n 2, 1) := by decide +kernel
theorem dX1_readAmount_19 : decode cX1_readAmount 19 = .ok (.iastore, 1) := by decide +kernel
theorem dX1_readAmount_20 : decode cX1_readAmount 20 = .ok (.iload_n 2, 1) := by decide +kernel
theorem dX1_readAmount_21 : decode cX1_readAmount 21 = .ok (.iconst (-1), 1) := by decide +kernel
theorem dX1_readAmount_22 : decode cX1_readAmount 22 = .ok (.if_icmp .eq 7, 3) := by decide +kernel
theorem dX1_readAmount_25 : decode cX1_readAmount 25 = .ok (.iconst 1, 1) := by decide +kernel
theorem dX1_readAmount_26 : decode cX1_readAmount 26 = .ok (.goto 4, 3) := by decide +kernel
theorem dX1_readAmount_29 : decode cX1_readAmount 29 = .ok (.iconst 0, 1) := by decide +kernel
theorem dX1_readAmount_30 : decode cX1_readAmount 30 = .ok (.ireturn, 1) := by decide +kernel
theorem dX1_live_0 : decode cX1_live 0 = .ok (.aload_n 0, 1) := by decide +kernel
theorem dX1_live_1 : decode cX1_live 1 = .ok (.iconst 0, 1) := by decide +kernel
theorem dX1_live_2 : decode cX1_live 2 = .ok (.putfield 28, 3) := by decide +kernel
theorem dX1_live_5 : decode cX1_live 5 = .ok (.iconst 0, 1) := by decide +kernel
theorem dX1_live_6 : decode cX1_live 6 = .ok (.istore_n 2, 1) := by decide +kernel
theorem dX1_live_7 : decode cX1_live 7 = .ok (.iload_n 2, 1) := by decide +kernel
theorem dX1_live_8 : decode cX1_live 8 = .ok (.aload_n 0, 1) := by decide +kernel
theorem dX1_live_9 : decode cX1_live 9 = .ok (.getfield 24, 3) := by decide +kernel
theorem dX1_live_12 : decode cX1_live 12 = .ok (.if_icmp .ge 93, 3) := by decide +kernel
theorem dX1_live_15 : decode cX1_live 15 = .ok (.iload_n 2, 1) := by decide +kernel
theorem dX1_live_16 : decode cX1_live 16 = .ok (.bipush 40, 2) := by decide +kernel
theorem dX1_live_18 : decode cX1_live 18 = .ok (.if_icmp .ge 87, 3) := by decide +kernel
theorem dX1_live_21 : decode cX1_live 21 = .ok (.aload_n 1, 1) := by decide +kernel
theorem dX1_live_22 : decode cX1_live 22 = .ok (.aload_n 0, 1) := by decide +kernel
theorem dX1_live_23 : decode cX1_live 23 = .ok (.getfield 9, 3) := by decide +kernel
theorem dX1_live_26 : decode cX1_live 26 = .ok (.iload_n 2, 1) := by decide +kernel
theorem dX1_live_27 : decode cX1_live 27 = .ok (.iaload, 1) := by decide +kernel
theorem dX1_live_28 : decode cX1_live 28 = .ok (.aload_n 0, 1) := by decide +kernel
theorem dX1_live_29 : decode cX1_live 29 = .ok (.getfield 15, 3) := by decide +kernel
theorem dX1_live_32 : decode cX1_live 32 = .ok (.iload_n 2, 1) := by decide +kernel
theorem dX1_live_33 : decode cX1_live 33 = .ok (.iaload, 1) := by decide +kernel
theorem dX1_live_34 : decode cX1_live 34 = .ok (.aload_n 0, 1) := by decide +kernel
theorem dX1_live_35 : decode cX1_live 35 = .ok (.getfield 18, 3) := by decide +kernel
theorem dX1_live_38 : decode cX1_live 38 = .ok (.iload_n 2, 1) := by decide +kernel
theorem dX1_live_39 : decode cX1_live 39 = .ok (.iaload, 1) := by decide +kernel
theorem dX1_live_40 : decode cX1_live 40 = .ok (.aload_n 0, 1) := by decide +kernel
theorem dX1_live_41 : decode cX1_live 41 = .ok (.getfield 21, 3) := by decide +kernel
theorem dX1_live_44 : decode cX1_live 44 = .ok (.iload_n 2, 1) := by decide +kernel
theorem dX1_live_45 : decode cX1_live 45 = .ok (.iaload, 1) := by decide +kernel
theorem dX1_live_46 : decode cX1_live 46 = .ok (.invokevirtual 113, 3) := by decide +kernel
theorem dX1_live_49 : decode cX1_live 49 = .ok (.istore_n 3, 1) := by decide +kernel
theorem dX1_live_50 : decode cX1_live 50 = .ok (.iload_n 3, 1) := by decide +kernel
theorem dX1_live_51 : decode cX1_live 51 = .ok (.ifCond .eq 20, 3) := by decide +kernel
theorem dX1_live_54 : decode cX1_live 54 = .ok (.aload_n 0, 1) := by decide +kernel
theorem dX1_live_55 : decode cX1_live 55 = .ok (.aload_n 0, 1) := by decide +kernel
theorem dX1_live_56 : decode cX1_live 56 = .ok (.getfield 9, 3) := by decide +kernel
theorem dX1_live_59 : decode cX1_live 59 = .ok (.iload_n 2, 1) := by decide +kernel
theorem dX1_live_60 : decode cX1_live 60 = .ok (.iaload, 1) := by decide +kernel
theorem dX1_live_61 : decode cX1_live 61 = .ok (.bipush 10, 2) := by decide +kernel
theorem dX1_live_63 : decode cX1_live 63 = .ok (.imul, 1) := by decide +kernel
theorem dX1_live_64 : decode cX1_live 64 = .ok (.iload_n 3, 1) := by decide +kernel
theorem dX1_live_65 : decode cX1_live 65 = .ok (.iadd, 1) := by decide +kernel
theorem dX1_live_66 : decode cX1_live 66 = .ok (.putfield 28, 3) := by decide +kernel
theorem dX1_live_69 : decode cX1_live 69 = .ok (.iload_n 2, 1) := by decide +kernel
theorem dX1_live_70 : decode cX1_live 70 = .ok (.ireturn, 1) := by decide +kernel
theorem dX1_live_71 : decode cX1_live 71 = .ok (.aload_n 1, 1) := by decide +kernel
theorem dX1_live_72 : decode cX1_live 72 = .ok (.aload_n 0, 1) := by decide +kernel
theorem dX1_live_73 : decode cX1_live 73 = .ok (.getfield 9, 3) := by decide +kernel
theorem dX1_live_76 : decode cX1_live 76 = .ok (.iload_n 2, 1) := by decide +kernel
theorem dX1_live_77 : decode cX1_live 77 = .ok (.iaload, 1) := by decide +kernel
theorem dX1_live_78 : decode cX1_live 78 = .ok (.aload_n 0, 1) := by decide +kernel
theorem dX1_live_79 : decode cX1_live 79 = .ok (.getfield 15, 3) := by decide +kernel
theorem dX1_live_82 : decode cX1_live 82 = .ok (.iload_n 2, 1) := by decide +kernel
theorem dX1_live_83 : decode cX1_live 83 = .ok (.iaload, 1) := by decide +kernel
theorem dX1_live_84 : decode cX1_live 84 = .ok (.aload_n 0, 1) := by decide +kernel
theorem dX1_live_85 : decode cX1_live 85 = .ok (.getfield 18, 3) := by decide +kernel
theorem dX1_live_88 : decode cX1_live 88 = .ok (.iload_n 2, 1) := by decide +kernel
theorem dX1_live_89 : decode cX1_live 89 = .ok (.iaload, 1) := by decide +kernel
theorem dX1_live_90 : decode cX1_live 90 = .ok (.aload_n 0, 1) := by decide +kernel
theorem dX1_live_91 : decode cX1_live 91 = .ok (.getfield 21, 3) := by decide +kernel
theorem dX1_live_94 : decode cX1_live 94 = .ok (.iload_n 2, 1) := by decide +kernel
theorem dX1_live_95 : decode cX1_live 95 = .ok (.iaload, 1) := by decide +kernel
theorem dX1_live_96 : decode cX1_live 96 = .ok (.invokevirtual 119, 3) := by decide +kernel
theorem dX1_live_99 : decode cX1_live 99 = .ok (.iinc 2 1, 3) := by decide +kernel
theorem dX1_live_102 : decode cX1_live 102 = .ok (.goto (-95), 3) := by decide +kernel
theorem dX1_live_105 : decode cX1_live 105 = .ok (.aload_n 0, 1) := by decide +kernel
theorem dX1_live_106 : decode cX1_live 106 = .ok (.getfield 24, 3) := by decide +kernel
theorem dX1_live_109 : decode cX1_live 109 = .ok (.ireturn, 1) := by decide +kernel
theorem dX2_init_0 : decode cX2_init 0 = .ok (.aload_n 0, 1) := by decide +kernel
theorem dX2_init_1 : decode cX2_init 1 = .ok (.invokespecial 3, 3) := by decide +kernel
theorem dX2_init_4 : decode cX2_init 4 = .ok (.aload_n 0, 1) := by decide +kernel
theorem dX2_init_5 : decode cX2_init 5 = .ok (.iconst 0, 1) := by decide +kernel
theorem dX2_init_6 : decode cX2_init 6 = .ok (.putfield 9, 3) := by decide +kernel
theorem dX2_init_9 : decode cX2_init 9 = .ok (.aload_n 0, 1) := by decide +kernel
theorem dX2_init_10 : decode cX2_init 10 = .ok (.iconst 0, 1) := by decide +kernel
theorem dX2_init_11 : decode cX2_init 11 = .ok (.putfield 15, 3) := by decide +kernel
theorem dX2_init_14 : decode cX2_init 14 = .ok (.aload_n 0, 1) := by decide +kernel
theorem dX2_init_15 : decode cX2_init 15 = .ok (.iconst 0, 1) := by decide +kernel
theorem dX2_init_16 : decode cX2_init 16 = .ok (.putfield 18, 3) := by decide +kernel
theorem dX2_init_19 : decode cX2_init 19 = .ok (.aload_n 0, 1) := by decide +kernel
theorem dX2_init_20 : decode cX2_init 20 = .ok (.bipush 6, 2) := by decide +kernel
theorem dX2_init_22 : decode cX2_init 22 = .ok (.newarray .int, 2) := by decide +kernel
theorem dX2_init_24 : decode cX2_init 24 = .ok (.putfield 21, 3) := by decide +kernel
theorem dX2_init_27 : decode cX2_init 27 = .ok (.aload_n 0, 1) := by decide +kernel
theorem dX2_init_28 : decode cX2_init 28 = .ok (.iconst (-1), 1) := by decide +kernel
theorem dX2_init_29 : decode cX2_init 29 = .ok (.putfield 25, 3) := by decide +kernel
theorem dX2_init_32 : decode cX2_init 32 = .ok (.aload_n 0, 1) := by decide +kernel
theorem dX2_init_33 : decode cX2_init 33 = .ok (.new 28, 3) := by decide +kernel
theorem dX2_init_36 : decode cX2_init 36 = .ok (.dup, 1) := by decide +kernel
theorem dX2_init_37 : decode cX2_init 37 = .ok (.bipush 6, 2) := by decide +kernel
theorem dX2_init_39 : decode cX2_init 39 = .ok (.invokespecial 30, 3) := by decide +kernel
theorem dX2_init_42 : decode cX2_init 42 = .ok (.putfield 33, 3) := by decide +kernel
theorem dX2_init_45 : decode cX2_init 45 = .ok (.aload_n 0, 1) := by decide +kernel
theorem dX2_init_46 : decode cX2_init 46 = .ok (.aload_n 1, 1) := by decide +kernel
theorem dX2_init_47 : decode cX2_init 47 = .ok (.putfield 37, 3) := by decide +kernel
theorem dX2_init_50 : decode cX2_init 50 = .ok (.aload_n 0, 1) := by decide +kernel
theorem dX2_init_51 : decode cX2_init 51 = .ok (.aload_n 1, 1) := by decide +kernel
theorem dX2_init_52 : decode cX2_init 52 = .ok (.getfield 41, 3) := by decide +kernel
theorem dX2_init_55 : decode cX2_init 55 = .ok (.putfield 47, 3) := by decide +kernel
theorem dX2_init_58 : decode cX2_init 58 = .ok (.return_, 1) := by decide +kernel
theorem dX2_longestTogether_0 : decode cX2_longestTogether 0 = .ok (.aload_n 0, 1) := by decide +kernel
theorem dX2_longestTogether_1 : decode cX2_longestTogether 1 = .ok (.aload_n 1, 1) := by decide +kernel
theorem dX2_longestTogether_2 : decode cX2_longestTogether 2 = .ok (.putfield 37, 3) := by decide +kernel
theorem dX2_longestTogether_5 : decode cX2_longestTogether 5 = .ok (.aload_n 0, 1) := by decide +kernel
theorem dX2_longestTogether_6 : decode cX2_longestTogether 6 = .ok (.aload_n 1, 1) := by decide +kernel
theorem dX2_longestTogether_7 : decode cX2_longestTogether 7 = .ok (.getfield 41, 3) := by decide +kernel
theorem dX2_longestTogether_10 : decode cX2_longestTogether 10 = .ok (.putfield 47, 3) := by decide +kernel
theorem dX2_longestTogether_13 : decode cX2_longestTogether 13 = .ok (.aload_n 0, 1) := by decide +kernel
theorem dX2_longestTogether_14 : decode cX2_longestTogether 14 = .ok (.iload_n 2, 1) := by decide +kernel
theorem dX2_longestTogether_15 : decode cX2_longestTogether 15 = .ok (.putfield 9, 3) := by decide +kernel
theorem dX2_longestTogether_18 : decode cX2_longestTogether 18 = .ok (.aload_n 0, 1) := by decide +kernel
theorem dX2_longestTogether_19 : decode cX2_longestTogether 19 = .ok (.iconst 0, 1) := by decide +kernel
theorem dX2_longestTogether_20 : decode cX2_longestTogether 20 = .ok (.putfield 15, 3) := by decide +kernel
theorem dX2_longestTogether_23 : decode cX2_longestTogether 23 = .ok (.aload_n 0, 1) := by decide +kernel
theorem dX2_longestTogether_24 : decode cX2_longestTogether 24 = .ok (.iconst (-1), 1) := by decide +kernel
theorem dX2_longestTogether_25 : decode cX2_longestTogether 25 = .ok (.putfield 25, 3) := by decide +kernel
theorem dX2_longestTogether_28 : decode cX2_longestTogether 28 = .ok (.iconst 0, 1) := by decide +kernel
theorem dX2_longestTogether_29 : decode cX2_longestTogether 29 = .ok (.istore_n 3, 1) := by decide +kernel
theorem dX2_longestTogether_30 : decode cX2_longestTogether 30 = .ok (.iload_n 3, 1) := by decide +kernel
theorem dX2_longestTogether_31 : decode cX2_longestTogether 31 = .ok (.aload_n 0, 1) := by decide +kernel
theorem dX2_longestTogether_32 : decode cX2_longestTogether 32 = .ok (.getfield 47, 3) := by decide +kernel
theorem dX2_longestTogether_35 : decode cX2_longestTogether 35 = .ok (.getfield 48, 3) := by decide +kernel
theorem dX2_longestTogether_38 : decode cX2_longestTogether 38 = .ok (.if_icmp .ge 36, 3) := by decide +kernel
theorem dX2_longestTogether_41 : decode cX2_longestTogether 41 = .ok (.aload_n 0, 1) := by decide +kernel
theorem dX2_longestTogether_42 : decode cX2_longestTogether 42 = .ok (.getfield 37, 3) := by decide +kernel
theorem dX2_longestTogether_45 : decode cX2_longestTogether 45 = .ok (.iload_n 3, 1) := by decide +kernel
theorem dX2_longestTogether_46 : decode cX2_longestTogether 46 = .ok (.aload_n 0, 1) := by decide +kernel
theorem dX2_longestTogether_47 : decode cX2_longestTogether 47 = .ok (.getfield 9, 3) := by decide +kernel
theorem dX2_longestTogether_50 : decode cX2_longestTogether 50 = .ok (.invokevirtual 53, 3) := by decide +kernel
theorem dX2_longestTogether_53 : decode cX2_longestTogether 53 = .ok (.ifCond .ne 15, 3) := by decide +kernel
theorem dX2_longestTogether_56 : decode cX2_longestTogether 56 = .ok (.aload_n 0, 1) := by decide +kernel
theorem dX2_longestTogether_57 : decode cX2_longestTogether 57 = .ok (.dup, 1) := by decide +kernel
theorem dX2_longestTogether_58 : decode cX2_longestTogether 58 = .ok (.getfield 15, 3) := by decide +kernel
theorem dX2_longestTogether_61 : decode cX2_longestTogether 61 = .ok (.iconst 1, 1) := by decide +kernel
theorem dX2_longestTogether_62 : decode cX2_longestTogether 62 = .ok (.iload_n 3, 1) := by decide +kernel
theorem dX2_longestTogether_63 : decode cX2_longestTogether 63 = .ok (.ishl, 1) := by decide +kernel
theorem dX2_longestTogether_64 : decode cX2_longestTogether 64 = .ok (.ior, 1) := by decide +kernel
theorem dX2_longestTogether_65 : decode cX2_longestTogether 65 = .ok (.putfield 15, 3) := by decide +kernel
theorem dX2_longestTogether_68 : decode cX2_longestTogether 68 = .ok (.iinc 3 1, 3) := by decide +kernel
theorem dX2_longestTogether_71 : decode cX2_longestTogether 71 = .ok (.goto (-41), 3) := by decide +kernel
theorem dX2_longestTogether_74 : decode cX2_longestTogether 74 = .ok (.aload_n 0, 1) := by decide +kernel
theorem dX2_longestTogether_75 : decode cX2_longestTogether 75 = .ok (.aload_n 0, 1) := by decide +kernel
theorem dX2_longestTogether_76 : decode cX2_longestTogether 76 = .ok (.getfield 15, 3) := by decide +kernel
theorem dX2_longestTogether_79 : decode cX2_longestTogether 79 = .ok (.invokestatic 57, 3) := by decide +kernel
theorem dX2_longestTogether_82 : decode cX2_longestTogether 82 = .ok (.putfield 18, 3) := by decide +kernel
theorem dX2_longestTogether_85 : decode cX2_longestTogether 85 = .ok (.aload_n 0, 1) := by decide +kernel
theorem dX2_longestTogether_86 : decode cX2_longestTogether 86 = .ok (.aload_n 0, 1) := by decide +kernel
theorem dX2_longestTogether_87 : decode cX2_longestTogether 87 = .ok (.getfield 37, 3) := by decide +kernel
theorem dX2_longestTogether_90 : decode cX2_longestTogether 90 = .ok (.getfield 63, 3) := by decide +kernel
theorem dX2_longestTogether_93 : decode cX2_longestTogether 93 = .ok (.aload_n 0, 1) := by decide +kernel
theorem dX2_longestTogether_94 : decode cX2_longestTogether 94 = .ok (.getfield 9, 3) := by decide +kernel
theorem dX2_longestTogether_97 : decode cX2_longestTogether 97 = .ok (.iaload, 1) := by decide +kernel
theorem dX2_longestTogether_98 : decode cX2_longestTogether 98 = .ok (.aload_n 0, 1) := by decide +kernel
theorem dX2_longestTogether_99 : decode cX2_longestTogether 99 = .ok (.getfield 37, 3) := by decide +kernel
theorem dX2_longestTogether_102 : decode cX2_longestTogether 102 = .ok (.invokevirtual 66, 3) := by decide +kernel
theorem dX2_longestTogether_105 : decode cX2_longestTogether 105 = .ok (.iconst 0, 1) := by decide +kernel
theorem dX2_longestTogether_106 : decode cX2_longestTogether 106 = .ok (.iconst 0, 1) := by decide +kernel
theorem dX2_longestTogether_107 : decode cX2_longestTogether 107 = .ok (.invokevirtual 70, 3) := by decide +kernel
theorem dX2_longestTogether_110 : decode cX2_longestTogether 110 = .ok (.aload_n 0, 1) := by decide +kernel
theorem dX2_longestTogether_111 : decode cX2_longestTogether 111 = .ok (.getfield 25, 3) := by decide +kernel
theorem dX2_longestTogether_114 : decode cX2_longestTogether 114 = .ok (.ireturn, 1) := by decide +kernel
theorem dX2_goOn_0 : decode cX2_goOn 0 = .ok (.iload 4, 2) := by decide +kernel
theorem dX2_goOn_2 : decode cX2_goOn 2 = .ok (.aload_n 0, 1) := by decide +kernel
theorem dX2_goOn_3 : decode cX2_goOn 3 = .ok (.getfield 18, 3) := by decide +kernel
theorem dX2_goOn_6 : decode cX2_goOn 6 = .ok (.if_icmp .ge 13, 3) := by decide +kernel
theorem dX2_goOn_9 : decode cX2_goOn 9 = .ok (.iload 4, 2) := by decide +kernel
theorem dX2_goOn_11 : decode cX2_goOn 11 = .ok (.aload_n 0, 1) := by decide +kernel
theorem dX2_goOn_12 : decode cX2_goOn 12 = .ok (.getfield 21, 3) := by decide +kernel
theorem dX2_goOn_15 : decode cX2_goOn 15 = .ok (.arraylength, 1) := by decide +kernel
theorem dX2_goOn_16 : decode cX2_goOn 16 = .ok (.if_icmp .lt 30, 3) := by decide +kernel
theorem dX2_goOn_19 : decode cX2_goOn 19 = .ok (.iload_n 2, 1) := by decide +kernel
theorem dX2_goOn_20 : decode cX2_goOn 20 = .ok (.aload_n 0, 1) := by decide +kernel
theorem dX2_goOn_21 : decode cX2_goOn 21 = .ok (.getfield 25, 3) := by decide +kernel
theorem dX2_goOn_24 : decode cX2_goOn 24 = .ok (.if_icmp .le 21, 3) := by decide +kernel
theorem dX2_goOn_27 : decode cX2_goOn 27 = .ok (.aload_n 0, 1) := by decide +kernel
theorem dX2_goOn_28 : decode cX2_goOn 28 = .ok (.iload_n 2, 1) := by decide +kernel
theorem dX2_goOn_29 : decode cX2_goOn 29 = .ok (.putfield 25, 3) := by decide +kernel
theorem dX2_goOn_32 : decode cX2_goOn 32 = .ok (.aload_n 0, 1) := by decide +kernel
theorem dX2_goOn_33 : decode cX2_goOn 33 = .ok (.getfield 33, 3) := by decide +kernel
theorem dX2_goOn_36 : decode cX2_goOn 36 = .ok (.aload_n 0, 1) := by decide +kernel
theorem dX2_goOn_37 : decode cX2_goOn 37 = .ok (.getfield 21, 3) := by decide +kernel
theorem dX2_goOn_40 : decode cX2_goOn 40 = .ok (.iload 4, 2) := by decide +kernel
theorem dX2_goOn_42 : decode cX2_goOn 42 = .ok (.invokevirtual 74, 3) := by decide +kernel
theorem dX2_goOn_45 : decode cX2_goOn 45 = .ok (.return_, 1) := by decide +kernel
theorem dX2_goOn_46 : decode cX2_goOn 46 = .ok (.iconst 0, 1) := by decide +kernel
theorem dX2_goOn_47 : decode cX2_goOn 47 = .ok (.istore 5, 2) := by decide +kernel
theorem dX2_goOn_49 : decode cX2_goOn 49 = .ok (.iload 5, 2) := by decide +kernel
theorem dX2_goOn_51 : decode cX2_goOn 51 = .ok (.aload_n 0, 1) := by decide +kernel
theorem dX2_goOn_52 : decode cX2_goOn 52 = .ok (.getfield 47, 3) := by decide +kernel
theorem dX2_goOn_55 : decode cX2_goOn 55 = .ok (.getfield 48, 3) := by decide +kernel
theorem dX2_goOn_58 : decode cX2_goOn 58 = .ok (.if_icmp .ge 125, 3) := by decide +kernel
theorem dX2_goOn_61 : decode cX2_goOn 61 = .ok (.aload_n 0, 1) := by decide +kernel
theorem dX2_goOn_62 : decode cX2_goOn 62 = .ok (.getfield 15, 3) := by decide +kernel
theorem dX2_goOn_65 : decode cX2_goOn 65 = .ok (.iload_n 3, 1) := by decide +kernel
theorem dX2_goOn_66 : decode cX2_goOn 66 = .ok (.iconst (-1), 1) := by decide +kernel
theorem dX2_goOn_67 : decode cX2_goOn 67 = .ok (.ixor, 1) := by decide +kernel
theorem dX2_goOn_68 : decode cX2_goOn 68 = .ok (.iand, 1) := by decide +kernel
theorem dX2_goOn_69 : decode cX2_goOn 69 = .ok (.iload 5, 2) := by decide +kernel
theorem dX2_goOn_71 : decode cX2_goOn 71 = .ok (.invokestatic 78, 3) := by decide +kernel
theorem dX2_goOn_74 : decode cX2_goOn 74 = .ok (.ifCond .eq 103, 3) := by decide +kernel
theorem dX2_goOn_77 : decode cX2_goOn 77 = .ok (.aload_n 0, 1) := by decide +kernel
theorem dX2_goOn_78 : decode cX2_goOn 78 = .ok (.getfield 47, 3) := by decide +kernel
theorem dX2_goOn_81 : decode cX2_goOn 81 = .ok (.getfield 82, 3) := by decide +kernel
theorem dX2_goOn_84 : decode cX2_goOn 84 = .ok (.iload 5, 2) := by decide +kernel
theorem dX2_goOn_86 : decode cX2_goOn 86 = .ok (.iaload, 1) := by decide +kernel
theorem dX2_goOn_87 : decode cX2_goOn 87 = .ok (.istore 6, 2) := by decide +kernel
theorem dX2_goOn_89 : decode cX2_goOn 89 = .ok (.aload_n 0, 1) := by decide +kernel
theorem dX2_goOn_90 : decode cX2_goOn 90 = .ok (.getfield 47, 3) := by decide +kernel
theorem dX2_goOn_93 : decode cX2_goOn 93 = .ok (.aload_n 0, 1) := by decide +kernel
theorem dX2_goOn_94 : decode cX2_goOn 94 = .ok (.getfield 9, 3) := by decide +kernel
theorem dX2_goOn_97 : decode cX2_goOn 97 = .ok (.iload 6, 2) := by decide +kernel
theorem dX2_goOn_99 : decode cX2_goOn 99 = .ok (.aload_n 0, 1) := by decide +kernel
theorem dX2_goOn_100 : decode cX2_goOn 100 = .ok (.getfield 37, 3) := by decide +kernel
theorem dX2_goOn_103 : decode cX2_goOn 103 = .ok (.getfield 85, 3) := by decide +kernel
theorem dX2_goOn_106 : decode cX2_goOn 106 = .ok (.iload 6, 2) := by decide +kernel
theorem dX2_goOn_108 : decode cX2_goOn 108 = .ok (.iaload, 1) := by decide +kernel
theorem dX2_goOn_109 : decode cX2_goOn 109 = .ok (.invokevirtual 88, 3) := by decide +kernel
theorem dX2_goOn_112 : decode cX2_goOn 112 = .ok (.istore 7, 2) := by decide +kernel
theorem dX2_goOn_114 : decode cX2_goOn 114 = .ok (.aload_n 0, 1) := by decide +kernel
theorem dX2_goOn_115 : decode cX2_goOn 115 = .ok (.getfield 47, 3) := by decide +kernel
theorem dX2_goOn_118 : decode cX2_goOn 118 = .ok (.aload_n 0, 1) := by decide +kernel
theorem dX2_goOn_119 : decode cX2_goOn 119 = .ok (.getfield 9, 3) := by decide +kernel
theorem dX2_goOn_122 : decode cX2_goOn 122 = .ok (.iload 6, 2) := by decide +kernel
theorem dX2_goOn_124 : decode cX2_goOn 124 = .ok (.iload_n 1, 1) := by decide +kernel
theorem dX2_goOn_125 : decode cX2_goOn 125 = .ok (.aload_n 0, 1) := by decide +kernel
theorem dX2_goOn_126 : decode cX2_goOn 126 = .ok (.getfield 37, 3) := by decide +kernel
theorem dX2_goOn_129 : decode cX2_goOn 129 = .ok (.getfield 92, 3) := by decide +kernel
theorem dX2_goOn_132 : decode cX2_goOn 132 = .ok (.iload 5, 2) := by decide +kernel
theorem dX2_goOn_134 : decode cX2_goOn 134 = .ok (.iaload, 1) := by decide +kernel
theorem dX2_goOn_135 : decode cX2_goOn 135 = .ok (.invokevirtual 95, 3) := by decide +kernel
theorem dX2_goOn_138 : decode cX2_goOn 138 = .ok (.istore 8, 2) := by decide +kernel
theorem dX2_goOn_140 : decode cX2_goOn 140 = .ok (.aload_n 0, 1) := by decide +kernel
theorem dX2_goOn_141 : decode cX2_goOn 141 = .ok (.getfield 21, 3) := by decide +kernel
theorem dX2_goOn_144 : decode cX2_goOn 144 = .ok (.iload 4, 2) := by decide +kernel
theorem dX2_goOn_146 : decode cX2_goOn 146 = .ok (.iload 5, 2) := by decide +kernel
theorem dX2_goOn_148 : decode cX2_goOn 148 = .ok (.iastore, 1) := by decide +kernel
theorem dX2_goOn_149 : decode cX2_goOn 149 = .ok (.aload_n 0, 1) := by decide +kernel
theorem dX2_goOn_150 : decode cX2_goOn 150 = .ok (.iload_n 1, 1) := by decide +kernel
theorem dX2_goOn_151 : decode cX2_goOn 151 = .ok (.iload 7, 2) := by decide +kernel
theorem dX2_goOn_153 : decode cX2_goOn 153 = .ok (.iadd, 1) := by decide +kernel
theorem dX2_goOn_154 : decode cX2_goOn 154 = .ok (.iload 8, 2) := by decide +kernel
theorem dX2_goOn_156 : decode cX2_goOn 156 = .ok (.isub, 1) := by decide +kernel
theorem dX2_goOn_157 : decode cX2_goOn 157 = .ok (.iload_n 2, 1) := by decide +kernel
theorem dX2_goOn_158 : decode cX2_goOn 158 = .ok (.iload 7, 2) := by decide +kernel
theorem dX2_goOn_160 : decode cX2_goOn 160 = .ok (.isub, 1) := by decide +kernel
theorem dX2_goOn_161 : decode cX2_goOn 161 = .ok (.iload 8, 2) := by decide +kernel
theorem dX2_goOn_163 : decode cX2_goOn 163 = .ok (.iadd, 1) := by decide +kernel
theorem dX2_goOn_164 : decode cX2_goOn 164 = .ok (.iload_n 3, 1) := by decide +kernel
theorem dX2_goOn_165 : decode cX2_goOn 165 = .ok (.iconst 1, 1) := by decide +kernel
theorem dX2_goOn_166 : decode cX2_goOn 166 = .ok (.iload 5, 2) := by decide +kernel
theorem dX2_goOn_168 : decode cX2_goOn 168 = .ok (.ishl, 1) := by decide +kernel
theorem dX2_goOn_169 : decode cX2_goOn 169 = .ok (.ior, 1) := by decide +kernel
theorem dX2_goOn_170 : decode cX2_goOn 170 = .ok (.iload 4, 2) := by decide +kernel
theorem dX2_goOn_172 : decode cX2_goOn 172 = .ok (.iconst 1, 1) := by decide +kernel
theorem dX2_goOn_173 : decode cX2_goOn 173 = .ok (.iadd, 1) := by decide +kernel
theorem dX2_goOn_174 : decode cX2_goOn 174 = .ok (.invokevirtual 70, 3) := by decide +kernel
theorem dX2_goOn_177 : decode cX2_goOn 177 = .ok (.iinc 5 1, 3) := by decide +kernel
theorem dX2_goOn_180 : decode cX2_goOn 180 = .ok (.goto (-131), 3) := by decide +kernel
theorem dX2_goOn_183 : decode cX2_goOn 183 = .ok (.return_, 1) := by decide +kernel
theorem dX3_init_0 : decode cX3_init 0 = .ok (.aload_n 0, 1) := by decide +kernel
theorem dX3_init_1 : decode cX3_init 1 = .ok (.invokespecial 3, 3) := by decide +kernel
theorem dX3_init_4 : decode cX3_init 4 = .ok (.aload_n 0, 1) := by decide +kernel
theorem dX3_init_5 : decode cX3_init 5 = .ok (.iconst 0, 1) := by decide +kernel
theorem dX3_init_6 : decode cX3_init 6 = .ok (.putfield 9, 3) := by decide +kernel
theorem dX3_init_9 : decode cX3_init 9 = .ok (.aload_n 0, 1) := by decide +kernel
theorem dX3_init_10 : decode cX3_init 10 = .ok (.iconst 0, 1) := by decide +kernel
theorem dX3_init_11 : decode cX3_init 11 = .ok (.putfield 15, 3) := by decide +kernel
theorem dX3_init_14 : decode cX3_init 14 = .ok (.aload_n 0, 1) := by decide +kernel
theorem dX3_init_15 : decode cX3_init 15 = .ok (.iconst 0, 1) := by decide +kernel
theorem dX3_init_16 : decode cX3_init 16 = .ok (.putfield 18, 3) := by decide +kernel
theorem dX3_init_19 : decode cX3_init 19 = .ok (.aload_n 0, 1) := by decide +kernel
theorem dX3_init_20 : decode cX3_init 20 = .ok (.bipush 7, 2) := by decide +kernel
theorem dX3_init_22 : decode cX3_init 22 = .ok (.newarray .long, 2) := by decide +kernel
theorem dX3_init_24 : decode cX3_init 24 = .ok (.putfield 21, 3) := by decide +kernel
theorem dX3_init_27 : decode cX3_init 27 = .ok (.aload_n 0, 1) := by decide +kernel
theorem dX3_init_28 : decode cX3_init 28 = .ok (.bipush 7, 2) := by decide +kernel
theorem dX3_init_30 : decode cX3_init 30 = .ok (.newarray .int, 2) := by decide +kernel
theorem dX3_init_32 : decode cX3_init 32 = .ok (.putfield 25, 3) := by decide +kernel
theorem dX3_init_35 : decode cX3_init 35 = .ok (.aload_n 0, 1) := by decide +kernel
theorem dX3_init_36 : decode cX3_init 36 = .ok (.bipush 7, 2) := by decide +kernel
theorem dX3_init_38 : decode cX3_init 38 = .ok (.newarray .int, 2) := by decide +kernel
theorem dX3_init_40 : decode cX3_init 40 = .ok (.putfield 29, 3) := by decide +kernel
theorem dX3_init_43 : decode cX3_init 43 = .ok (.aload_n 0, 1) := by decide +kernel
theorem dX3_init_44 : decode cX3_init 44 = .ok (.bipush 12, 2) := by decide +kernel
theorem dX3_init_46 : decode cX3_init 46 = .ok (.newarray .int, 2) := by decide +kernel
theorem dX3_init_48 : decode cX3_init 48 = .ok (.putfield 32, 3) := by decide +kernel
theorem dX3_init_51 : decode cX3_init 51 = .ok (.aload_n 0, 1) := by decide +kernel
theorem dX3_init_52 : decode cX3_init 52 = .ok (.bipush 12, 2) := by decide +kernel
theorem dX3_init_54 : decode cX3_init 54 = .ok (.newarray .int, 2) := by decide +kernel
theorem dX3_init_56 : decode cX3_init 56 = .ok (.putfield 35, 3) := by decide +kernel
theorem dX3_init_59 : decode cX3_init 59 = .ok (.aload_n 0, 1) := by decide +kernel
theorem dX3_init_60 : decode cX3_init 60 = .ok (.bipush 12, 2) := by decide +kernel
theorem dX3_init_62 : decode cX3_init 62 = .ok (.newarray .int, 2) := by decide +kernel
theorem dX3_init_64 : decode cX3_init 64 = .ok (.putfield 38, 3) := by decide +kernel
theorem dX3_init_67 : decode cX3_init 67 = .ok (.aload_n 0, 1) := by decide +kernel
theorem dX3_init_68 : decode cX3_init 68 = .ok (.bipush 12, 2) := by decide +kernel
theorem dX3_init_70 : decode cX3_init 70 = .ok (.newarray .int, 2) := by decide +kernel
theorem dX3_init_72 : decode cX3_init 72 = .ok (.putfield 41, 3) := by decide +kernel
theorem dX3_init_75 : decode cX3_init 75 = .ok (.aload_n 0, 1) := by decide +kernel
theorem dX3_init_76 : decode cX3_init 76 = .ok (.bipush 49, 2) := by decide +kernel
theorem dX3_init_78 : decode cX3_init 78 = .ok (.newarray .int, 2) := by decide +kernel
theorem dX3_init_80 : decode cX3_init 80 = .ok (.putfield 44, 3) := by decide +kernel
theorem dX3_init_83 : decode cX3_init 83 = .ok (.aload_n 0, 1) := by decide +kernel
theorem dX3_init_84 : decode cX3_init 84 = .ok (.bipush 6, 2) := by decide +kernel
theorem dX3_init_86 : decode cX3_init 86 = .ok (.newarray .long, 2) := by decide +kernel
theorem dX3_init_88 : decode cX3_init 88 = .ok (.putfield 47, 3) := by decide +kernel
theorem dX3_init_91 : decode cX3_init 91 = .ok (.aload_n 0, 1) := by decide +kernel
theorem dX3_init_92 : decode cX3_init 92 = .ok (.bipush 6, 2) := by decide +kernel
theorem dX3_init_94 : decode cX3_init 94 = .ok (.newarray .int, 2) := by decide +kernel
theorem dX3_init_96 : decode cX3_init 96 = .ok (.putfield 50, 3) := by decide +kernel
theorem dX3_init_99 : decode cX3_init 99 = .ok (.return_, 1) := by decide +kernel
theorem dX3_addLand_0 : decode cX3_addLand 0 = .ok (.aload_n 0, 1) := by decide +kernel
theorem dX3_addLand_1 : decode cX3_addLand 1 = .ok (.getfield 9, 3) := by decide +kernel
theorem dX3_addLand_4 : decode cX3_addLand 4 = .ok (.bipush 7, 2) := by decide +kernel
theorem dX3_addLand_6 : decode cX3_addLand 6 = .ok (.if_icmp .ge 44, 3) := by decide +kernel
theorem dX3_addLand_9 : decode cX3_addLand 9 = .ok (.aload_n 0, 1) := by decide +kernel
theorem dX3_addLand_10 : decode cX3_addLand 10 = .ok (.getfield 21, 3) := by decide +kernel
theorem dX3_addLand_13 : decode cX3_addLand 13 = .ok (.aload_n 0, 1) := by decide +kernel
theorem dX3_addLand_14 : decode cX3_addLand 14 = .ok (.getfield 9, 3) := by decide +kernel
theorem dX3_addLand_17 : decode cX3_addLand 17 = .ok (.lload_n 1, 1) := by decide +kernel
theorem dX3_addLand_18 : decode cX3_addLand 18 = .ok (.lastore, 1) := by decide +kernel
theorem dX3_addLand_19 : decode cX3_addLand 19 = .ok (.aload_n 0, 1) := by decide +kernel
theorem dX3_addLand_20 : decode cX3_addLand 20 = .ok (.getfield 25, 3) := by decide +kernel
theorem dX3_addLand_23 : decode cX3_addLand 23 = .ok (.aload_n 0, 1) := by decide +kernel
theorem dX3_addLand_24 : decode cX3_addLand 24 = .ok (.getfield 9, 3) := by decide +kernel
theorem dX3_addLand_27 : decode cX3_addLand 27 = .ok (.iload_n 3, 1) := by decide +kernel
theorem dX3_addLand_28 : decode cX3_addLand 28 = .ok (.iastore, 1) := by decide +kernel
theorem dX3_addLand_29 : decode cX3_addLand 29 = .ok (.aload_n 0, 1) := by decide +kernel
theorem dX3_addLand_30 : decode cX3_addLand 30 = .ok (.getfield 29, 3) := by decide +kernel
theorem dX3_addLand_33 : decode cX3_addLand 33 = .ok (.aload_n 0, 1) := by decide +kernel
theorem dX3_addLand_34 : decode cX3_addLand 34 = .ok (.getfield 9, 3) := by decide +kernel
theorem dX3_addLand_37 : decode cX3_addLand 37 = .ok (.iload 4, 2) := by decide +kernel
theorem dX3_addLand_39 : decode cX3_addLand 39 = .ok (.iastore, 1) := by decide +kernel
theorem dX3_addLand_40 : decode cX3_addLand 40 = .ok (.aload_n 0, 1) := by decide +kernel
theorem dX3_addLand_41 : decode cX3_addLand 41 = .ok (.dup, 1) := by decide +kernel
theorem dX3_addLand_42 : decode cX3_addLand 42 = .ok (.getfield 9, 3) := by decide +kernel
theorem dX3_addLand_45 : decode cX3_addLand 45 = .ok (.iconst 1, 1) := by decide +kernel
theorem dX3_addLand_46 : decode cX3_addLand 46 = .ok (.iadd, 1) := by decide +kernel
theorem dX3_addLand_47 : decode cX3_addLand 47 = .ok (.putfield 9, 3) := by decide +kernel
theorem dX3_addLand_50 : decode cX3_addLand 50 = .ok (.return_, 1) := by decide +kernel
theorem dX3_addRoad_0 : decode cX3_addRoad 0 = .ok (.aload_n 0, 1) := by decide +kernel
theorem dX3_addRoad_1 : decode cX3_addRoad 1 = .ok (.getfield 15, 3) := by decide +kernel
theorem dX3_addRoad_4 : decode cX3_addRoad 4 = .ok (.bipush 12, 2) := by decide +kernel
theorem dX3_addRoad_6 : decode cX3_addRoad 6 = .ok (.if_icmp .ge 84, 3) := by decide +kernel
theorem dX3_addRoad_9 : decode cX3_addRoad 9 = .ok (.aload_n 0, 1) := by decide +kernel
theorem dX3_addRoad_10 : decode cX3_addRoad 10 = .ok (.getfield 32, 3) := by decide +kernel
theorem dX3_addRoad_13 : decode cX3_addRoad 13 = .ok (.aload_n 0, 1) := by decide +kernel
theorem dX3_addRoad_14 : decode cX3_addRoad 14 = .ok (.getfield 15, 3) := by decide +kernel
theorem dX3_addRoad_17 : decode cX3_addRoad 17 = .ok (.iload_n 1, 1) := by decide +kernel
theorem dX3_addRoad_18 : decode cX3_addRoad 18 = .ok (.iastore, 1) := by decide +kernel
theorem dX3_addRoad_19 : decode cX3_addRoad 19 = .ok (.aload_n 0, 1) := by decide +kernel
theorem dX3_addRoad_20 : decode cX3_addRoad 20 = .ok (.getfield 35, 3) := by decide +kernel
theorem dX3_addRoad_23 : decode cX3_addRoad 23 = .ok (.aload_n 0, 1) := by decide +kernel
theorem dX3_addRoad_24 : decode cX3_addRoad 24 = .ok (.getfield 15, 3) := by decide +kernel
theorem dX3_addRoad_27 : decode cX3_addRoad 27 = .ok (.iload_n 2, 1) := by decide +kernel
theorem dX3_addRoad_28 : decode cX3_addRoad 28 = .ok (.iastore, 1) := by decide +kernel
theorem dX3_addRoad_29 : decode cX3_addRoad 29 = .ok (.aload_n 0, 1) := by decide +kernel
theorem dX3_addRoad_30 : decode cX3_addRoad 30 = .ok (.getfield 38, 3) := by decide +kernel
theorem dX3_addRoad_33 : decode cX3_addRoad 33 = .ok (.aload_n 0, 1) := by decide +kernel
theorem dX3_addRoad_34 : decode cX3_addRoad 34 = .ok (.getfield 15, 3) := by decide +kernel
theorem dX3_addRoad_37 : decode cX3_addRoad 37 = .ok (.iload_n 3, 1) := by decide +kernel
theorem dX3_addRoad_38 : decode cX3_addRoad 38 = .ok (.iastore, 1) := by decide +kernel
theorem dX3_addRoad_39 : decode cX3_addRoad 39 = .ok (.aload_n 0, 1) := by decide +kernel
theorem dX3_addRoad_40 : decode cX3_addRoad 40 = .ok (.getfield 41, 3) := by decide +kernel
theorem dX3_addRoad_43 : decode cX3_addRoad 43 = .ok (.aload_n 0, 1) := by decide +kernel
theorem dX3_addRoad_44 : decode cX3_addRoad 44 = .ok (.getfield 15, 3) := by decide +kernel
theorem dX3_addRoad_47 : decode cX3_addRoad 47 = .ok (.iload 4, 2) := by decide +kernel
theorem dX3_addRoad_49 : decode cX3_addRoad 49 = .ok (.iastore, 1) := by decide +kernel
theorem dX3_addRoad_50 : decode cX3_addRoad 50 = .ok (.aload_n 0, 1) := by decide +kernel
theorem dX3_addRoad_51 : decode cX3_addRoad 51 = .ok (.dup, 1) := by decide +kernel
theorem dX3_addRoad_52 : decode cX3_addRoad 52 = .ok (.getfield 15, 3) := by decide +kernel
theorem dX3_addRoad_55 : decode cX3_addRoad 55 = .ok (.iconst 1, 1) := by decide +kernel
theorem dX3_addRoad_56 : decode cX3_addRoad 56 = .ok (.iadd, 1) := by decide +kernel
theorem dX3_addRoad_57 : decode cX3_addRoad 57 = .ok (.putfield 15, 3) := by decide +kernel
theorem dX3_addRoad_60 : decode cX3_addRoad 60 = .ok (.aload_n 0, 1) := by decide +kernel
theorem dX3_addRoad_61 : decode cX3_addRoad 61 = .ok (.getfield 44, 3) := by decide +kernel
theorem dX3_addRoad_64 : decode cX3_addRoad 64 = .ok (.iload_n 1, 1) := by decide +kernel
theorem dX3_addRoad_65 : decode cX3_addRoad 65 = .ok (.bipush 7, 2) := by decide +kernel
theorem dX3_addRoad_67 : decode cX3_addRoad 67 = .ok (.imul, 1) := by decide +kernel
theorem dX3_addRoad_68 : decode cX3_addRoad 68 = .ok (.iload_n 2, 1) := by decide +kernel
theorem dX3_addRoad_69 : decode cX3_addRoad 69 = .ok (.iadd, 1) := by decide +kernel
theorem dX3_addRoad_70 : decode cX3_addRoad 70 = .ok (.aload_n 0, 1) := by decide +kernel
theorem dX3_addRoad_71 : decode cX3_addRoad 71 = .ok (.getfield 15, 3) := by decide +kernel
theorem dX3_addRoad_74 : decode cX3_addRoad 74 = .ok (.iastore, 1) := by decide +kernel
theorem dX3_addRoad_75 : decode cX3_addRoad 75 = .ok (.aload_n 0, 1) := by decide +kernel
theorem dX3_addRoad_76 : decode cX3_addRoad 76 = .ok (.getfield 44, 3) := by decide +kernel
theorem dX3_addRoad_79 : decode cX3_addRoad 79 = .ok (.iload_n 2, 1) := by decide +kernel
theorem dX3_addRoad_80 : decode cX3_addRoad 80 = .ok (.bipush 7, 2) := by decide +kernel
theorem dX3_addRoad_82 : decode cX3_addRoad 82 = .ok (.imul, 1) := by decide +kernel
theorem dX3_addRoad_83 : decode cX3_addRoad 83 = .ok (.iload_n 1, 1) := by decide +kernel
theorem dX3_addRoad_84 : decode cX3_addRoad 84 = .ok (.iadd, 1) := by decide +kernel
theorem dX3_addRoad_85 : decode cX3_addRoad 85 = .ok (.aload_n 0, 1) := by decide +kernel
theorem dX3_addRoad_86 : decode cX3_addRoad 86 = .ok (.getfield 15, 3) := by decide +kernel
theorem dX3_addRoad_89 : decode cX3_addRoad 89 = .ok (.iastore, 1) := by decide +kernel
theorem dX3_addRoad_90 : decode cX3_addRoad 90 = .ok (.return_, 1) := by decide +kernel
theorem dX3_addPerson_0 : decode cX3_addPerson 0 = .ok (.aload_n 0, 1) := by decide +kernel
theorem dX3_addPerson_1 : decode cX3_addPerson 1 = .ok (.getfield 18, 3) := by decide +kernel
theorem dX3_addPerson_4 : decode cX3_addPerson 4 = .ok (.bipush 6, 2) := by decide +kernel
theorem dX3_addPerson_6 : decode cX3_addPerson 6 = .ok (.if_icmp .ge 33, 3) := by decide +kernel
theorem dX3_addPerson_9 : decode cX3_addPerson 9 = .ok (.aload_n 0, 1) := by decide +kernel
theorem dX3_addPerson_10 : decode cX3_addPerson 10 = .ok (.getfield 47, 3) := by decide +kernel
theorem dX3_addPerson_13 : decode cX3_addPerson 13 = .ok (.aload_n 0, 1) := by decide +kernel
theorem dX3_addPerson_14 : decode cX3_addPerson 14 = .ok (.getfield 18, 3) := by decide +kernel
theorem dX3_addPerson_17 : decode cX3_addPerson 17 = .ok (.lload_n 1, 1) := by decide +kernel
theorem dX3_addPerson_18 : decode cX3_addPerson 18 = .ok (.lastore, 1) := by decide +kernel
theorem dX3_addPerson_19 : decode cX3_addPerson 19 = .ok (.aload_n 0, 1) := by decide +kernel
theorem dX3_addPerson_20 : decode cX3_addPerson 20 = .ok (.getfield 50, 3) := by decide +kernel
theorem dX3_addPerson_23 : decode cX3_addPerson 23 = .ok (.aload_n 0, 1) := by decide +kernel
theorem dX3_addPerson_24 : decode cX3_addPerson 24 = .ok (.getfield 18, 3) := by decide +kernel
theorem dX3_addPerson_27 : decode cX3_addPerson 27 = .ok (.iload_n 3, 1) := by decide +kernel
theorem dX3_addPerson_28 : decode cX3_addPerson 28 = .ok (.iastore, 1) := by decide +kernel
theorem dX3_addPerson_29 : decode cX3_addPerson 29 = .ok (.aload_n 0, 1) := by decide +kernel
theorem dX3_addPerson_30 : decode cX3_addPerson 30 = .ok (.dup, 1) := by decide +kernel
theorem dX3_addPerson_31 : decode cX3_addPerson 31 = .ok (.getfield 18, 3) := by decide +kernel
theorem dX3_addPerson_34 : decode cX3_addPerson 34 = .ok (.iconst 1, 1) := by decide +kernel
theorem dX3_addPerson_35 : decode cX3_addPerson 35 = .ok (.iadd, 1) := by decide +kernel
theorem dX3_addPerson_36 : decode cX3_addPerson 36 = .ok (.putfield 18, 3) := by decide +kernel
theorem dX3_addPerson_39 : decode cX3_addPerson 39 = .ok (.return_, 1) := by decide +kernel
theorem dX3_landNamed_0 : decode cX3_landNamed 0 = .ok (.iconst 0, 1) := by decide +kernel
theorem dX3_landNamed_1 : decode cX3_landNamed 1 = .ok (.istore_n 3, 1) := by decide +kernel
theorem dX3_landNamed_2 : decode cX3_landNamed 2 = .ok (.iload_n 3, 1) := by decide +kernel
theorem dX3_landNamed_3 : decode cX3_landNamed 3 = .ok (.aload_n 0, 1) := by decide +kernel
theorem dX3_landNamed_4 : decode cX3_landNamed 4 = .ok (.getfield 9, 3) := by decide +kernel
theorem dX3_landNamed_7 : decode cX3_landNamed 7 = .ok (.if_icmp .ge 22, 3) := by decide +kernel
theorem dX3_landNamed_10 : decode cX3_landNamed 10 = .ok (.aload_n 0, 1) := by decide +kernel
theorem dX3_landNamed_11 : decode cX3_landNamed 11 = .ok (.getfield 21, 3) := by decide +kernel
theorem dX3_landNamed_14 : decode cX3_landNamed 14 = .ok (.iload_n 3, 1) := by decide +kernel
theorem dX3_landNamed_15 : decode cX3_landNamed 15 = .ok (.laload, 1) := by decide +kernel
theorem dX3_landNamed_16 : decode cX3_landNamed 16 = .ok (.lload_n 1, 1) := by decide +kernel
theorem dX3_landNamed_17 : decode cX3_landNamed 17 = .ok (.lcmp, 1) := by decide +kernel
theorem dX3_landNamed_18 : decode cX3_landNamed 18 = .ok (.ifCond .ne 5, 3) := by decide +kernel
theorem dX3_landNamed_21 : decode cX3_landNamed 21 = .ok (.iload_n 3, 1) := by decide +kernel
theorem dX3_landNamed_22 : decode cX3_landNamed 22 = .ok (.ireturn, 1) := by decide +kernel
theorem dX3_landNamed_23 : decode cX3_landNamed 23 = .ok (.iinc 3 1, 3) := by decide +kernel
theorem dX3_landNamed_26 : decode cX3_landNamed 26 = .ok (.goto (-24), 3) := by decide +kernel
theorem dX3_landNamed_29 : decode cX3_landNamed 29 = .ok (.iconst (-1), 1) := by decide +kernel
theorem dX3_landNamed_30 : decode cX3_landNamed 30 = .ok (.ireturn, 1) := by decide +kernel
theorem dX3_personNamed_0 : decode cX3_personNamed 0 = .ok (.iconst 0, 1) := by decide +kernel
theorem dX3_personNamed_1 : decode cX3_personNamed 1 = .ok (.istore_n 3, 1) := by decide +kernel
theorem dX3_personNamed_2 : decode cX3_personNamed 2 = .ok (.iload_n 3, 1) := by decide +kernel
theorem dX3_personNamed_3 : decode cX3_personNamed 3 = .ok (.aload_n 0, 1) := by decide +kernel
theorem dX3_personNamed_4 : decode cX3_personNamed 4 = .ok (.getfield 18, 3) := by decide +kernel
theorem dX3_personNamed_7 : decode cX3_personNamed 7 = .ok (.if_icmp .ge 22, 3) := by decide +kernel
theorem dX3_personNamed_10 : decode cX3_personNamed 10 = .ok (.aload_n 0, 1) := by decide +kernel
theorem dX3_personNamed_11 : decode cX3_personNamed 11 = .ok (.getfield 47, 3) := by decide +kernel
theorem dX3_personNamed_14 : decode cX3_personNamed 14 = .ok (.iload_n 3, 1) := by decide +kernel
theorem dX3_personNamed_15 : decode cX3_personNamed 15 = .ok (.laload, 1) := by decide +kernel
theorem dX3_personNamed_16 : decode cX3_personNamed 16 = .ok (.lload_n 1, 1) := by decide +kernel
theorem dX3_personNamed_17 : decode cX3_personNamed 17 = .ok (.lcmp, 1) := by decide +kernel
theorem dX3_personNamed_18 : decode cX3_personNamed 18 = .ok (.ifCond .ne 5, 3) := by decide +kernel
theorem dX3_personNamed_21 : decode cX3_personNamed 21 = .ok (.iload_n 3, 1) := by decide +kernel
theorem dX3_personNamed_22 : decode cX3_personNamed 22 = .ok (.ireturn, 1) := by decide +kernel
theorem dX3_personNamed_23 : decode cX3_personNamed 23 = .ok (.iinc 3 1, 3) := by decide +kernel
theorem dX3_personNamed_26 : decode cX3_personNamed 26 = .ok (.goto (-24), 3) := by decide +kernel
theorem dX3_personNamed_29 : decode cX3_personNamed 29 = .ok (.iconst (-1), 1) := by decide +kernel
theorem dX3_personNamed_30 : decode cX3_personNamed 30 = .ok (.ireturn, 1) := by decide +kernel
theorem dX3_roadBetween_0 : decode cX3_roadBetween 0 = .ok (.aload_n 0, 1) := by decide +kernel
theorem dX3_roadBetween_1 : decode cX3_roadBetween 1 = .ok (.getfield 44, 3) := by decide +kernel
theorem dX3_roadBetween_4 : decode cX3_roadBetween 4 = .ok (.iload_n 1, 1) := by decide +kernel
theorem dX3_roadBetween_5 : decode cX3_roadBetween 5 = .ok (.bipush 7, 2) := by decide +kernel
theorem dX3_roadBetween_7 : decode cX3_roadBetween 7 = .ok (.imul, 1) := by decide +kernel
theorem dX3_roadBetween_8 : decode cX3_roadBetween 8 = .ok (.iload_n 2, 1) := by decide +kernel
theorem dX3_roadBetween_9 : decode cX3_roadBetween 9 = .ok (.iadd, 1) := by decide +kernel
theorem dX3_roadBetween_10 : decode cX3_roadBetween 10 = .ok (.iaload, 1) := by decide +kernel
theorem dX3_roadBetween_11 : decode cX3_roadBetween 11 = .ok (.iconst 1, 1) := by decide +kernel
theorem dX3_roadBetween_12 : decode cX3_roadBetween 12 = .ok (.isub, 1) := by decide +kernel
theorem dX3_roadBetween_13 : decode cX3_roadBetween 13 = .ok (.ireturn, 1) := by decide +kernel
theorem dX3_toll_0 : decode cX3_toll 0 = .ok (.iload_n 1, 1) := by decide +kernel
theorem dX3_toll_1 : decode cX3_toll 1 = .ok (.iload_n 2, 1) := by decide +kernel
theorem dX3_toll_2 : decode cX3_toll 2 = .ok (.if_icmp .eq 11, 3) := by decide +kernel
theorem dX3_toll_5 : decode cX3_toll 5 = .ok (.iload_n 3, 1) := by decide +kernel
theorem dX3_toll_6 : decode cX3_toll 6 = .ok (.iload_n 1, 1) := by decide +kernel
theorem dX3_toll_7 : decode cX3_toll 7 = .ok (.invokestatic 53, 3) := by decide +kernel
theorem dX3_toll_10 : decode cX3_toll 10 = .ok (.ifCond .eq 7, 3) := by decide +kernel
theorem dX3_toll_13 : decode cX3_toll 13 = .ok (.iconst 0, 1) := by decide +kernel
theorem dX3_toll_14 : decode cX3_toll 14 = .ok (.goto 9, 3) := by decide +kernel
theorem dX3_toll_17 : decode cX3_toll 17 = .ok (.aload_n 0, 1) := by decide +kernel
theorem dX3_toll_18 : decode cX3_toll 18 = .ok (.getfield 25, 3) := by decide +kernel
theorem dX3_toll_21 : decode cX3_toll 21 = .ok (.iload_n 1, 1) := by decide +kernel
theorem dX3_toll_22 : decode cX3_toll 22 = .ok (.iaload, 1) := by decide +kernel
theorem dX3_toll_23 : decode cX3_toll 23 = .ok (.ireturn, 1) := by decide +kernel
theorem dX3_gift_0 : decode cX3_gift 0 = .ok (.iload_n 1, 1) := by decide +kernel
theorem dX3_gift_1 : decode cX3_gift 1 = .ok (.iload_n 2, 1) := by decide +kernel
theorem dX3_gift_2 : decode cX3_gift 2 = .ok (.if_icmp .ne 25, 3) := by decide +kernel
theorem dX3_gift_5 : decode cX3_gift 5 = .ok (.aload_n 0, 1) := by decide +kernel
theorem dX3_gift_6 : decode cX3_gift 6 = .ok (.getfield 29, 3) := by decide +kernel
theorem dX3_gift_9 : decode cX3_gift 9 = .ok (.iload_n 1, 1) := by decide +kernel
theorem dX3_gift_10 : decode cX3_gift 10 = .ok (.iaload, 1) := by decide +kernel
theorem dX3_gift_11 : decode cX3_gift 11 = .ok (.iload_n 3, 1) := by decide +kernel
theorem dX3_gift_12 : decode cX3_gift 12 = .ok (.invokestatic 57, 3) := by decide +kernel
theorem dX3_gift_15 : decode cX3_gift 15 = .ok (.sipush 240, 3) := by decide +kernel
theorem dX3_gift_18 : decode cX3_gift 18 = .ok (.iload 4, 2) := by decide +kernel
theorem dX3_gift_20 : decode cX3_gift 20 = .ok (.isub, 1) := by decide +kernel
theorem dX3_gift_21 : decode cX3_gift 21 = .ok (.invokestatic 57, 3) := by decide +kernel
theorem dX3_gift_24 : decode cX3_gift 24 = .ok (.goto 4, 3) := by decide +kernel
theorem dX3_gift_27 : decode cX3_gift 27 = .ok (.iconst 0, 1) := by decide +kernel
theorem dX3_gift_28 : decode cX3_gift 28 = .ok (.ireturn, 1) := by decide +kernel
theorem dX3_whyNotOver_0 : decode cX3_whyNotOver 0 = .ok (.aload_n 0, 1) := by decide +kernel
theorem dX3_whyNotOver_1 : decode cX3_whyNotOver 1 = .ok (.iload_n 1, 1) := by decide +kernel
theorem dX3_whyNotOver_2 : decode cX3_whyNotOver 2 = .ok (.iload_n 2, 1) := by decide +kernel
theorem dX3_whyNotOver_3 : decode cX3_whyNotOver 3 = .ok (.invokevirtual 63, 3) := by decide +kernel
theorem dX3_whyNotOver_6 : decode cX3_whyNotOver 6 = .ok (.istore 6, 2) := by decide +kernel
theorem dX3_whyNotOver_8 : decode cX3_whyNotOver 8 = .ok (.iload 6, 2) := by decide +kernel
theorem dX3_whyNotOver_10 : decode cX3_whyNotOver 10 = .ok (.ifCond .ge 5, 3) := by decide +kernel
theorem dX3_whyNotOver_13 : decode cX3_whyNotOver 13 = .ok (.iconst 1, 1) := by decide +kernel
theorem dX3_whyNotOver_14 : decode cX3_whyNotOver 14 = .ok (.ireturn, 1) := by decide +kernel
theorem dX3_whyNotOver_15 : decode cX3_whyNotOver 15 = .ok (.iload 5, 2) := by decide +kernel
theorem dX3_whyNotOver_17 : decode cX3_whyNotOver 17 = .ok (.iload 6, 2) := by decide +kernel
theorem dX3_whyNotOver_19 : decode cX3_whyNotOver 19 = .ok (.invokestatic 53, 3) := by decide +kernel
theorem dX3_whyNotOver_22 : decode cX3_whyNotOver 22 = .ok (.ifCond .eq 5, 3) := by decide +kernel
theorem dX3_whyNotOver_25 : decode cX3_whyNotOver 25 = .ok (.iconst 2, 1) := by decide +kernel
theorem dX3_whyNotOver_26 : decode cX3_whyNotOver 26 = .ok (.ireturn, 1) := by decide +kernel
theorem dX3_whyNotOver_27 : decode cX3_whyNotOver 27 = .ok (.iload_n 3, 1) := by decide +kernel
theorem dX3_whyNotOver_28 : decode cX3_whyNotOver 28 = .ok (.aload_n 0, 1) := by decide +kernel
theorem dX3_whyNotOver_29 : decode cX3_whyNotOver 29 = .ok (.getfield 38, 3) := by decide +kernel
theorem dX3_whyNotOver_32 : decode cX3_whyNotOver 32 = .ok (.iload 6, 2) := by decide +kernel
theorem dX3_whyNotOver_34 : decode cX3_whyNotOver 34 = .ok (.iaload, 1) := by decide +kernel
theorem dX3_whyNotOver_35 : decode cX3_whyNotOver 35 = .ok (.if_icmp .ge 5, 3) := by decide +kernel
theorem dX3_whyNotOver_38 : decode cX3_whyNotOver 38 = .ok (.iconst 3, 1) := by decide +kernel
theorem dX3_whyNotOver_39 : decode cX3_whyNotOver 39 = .ok (.ireturn, 1) := by decide +kernel
theorem dX3_whyNotOver_40 : decode cX3_whyNotOver 40 = .ok (.iload_n 3, 1) := by decide +kernel
theorem dX3_whyNotOver_41 : decode cX3_whyNotOver 41 = .ok (.aload_n 0, 1) := by decide +kernel
theorem dX3_whyNotOver_42 : decode cX3_whyNotOver 42 = .ok (.getfield 41, 3) := by decide +kernel
theorem dX3_whyNotOver_45 : decode cX3_whyNotOver 45 = .ok (.iload 6, 2) := by decide +kernel
theorem dX3_whyNotOver_47 : decode cX3_whyNotOver 47 = .ok (.iaload, 1) := by decide +kernel
theorem dX3_whyNotOver_48 : decode cX3_whyNotOver 48 = .ok (.if_icmp .le 5, 3) := by decide +kernel
theorem dX3_whyNotOver_51 : decode cX3_whyNotOver 51 = .ok (.iconst 4, 1) := by decide +kernel
theorem dX3_whyNotOver_52 : decode cX3_whyNotOver 52 = .ok (.ireturn, 1) := by decide +kernel
theorem dX3_whyNotOver_53 : decode cX3_whyNotOver 53 = .ok (.iload 4, 2) := by decide +kernel
theorem dX3_whyNotOver_55 : decode cX3_whyNotOver 55 = .ok (.iload_n 3, 1) := by decide +kernel
theorem dX3_whyNotOver_56 : decode cX3_whyNotOver 56 = .ok (.if_icmp .lt 7, 3) := by decide +kernel
theorem dX3_whyNotOver_59 : decode cX3_whyNotOver 59 = .ok (.iconst 5, 1) := by decide +kernel
theorem dX3_whyNotOver_60 : decode cX3_whyNotOver 60 = .ok (.goto 4, 3) := by decide +kernel
theorem dX3_whyNotOver_63 : decode cX3_whyNotOver 63 = .ok (.iconst 0, 1) := by decide +kernel
theorem dX3_whyNotOver_64 : decode cX3_whyNotOver 64 = .ok (.ireturn, 1) := by decide +kernel
theorem dX3_areParted_0 : decode cX3_areParted 0 = .ok (.iconst 1, 1) := by decide +kernel
theorem dX3_areParted_1 : decode cX3_areParted 1 = .ok (.iload_n 1, 1) := by decide +kernel
theorem dX3_areParted_2 : decode cX3_areParted 2 = .ok (.ishl, 1) := by decide +kernel
theorem dX3_areParted_3 : decode cX3_areParted 3 = .ok (.istore 4, 2) := by decide +kernel
theorem dX3_areParted_5 : decode cX3_areParted 5 = .ok (.iconst 1, 1) := by decide +kernel
theorem dX3_areParted_6 : decode cX3_areParted 6 = .ok (.istore 5, 2) := by decide +kernel
theorem dX3_areParted_8 : decode cX3_areParted 8 = .ok (.iload 5, 2) := by decide +kernel
theorem dX3_areParted_10 : decode cX3_areParted 10 = .ok (.aload_n 0, 1) := by decide +kernel
theorem dX3_areParted_11 : decode cX3_areParted 11 = .ok (.getfield 9, 3) := by decide +kernel
theorem dX3_areParted_14 : decode cX3_areParted 14 = .ok (.if_icmp .ge 72, 3) := by decide +kernel
theorem dX3_areParted_17 : decode cX3_areParted 17 = .ok (.iconst 0, 1) := by decide +kernel
theorem dX3_areParted_18 : decode cX3_areParted 18 = .ok (.istore 6, 2) := by decide +kernel
theorem dX3_areParted_20 : decode cX3_areParted 20 = .ok (.iload 6, 2) := by decide +kernel
theorem dX3_areParted_22 : decode cX3_areParted 22 = .ok (.aload_n 0, 1) := by decide +kernel
theorem dX3_areParted_23 : decode cX3_areParted 23 = .ok (.getfield 15, 3) := by decide +kernel
theorem dX3_areParted_26 : decode cX3_areParted 26 = .ok (.if_icmp .ge 54, 3) := by decide +kernel
theorem dX3_areParted_29 : decode cX3_areParted 29 = .ok (.iconst 1, 1) := by decide +kernel
theorem dX3_areParted_30 : decode cX3_areParted 30 = .ok (.aload_n 0, 1) := by decide +kernel
theorem dX3_areParted_31 : decode cX3_areParted 31 = .ok (.getfield 32, 3) := by decide +kernel
theorem dX3_areParted_34 : decode cX3_areParted 34 = .ok (.iload 6, 2) := by decide +kernel
theorem dX3_areParted_36 : decode cX3_areParted 36 = .ok (.iaload, 1) := by decide +kernel
theorem dX3_areParted_37 : decode cX3_areParted 37 = .ok (.ishl, 1) := by decide +kernel
theorem dX3_areParted_38 : decode cX3_areParted 38 = .ok (.iconst 1, 1) := by decide +kernel
theorem dX3_areParted_39 : decode cX3_areParted 39 = .ok (.aload_n 0, 1) := by decide +kernel
theorem dX3_areParted_40 : decode cX3_areParted 40 = .ok (.getfield 35, 3) := by decide +kernel
theorem dX3_areParted_43 : decode cX3_areParted 43 = .ok (.iload 6, 2) := by decide +kernel
theorem dX3_areParted_45 : decode cX3_areParted 45 = .ok (.iaload, 1) := by decide +kernel
theorem dX3_areParted_46 : decode cX3_areParted 46 = .ok (.ishl, 1) := by decide +kernel
theorem dX3_areParted_47 : decode cX3_areParted 47 = .ok (.ior, 1) := by decide +kernel
theorem dX3_areParted_48 : decode cX3_areParted 48 = .ok (.istore 7, 2) := by decide +kernel
theorem dX3_areParted_50 : decode cX3_areParted 50 = .ok (.iload_n 3, 1) := by decide +kernel
theorem dX3_areParted_51 : decode cX3_areParted 51 = .ok (.iload 6, 2) := by decide +kernel
theorem dX3_areParted_53 : decode cX3_areParted 53 = .ok (.invokestatic 53, 3) := by decide +kernel
theorem dX3_areParted_56 : decode cX3_areParted 56 = .ok (.ifCond .ne 18, 3) := by decide +kernel
theorem dX3_areParted_59 : decode cX3_areParted 59 = .ok (.iload 4, 2) := by decide +kernel
theorem dX3_areParted_61 : decode cX3_areParted 61 = .ok (.iload 7, 2) := by decide +kernel
theorem dX3_areParted_63 : decode cX3_areParted 63 = .ok (.iand, 1) := by decide +kernel
theorem dX3_areParted_64 : decode cX3_areParted 64 = .ok (.ifCond .eq 10, 3) := by decide +kernel
theorem dX3_areParted_67 : decode cX3_areParted 67 = .ok (.iload 4, 2) := by decide +kernel
theorem dX3_areParted_69 : decode cX3_areParted 69 = .ok (.iload 7, 2) := by decide +kernel
theorem dX3_areParted_71 : decode cX3_areParted 71 = .ok (.ior, 1) := by decide +kernel
theorem dX3_areParted_72 : decode cX3_areParted 72 = .ok (.istore 4, 2) := by decide +kernel
theorem dX3_areParted_74 : decode cX3_areParted 74 = .ok (.iinc 6 1, 3) := by decide +kernel
theorem dX3_areParted_77 : decode cX3_areParted 77 = .ok (.goto (-57), 3) := by decide +kernel
theorem dX3_areParted_80 : decode cX3_areParted 80 = .ok (.iinc 5 1, 3) := by decide +kernel
theorem dX3_areParted_83 : decode cX3_areParted 83 = .ok (.goto (-75), 3) := by decide +kernel
theorem dX3_areParted_86 : decode cX3_areParted 86 = .ok (.iload 4, 2) := by decide +kernel
theorem dX3_areParted_88 : decode cX3_areParted 88 = .ok (.iload_n 2, 1) := by decide +kernel
theorem dX3_areParted_89 : decode cX3_areParted 89 = .ok (.invokestatic 53, 3) := by decide +kernel
theorem dX3_areParted_92 : decode cX3_areParted 92 = .ok (.ifCond .ne 7, 3) := by decide +kernel
theorem dX3_areParted_95 : decode cX3_areParted 95 = .ok (.iconst 1, 1) := by decide +kernel
theorem dX3_areParted_96 : decode cX3_areParted 96 = .ok (.goto 4, 3) := by decide +kernel
theorem dX3_areParted_99 : decode cX3_areParted 99 = .ok (.iconst 0, 1) := by decide +kernel
theorem dX3_areParted_100 : decode cX3_areParted 100 = .ok (.ireturn, 1) := by decide +kernel
theorem dX4_init_0 : decode cX4_init 0 = .ok (.aload_n 0, 1) := by decide +kernel
theorem dX4_init_1 : decode cX4_init 1 = .ok (.invokespecial 3, 3) := by decide +kernel
theorem dX4_init_4 : decode cX4_init 4 = .ok (.aload_n 0, 1) := by decide +kernel
theorem dX4_init_5 : decode cX4_init 5 = .ok (.iconst 0, 1) := by decide +kernel
theorem dX4_init_6 : decode cX4_init 6 = .ok (.putfield 9, 3) := by decide +kernel
theorem dX4_init_9 : decode cX4_init 9 = .ok (.aload_n 0, 1) := by decide +kernel
theorem dX4_init_10 : decode cX4_init 10 = .ok (.aload_n 1, 1) := by decide +kernel
theorem dX4_init_11 : decode cX4_init 11 = .ok (.putfield 15, 3) := by decide +kernel
theorem dX4_init_14 : decode cX4_init 14 = .ok (.aload_n 0, 1) := by decide +kernel
theorem dX4_init_15 : decode cX4_init 15 = .ok (.aload_n 2, 1) := by decide +kernel
theorem dX4_init_16 : decode cX4_init 16 = .ok (.putfield 19, 3) := by decide +kernel
theorem dX4_init_19 : decode cX4_init 19 = .ok (.return_, 1) := by decide +kernel
theorem dX4_read_0 : decode cX4_read 0 = .ok (.aload_n 0, 1) := by decide +kernel
theorem dX4_read_1 : decode cX4_read 1 = .ok (.iconst 0, 1) := by decide +kernel
theorem dX4_read_2 : decode cX4_read 2 = .ok (.putfield 9, 3) := by decide +kernel
theorem dX4_read_5 : decode cX4_read 5 = .ok (.aload_n 0, 1) := by decide +kernel
theorem dX4_read_6 : decode cX4_read 6 = .ok (.getfield 15, 3) := by decide +kernel
theorem dX4_read_9 : decode cX4_read 9 = .ok (.sipush 900, 3) := by decide +kernel
theorem dX4_read_12 : decode cX4_read 12 = .ok (.invokevirtual 23, 3) := by decide +kernel
theorem dX4_read_15 : decode cX4_read 15 = .ok (.iconst 0, 1) := by decide +kernel
theorem dX4_read_16 : decode cX4_read 16 = .ok (.istore_n 1, 1) := by decide +kernel
theorem dX4_read_17 : decode cX4_read 17 = .ok (.iload_n 1, 1) := by decide +kernel
theorem dX4_read_18 : decode cX4_read 18 = .ok (.sipush 940, 3) := by decide +kernel
theorem dX4_read_21 : decode cX4_read 21 = .ok (.if_icmp .ge 40, 3) := by decide +kernel
theorem dX4_read_24 : decode cX4_read 24 = .ok (.aload_n 0, 1) := by decide +kernel
theorem dX4_read_25 : decode cX4_read 25 = .ok (.getfield 15, 3) := by decide +kernel
theorem dX4_read_28 : decode cX4_read 28 = .ok (.invokevirtual 29, 3) := by decide +kernel
theorem dX4_read_31 : decode cX4_read 31 = .ok (.ifCond .ne 30, 3) := by decide +kernel
theorem dX4_read_34 : decode cX4_read 34 = .ok (.aload_n 0, 1) := by decide +kernel
theorem dX4_read_35 : decode cX4_read 35 = .ok (.invokevirtual 33, 3) := by decide +kernel
theorem dX4_read_38 : decode cX4_read 38 = .ok (.ifCond .eq 15, 3) := by decide +kernel
theorem dX4_read_41 : decode cX4_read 41 = .ok (.aload_n 0, 1) := by decide +kernel
theorem dX4_read_42 : decode cX4_read 42 = .ok (.getfield 15, 3) := by decide +kernel
theorem dX4_read_45 : decode cX4_read 45 = .ok (.bipush 59, 2) := by decide +kernel
theorem dX4_read_47 : decode cX4_read 47 = .ok (.invokevirtual 36, 3) := by decide +kernel
theorem dX4_read_50 : decode cX4_read 50 = .ok (.ifCond .ne 5, 3) := by decide +kernel
theorem dX4_read_53 : decode cX4_read 53 = .ok (.iload_n 1, 1) := by decide +kernel
theorem dX4_read_54 : decode cX4_read 54 = .ok (.ireturn, 1) := by decide +kernel
theorem dX4_read_55 : decode cX4_read 55 = .ok (.iinc 1 1, 3) := by decide +kernel
theorem dX4_read_58 : decode cX4_read 58 = .ok (.goto (-41), 3) := by decide +kernel
theorem dX4_read_61 : decode cX4_read 61 = .ok (.iload_n 1, 1) := by decide +kernel
theorem dX4_read_62 : decode cX4_read 62 = .ok (.ireturn, 1) := by decide +kernel
theorem dX4_readLine_0 : decode cX4_readLine 0 = .ok (.aload_n 0, 1) := by decide +kernel
theorem dX4_readLine_1 : decode cX4_readLine 1 = .ok (.getfield 15, 3) := by decide +kernel
theorem dX4_readLine_4 : decode cX4_readLine 4 = .ok (.getfield 40, 3) := by decide +kernel
theorem dX4_readLine_7 : decode cX4_readLine 7 = .ok (.ifnonnull 12, 3) := by decide +kernel
theorem dX4_readLine_10 : decode cX4_readLine 10 = .ok (.aload_n 0, 1) := by decide +kernel
theorem dX4_readLine_11 : decode cX4_readLine 11 = .ok (.getfield 15, 3) := by decide +kernel
theorem dX4_readLine_14 : decode cX4_readLine 14 = .ok (.iconst 1, 1) := by decide +kernel
theorem dX4_readLine_15 : decode cX4_readLine 15 = .ok (.invokevirtual 44, 3) := by decide +kernel
theorem dX4_readLine_18 : decode cX4_readLine 18 = .ok (.ireturn, 1) := by decide +kernel
theorem dX4_readLine_19 : decode cX4_readLine 19 = .ok (.getstatic 47, 3) := by decide +kernel
theorem dX4_readLine_22 : decode cX4_readLine 22 = .ok (.aload_n 0, 1) := by decide +kernel
theorem dX4_readLine_23 : decode cX4_readLine 23 = .ok (.getfield 15, 3) := by decide +kernel
theorem dX4_readLine_26 : decode cX4_readLine 26 = .ok (.getfield 40, 3) := by decide +kernel
theorem dX4_readLine_29 : decode cX4_readLine 29 = .ok (.invokevirtual 53, 3) := by decide +kernel
theorem dX4_readLine_32 : decode cX4_readLine 32 = .ok (.iaload, 1) := by decide +kernel
theorem dX4_readLine_33 : decode cX4_readLine 33 = .ok (.tableswitch 60 1 5 #[35, 40, 45, 50, 55], 35) := by decide +kernel
theorem dX4_readLine_68 : decode cX4_readLine 68 = .ok (.aload_n 0, 1) := by decide +kernel
theorem dX4_readLine_69 : decode cX4_readLine 69 = .ok (.invokevirtual 59, 3) := by decide +kernel
theorem dX4_readLine_72 : decode cX4_readLine 72 = .ok (.ireturn, 1) := by decide +kernel
theorem dX4_readLine_73 : decode cX4_readLine 73 = .ok (.aload_n 0, 1) := by decide +kernel
theorem dX4_readLine_74 : decode cX4_readLine 74 = .ok (.invokevirtual 62, 3) := by decide +kernel
theorem dX4_readLine_77 : decode cX4_readLine 77 = .ok (.ireturn, 1) := by decide +kernel
theorem dX4_readLine_78 : decode cX4_readLine 78 = .ok (.aload_n 0, 1) := by decide +kernel
theorem dX4_readLine_79 : decode cX4_readLine 79 = .ok (.invokevirtual 65, 3) := by decide +kernel
theorem dX4_readLine_82 : decode cX4_readLine 82 = .ok (.ireturn, 1) := by decide +kernel
theorem dX4_readLine_83 : decode cX4_readLine 83 = .ok (.aload_n 0, 1) := by decide +kernel
theorem dX4_readLine_84 : decode cX4_readLine 84 = .ok (.invokevirtual 68, 3) := by decide +kernel
theorem dX4_readLine_87 : decode cX4_readLine 87 = .ok (.ireturn, 1) := by decide +kernel
theorem dX4_readLine_88 : decode cX4_readLine 88 = .ok (.aload_n 0, 1) := by decide +kernel
theorem dX4_readLine_89 : decode cX4_readLine 89 = .ok (.invokevirtual 71, 3) := by decide +kernel
theorem dX4_readLine_92 : decode cX4_readLine 92 = .ok (.ireturn, 1) := by decide +kernel
theorem dX4_readLine_93 : decode cX4_readLine 93 = .ok (.aload_n 0, 1) := by decide +kernel
theorem dX4_readLine_94 : decode cX4_readLine 94 = .ok (.getfield 15, 3) := by decide +kernel
theorem dX4_readLine_97 : decode cX4_readLine 97 = .ok (.iconst 1, 1) := by decide +kernel
theorem dX4_readLine_98 : decode cX4_readLine 98 = .ok (.invokevirtual 44, 3) := by decide +kernel
theorem dX4_readLine_101 : decode cX4_readLine 101 = .ok (.ireturn, 1) := by decide +kernel
theorem dX4_isNewName_0 : decode cX4_isNewName 0 = .ok (.aload_n 0, 1) := by decide +kernel
theorem dX4_isNewName_1 : decode cX4_isNewName 1 = .ok (.getfield 15, 3) := by decide +kernel
theorem dX4_isNewName_4 : decode cX4_isNewName 4 = .ok (.invokevirtual 74, 3) := by decide +kernel
theorem dX4_isNewName_7 : decode cX4_isNewName 7 = .ok (.ifCond .ne 12, 3) := by decide +kernel
theorem dX4_isNewName_10 : decode cX4_isNewName 10 = .ok (.aload_n 0, 1) := by decide +kernel
theorem dX4_isNewName_11 : decode cX4_isNewName 11 = .ok (.getfield 15, 3) := by decide +kernel
theorem dX4_isNewName_14 : decode cX4_isNewName 14 = .ok (.iconst 1, 1) := by decide +kernel
theorem dX4_isNewName_15 : decode cX4_isNewName 15 = .ok (.invokevirtual 44, 3) := by decide +kernel
theorem dX4_isNewName_18 : decode cX4_isNewName 18 = .ok (.ireturn, 1) := by decide +kernel
theorem dX4_isNewName_19 : decode cX4_isNewName 19 = .ok (.aload_n 0, 1) := by decide +kernel
theorem dX4_isNewName_20 : decode cX4_isNewName 20 = .ok (.getfield 19, 3) := by decide +kernel
theorem dX4_isNewName_23 : decode cX4_isNewName 23 = .ok (.getfield 77, 3) := by decide +kernel
theorem dX4_isNewName_26 : decode cX4_isNewName 26 = .ok (.aload_n 0, 1) := by decide +kernel
theorem dX4_isNewName_27 : decode cX4_isNewName 27 = .ok (.getfield 15, 3) := by decide +kernel
theorem dX4_isNewName_30 : decode cX4_isNewName 30 = .ok (.getfield 83, 3) := by decide +kernel
theorem dX4_isNewName_33 : decode cX4_isNewName 33 = .ok (.invokevirtual 87, 3) := by decide +kernel
theorem dX4_isNewName_36 : decode cX4_isNewName 36 = .ok (.iconst (-1), 1) := by decide +kernel
theorem dX4_isNewName_37 : decode cX4_isNewName 37 = .ok (.if_icmp .ne 24, 3) := by decide +kernel
theorem dX4_isNewName_40 : decode cX4_isNewName 40 = .ok (.aload_n 0, 1) := by decide +kernel
theorem dX4_isNewName_41 : decode cX4_isNewName 41 = .ok (.getfield 19, 3) := by decide +kernel
theorem dX4_isNewName_44 : decode cX4_isNewName 44 = .ok (.getfield 77, 3) := by decide +kernel
theorem dX4_isNewName_47 : decode cX4_isNewName 47 = .ok (.aload_n 0, 1) := by decide +kernel
theorem dX4_isNewName_48 : decode cX4_isNewName 48 = .ok (.getfield 15, 3) := by decide +kernel
theorem dX4_isNewName_51 : decode cX4_isNewName 51 = .ok (.getfield 83, 3) := by decide +kernel
theorem dX4_isNewName_54 : decode cX4_isNewName 54 = .ok (.invokevirtual 93, 3) := by decide +kernel
theorem dX4_isNewName_57 : decode cX4_isNewName 57 = .ok (.iconst (-1), 1) := by decide +kernel
theorem dX4_isNewName_58 : decode cX4_isNewName 58 = .ok (.if_icmp .eq 7, 3) := by decide +kernel
theorem dX4_isNewName_61 : decode cX4_isNewName 61 = .ok (.iconst 1, 1) := by decide +kernel
theorem dX4_isNewName_62 : decode cX4_isNewName 62 = .ok (.goto 4, 3) := by decide +kernel
theorem dX4_isNewName_65 : decode cX4_isNewName 65 = .ok (.iconst 0, 1) := by decide +kernel
theorem dX4_isNewName_66 : decode cX4_isNewName 66 = .ok (.istore_n 1, 1) := by decide +kernel
theorem dX4_isNewName_67 : decode cX4_isNewName 67 = .ok (.iload_n 1, 1) := by decide +kernel
theorem dX4_isNewName_68 : decode cX4_isNewName 68 = .ok (.ifCond .eq 14, 3) := by decide +kernel
theorem dX4_isNewName_71 : decode cX4_isNewName 71 = .ok (.aload_n 0, 1) := by decide +kernel
theorem dX4_isNewName_72 : decode cX4_isNewName 72 = .ok (.getfield 15, 3) := by decide +kernel
theorem dX4_isNewName_75 : decode cX4_isNewName 75 = .ok (.iconst 3, 1) := by decide +kernel
theorem dX4_isNewName_76 : decode cX4_isNewName 76 = .ok (.invokevirtual 44, 3) := by decide +kernel
theorem dX4_isNewName_79 : decode cX4_isNewName 79 = .ok (.goto 4, 3) := by decide +kernel
theorem dX4_isNewName_82 : decode cX4_isNewName 82 = .ok (.iconst 1, 1) := by decide +kernel
theorem dX4_isNewName_83 : decode cX4_isNewName 83 = .ok (.ireturn, 1) := by decide +kernel
theorem dX4_readLand_0 : decode cX4_readLand 0 = .ok (.aload_n 0, 1) := by decide +kernel
theorem dX4_readLand_1 : decode cX4_readLand 1 = .ok (.getfield 19, 3) := by decide +kernel
theorem dX4_readLand_4 : decode cX4_readLand 4 = .ok (.getfield 77, 3) := by decide +kernel
theorem dX4_readLand_7 : decode cX4_readLand 7 = .ok (.getfield 96, 3) := by decide +kernel
theorem dX4_readLand_10 : decode cX4_readLand 10 = .ok (.bipush 7, 2) := by decide +kernel
theorem dX4_readLand_12 : decode cX4_readLand 12 = .ok (.if_icmp .lt 12, 3) := by decide +kernel
theorem dX4_readLand_15 : decode cX4_readLand 15 = .ok (.aload_n 0, 1) := by decide +kernel
theorem dX4_readLand_16 : decode cX4_readLand 16 = .ok (.getfield 15, 3) := by decide +kernel
theorem dX4_readLand_19 : decode cX4_readLand 19 = .ok (.iconst 4, 1) := by decide +kernel
theorem dX4_readLand_20 : decode cX4_readLand 20 = .ok (.invokevirtual 44, 3) := by decide +kernel
theorem dX4_readLand_23 : decode cX4_readLand 23 = .ok (.ireturn, 1) := by decide +kernel
theorem dX4_readLand_24 : decode cX4_readLand 24 = .ok (.aload_n 0, 1) := by decide +kernel
theorem dX4_readLand_25 : decode cX4_readLand 25 = .ok (.getfield 15, 3) := by decide +kernel
theorem dX4_readLand_28 : decode cX4_readLand 28 = .ok (.invokevirtual 99, 3) := by decide +kernel
theorem dX4_readLand_31 : decode cX4_readLand 31 = .ok (.aload_n 0, 1) := by decide +kernel
theorem dX4_readLand_32 : decode cX4_readLand 32 = .ok (.invokevirtual 102, 3) := by decide +kernel
theorem dX4_readLand_35 : decode cX4_readLand 35 = .ok (.ifCond .ne 5, 3) := by decide +kernel
theorem dX4_readLand_38 : decode cX4_readLand 38 = .ok (.iconst 0, 1) := by decide +kernel
theorem dX4_readLand_39 : decode cX4_readLand 39 = .ok (.ireturn, 1) := by decide +kernel
theorem dX4_readLand_40 : decode cX4_readLand 40 = .ok (.aload_n 0, 1) := by decide +kernel
theorem dX4_readLand_41 : decode cX4_readLand 41 = .ok (.getfield 15, 3) := by decide +kernel
theorem dX4_readLand_44 : decode cX4_readLand 44 = .ok (.getfield 83, 3) := by decide +kernel
theorem dX4_readLand_47 : decode cX4_readLand 47 = .ok (.lstore_n 1, 1) := by decide +kernel
theorem dX4_readLand_48 : decode cX4_readLand 48 = .ok (.aload_n 0, 1) := by decide +kernel
theorem dX4_readLand_49 : decode cX4_readLand 49 = .ok (.getfield 15, 3) := by decide +kernel
theorem dX4_readLand_52 : decode cX4_readLand 52 = .ok (.invokevirtual 99, 3) := by decide +kernel
theorem dX4_readLand_55 : decode cX4_readLand 55 = .ok (.aload_n 0, 1) := by decide +kernel
theorem dX4_readLand_56 : decode cX4_readLand 56 = .ok (.getfield 15, 3) := by decide +kernel
theorem dX4_readLand_59 : decode cX4_readLand 59 = .ok (.iconst 0, 1) := by decide +kernel
theorem dX4_readLand_60 : decode cX4_readLand 60 = .ok (.bipush 20, 2) := by decide +kernel
theorem dX4_readLand_62 : decode cX4_readLand 62 = .ok (.invokevirtual 105, 3) := by decide +kernel
theorem dX4_readLand_65 : decode cX4_readLand 65 = .ok (.istore_n 3, 1) := by decide +kernel
theorem dX4_readLand_66 : decode cX4_readLand 66 = .ok (.iload_n 3, 1) := by decide +kernel
theorem dX4_readLand_67 : decode cX4_readLand 67 = .ok (.iconst (-1), 1) := by decide +kernel
theorem dX4_readLand_68 : decode cX4_readLand 68 = .ok (.if_icmp .ne 5, 3) := by decide +kernel
theorem dX4_readLand_71 : decode cX4_readLand 71 = .ok (.iconst 0, 1) := by decide +kernel
theorem dX4_readLand_72 : decode cX4_readLand 72 = .ok (.ireturn, 1) := by decide +kernel
theorem dX4_readLand_73 : decode cX4_readLand 73 = .ok (.aload_n 0, 1) := by decide +kernel
theorem dX4_readLand_74 : decode cX4_readLand 74 = .ok (.getfield 15, 3) := by decide +kernel
theorem dX4_readLand_77 : decode cX4_readLand 77 = .ok (.iconst 0, 1) := by decide +kernel
theorem dX4_readLand_78 : decode cX4_readLand 78 = .ok (.bipush 20, 2) := by decide +kernel
theorem dX4_readLand_80 : decode cX4_readLand 80 = .ok (.invokevirtual 105, 3) := by decide +kernel
theorem dX4_readLand_83 : decode cX4_readLand 83 = .ok (.istore 4, 2) := by decide +kernel
theorem dX4_readLand_85 : decode cX4_readLand 85 = .ok (.iload 4, 2) := by decide +kernel
theorem dX4_readLand_87 : decode cX4_readLand 87 = .ok (.iconst (-1), 1) := by decide +kernel
theorem dX4_readLand_88 : decode cX4_readLand 88 = .ok (.if_icmp .ne 5, 3) := by decide +kernel
theorem dX4_readLand_91 : decode cX4_readLand 91 = .ok (.iconst 0, 1) := by decide +kernel
theorem dX4_readLand_92 : decode cX4_readLand 92 = .ok (.ireturn, 1) := by decide +kernel
theorem dX4_readLand_93 : decode cX4_readLand 93 = .ok (.aload_n 0, 1) := by decide +kernel
theorem dX4_readLand_94 : decode cX4_readLand 94 = .ok (.getfield 19, 3) := by decide +kernel
theorem dX4_readLand_97 : decode cX4_readLand 97 = .ok (.getfield 77, 3) := by decide +kernel
theorem dX4_readLand_100 : decode cX4_readLand 100 = .ok (.lload_n 1, 1) := by decide +kernel
theorem dX4_readLand_101 : decode cX4_readLand 101 = .ok (.iload_n 3, 1) := by decide +kernel
theorem dX4_readLand_102 : decode cX4_readLand 102 = .ok (.iload 4, 2) := by decide +kernel
theorem dX4_readLand_104 : decode cX4_readLand 104 = .ok (.invokevirtual 109, 3) := by decide +kernel
theorem dX4_readLand_107 : decode cX4_readLand 107 = .ok (.iconst 1, 1) := by decide +kernel
theorem dX4_readLand_108 : decode cX4_readLand 108 = .ok (.ireturn, 1) := by decide +kernel
theorem dX4_readStore_0 : decode cX4_readStore 0 = .ok (.aload_n 0, 1) := by decide +kernel
theorem dX4_readStore_1 : decode cX4_readStore 1 = .ok (.getfield 15, 3) := by decide +kernel
theorem dX4_readStore_4 : decode cX4_readStore 4 = .ok (.invokevirtual 99, 3) := by decide +kernel
theorem dX4_readStore_7 : decode cX4_readStore 7 = .ok (.aload_n 0, 1) := by decide +kernel
theorem dX4_readStore_8 : decode cX4_readStore 8 = .ok (.getfield 15, 3) := by decide +kernel
theorem dX4_readStore_11 : decode cX4_readStore 11 = .ok (.aload_n 0, 1) := by decide +kernel
theorem dX4_readStore_12 : decode cX4_readStore 12 = .ok (.getfield 19, 3) := by decide +kernel
theorem dX4_readStore_15 : decode cX4_readStore 15 = .ok (.getfield 77, 3) := by decide +kernel
theorem dX4_readStore_18 : decode cX4_readStore 18 = .ok (.invokevirtual 113, 3) := by decide +kernel
theorem dX4_readStore_21 : decode cX4_readStore 21 = .ok (.istore_n 1, 1) := by decide +kernel
theorem dX4_readStore_22 : decode cX4_readStore 22 = .ok (.iload_n 1, 1) := by decide +kernel
theorem dX4_readStore_23 : decode cX4_readStore 23 = .ok (.iconst (-1), 1) := by decide +kernel
theorem dX4_readStore_24 : decode cX4_readStore 24 = .ok (.if_icmp .ne 5, 3) := by decide +kernel
theorem dX4_readStore_27 : decode cX4_readStore 27 = .ok (.iconst 0, 1) := by decide +kernel
theorem dX4_readStore_28 : decode cX4_readStore 28 = .ok (.ireturn, 1) := by decide +kernel
theorem dX4_readStore_29 : decode cX4_readStore 29 = .ok (.aload_n 0, 1) := by decide +kernel
theorem dX4_readStore_30 : decode cX4_readStore 30 = .ok (.getfield 9, 3) := by decide +kernel
theorem dX4_readStore_33 : decode cX4_readStore 33 = .ok (.iload_n 1, 1) := by decide +kernel
theorem dX4_readStore_34 : decode cX4_readStore 34 = .ok (.invokestatic 117, 3) := by decide +kernel
theorem dX4_readStore_37 : decode cX4_readStore 37 = .ok (.ifCond .eq 12, 3) := by decide +kernel
theorem dX4_readStore_40 : decode cX4_readStore 40 = .ok (.aload_n 0, 1) := by decide +kernel
theorem dX4_readStore_41 : decode cX4_readStore 41 = .ok (.getfield 15, 3) := by decide +kernel
theorem dX4_readStore_44 : decode cX4_readStore 44 = .ok (.iconst 3, 1) := by decide +kernel
theorem dX4_readStore_45 : decode cX4_readStore 45 = .ok (.invokevirtual 44, 3) := by decide +kernel
theorem dX4_readStore_48 : decode cX4_readStore 48 = .ok (.ireturn, 1) := by decide +kernel
theorem dX4_readStore_49 : decode cX4_readStore 49 = .ok (.aload_n 0, 1) := by decide +kernel
theorem dX4_readStore_50 : decode cX4_readStore 50 = .ok (.getfield 15, 3) := by decide +kernel
theorem dX4_readStore_53 : decode cX4_readStore 53 = .ok (.invokevirtual 99, 3) := by decide +kernel
theorem dX4_readStore_56 : decode cX4_readStore 56 = .ok (.aload_n 0, 1) := by decide +kernel
theorem dX4_readStore_57 : decode cX4_readStore 57 = .ok (.getfield 15, 3) := by decide +kernel
theorem dX4_readStore_60 : decode cX4_readStore 60 = .ok (.iconst 0, 1) := by decide +kernel
theorem dX4_readStore_61 : decode cX4_readStore 61 = .ok (.bipush 99, 2) := by decide +kernel
theorem dX4_readStore_63 : decode cX4_readStore 63 = .ok (.invokevirtual 105, 3) := by decide +kernel
theorem dX4_readStore_66 : decode cX4_readStore 66 = .ok (.istore_n 2, 1) := by decide +kernel
theorem dX4_readStore_67 : decode cX4_readStore 67 = .ok (.iload_n 2, 1) := by decide +kernel
theorem dX4_readStore_68 : decode cX4_readStore 68 = .ok (.iconst (-1), 1) := by decide +kernel
theorem dX4_readStore_69 : decode cX4_readStore 69 = .ok (.if_icmp .ne 5, 3) := by decide +kernel
theorem dX4_readStore_72 : decode cX4_readStore 72 = .ok (.iconst 0, 1) := by decide +kernel
theorem dX4_readStore_73 : decode cX4_readStore 73 = .ok (.ireturn, 1) := by decide +kernel
theorem dX4_readStore_74 : decode cX4_readStore 74 = .ok (.aload_n 0, 1) := by decide +kernel
theorem dX4_readStore_75 : decode cX4_readStore 75 = .ok (.dup, 1) := by decide +kernel
theorem dX4_readStore_76 : decode cX4_readStore 76 = .ok (.getfield 9, 3) := by decide +kernel
theorem dX4_readStore_79 : decode cX4_readStore 79 = .ok (.iconst 1, 1) := by decide +kernel
theorem dX4_readStore_80 : decode cX4_readStore 80 = .ok (.iload_n 1, 1) := by decide +kernel
theorem dX4_readStore_81 : decode cX4_readStore 81 = .ok (.ishl, 1) := by decide +kernel
theorem dX4_readStore_82 : decode cX4_readStore 82 = .ok (.ior, 1) := by decide +kernel
theorem dX4_readStore_83 : decode cX4_readStore 83 = .ok (.putfield 9, 3) := by decide +kernel
theorem dX4_readStore_86 : decode cX4_readStore 86 = .ok (.aload_n 0, 1) := by decide +kernel
theorem dX4_readStore_87 : decode cX4_readStore 87 = .ok (.getfield 19, 3) := by decide +kernel
theorem dX4_readStore_90 : decode cX4_readStore 90 = .ok (.getfield 121, 3) := by decide +kernel
theorem dX4_readStore_93 : decode cX4_readStore 93 = .ok (.iload_n 1, 1) := by decide +kernel
theorem dX4_readStore_94 : decode cX4_readStore 94 = .ok (.iload_n 2, 1) := by decide +kernel
theorem dX4_readStore_95 : decode cX4_readStore 95 = .ok (.iastore, 1) := by decide +kernel
theorem dX4_readStore_96 : decode cX4_readStore 96 = .ok (.iconst 1, 1) := by decide +kernel
theorem dX4_readStore_97 : decode cX4_readStore 97 = .ok (.ireturn, 1) := by decide +kernel
theorem dX4_readRoad_0 : decode cX4_readRoad 0 = .ok (.aload_n 0, 1) := by decide +kernel
theorem dX4_readRoad_1 : decode cX4_readRoad 1 = .ok (.getfield 19, 3) := by decide +kernel
theorem dX4_readRoad_4 : decode cX4_readRoad 4 = .ok (.getfield 77, 3) := by decide +kernel
theorem dX4_readRoad_7 : decode cX4_readRoad 7 = .ok (.getfield 124, 3) := by decide +kernel
theorem dX4_readRoad_10 : decode cX4_readRoad 10 = .ok (.bipush 12, 2) := by decide +kernel
theorem dX4_readRoad_12 : decode cX4_readRoad 12 = .ok (.if_icmp .lt 12, 3) := by decide +kernel
theorem dX4_readRoad_15 : decode cX4_readRoad 15 = .ok (.aload_n 0, 1) := by decide +kernel
theorem dX4_readRoad_16 : decode cX4_readRoad 16 = .ok (.getfield 15, 3) := by decide +kernel
theorem dX4_readRoad_19 : decode cX4_readRoad 19 = .ok (.iconst 4, 1) := by decide +kernel
theorem dX4_readRoad_20 : decode cX4_readRoad 20 = .ok (.invokevirtual 44, 3) := by decide +kernel
theorem dX4_readRoad_23 : decode cX4_readRoad 23 = .ok (.ireturn, 1) := by decide +kernel
theorem dX4_readRoad_24 : decode cX4_readRoad 24 = .ok (.aload_n 0, 1) := by decide +kernel
theorem dX4_readRoad_25 : decode cX4_readRoad 25 = .ok (.getfield 15, 3) := by decide +kernel
theorem dX4_readRoad_28 : decode cX4_readRoad 28 = .ok (.invokevirtual 99, 3) := by decide +kernel
theorem dX4_readRoad_31 : decode cX4_readRoad 31 = .ok (.aload_n 0, 1) := by decide +kernel
theorem dX4_readRoad_32 : decode cX4_readRoad 32 = .ok (.getfield 15, 3) := by decide +kernel
theorem dX4_readRoad_35 : decode cX4_readRoad 35 = .ok (.aload_n 0, 1) := by decide +kernel
theorem dX4_readRoad_36 : decode cX4_readRoad 36 = .ok (.getfield 19, 3) := by decide +kernel
theorem dX4_readRoad_39 : decode cX4_readRoad 39 = .ok (.getfield 77, 3) := by decide +kernel
theorem dX4_readRoad_42 : decode cX4_readRoad 42 = .ok (.invokevirtual 127, 3) := by decide +kernel
theorem dX4_readRoad_45 : decode cX4_readRoad 45 = .ok (.istore_n 1, 1) := by decide +kernel
theorem dX4_readRoad_46 : decode cX4_readRoad 46 = .ok (.iload_n 1, 1) := by decide +kernel
theorem dX4_readRoad_47 : decode cX4_readRoad 47 = .ok (.iconst (-1), 1) := by decide +kernel
theorem dX4_readRoad_48 : decode cX4_readRoad 48 = .ok (.if_icmp .ne 5, 3) := by decide +kernel
theorem dX4_readRoad_51 : decode cX4_readRoad 51 = .ok (.iconst 0, 1) := by decide +kernel
theorem dX4_readRoad_52 : decode cX4_readRoad 52 = .ok (.ireturn, 1) := by decide +kernel
theorem dX4_readRoad_53 : decode cX4_readRoad 53 = .ok (.aload_n 0, 1) := by decide +kernel
theorem dX4_readRoad_54 : decode cX4_readRoad 54 = .ok (.getfield 15, 3) := by decide +kernel
theorem dX4_readRoad_57 : decode cX4_readRoad 57 = .ok (.aload_n 0, 1) := by decide +kernel
theorem dX4_readRoad_58 : decode cX4_readRoad 58 = .ok (.getfield 19, 3) := by decide +kernel
theorem dX4_readRoad_61 : decode cX4_readRoad 61 = .ok (.getfield 77, 3) := by decide +kernel
theorem dX4_readRoad_64 : decode cX4_readRoad 64 = .ok (.invokevirtual 113, 3) := by decide +kernel
theorem dX4_readRoad_67 : decode cX4_readRoad 67 = .ok (.istore_n 2, 1) := by decide +kernel
theorem dX4_readRoad_68 : decode cX4_readRoad 68 = .ok (.iload_n 2, 1) := by decide +kernel
theorem dX4_readRoad_69 : decode cX4_readRoad 69 = .ok (.iconst (-1), 1) := by decide +kernel
theorem dX4_readRoad_70 : decode cX4_readRoad 70 = .ok (.if_icmp .ne 5, 3) := by decide +kernel
theorem dX4_readRoad_73 : decode cX4_readRoad 73 = .ok (.iconst 0, 1) := by decide +kernel
theorem dX4_readRoad_74 : decode cX4_readRoad 74 = .ok (.ireturn, 1) := by decide +kernel
theorem dX4_readRoad_75 : decode cX4_readRoad 75 = .ok (.iload_n 1, 1) := by decide +kernel
theorem dX4_readRoad_76 : decode cX4_readRoad 76 = .ok (.iload_n 2, 1) := by decide +kernel
theorem dX4_readRoad_77 : decode cX4_readRoad 77 = .ok (.if_icmp .eq 18, 3) := by decide +kernel
theorem dX4_readRoad_80 : decode cX4_readRoad 80 = .ok (.aload_n 0, 1) := by decide +kernel
theorem dX4_readRoad_81 : decode cX4_readRoad 81 = .ok (.getfield 19, 3) := by decide +kernel
theorem dX4_readRoad_84 : decode cX4_readRoad 84 = .ok (.getfield 77, 3) := by decide +kernel
theorem dX4_readRoad_87 : decode cX4_readRoad 87 = .ok (.iload_n 1, 1) := by decide +kernel
theorem dX4_readRoad_88 : decode cX4_readRoad 88 = .ok (.iload_n 2, 1) := by decide +kernel
theorem dX4_readRoad_89 : decode cX4_readRoad 89 = .ok (.invokevirtual 130, 3) := by decide +kernel
theorem dX4_readRoad_92 : decode cX4_readRoad 92 = .ok (.ifCond .lt 12, 3) := by decide +kernel
theorem dX4_readRoad_95 : decode cX4_readRoad 95 = .ok (.aload_n 0, 1) := by decide +kernel
theorem dX4_readRoad_96 : decode cX4_readRoad 96 = .ok (.getfield 15, 3) := by decide +kernel
theorem dX4_readRoad_99 : decode cX4_readRoad 99 = .ok (.iconst 3, 1) := by decide +kernel
theorem dX4_readRoad_100 : decode cX4_readRoad 100 = .ok (.invokevirtual 44, 3) := by decide +kernel
theorem dX4_readRoad_103 : decode cX4_readRoad 103 = .ok (.ireturn, 1) := by decide +kernel
theorem dX4_readRoad_104 : decode cX4_readRoad 104 = .ok (.aload_n 0, 1) := by decide +kernel
theorem dX4_readRoad_105 : decode cX4_readRoad 105 = .ok (.getfield 15, 3) := by decide +kernel
theorem dX4_readRoad_108 : decode cX4_readRoad 108 = .ok (.invokevirtual 99, 3) := by decide +kernel
theorem dX4_readRoad_111 : decode cX4_readRoad 111 = .ok (.aload_n 0, 1) := by decide +kernel
theorem dX4_readRoad_112 : decode cX4_readRoad 112 = .ok (.getfield 15, 3) := by decide +kernel
theorem dX4_readRoad_115 : decode cX4_readRoad 115 = .ok (.iconst 0, 1) := by decide +kernel
theorem dX4_readRoad_116 : decode cX4_readRoad 116 = .ok (.sipush 240, 3) := by decide +kernel
theorem dX4_readRoad_119 : decode cX4_readRoad 119 = .ok (.invokevirtual 105, 3) := by decide +kernel
theorem dX4_readRoad_122 : decode cX4_readRoad 122 = .ok (.istore_n 3, 1) := by decide +kernel
theorem dX4_readRoad_123 : decode cX4_readRoad 123 = .ok (.iload_n 3, 1) := by decide +kernel
theorem dX4_readRoad_124 : decode cX4_readRoad 124 = .ok (.iconst (-1), 1) := by decide +kernel
theorem dX4_readRoad_125 : decode cX4_readRoad 125 = .ok (.if_icmp .ne 5, 3) := by decide +kernel
theorem dX4_readRoad_128 : decode cX4_readRoad 128 = .ok (.iconst 0, 1) := by decide +kernel
theorem dX4_readRoad_129 : decode cX4_readRoad 129 = .ok (.ireturn, 1) := by decide +kernel
theorem dX4_readRoad_130 : decode cX4_readRoad 130 = .ok (.aload_n 0, 1) := by decide +kernel
theorem dX4_readRoad_131 : decode cX4_readRoad 131 = .ok (.getfield 15, 3) := by decide +kernel
theorem dX4_readRoad_134 : decode cX4_readRoad 134 = .ok (.iload_n 3, 1) := by decide +kernel
theorem dX4_readRoad_135 : decode cX4_readRoad 135 = .ok (.sipush 240, 3) := by decide +kernel
theorem dX4_readRoad_138 : decode cX4_readRoad 138 = .ok (.invokevirtual 105, 3) := by decide +kernel
theorem dX4_readRoad_141 : decode cX4_readRoad 141 = .ok (.istore 4, 2) := by decide +kernel
theorem dX4_readRoad_143 : decode cX4_readRoad 143 = .ok (.iload 4, 2) := by decide +kernel
theorem dX4_readRoad_145 : decode cX4_readRoad 145 = .ok (.iconst (-1), 1) := by decide +kernel
theorem dX4_readRoad_146 : decode cX4_readRoad 146 = .ok (.if_icmp .ne 5, 3) := by decide +kernel
theorem dX4_readRoad_149 : decode cX4_readRoad 149 = .ok (.iconst 0, 1) := by decide +kernel
theorem dX4_readRoad_150 : decode cX4_readRoad 150 = .ok (.ireturn, 1) := by decide +kernel
theorem dX4_readRoad_151 : decode cX4_readRoad 151 = .ok (.aload_n 0, 1) := by decide +kernel
theorem dX4_readRoad_152 : decode cX4_readRoad 152 = .ok (.getfield 19, 3) := by decide +kernel
theorem dX4_readRoad_155 : decode cX4_readRoad 155 = .ok (.getfield 77, 3) := by decide +kernel
theorem dX4_readRoad_158 : decode cX4_readRoad 158 = .ok (.iload_n 1, 1) := by decide +kernel
theorem dX4_readRoad_159 : decode cX4_readRoad 159 = .ok (.iload_n 2, 1) := by decide +kernel
theorem dX4_readRoad_160 : decode cX4_readRoad 160 = .ok (.iload_n 3, 1) := by decide +kernel
theorem dX4_readRoad_161 : decode cX4_readRoad 161 = .ok (.iload 4, 2) := by decide +kernel
theorem dX4_readRoad_163 : decode cX4_readRoad 163 = .ok (.invokevirtual 133, 3) := by decide +kernel
theorem dX4_readRoad_166 : decode cX4_readRoad 166 = .ok (.iconst 1, 1) := by decide +kernel
theorem dX4_readRoad_167 : decode cX4_readRoad 167 = .ok (.ireturn, 1) := by decide +kernel
theorem dX4_readTreaty_0 : decode cX4_readTreaty 0 = .ok (.aload_n 0, 1) := by decide +kernel
theorem dX4_readTreaty_1 : decode cX4_readTreaty 1 = .ok (.getfield 15, 3) := by decide +kernel
theorem dX4_readTreaty_4 : decode cX4_readTreaty 4 = .ok (.invokevirtual 99, 3) := by decide +kernel
theorem dX4_readTreaty_7 : decode cX4_readTreaty 7 = .ok (.aload_n 0, 1) := by decide +kernel
theorem dX4_readTreaty_8 : decode cX4_readTreaty 8 = .ok (.getfield 15, 3) := by decide +kernel
theorem dX4_readTreaty_11 : decode cX4_readTreaty 11 = .ok (.aload_n 0, 1) := by decide +kernel
theorem dX4_readTreaty_12 : decode cX4_readTreaty 12 = .ok (.getfield 19, 3) := by decide +kernel
theorem dX4_readTreaty_15 : decode cX4_readTreaty 15 = .ok (.getfield 77, 3) := by decide +kernel
theorem dX4_readTreaty_18 : decode cX4_readTreaty 18 = .ok (.invokevirtual 127, 3) := by decide +kernel
theorem dX4_readTreaty_21 : decode cX4_readTreaty 21 = .ok (.istore_n 1, 1) := by decide +kernel
theorem dX4_readTreaty_22 : decode cX4_readTreaty 22 = .ok (.iload_n 1, 1) := by decide +kernel
theorem dX4_readTreaty_23 : decode cX4_readTreaty 23 = .ok (.iconst (-1), 1) := by decide +kernel
theorem dX4_readTreaty_24 : decode cX4_readTreaty 24 = .ok (.if_icmp .ne 5, 3) := by decide +kernel
theorem dX4_readTreaty_27 : decode cX4_readTreaty 27 = .ok (.iconst 0, 1) := by decide +kernel
theorem dX4_readTreaty_28 : decode cX4_readTreaty 28 = .ok (.ireturn, 1) := by decide +kernel
theorem dX4_readTreaty_29 : decode cX4_readTreaty 29 = .ok (.aload_n 0, 1) := by decide +kernel
theorem dX4_readTreaty_30 : decode cX4_readTreaty 30 = .ok (.getfield 15, 3) := by decide +kernel
theorem dX4_readTreaty_33 : decode cX4_readTreaty 33 = .ok (.aload_n 0, 1) := by decide +kernel
theorem dX4_readTreaty_34 : decode cX4_readTreaty 34 = .ok (.getfield 19, 3) := by decide +kernel
theorem dX4_readTreaty_37 : decode cX4_readTreaty 37 = .ok (.getfield 77, 3) := by decide +kernel
theorem dX4_readTreaty_40 : decode cX4_readTreaty 40 = .ok (.invokevirtual 113, 3) := by decide +kernel
theorem dX4_readTreaty_43 : decode cX4_readTreaty 43 = .ok (.istore_n 2, 1) := by decide +kernel
theorem dX4_readTreaty_44 : decode cX4_readTreaty 44 = .ok (.iload_n 2, 1) := by decide +kernel
theorem dX4_readTreaty_45 : decode cX4_readTreaty 45 = .ok (.iconst (-1), 1) := by decide +kernel
theorem dX4_readTreaty_46 : decode cX4_readTreaty 46 = .ok (.if_icmp .ne 5, 3) := by decide +kernel
theorem dX4_readTreaty_49 : decode cX4_readTreaty 49 = .ok (.iconst 0, 1) := by decide +kernel
theorem dX4_readTreaty_50 : decode cX4_readTreaty 50 = .ok (.ireturn, 1) := by decide +kernel
theorem dX4_readTreaty_51 : decode cX4_readTreaty 51 = .ok (.iload_n 1, 1) := by decide +kernel
theorem dX4_readTreaty_52 : decode cX4_readTreaty 52 = .ok (.iload_n 2, 1) := by decide +kernel
theorem dX4_readTreaty_53 : decode cX4_readTreaty 53 = .ok (.if_icmp .eq 19, 3) := by decide +kernel
theorem dX4_readTreaty_56 : decode cX4_readTreaty 56 = .ok (.aload_n 0, 1) := by decide +kernel
theorem dX4_readTreaty_57 : decode cX4_readTreaty 57 = .ok (.getfield 19, 3) := by decide +kernel
theorem dX4_readTreaty_60 : decode cX4_readTreaty 60 = .ok (.getfield 137, 3) := by decide +kernel
theorem dX4_readTreaty_63 : decode cX4_readTreaty 63 = .ok (.iload_n 1, 1) := by decide +kernel
theorem dX4_readTreaty_64 : decode cX4_readTreaty 64 = .ok (.iaload, 1) := by decide +kernel
theorem dX4_readTreaty_65 : decode cX4_readTreaty 65 = .ok (.iload_n 2, 1) := by decide +kernel
theorem dX4_readTreaty_66 : decode cX4_readTreaty 66 = .ok (.invokestatic 117, 3) := by decide +kernel
theorem dX4_readTreaty_69 : decode cX4_readTreaty 69 = .ok (.ifCond .eq 12, 3) := by decide +kernel
theorem dX4_readTreaty_72 : decode cX4_readTreaty 72 = .ok (.aload_n 0, 1) := by decide +kernel
theorem dX4_readTreaty_73 : decode cX4_readTreaty 73 = .ok (.getfield 15, 3) := by decide +kernel
theorem dX4_readTreaty_76 : decode cX4_readTreaty 76 = .ok (.iconst 3, 1) := by decide +kernel
theorem dX4_readTreaty_77 : decode cX4_readTreaty 77 = .ok (.invokevirtual 44, 3) := by decide +kernel
theorem dX4_readTreaty_80 : decode cX4_readTreaty 80 = .ok (.ireturn, 1) := by decide +kernel
theorem dX4_readTreaty_81 : decode cX4_readTreaty 81 = .ok (.aload_n 0, 1) := by decide +kernel
theorem dX4_readTreaty_82 : decode cX4_readTreaty 82 = .ok (.getfield 15, 3) := by decide +kernel
theorem dX4_readTreaty_85 : decode cX4_readTreaty 85 = .ok (.invokevirtual 99, 3) := by decide +kernel
theorem dX4_readTreaty_88 : decode cX4_readTreaty 88 = .ok (.aload_n 0, 1) := by decide +kernel
theorem dX4_readTreaty_89 : decode cX4_readTreaty 89 = .ok (.getfield 19, 3) := by decide +kernel
theorem dX4_readTreaty_92 : decode cX4_readTreaty 92 = .ok (.getfield 137, 3) := by decide +kernel
theorem dX4_readTreaty_95 : decode cX4_readTreaty 95 = .ok (.iload_n 1, 1) := by decide +kernel
theorem dX4_readTreaty_96 : decode cX4_readTreaty 96 = .ok (.dup2, 1) := by decide +kernel
theorem dX4_readTreaty_97 : decode cX4_readTreaty 97 = .ok (.iaload, 1) := by decide +kernel
theorem dX4_readTreaty_98 : decode cX4_readTreaty 98 = .ok (.iconst 1, 1) := by decide +kernel
theorem dX4_readTreaty_99 : decode cX4_readTreaty 99 = .ok (.iload_n 2, 1) := by decide +kernel
theorem dX4_readTreaty_100 : decode cX4_readTreaty 100 = .ok (.ishl, 1) := by decide +kernel
theorem dX4_readTreaty_101 : decode cX4_readTreaty 101 = .ok (.ior, 1) := by decide +kernel
theorem dX4_readTreaty_102 : decode cX4_readTreaty 102 = .ok (.iastore, 1) := by decide +kernel
theorem dX4_readTreaty_103 : decode cX4_readTreaty 103 = .ok (.iconst 1, 1) := by decide +kernel
theorem dX4_readTreaty_104 : decode cX4_readTreaty 104 = .ok (.ireturn, 1) := by decide +kernel
theorem dX4_readPerson_0 : decode cX4_readPerson 0 = .ok (.aload_n 0, 1) := by decide +kernel
theorem dX4_readPerson_1 : decode cX4_readPerson 1 = .ok (.getfield 19, 3) := by decide +kernel
theorem dX4_readPerson_4 : decode cX4_readPerson 4 = .ok (.getfield 77, 3) := by decide +kernel
theorem dX4_readPerson_7 : decode cX4_readPerson 7 = .ok (.getfield 140, 3) := by decide +kernel
theorem dX4_readPerson_10 : decode cX4_readPerson 10 = .ok (.istore_n 1, 1) := by decide +kernel
theorem dX4_readPerson_11 : decode cX4_readPerson 11 = .ok (.iload_n 1, 1) := by decide +kernel
theorem dX4_readPerson_12 : decode cX4_readPerson 12 = .ok (.bipush 6, 2) := by decide +kernel
theorem dX4_readPerson_14 : decode cX4_readPerson 14 = .ok (.if_icmp .lt 12, 3) := by decide +kernel
theorem dX4_readPerson_17 : decode cX4_readPerson 17 = .ok (.aload_n 0, 1) := by decide +kernel
theorem dX4_readPerson_18 : decode cX4_readPerson 18 = .ok (.getfield 15, 3) := by decide +kernel
theorem dX4_readPerson_21 : decode cX4_readPerson 21 = .ok (.iconst 4, 1) := by decide +kernel
theorem dX4_readPerson_22 : decode cX4_readPerson 22 = .ok (.invokevirtual 44, 3) := by decide +kernel
theorem dX4_readPerson_25 : decode cX4_readPerson 25 = .ok (.ireturn, 1) := by decide +kernel
theorem dX4_readPerson_26 : decode cX4_readPerson 26 = .ok (.aload_n 0, 1) := by decide +kernel
theorem dX4_readPerson_27 : decode cX4_readPerson 27 = .ok (.getfield 15, 3) := by decide +kernel
theorem dX4_readPerson_30 : decode cX4_readPerson 30 = .ok (.invokevirtual 99, 3) := by decide +kernel
theorem dX4_readPerson_33 : decode cX4_readPerson 33 = .ok (.aload_n 0, 1) := by decide +kernel
theorem dX4_readPerson_34 : decode cX4_readPerson 34 = .ok (.invokevirtual 102, 3) := by decide +kernel
theorem dX4_readPerson_37 : decode cX4_readPerson 37 = .ok (.ifCond .ne 5, 3) := by decide +kernel
theorem dX4_readPerson_40 : decode cX4_readPerson 40 = .ok (.iconst 0, 1) := by decide +kernel
theorem dX4_readPerson_41 : decode cX4_readPerson 41 = .ok (.ireturn, 1) := by decide +kernel
theorem dX4_readPerson_42 : decode cX4_readPerson 42 = .ok (.aload_n 0, 1) := by decide +kernel
theorem dX4_readPerson_43 : decode cX4_readPerson 43 = .ok (.getfield 15, 3) := by decide +kernel
theorem dX4_readPerson_46 : decode cX4_readPerson 46 = .ok (.getfield 83, 3) := by decide +kernel
theorem dX4_readPerson_49 : decode cX4_readPerson 49 = .ok (.lstore_n 2, 1) := by decide +kernel
theorem dX4_readPerson_50 : decode cX4_readPerson 50 = .ok (.aload_n 0, 1) := by decide +kernel
theorem dX4_readPerson_51 : decode cX4_readPerson 51 = .ok (.getfield 15, 3) := by decide +kernel
theorem dX4_readPerson_54 : decode cX4_readPerson 54 = .ok (.invokevirtual 99, 3) := by decide +kernel
theorem dX4_readPerson_57 : decode cX4_readPerson 57 = .ok (.aload_n 0, 1) := by decide +kernel
theorem dX4_readPerson_58 : decode cX4_readPerson 58 = .ok (.getfield 15, 3) := by decide +kernel
theorem dX4_readPerson_61 : decode cX4_readPerson 61 = .ok (.aload_n 0, 1) := by decide +kernel
theorem dX4_readPerson_62 : decode cX4_readPerson 62 = .ok (.getfield 19, 3) := by decide +kernel
theorem dX4_readPerson_65 : decode cX4_readPerson 65 = .ok (.getfield 77, 3) := by decide +kernel
theorem dX4_readPerson_68 : decode cX4_readPerson 68 = .ok (.invokevirtual 127, 3) := by decide +kernel
theorem dX4_readPerson_71 : decode cX4_readPerson 71 = .ok (.istore 4, 2) := by decide +kernel
theorem dX4_readPerson_73 : decode cX4_readPerson 73 = .ok (.iload 4, 2) := by decide +kernel
theorem dX4_readPerson_75 : decode cX4_readPerson 75 = .ok (.iconst (-1), 1) := by decide +kernel
theorem dX4_readPerson_76 : decode cX4_readPerson 76 = .ok (.if_icmp .ne 5, 3) := by decide +kernel
theorem dX4_readPerson_79 : decode cX4_readPerson 79 = .ok (.iconst 0, 1) := by decide +kernel
theorem dX4_readPerson_80 : decode cX4_readPerson 80 = .ok (.ireturn, 1) := by decide +kernel
theorem dX4_readPerson_81 : decode cX4_readPerson 81 = .ok (.aload_n 0, 1) := by decide +kernel
theorem dX4_readPerson_82 : decode cX4_readPerson 82 = .ok (.getfield 15, 3) := by decide +kernel
theorem dX4_readPerson_85 : decode cX4_readPerson 85 = .ok (.iconst 1, 1) := by decide +kernel
theorem dX4_readPerson_86 : decode cX4_readPerson 86 = .ok (.sipush 240, 3) := by decide +kernel
theorem dX4_readPerson_89 : decode cX4_readPerson 89 = .ok (.invokevirtual 105, 3) := by decide +kernel
theorem dX4_readPerson_92 : decode cX4_readPerson 92 = .ok (.istore 5, 2) := by decide +kernel
theorem dX4_readPerson_94 : decode cX4_readPerson 94 = .ok (.iload 5, 2) := by decide +kernel
theorem dX4_readPerson_96 : decode cX4_readPerson 96 = .ok (.iconst (-1), 1) := by decide +kernel
theorem dX4_readPerson_97 : decode cX4_readPerson 97 = .ok (.if_icmp .ne 5, 3) := by decide +kernel
theorem dX4_readPerson_100 : decode cX4_readPerson 100 = .ok (.iconst 0, 1) := by decide +kernel
theorem dX4_readPerson_101 : decode cX4_readPerson 101 = .ok (.ireturn, 1) := by decide +kernel
theorem dX4_readPerson_102 : decode cX4_readPerson 102 = .ok (.aload_n 0, 1) := by decide +kernel
theorem dX4_readPerson_103 : decode cX4_readPerson 103 = .ok (.getfield 19, 3) := by decide +kernel
theorem dX4_readPerson_106 : decode cX4_readPerson 106 = .ok (.getfield 77, 3) := by decide +kernel
theorem dX4_readPerson_109 : decode cX4_readPerson 109 = .ok (.lload_n 2, 1) := by decide +kernel
theorem dX4_readPerson_110 : decode cX4_readPerson 110 = .ok (.iload 4, 2) := by decide +kernel
theorem dX4_readPerson_112 : decode cX4_readPerson 112 = .ok (.invokevirtual 143, 3) := by decide +kernel
theorem dX4_readPerson_115 : decode cX4_readPerson 115 = .ok (.aload_n 0, 1) := by decide +kernel
theorem dX4_readPerson_116 : decode cX4_readPerson 116 = .ok (.getfield 19, 3) := by decide +kernel
theorem dX4_readPerson_119 : decode cX4_readPerson 119 = .ok (.getfield 147, 3) := by decide +kernel
theorem dX4_readPerson_122 : decode cX4_readPerson 122 = .ok (.iload_n 1, 1) := by decide +kernel
theorem dX4_readPerson_123 : decode cX4_readPerson 123 = .ok (.iload 4, 2) := by decide +kernel
theorem dX4_readPerson_125 : decode cX4_readPerson 125 = .ok (.iastore, 1) := by decide +kernel
theorem dX4_readPerson_126 : decode cX4_readPerson 126 = .ok (.aload_n 0, 1) := by decide +kernel
theorem dX4_readPerson_127 : decode cX4_readPerson 127 = .ok (.getfield 19, 3) := by decide +kernel
theorem dX4_readPerson_130 : decode cX4_readPerson 130 = .ok (.getfield 150, 3) := by decide +kernel
theorem dX4_readPerson_133 : decode cX4_readPerson 133 = .ok (.iload_n 1, 1) := by decide +kernel
theorem dX4_readPerson_134 : decode cX4_readPerson 134 = .ok (.iload 5, 2) := by decide +kernel
theorem dX4_readPerson_136 : decode cX4_readPerson 136 = .ok (.iastore, 1) := by decide +kernel
theorem dX4_readPerson_137 : decode cX4_readPerson 137 = .ok (.iconst 1, 1) := by decide +kernel
theorem dX4_readPerson_138 : decode cX4_readPerson 138 = .ok (.ireturn, 1) := by decide +kernel
theorem dX5_init_0 : decode cX5_init 0 = .ok (.aload_n 0, 1) := by decide +kernel
theorem dX5_init_1 : decode cX5_init 1 = .ok (.invokespecial 3, 3) := by decide +kernel
theorem dX5_init_4 : decode cX5_init 4 = .ok (.aload_n 0, 1) := by decide +kernel
theorem dX5_init_5 : decode cX5_init 5 = .ok (.iconst 0, 1) := by decide +kernel
theorem dX5_init_6 : decode cX5_init 6 = .ok (.putfield 9, 3) := by decide +kernel
theorem dX5_init_9 : decode cX5_init 9 = .ok (.aload_n 0, 1) := by decide +kernel
theorem dX5_init_10 : decode cX5_init 10 = .ok (.iload_n 1, 1) := by decide +kernel
theorem dX5_init_11 : decode cX5_init 11 = .ok (.iconst 0, 1) := by decide +kernel
theorem dX5_init_12 : decode cX5_init 12 = .ok (.invokestatic 15, 3) := by decide +kernel
theorem dX5_init_15 : decode cX5_init 15 = .ok (.newarray .int, 2) := by decide +kernel
theorem dX5_init_17 : decode cX5_init 17 = .ok (.putfield 21, 3) := by decide +kernel
theorem dX5_init_20 : decode cX5_init 20 = .ok (.return_, 1) := by decide +kernel
theorem dX5_at_0 : decode cX5_at 0 = .ok (.iload_n 1, 1) := by decide +kernel
theorem dX5_at_1 : decode cX5_at 1 = .ok (.ifCond .lt 29, 3) := by decide +kernel
theorem dX5_at_4 : decode cX5_at 4 = .ok (.iload_n 1, 1) := by decide +kernel
theorem dX5_at_5 : decode cX5_at 5 = .ok (.aload_n 0, 1) := by decide +kernel
theorem dX5_at_6 : decode cX5_at 6 = .ok (.getfield 9, 3) := by decide +kernel
theorem dX5_at_9 : decode cX5_at 9 = .ok (.if_icmp .ge 21, 3) := by decide +kernel
theorem dX5_at_12 : decode cX5_at 12 = .ok (.iload_n 1, 1) := by decide +kernel
theorem dX5_at_13 : decode cX5_at 13 = .ok (.aload_n 0, 1) := by decide +kernel
theorem dX5_at_14 : decode cX5_at 14 = .ok (.getfield 21, 3) := by decide +kernel
theorem dX5_at_17 : decode cX5_at 17 = .ok (.arraylength, 1) := by decide +kernel
theorem dX5_at_18 : decode cX5_at 18 = .ok (.if_icmp .ge 12, 3) := by decide +kernel
theorem dX5_at_21 : decode cX5_at 21 = .ok (.aload_n 0, 1) := by decide +kernel
theorem dX5_at_22 : decode cX5_at 22 = .ok (.getfield 21, 3) := by decide +kernel
theorem dX5_at_25 : decode cX5_at 25 = .ok (.iload_n 1, 1) := by decide +kernel
theorem dX5_at_26 : decode cX5_at 26 = .ok (.iaload, 1) := by decide +kernel
theorem dX5_at_27 : decode cX5_at 27 = .ok (.goto 4, 3) := by decide +kernel
theorem dX5_at_30 : decode cX5_at 30 = .ok (.iconst (-1), 1) := by decide +kernel
theorem dX5_at_31 : decode cX5_at 31 = .ok (.ireturn, 1) := by decide +kernel
theorem dX5_add_0 : decode cX5_add 0 = .ok (.aload_n 0, 1) := by decide +kernel
theorem dX5_add_1 : decode cX5_add 1 = .ok (.getfield 9, 3) := by decide +kernel
theorem dX5_add_4 : decode cX5_add 4 = .ok (.aload_n 0, 1) := by decide +kernel
theorem dX5_add_5 : decode cX5_add 5 = .ok (.getfield 21, 3) := by decide +kernel
theorem dX5_add_8 : decode cX5_add 8 = .ok (.arraylength, 1) := by decide +kernel
theorem dX5_add_9 : decode cX5_add 9 = .ok (.if_icmp .ge 23, 3) := by decide +kernel
theorem dX5_add_12 : decode cX5_add 12 = .ok (.aload_n 0, 1) := by decide +kernel
theorem dX5_add_13 : decode cX5_add 13 = .ok (.getfield 21, 3) := by decide +kernel
theorem dX5_add_16 : decode cX5_add 16 = .ok (.aload_n 0, 1) := by decide +kernel
theorem dX5_add_17 : decode cX5_add 17 = .ok (.getfield 9, 3) := by decide +kernel
theorem dX5_add_20 : decode cX5_add 20 = .ok (.iload_n 1, 1) := by decide +kernel
theorem dX5_add_21 : decode cX5_add 21 = .ok (.iastore, 1) := by decide +kernel
theorem dX5_add_22 : decode cX5_add 22 = .ok (.aload_n 0, 1) := by decide +kernel
theorem dX5_add_23 : decode cX5_add 23 = .ok (.dup, 1) := by decide +kernel
theorem dX5_add_24 : decode cX5_add 24 = .ok (.getfield 9, 3) := by decide +kernel
theorem dX5_add_27 : decode cX5_add 27 = .ok (.iconst 1, 1) := by decide +kernel
theorem dX5_add_28 : decode cX5_add 28 = .ok (.iadd, 1) := by decide +kernel
theorem dX5_add_29 : decode cX5_add 29 = .ok (.putfield 9, 3) := by decide +kernel
theorem dX5_add_32 : decode cX5_add 32 = .ok (.return_, 1) := by decide +kernel
theorem dX5_take_0 : decode cX5_take 0 = .ok (.aload_n 0, 1) := by decide +kernel
theorem dX5_take_1 : decode cX5_take 1 = .ok (.iconst 0, 1) := by decide +kernel
theorem dX5_take_2 : decode cX5_take 2 = .ok (.putfield 9, 3) := by decide +kernel
