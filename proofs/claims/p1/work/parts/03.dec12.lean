theorem dX12_tell_30 : decode cX12_tell 30 = .ok (.aload_n 0, 1) := by decide +kernel
theorem dX12_tell_31 : decode cX12_tell 31 = .ok (.iload_n 1, 1) := by decide +kernel
theorem dX12_tell_32 : decode cX12_tell 32 = .ok (.invokevirtual 227, 3) := by decide +kernel
theorem dX12_tell_35 : decode cX12_tell 35 = .ok (.istore_n 2, 1) := by decide +kernel
theorem dX12_tell_36 : decode cX12_tell 36 = .ok (.iload_n 2, 1) := by decide +kernel
theorem dX12_tell_37 : decode cX12_tell 37 = .ok (.ifCond .ne 30, 3) := by decide +kernel
theorem dX12_tell_40 : decode cX12_tell 40 = .ok (.aload_n 0, 1) := by decide +kernel
theorem dX12_tell_41 : decode cX12_tell 41 = .ok (.bipush 105, 2) := by decide +kernel
theorem dX12_tell_43 : decode cX12_tell 43 = .ok (.bipush 115, 2) := by decide +kernel
theorem dX12_tell_45 : decode cX12_tell 45 = .ok (.iconst 0, 1) := by decide +kernel
theorem dX12_tell_46 : decode cX12_tell 46 = .ok (.iconst 0, 1) := by decide +kernel
theorem dX12_tell_47 : decode cX12_tell 47 = .ok (.iconst 0, 1) := by decide +kernel
theorem dX12_tell_48 : decode cX12_tell 48 = .ok (.iconst 0, 1) := by decide +kernel
theorem dX12_tell_49 : decode cX12_tell 49 = .ok (.iconst 0, 1) := by decide +kernel
theorem dX12_tell_50 : decode cX12_tell 50 = .ok (.invokestatic 123, 3) := by decide +kernel
theorem dX12_tell_53 : decode cX12_tell 53 = .ok (.invokevirtual 348, 3) := by decide +kernel
theorem dX12_tell_56 : decode cX12_tell 56 = .ok (.aload_n 0, 1) := by decide +kernel
theorem dX12_tell_57 : decode cX12_tell 57 = .ok (.iconst 3, 1) := by decide +kernel
theorem dX12_tell_58 : decode cX12_tell 58 = .ok (.invokestatic 127, 3) := by decide +kernel
theorem dX12_tell_61 : decode cX12_tell 61 = .ok (.invokevirtual 348, 3) := by decide +kernel
theorem dX12_tell_64 : decode cX12_tell 64 = .ok (.goto 153, 3) := by decide +kernel
theorem dX12_tell_67 : decode cX12_tell 67 = .ok (.iload_n 2, 1) := by decide +kernel
theorem dX12_tell_68 : decode cX12_tell 68 = .ok (.bipush 16, 2) := by decide +kernel
theorem dX12_tell_70 : decode cX12_tell 70 = .ok (.if_icmp .ne 34, 3) := by decide +kernel
theorem dX12_tell_73 : decode cX12_tell 73 = .ok (.aload_n 0, 1) := by decide +kernel
theorem dX12_tell_74 : decode cX12_tell 74 = .ok (.bipush 14, 2) := by decide +kernel
theorem dX12_tell_76 : decode cX12_tell 76 = .ok (.invokestatic 127, 3) := by decide +kernel
theorem dX12_tell_79 : decode cX12_tell 79 = .ok (.invokevirtual 348, 3) := by decide +kernel
theorem dX12_tell_82 : decode cX12_tell 82 = .ok (.aload_n 0, 1) := by decide +kernel
theorem dX12_tell_83 : decode cX12_tell 83 = .ok (.bipush 32, 2) := by decide +kernel
theorem dX12_tell_85 : decode cX12_tell 85 = .ok (.invokevirtual 342, 3) := by decide +kernel
theorem dX12_tell_88 : decode cX12_tell 88 = .ok (.aload_n 0, 1) := by decide +kernel
theorem dX12_tell_89 : decode cX12_tell 89 = .ok (.aload_n 0, 1) := by decide +kernel
theorem dX12_tell_90 : decode cX12_tell 90 = .ok (.getfield 13, 3) := by decide +kernel
theorem dX12_tell_93 : decode cX12_tell 93 = .ok (.bipush 87, 2) := by decide +kernel
theorem dX12_tell_95 : decode cX12_tell 95 = .ok (.iload_n 1, 1) := by decide +kernel
theorem dX12_tell_96 : decode cX12_tell 96 = .ok (.iadd, 1) := by decide +kernel
theorem dX12_tell_97 : decode cX12_tell 97 = .ok (.iaload, 1) := by decide +kernel
theorem dX12_tell_98 : decode cX12_tell 98 = .ok (.invokevirtual 345, 3) := by decide +kernel
theorem dX12_tell_101 : decode cX12_tell 101 = .ok (.goto 116, 3) := by decide +kernel
theorem dX12_tell_104 : decode cX12_tell 104 = .ok (.iload_n 2, 1) := by decide +kernel
theorem dX12_tell_105 : decode cX12_tell 105 = .ok (.bipush 16, 2) := by decide +kernel
theorem dX12_tell_107 : decode cX12_tell 107 = .ok (.if_icmp .ge 32, 3) := by decide +kernel
theorem dX12_tell_110 : decode cX12_tell 110 = .ok (.aload_n 0, 1) := by decide +kernel
theorem dX12_tell_111 : decode cX12_tell 111 = .ok (.bipush 15, 2) := by decide +kernel
theorem dX12_tell_113 : decode cX12_tell 113 = .ok (.invokestatic 127, 3) := by decide +kernel
theorem dX12_tell_116 : decode cX12_tell 116 = .ok (.invokevirtual 348, 3) := by decide +kernel
theorem dX12_tell_119 : decode cX12_tell 119 = .ok (.aload_n 0, 1) := by decide +kernel
theorem dX12_tell_120 : decode cX12_tell 120 = .ok (.aload_n 0, 1) := by decide +kernel
theorem dX12_tell_121 : decode cX12_tell 121 = .ok (.getfield 28, 3) := by decide +kernel
theorem dX12_tell_124 : decode cX12_tell 124 = .ok (.bipush 6, 2) := by decide +kernel
theorem dX12_tell_126 : decode cX12_tell 126 = .ok (.aload_n 0, 1) := by decide +kernel
theorem dX12_tell_127 : decode cX12_tell 127 = .ok (.iload_n 1, 1) := by decide +kernel
theorem dX12_tell_128 : decode cX12_tell 128 = .ok (.invokevirtual 212, 3) := by decide +kernel
theorem dX12_tell_131 : decode cX12_tell 131 = .ok (.iadd, 1) := by decide +kernel
theorem dX12_tell_132 : decode cX12_tell 132 = .ok (.laload, 1) := by decide +kernel
theorem dX12_tell_133 : decode cX12_tell 133 = .ok (.invokevirtual 348, 3) := by decide +kernel
theorem dX12_tell_136 : decode cX12_tell 136 = .ok (.goto 81, 3) := by decide +kernel
theorem dX12_tell_139 : decode cX12_tell 139 = .ok (.iload_n 2, 1) := by decide +kernel
theorem dX12_tell_140 : decode cX12_tell 140 = .ok (.bipush 17, 2) := by decide +kernel
theorem dX12_tell_142 : decode cX12_tell 142 = .ok (.if_icmp .ne 40, 3) := by decide +kernel
theorem dX12_tell_145 : decode cX12_tell 145 = .ok (.aload_n 0, 1) := by decide +kernel
theorem dX12_tell_146 : decode cX12_tell 146 = .ok (.bipush 15, 2) := by decide +kernel
theorem dX12_tell_148 : decode cX12_tell 148 = .ok (.invokestatic 127, 3) := by decide +kernel
theorem dX12_tell_151 : decode cX12_tell 151 = .ok (.invokevirtual 348, 3) := by decide +kernel
theorem dX12_tell_154 : decode cX12_tell 154 = .ok (.aload_n 0, 1) := by decide +kernel
theorem dX12_tell_155 : decode cX12_tell 155 = .ok (.bipush 110, 2) := by decide +kernel
theorem dX12_tell_157 : decode cX12_tell 157 = .ok (.bipush 111, 2) := by decide +kernel
theorem dX12_tell_159 : decode cX12_tell 159 = .ok (.iconst 0, 1) := by decide +kernel
theorem dX12_tell_160 : decode cX12_tell 160 = .ok (.iconst 0, 1) := by decide +kernel
theorem dX12_tell_161 : decode cX12_tell 161 = .ok (.iconst 0, 1) := by decide +kernel
theorem dX12_tell_162 : decode cX12_tell 162 = .ok (.iconst 0, 1) := by decide +kernel
theorem dX12_tell_163 : decode cX12_tell 163 = .ok (.iconst 0, 1) := by decide +kernel
theorem dX12_tell_164 : decode cX12_tell 164 = .ok (.invokestatic 123, 3) := by decide +kernel
theorem dX12_tell_167 : decode cX12_tell 167 = .ok (.invokevirtual 348, 3) := by decide +kernel
theorem dX12_tell_170 : decode cX12_tell 170 = .ok (.aload_n 0, 1) := by decide +kernel
theorem dX12_tell_171 : decode cX12_tell 171 = .ok (.bipush 19, 2) := by decide +kernel
theorem dX12_tell_173 : decode cX12_tell 173 = .ok (.invokestatic 127, 3) := by decide +kernel
theorem dX12_tell_176 : decode cX12_tell 176 = .ok (.invokevirtual 348, 3) := by decide +kernel
theorem dX12_tell_179 : decode cX12_tell 179 = .ok (.goto 38, 3) := by decide +kernel
theorem dX12_tell_182 : decode cX12_tell 182 = .ok (.aload_n 0, 1) := by decide +kernel
theorem dX12_tell_183 : decode cX12_tell 183 = .ok (.aload_n 0, 1) := by decide +kernel
theorem dX12_tell_184 : decode cX12_tell 184 = .ok (.iload_n 1, 1) := by decide +kernel
theorem dX12_tell_185 : decode cX12_tell 185 = .ok (.invokevirtual 218, 3) := by decide +kernel
theorem dX12_tell_188 : decode cX12_tell 188 = .ok (.ifCond .eq 11, 3) := by decide +kernel
theorem dX12_tell_191 : decode cX12_tell 191 = .ok (.bipush 12, 2) := by decide +kernel
theorem dX12_tell_193 : decode cX12_tell 193 = .ok (.invokestatic 127, 3) := by decide +kernel
theorem dX12_tell_196 : decode cX12_tell 196 = .ok (.goto 18, 3) := by decide +kernel
theorem dX12_tell_199 : decode cX12_tell 199 = .ok (.bipush 119, 2) := by decide +kernel
theorem dX12_tell_201 : decode cX12_tell 201 = .ok (.bipush 97, 2) := by decide +kernel
theorem dX12_tell_203 : decode cX12_tell 203 = .ok (.bipush 105, 2) := by decide +kernel
theorem dX12_tell_205 : decode cX12_tell 205 = .ok (.bipush 116, 2) := by decide +kernel
theorem dX12_tell_207 : decode cX12_tell 207 = .ok (.bipush 115, 2) := by decide +kernel
theorem dX12_tell_209 : decode cX12_tell 209 = .ok (.iconst 0, 1) := by decide +kernel
theorem dX12_tell_210 : decode cX12_tell 210 = .ok (.iconst 0, 1) := by decide +kernel
theorem dX12_tell_211 : decode cX12_tell 211 = .ok (.invokestatic 123, 3) := by decide +kernel
theorem dX12_tell_214 : decode cX12_tell 214 = .ok (.invokevirtual 348, 3) := by decide +kernel
theorem dX12_tell_217 : decode cX12_tell 217 = .ok (.aload_n 0, 1) := by decide +kernel
theorem dX12_tell_218 : decode cX12_tell 218 = .ok (.getfield 335, 3) := by decide +kernel
theorem dX12_tell_221 : decode cX12_tell 221 = .ok (.ireturn, 1) := by decide +kernel
theorem dX12_byteAt_0 : decode cX12_byteAt 0 = .ok (.aload_n 0, 1) := by decide +kernel
theorem dX12_byteAt_1 : decode cX12_byteAt 1 = .ok (.iconst 0, 1) := by decide +kernel
theorem dX12_byteAt_2 : decode cX12_byteAt 2 = .ok (.putfield 73, 3) := by decide +kernel
theorem dX12_byteAt_5 : decode cX12_byteAt 5 = .ok (.iload_n 1, 1) := by decide +kernel
theorem dX12_byteAt_6 : decode cX12_byteAt 6 = .ok (.iconst 0, 1) := by decide +kernel
theorem dX12_byteAt_7 : decode cX12_byteAt 7 = .ok (.aload_n 0, 1) := by decide +kernel
theorem dX12_byteAt_8 : decode cX12_byteAt 8 = .ok (.getfield 335, 3) := by decide +kernel
theorem dX12_byteAt_11 : decode cX12_byteAt 11 = .ok (.iconst 1, 1) := by decide +kernel
theorem dX12_byteAt_12 : decode cX12_byteAt 12 = .ok (.isub, 1) := by decide +kernel
theorem dX12_byteAt_13 : decode cX12_byteAt 13 = .ok (.invokestatic 140, 3) := by decide +kernel
theorem dX12_byteAt_16 : decode cX12_byteAt 16 = .ok (.ifCond .eq 12, 3) := by decide +kernel
theorem dX12_byteAt_19 : decode cX12_byteAt 19 = .ok (.aload_n 0, 1) := by decide +kernel
theorem dX12_byteAt_20 : decode cX12_byteAt 20 = .ok (.getfield 61, 3) := by decide +kernel
theorem dX12_byteAt_23 : decode cX12_byteAt 23 = .ok (.iload_n 1, 1) := by decide +kernel
theorem dX12_byteAt_24 : decode cX12_byteAt 24 = .ok (.iaload, 1) := by decide +kernel
theorem dX12_byteAt_25 : decode cX12_byteAt 25 = .ok (.goto 4, 3) := by decide +kernel
theorem dX12_byteAt_28 : decode cX12_byteAt 28 = .ok (.iconst (-1), 1) := by decide +kernel
theorem dX12_byteAt_29 : decode cX12_byteAt 29 = .ok (.ireturn, 1) := by decide +kernel
theorem dX12_drawn_0 : decode cX12_drawn 0 = .ok (.aload_n 0, 1) := by decide +kernel
theorem dX12_drawn_1 : decode cX12_drawn 1 = .ok (.iconst 0, 1) := by decide +kernel
theorem dX12_drawn_2 : decode cX12_drawn 2 = .ok (.putfield 73, 3) := by decide +kernel
theorem dX12_drawn_5 : decode cX12_drawn 5 = .ok (.iload_n 1, 1) := by decide +kernel
theorem dX12_drawn_6 : decode cX12_drawn 6 = .ok (.iconst 1, 1) := by decide +kernel
theorem dX12_drawn_7 : decode cX12_drawn 7 = .ok (.bipush 60, 2) := by decide +kernel
theorem dX12_drawn_9 : decode cX12_drawn 9 = .ok (.invokestatic 140, 3) := by decide +kernel
theorem dX12_drawn_12 : decode cX12_drawn 12 = .ok (.ifCond .eq 12, 3) := by decide +kernel
theorem dX12_drawn_15 : decode cX12_drawn 15 = .ok (.aload_n 0, 1) := by decide +kernel
theorem dX12_drawn_16 : decode cX12_drawn 16 = .ok (.getfield 13, 3) := by decide +kernel
theorem dX12_drawn_19 : decode cX12_drawn 19 = .ok (.iconst 0, 1) := by decide +kernel
theorem dX12_drawn_20 : decode cX12_drawn 20 = .ok (.iaload, 1) := by decide +kernel
theorem dX12_drawn_21 : decode cX12_drawn 21 = .ok (.ifCond .ne 5, 3) := by decide +kernel
theorem dX12_drawn_24 : decode cX12_drawn 24 = .ok (.iconst (-1), 1) := by decide +kernel
theorem dX12_drawn_25 : decode cX12_drawn 25 = .ok (.ireturn, 1) := by decide +kernel
theorem dX12_drawn_26 : decode cX12_drawn 26 = .ok (.aload_n 0, 1) := by decide +kernel
theorem dX12_drawn_27 : decode cX12_drawn 27 = .ok (.getfield 13, 3) := by decide +kernel
theorem dX12_drawn_30 : decode cX12_drawn 30 = .ok (.bipush 77, 2) := by decide +kernel
theorem dX12_drawn_32 : decode cX12_drawn 32 = .ok (.iaload, 1) := by decide +kernel
theorem dX12_drawn_33 : decode cX12_drawn 33 = .ok (.sipush 1000, 3) := by decide +kernel
theorem dX12_drawn_36 : decode cX12_drawn 36 = .ok (.if_icmp .ne 5, 3) := by decide +kernel
theorem dX12_drawn_39 : decode cX12_drawn 39 = .ok (.iconst 0, 1) := by decide +kernel
theorem dX12_drawn_40 : decode cX12_drawn 40 = .ok (.ireturn, 1) := by decide +kernel
theorem dX12_drawn_41 : decode cX12_drawn 41 = .ok (.aload_n 0, 1) := by decide +kernel
theorem dX12_drawn_42 : decode cX12_drawn 42 = .ok (.invokevirtual 263, 3) := by decide +kernel
theorem dX12_drawn_45 : decode cX12_drawn 45 = .ok (.aload_n 0, 1) := by decide +kernel
theorem dX12_drawn_46 : decode cX12_drawn 46 = .ok (.iload_n 1, 1) := by decide +kernel
theorem dX12_drawn_47 : decode cX12_drawn 47 = .ok (.iload_n 2, 1) := by decide +kernel
theorem dX12_drawn_48 : decode cX12_drawn 48 = .ok (.invokevirtual 354, 3) := by decide +kernel
theorem dX12_drawn_51 : decode cX12_drawn 51 = .ok (.ireturn, 1) := by decide +kernel
theorem dX12_odds_0 : decode cX12_odds 0 = .ok (.aload_n 0, 1) := by decide +kernel
theorem dX12_odds_1 : decode cX12_odds 1 = .ok (.iconst 0, 1) := by decide +kernel
theorem dX12_odds_2 : decode cX12_odds 2 = .ok (.putfield 73, 3) := by decide +kernel
theorem dX12_odds_5 : decode cX12_odds 5 = .ok (.aload_n 0, 1) := by decide +kernel
theorem dX12_odds_6 : decode cX12_odds 6 = .ok (.iload_n 1, 1) := by decide +kernel
theorem dX12_odds_7 : decode cX12_odds 7 = .ok (.invokevirtual 221, 3) := by decide +kernel
theorem dX12_odds_10 : decode cX12_odds 10 = .ok (.ifCond .eq 13, 3) := by decide +kernel
theorem dX12_odds_13 : decode cX12_odds 13 = .ok (.iload_n 2, 1) := by decide +kernel
theorem dX12_odds_14 : decode cX12_odds 14 = .ok (.iconst 1, 1) := by decide +kernel
theorem dX12_odds_15 : decode cX12_odds 15 = .ok (.bipush 30, 2) := by decide +kernel
theorem dX12_odds_17 : decode cX12_odds 17 = .ok (.invokestatic 140, 3) := by decide +kernel
theorem dX12_odds_20 : decode cX12_odds 20 = .ok (.ifCond .ne 5, 3) := by decide +kernel
theorem dX12_odds_23 : decode cX12_odds 23 = .ok (.iconst (-1), 1) := by decide +kernel
theorem dX12_odds_24 : decode cX12_odds 24 = .ok (.ireturn, 1) := by decide +kernel
theorem dX12_odds_25 : decode cX12_odds 25 = .ok (.aload_n 0, 1) := by decide +kernel
theorem dX12_odds_26 : decode cX12_odds 26 = .ok (.invokevirtual 329, 3) := by decide +kernel
theorem dX12_odds_29 : decode cX12_odds 29 = .ok (.iconst 0, 1) := by decide +kernel
theorem dX12_odds_30 : decode cX12_odds 30 = .ok (.istore 4, 2) := by decide +kernel
theorem dX12_odds_32 : decode cX12_odds 32 = .ok (.iconst 0, 1) := by decide +kernel
theorem dX12_odds_33 : decode cX12_odds 33 = .ok (.istore 5, 2) := by decide +kernel
theorem dX12_odds_35 : decode cX12_odds 35 = .ok (.iload 5, 2) := by decide +kernel
theorem dX12_odds_37 : decode cX12_odds 37 = .ok (.iload_n 2, 1) := by decide +kernel
theorem dX12_odds_38 : decode cX12_odds 38 = .ok (.if_icmp .ge 35, 3) := by decide +kernel
theorem dX12_odds_41 : decode cX12_odds 41 = .ok (.aload_n 0, 1) := by decide +kernel
theorem dX12_odds_42 : decode cX12_odds 42 = .ok (.bipush 60, 2) := by decide +kernel
theorem dX12_odds_44 : decode cX12_odds 44 = .ok (.iload_n 3, 1) := by decide +kernel
theorem dX12_odds_45 : decode cX12_odds 45 = .ok (.iload 5, 2) := by decide +kernel
theorem dX12_odds_47 : decode cX12_odds 47 = .ok (.iadd, 1) := by decide +kernel
theorem dX12_odds_48 : decode cX12_odds 48 = .ok (.invokevirtual 354, 3) := by decide +kernel
theorem dX12_odds_51 : decode cX12_odds 51 = .ok (.pop, 1) := by decide +kernel
theorem dX12_odds_52 : decode cX12_odds 52 = .ok (.aload_n 0, 1) := by decide +kernel
theorem dX12_odds_53 : decode cX12_odds 53 = .ok (.iload_n 1, 1) := by decide +kernel
theorem dX12_odds_54 : decode cX12_odds 54 = .ok (.invokevirtual 218, 3) := by decide +kernel
theorem dX12_odds_57 : decode cX12_odds 57 = .ok (.ifCond .eq 6, 3) := by decide +kernel
theorem dX12_odds_60 : decode cX12_odds 60 = .ok (.iinc 4 1, 3) := by decide +kernel
theorem dX12_odds_63 : decode cX12_odds 63 = .ok (.aload_n 0, 1) := by decide +kernel
theorem dX12_odds_64 : decode cX12_odds 64 = .ok (.invokevirtual 326, 3) := by decide +kernel
theorem dX12_odds_67 : decode cX12_odds 67 = .ok (.iinc 5 1, 3) := by decide +kernel
theorem dX12_odds_70 : decode cX12_odds 70 = .ok (.goto (-35), 3) := by decide +kernel
theorem dX12_odds_73 : decode cX12_odds 73 = .ok (.iload 4, 2) := by decide +kernel
theorem dX12_odds_75 : decode cX12_odds 75 = .ok (.ireturn, 1) := by decide +kernel
theorem dX12_log_0 : decode cX12_log 0 = .ok (.aload_n 0, 1) := by decide +kernel
theorem dX12_log_1 : decode cX12_log 1 = .ok (.iconst 0, 1) := by decide +kernel
theorem dX12_log_2 : decode cX12_log 2 = .ok (.putfield 73, 3) := by decide +kernel
theorem dX12_log_5 : decode cX12_log 5 = .ok (.iload_n 1, 1) := by decide +kernel
theorem dX12_log_6 : decode cX12_log 6 = .ok (.iconst 0, 1) := by decide +kernel
theorem dX12_log_7 : decode cX12_log 7 = .ok (.iconst 1, 1) := by decide +kernel
theorem dX12_log_8 : decode cX12_log 8 = .ok (.invokestatic 140, 3) := by decide +kernel
theorem dX12_log_11 : decode cX12_log 11 = .ok (.ifCond .ne 7, 3) := by decide +kernel
theorem dX12_log_14 : decode cX12_log 14 = .ok (.sipush (-1000), 3) := by decide +kernel
theorem dX12_log_17 : decode cX12_log 17 = .ok (.ireturn, 1) := by decide +kernel
theorem dX12_log_18 : decode cX12_log 18 = .ok (.aload_n 0, 1) := by decide +kernel
theorem dX12_log_19 : decode cX12_log 19 = .ok (.sipush 400, 3) := by decide +kernel
theorem dX12_log_22 : decode cX12_log 22 = .ok (.invokevirtual 194, 3) := by decide +kernel
theorem dX12_log_25 : decode cX12_log 25 = .ok (.aload_n 0, 1) := by decide +kernel
theorem dX12_log_26 : decode cX12_log 26 = .ok (.iconst 0, 1) := by decide +kernel
theorem dX12_log_27 : decode cX12_log 27 = .ok (.putfield 360, 3) := by decide +kernel
theorem dX12_log_30 : decode cX12_log 30 = .ok (.aload_n 0, 1) := by decide +kernel
theorem dX12_log_31 : decode cX12_log 31 = .ok (.getfield 95, 3) := by decide +kernel
theorem dX12_log_34 : decode cX12_log 34 = .ok (.ifCond .eq 31, 3) := by decide +kernel
theorem dX12_log_37 : decode cX12_log 37 = .ok (.aload_n 0, 1) := by decide +kernel
theorem dX12_log_38 : decode cX12_log 38 = .ok (.invokevirtual 366, 3) := by decide +kernel
theorem dX12_log_41 : decode cX12_log 41 = .ok (.ifCond .ne 11, 3) := by decide +kernel
theorem dX12_log_44 : decode cX12_log 44 = .ok (.bipush (-2), 2) := by decide +kernel
theorem dX12_log_46 : decode cX12_log 46 = .ok (.aload_n 0, 1) := by decide +kernel
theorem dX12_log_47 : decode cX12_log 47 = .ok (.getfield 134, 3) := by decide +kernel
theorem dX12_log_50 : decode cX12_log 50 = .ok (.isub, 1) := by decide +kernel
theorem dX12_log_51 : decode cX12_log 51 = .ok (.ireturn, 1) := by decide +kernel
theorem dX12_log_52 : decode cX12_log 52 = .ok (.aload_n 0, 1) := by decide +kernel
theorem dX12_log_53 : decode cX12_log 53 = .ok (.dup, 1) := by decide +kernel
theorem dX12_log_54 : decode cX12_log 54 = .ok (.getfield 360, 3) := by decide +kernel
theorem dX12_log_57 : decode cX12_log 57 = .ok (.iconst 1, 1) := by decide +kernel
theorem dX12_log_58 : decode cX12_log 58 = .ok (.iadd, 1) := by decide +kernel
theorem dX12_log_59 : decode cX12_log 59 = .ok (.putfield 360, 3) := by decide +kernel
theorem dX12_log_62 : decode cX12_log 62 = .ok (.goto (-32), 3) := by decide +kernel
theorem dX12_log_65 : decode cX12_log 65 = .ok (.aload_n 0, 1) := by decide +kernel
theorem dX12_log_66 : decode cX12_log 66 = .ok (.invokevirtual 329, 3) := by decide +kernel
theorem dX12_log_69 : decode cX12_log 69 = .ok (.iconst 0, 1) := by decide +kernel
theorem dX12_log_70 : decode cX12_log 70 = .ok (.istore_n 2, 1) := by decide +kernel
theorem dX12_log_71 : decode cX12_log 71 = .ok (.iconst 0, 1) := by decide +kernel
theorem dX12_log_72 : decode cX12_log 72 = .ok (.istore_n 3, 1) := by decide +kernel
theorem dX12_log_73 : decode cX12_log 73 = .ok (.iload_n 2, 1) := by decide +kernel
theorem dX12_log_74 : decode cX12_log 74 = .ok (.aload_n 0, 1) := by decide +kernel
theorem dX12_log_75 : decode cX12_log 75 = .ok (.getfield 360, 3) := by decide +kernel
theorem dX12_log_78 : decode cX12_log 78 = .ok (.if_icmp .ge 25, 3) := by decide +kernel
theorem dX12_log_81 : decode cX12_log 81 = .ok (.iload_n 3, 1) := by decide +kernel
theorem dX12_log_82 : decode cX12_log 82 = .ok (.ifCond .ne 21, 3) := by decide +kernel
theorem dX12_log_85 : decode cX12_log 85 = .ok (.aload_n 0, 1) := by decide +kernel
theorem dX12_log_86 : decode cX12_log 86 = .ok (.iconst 3, 1) := by decide +kernel
theorem dX12_log_87 : decode cX12_log 87 = .ok (.iload_n 2, 1) := by decide +kernel
theorem dX12_log_88 : decode cX12_log 88 = .ok (.imul, 1) := by decide +kernel
theorem dX12_log_89 : decode cX12_log 89 = .ok (.invokevirtual 369, 3) := by decide +kernel
theorem dX12_log_92 : decode cX12_log 92 = .ok (.istore_n 3, 1) := by decide +kernel
theorem dX12_log_93 : decode cX12_log 93 = .ok (.iload_n 3, 1) := by decide +kernel
theorem dX12_log_94 : decode cX12_log 94 = .ok (.ifCond .ne (-21), 3) := by decide +kernel
theorem dX12_log_97 : decode cX12_log 97 = .ok (.iinc 2 1, 3) := by decide +kernel
theorem dX12_log_100 : decode cX12_log 100 = .ok (.goto (-27), 3) := by decide +kernel
theorem dX12_log_103 : decode cX12_log 103 = .ok (.aload_n 0, 1) := by decide +kernel
theorem dX12_log_104 : decode cX12_log 104 = .ok (.getfield 67, 3) := by decide +kernel
theorem dX12_log_107 : decode cX12_log 107 = .ok (.iconst 0, 1) := by decide +kernel
theorem dX12_log_108 : decode cX12_log 108 = .ok (.iload_n 3, 1) := by decide +kernel
theorem dX12_log_109 : decode cX12_log 109 = .ok (.iastore, 1) := by decide +kernel
theorem dX12_log_110 : decode cX12_log 110 = .ok (.aload_n 0, 1) := by decide +kernel
theorem dX12_log_111 : decode cX12_log 111 = .ok (.getfield 67, 3) := by decide +kernel
theorem dX12_log_114 : decode cX12_log 114 = .ok (.iconst 1, 1) := by decide +kernel
theorem dX12_log_115 : decode cX12_log 115 = .ok (.iload_n 2, 1) := by decide +kernel
theorem dX12_log_116 : decode cX12_log 116 = .ok (.iastore, 1) := by decide +kernel
theorem dX12_log_117 : decode cX12_log 117 = .ok (.aload_n 0, 1) := by decide +kernel
theorem dX12_log_118 : decode cX12_log 118 = .ok (.getfield 67, 3) := by decide +kernel
theorem dX12_log_121 : decode cX12_log 121 = .ok (.iconst 2, 1) := by decide +kernel
theorem dX12_log_122 : decode cX12_log 122 = .ok (.aload_n 0, 1) := by decide +kernel
theorem dX12_log_123 : decode cX12_log 123 = .ok (.getfield 13, 3) := by decide +kernel
theorem dX12_log_126 : decode cX12_log 126 = .ok (.bipush 77, 2) := by decide +kernel
theorem dX12_log_128 : decode cX12_log 128 = .ok (.iaload, 1) := by decide +kernel
theorem dX12_log_129 : decode cX12_log 129 = .ok (.iastore, 1) := by decide +kernel
theorem dX12_log_130 : decode cX12_log 130 = .ok (.aload_n 0, 1) := by decide +kernel
theorem dX12_log_131 : decode cX12_log 131 = .ok (.getfield 67, 3) := by decide +kernel
theorem dX12_log_134 : decode cX12_log 134 = .ok (.iconst 3, 1) := by decide +kernel
theorem dX12_log_135 : decode cX12_log 135 = .ok (.aload_n 0, 1) := by decide +kernel
theorem dX12_log_136 : decode cX12_log 136 = .ok (.invokevirtual 233, 3) := by decide +kernel
theorem dX12_log_139 : decode cX12_log 139 = .ok (.iastore, 1) := by decide +kernel
theorem dX12_log_140 : decode cX12_log 140 = .ok (.aload_n 0, 1) := by decide +kernel
theorem dX12_log_141 : decode cX12_log 141 = .ok (.iconst 1, 1) := by decide +kernel
theorem dX12_log_142 : decode cX12_log 142 = .ok (.putfield 372, 3) := by decide +kernel
theorem dX12_log_145 : decode cX12_log 145 = .ok (.aload_n 0, 1) := by decide +kernel
theorem dX12_log_146 : decode cX12_log 146 = .ok (.iload_n 1, 1) := by decide +kernel
theorem dX12_log_147 : decode cX12_log 147 = .ok (.iconst 1, 1) := by decide +kernel
theorem dX12_log_148 : decode cX12_log 148 = .ok (.if_icmp .ne 11, 3) := by decide +kernel
theorem dX12_log_151 : decode cX12_log 151 = .ok (.iload_n 2, 1) := by decide +kernel
theorem dX12_log_152 : decode cX12_log 152 = .ok (.ifCond .le 7, 3) := by decide +kernel
theorem dX12_log_155 : decode cX12_log 155 = .ok (.iconst 1, 1) := by decide +kernel
theorem dX12_log_156 : decode cX12_log 156 = .ok (.goto 4, 3) := by decide +kernel
theorem dX12_log_159 : decode cX12_log 159 = .ok (.iconst 0, 1) := by decide +kernel
theorem dX12_log_160 : decode cX12_log 160 = .ok (.invokevirtual 376, 3) := by decide +kernel
theorem dX12_log_163 : decode cX12_log 163 = .ok (.iload_n 3, 1) := by decide +kernel
theorem dX12_log_164 : decode cX12_log 164 = .ok (.ifCond .ne 7, 3) := by decide +kernel
theorem dX12_log_167 : decode cX12_log 167 = .ok (.iconst (-1), 1) := by decide +kernel
theorem dX12_log_168 : decode cX12_log 168 = .ok (.goto 4, 3) := by decide +kernel
theorem dX12_log_171 : decode cX12_log 171 = .ok (.iload_n 2, 1) := by decide +kernel
theorem dX12_log_172 : decode cX12_log 172 = .ok (.ireturn, 1) := by decide +kernel
theorem dX12_stay_0 : decode cX12_stay 0 = .ok (.iconst 0, 1) := by decide +kernel
theorem dX12_stay_1 : decode cX12_stay 1 = .ok (.istore_n 2, 1) := by decide +kernel
theorem dX12_stay_2 : decode cX12_stay 2 = .ok (.iload_n 2, 1) := by decide +kernel
theorem dX12_stay_3 : decode cX12_stay 3 = .ok (.bipush 60, 2) := by decide +kernel
theorem dX12_stay_5 : decode cX12_stay 5 = .ok (.if_icmp .ge 41, 3) := by decide +kernel
theorem dX12_stay_8 : decode cX12_stay 8 = .ok (.aload_n 0, 1) := by decide +kernel
theorem dX12_stay_9 : decode cX12_stay 9 = .ok (.getfield 13, 3) := by decide +kernel
theorem dX12_stay_12 : decode cX12_stay 12 = .ok (.bipush 77, 2) := by decide +kernel
theorem dX12_stay_14 : decode cX12_stay 14 = .ok (.iload_n 2, 1) := by decide +kernel
theorem dX12_stay_15 : decode cX12_stay 15 = .ok (.iadd, 1) := by decide +kernel
theorem dX12_stay_16 : decode cX12_stay 16 = .ok (.iaload, 1) := by decide +kernel
theorem dX12_stay_17 : decode cX12_stay 17 = .ok (.istore_n 3, 1) := by decide +kernel
theorem dX12_stay_18 : decode cX12_stay 18 = .ok (.aload_n 0, 1) := by decide +kernel
theorem dX12_stay_19 : decode cX12_stay 19 = .ok (.getfield 13, 3) := by decide +kernel
theorem dX12_stay_22 : decode cX12_stay 22 = .ok (.bipush 77, 2) := by decide +kernel
theorem dX12_stay_24 : decode cX12_stay 24 = .ok (.iload_n 2, 1) := by decide +kernel
theorem dX12_stay_25 : decode cX12_stay 25 = .ok (.iadd, 1) := by decide +kernel
theorem dX12_stay_26 : decode cX12_stay 26 = .ok (.aload_n 0, 1) := by decide +kernel
theorem dX12_stay_27 : decode cX12_stay 27 = .ok (.getfield 25, 3) := by decide +kernel
theorem dX12_stay_30 : decode cX12_stay 30 = .ok (.iload_n 2, 1) := by decide +kernel
theorem dX12_stay_31 : decode cX12_stay 31 = .ok (.iaload, 1) := by decide +kernel
theorem dX12_stay_32 : decode cX12_stay 32 = .ok (.iastore, 1) := by decide +kernel
theorem dX12_stay_33 : decode cX12_stay 33 = .ok (.aload_n 0, 1) := by decide +kernel
theorem dX12_stay_34 : decode cX12_stay 34 = .ok (.getfield 25, 3) := by decide +kernel
theorem dX12_stay_37 : decode cX12_stay 37 = .ok (.iload_n 2, 1) := by decide +kernel
theorem dX12_stay_38 : decode cX12_stay 38 = .ok (.iload_n 3, 1) := by decide +kernel
theorem dX12_stay_39 : decode cX12_stay 39 = .ok (.iastore, 1) := by decide +kernel
theorem dX12_stay_40 : decode cX12_stay 40 = .ok (.iinc 2 1, 3) := by decide +kernel
theorem dX12_stay_43 : decode cX12_stay 43 = .ok (.goto (-41), 3) := by decide +kernel
theorem dX12_stay_46 : decode cX12_stay 46 = .ok (.iload_n 1, 1) := by decide +kernel
theorem dX12_stay_47 : decode cX12_stay 47 = .ok (.ifCond .ne 4, 3) := by decide +kernel
theorem dX12_stay_50 : decode cX12_stay 50 = .ok (.return_, 1) := by decide +kernel
theorem dX12_stay_51 : decode cX12_stay 51 = .ok (.aload_n 0, 1) := by decide +kernel
theorem dX12_stay_52 : decode cX12_stay 52 = .ok (.invokevirtual 263, 3) := by decide +kernel
theorem dX12_stay_55 : decode cX12_stay 55 = .ok (.aload_n 0, 1) := by decide +kernel
theorem dX12_stay_56 : decode cX12_stay 56 = .ok (.invokevirtual 326, 3) := by decide +kernel
theorem dX12_stay_59 : decode cX12_stay 59 = .ok (.return_, 1) := by decide +kernel
theorem dX12_logged_0 : decode cX12_logged 0 = .ok (.aload_n 0, 1) := by decide +kernel
theorem dX12_logged_1 : decode cX12_logged 1 = .ok (.iconst 0, 1) := by decide +kernel
theorem dX12_logged_2 : decode cX12_logged 2 = .ok (.putfield 73, 3) := by decide +kernel
theorem dX12_logged_5 : decode cX12_logged 5 = .ok (.aload_n 0, 1) := by decide +kernel
theorem dX12_logged_6 : decode cX12_logged 6 = .ok (.getfield 372, 3) := by decide +kernel
theorem dX12_logged_9 : decode cX12_logged 9 = .ok (.ifCond .eq 21, 3) := by decide +kernel
theorem dX12_logged_12 : decode cX12_logged 12 = .ok (.iload_n 1, 1) := by decide +kernel
theorem dX12_logged_13 : decode cX12_logged 13 = .ok (.iconst 0, 1) := by decide +kernel
theorem dX12_logged_14 : decode cX12_logged 14 = .ok (.iconst 3, 1) := by decide +kernel
theorem dX12_logged_15 : decode cX12_logged 15 = .ok (.invokestatic 140, 3) := by decide +kernel
theorem dX12_logged_18 : decode cX12_logged 18 = .ok (.ifCond .eq 12, 3) := by decide +kernel
theorem dX12_logged_21 : decode cX12_logged 21 = .ok (.aload_n 0, 1) := by decide +kernel
theorem dX12_logged_22 : decode cX12_logged 22 = .ok (.getfield 67, 3) := by decide +kernel
theorem dX12_logged_25 : decode cX12_logged 25 = .ok (.iload_n 1, 1) := by decide +kernel
theorem dX12_logged_26 : decode cX12_logged 26 = .ok (.iaload, 1) := by decide +kernel
theorem dX12_logged_27 : decode cX12_logged 27 = .ok (.goto 4, 3) := by decide +kernel
theorem dX12_logged_30 : decode cX12_logged 30 = .ok (.iconst (-1), 1) := by decide +kernel
theorem dX12_logged_31 : decode cX12_logged 31 = .ok (.ireturn, 1) := by decide +kernel
theorem dX12_readOr_0 : decode cX12_readOr 0 = .ok (.aload_n 0, 1) := by decide +kernel
theorem dX12_readOr_1 : decode cX12_readOr 1 = .ok (.invokevirtual 383, 3) := by decide +kernel
theorem dX12_readOr_4 : decode cX12_readOr 4 = .ok (.ifCond .ne 5, 3) := by decide +kernel
theorem dX12_readOr_7 : decode cX12_readOr 7 = .ok (.iconst 0, 1) := by decide +kernel
theorem dX12_readOr_8 : decode cX12_readOr 8 = .ok (.ireturn, 1) := by decide +kernel
theorem dX12_readOr_9 : decode cX12_readOr 9 = .ok (.aload_n 0, 1) := by decide +kernel
theorem dX12_readOr_10 : decode cX12_readOr 10 = .ok (.getfield 386, 3) := by decide +kernel
theorem dX12_readOr_13 : decode cX12_readOr 13 = .ok (.istore_n 1, 1) := by decide +kernel
theorem dX12_readOr_14 : decode cX12_readOr 14 = .ok (.aload_n 0, 1) := by decide +kernel
theorem dX12_readOr_15 : decode cX12_readOr 15 = .ok (.bipush 9, 2) := by decide +kernel
theorem dX12_readOr_17 : decode cX12_readOr 17 = .ok (.invokevirtual 179, 3) := by decide +kernel
theorem dX12_readOr_20 : decode cX12_readOr 20 = .ok (.ifCond .eq 31, 3) := by decide +kernel
theorem dX12_readOr_23 : decode cX12_readOr 23 = .ok (.aload_n 0, 1) := by decide +kernel
theorem dX12_readOr_24 : decode cX12_readOr 24 = .ok (.invokevirtual 147, 3) := by decide +kernel
theorem dX12_readOr_27 : decode cX12_readOr 27 = .ok (.aload_n 0, 1) := by decide +kernel
theorem dX12_readOr_28 : decode cX12_readOr 28 = .ok (.invokevirtual 383, 3) := by decide +kernel
theorem dX12_readOr_31 : decode cX12_readOr 31 = .ok (.ifCond .ne 5, 3) := by decide +kernel
theorem dX12_readOr_34 : decode cX12_readOr 34 = .ok (.iconst 0, 1) := by decide +kernel
theorem dX12_readOr_35 : decode cX12_readOr 35 = .ok (.ireturn, 1) := by decide +kernel
theorem dX12_readOr_36 : decode cX12_readOr 36 = .ok (.aload_n 0, 1) := by decide +kernel
theorem dX12_readOr_37 : decode cX12_readOr 37 = .ok (.iconst 3, 1) := by decide +kernel
theorem dX12_readOr_38 : decode cX12_readOr 38 = .ok (.iload_n 1, 1) := by decide +kernel
theorem dX12_readOr_39 : decode cX12_readOr 39 = .ok (.aload_n 0, 1) := by decide +kernel
theorem dX12_readOr_40 : decode cX12_readOr 40 = .ok (.getfield 386, 3) := by decide +kernel
theorem dX12_readOr_43 : decode cX12_readOr 43 = .ok (.iconst 0, 1) := by decide +kernel
theorem dX12_readOr_44 : decode cX12_readOr 44 = .ok (.invokevirtual 389, 3) := by decide +kernel
theorem dX12_readOr_47 : decode cX12_readOr 47 = .ok (.istore_n 1, 1) := by decide +kernel
theorem dX12_readOr_48 : decode cX12_readOr 48 = .ok (.goto (-34), 3) := by decide +kernel
theorem dX12_readOr_51 : decode cX12_readOr 51 = .ok (.aload_n 0, 1) := by decide +kernel
theorem dX12_readOr_52 : decode cX12_readOr 52 = .ok (.iload_n 1, 1) := by decide +kernel
theorem dX12_readOr_53 : decode cX12_readOr 53 = .ok (.putfield 386, 3) := by decide +kernel
theorem dX12_readOr_56 : decode cX12_readOr 56 = .ok (.iconst 1, 1) := by decide +kernel
theorem dX12_readOr_57 : decode cX12_readOr 57 = .ok (.ireturn, 1) := by decide +kernel
theorem dX12_readAnd_0 : decode cX12_readAnd 0 = .ok (.aload_n 0, 1) := by decide +kernel
theorem dX12_readAnd_1 : decode cX12_readAnd 1 = .ok (.invokevirtual 393, 3) := by decide +kernel
theorem dX12_readAnd_4 : decode cX12_readAnd 4 = .ok (.ifCond .ne 5, 3) := by decide +kernel
theorem dX12_readAnd_7 : decode cX12_readAnd 7 = .ok (.iconst 0, 1) := by decide +kernel
theorem dX12_readAnd_8 : decode cX12_readAnd 8 = .ok (.ireturn, 1) := by decide +kernel
theorem dX12_readAnd_9 : decode cX12_readAnd 9 = .ok (.aload_n 0, 1) := by decide +kernel
theorem dX12_readAnd_10 : decode cX12_readAnd 10 = .ok (.getfield 386, 3) := by decide +kernel
theorem dX12_readAnd_13 : decode cX12_readAnd 13 = .ok (.istore_n 1, 1) := by decide +kernel
theorem dX12_readAnd_14 : decode cX12_readAnd 14 = .ok (.aload_n 0, 1) := by decide +kernel
theorem dX12_readAnd_15 : decode cX12_readAnd 15 = .ok (.bipush 10, 2) := by decide +kernel
theorem dX12_readAnd_17 : decode cX12_readAnd 17 = .ok (.invokevirtual 179, 3) := by decide +kernel
theorem dX12_readAnd_20 : decode cX12_readAnd 20 = .ok (.ifCond .eq 31, 3) := by decide +kernel
theorem dX12_readAnd_23 : decode cX12_readAnd 23 = .ok (.aload_n 0, 1) := by decide +kernel
theorem dX12_readAnd_24 : decode cX12_readAnd 24 = .ok (.invokevirtual 147, 3) := by decide +kernel
theorem dX12_readAnd_27 : decode cX12_readAnd 27 = .ok (.aload_n 0, 1) := by decide +kernel
theorem dX12_readAnd_28 : decode cX12_readAnd 28 = .ok (.invokevirtual 393, 3) := by decide +kernel
theorem dX12_readAnd_31 : decode cX12_readAnd 31 = .ok (.ifCond .ne 5, 3) := by decide +kernel
theorem dX12_readAnd_34 : decode cX12_readAnd 34 = .ok (.iconst 0, 1) := by decide +kernel
theorem dX12_readAnd_35 : decode cX12_readAnd 35 = .ok (.ireturn, 1) := by decide +kernel
theorem dX12_readAnd_36 : decode cX12_readAnd 36 = .ok (.aload_n 0, 1) := by decide +kernel
theorem dX12_readAnd_37 : decode cX12_readAnd 37 = .ok (.iconst 2, 1) := by decide +kernel
theorem dX12_readAnd_38 : decode cX12_readAnd 38 = .ok (.iload_n 1, 1) := by decide +kernel
theorem dX12_readAnd_39 : decode cX12_readAnd 39 = .ok (.aload_n 0, 1) := by decide +kernel
theorem dX12_readAnd_40 : decode cX12_readAnd 40 = .ok (.getfield 386, 3) := by decide +kernel
