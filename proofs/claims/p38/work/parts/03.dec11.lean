theorem dX11_tell_172 : decode cX11_tell 172 = .ok (.invokestatic 171, 3) := by decide +kernel
theorem dX11_tell_175 : decode cX11_tell 175 = .ok (.iconst 1, 1) := by decide +kernel
theorem dX11_tell_176 : decode cX11_tell 176 = .ok (.if_icmp .ne 9, 3) := by decide +kernel
theorem dX11_tell_179 : decode cX11_tell 179 = .ok (.ldc_w 351, 3) := by decide +kernel
theorem dX11_tell_182 : decode cX11_tell 182 = .ok (.goto 6, 3) := by decide +kernel
theorem dX11_tell_185 : decode cX11_tell 185 = .ok (.ldc_w 353, 3) := by decide +kernel
theorem dX11_tell_188 : decode cX11_tell 188 = .ok (.invokevirtual 340, 3) := by decide +kernel
theorem dX11_tell_191 : decode cX11_tell 191 = .ok (.goto 36, 3) := by decide +kernel
theorem dX11_tell_194 : decode cX11_tell 194 = .ok (.aload_n 0, 1) := by decide +kernel
theorem dX11_tell_195 : decode cX11_tell 195 = .ok (.getfield 71, 3) := by decide +kernel
theorem dX11_tell_198 : decode cX11_tell 198 = .ok (.ldc_w 355, 3) := by decide +kernel
theorem dX11_tell_201 : decode cX11_tell 201 = .ok (.invokevirtual 340, 3) := by decide +kernel
theorem dX11_tell_204 : decode cX11_tell 204 = .ok (.aload_n 0, 1) := by decide +kernel
theorem dX11_tell_205 : decode cX11_tell 205 = .ok (.getfield 71, 3) := by decide +kernel
theorem dX11_tell_208 : decode cX11_tell 208 = .ok (.aload_n 0, 1) := by decide +kernel
theorem dX11_tell_209 : decode cX11_tell 209 = .ok (.getfield 21, 3) := by decide +kernel
theorem dX11_tell_212 : decode cX11_tell 212 = .ok (.getfield 111, 3) := by decide +kernel
theorem dX11_tell_215 : decode cX11_tell 215 = .ok (.getfield 357, 3) := by decide +kernel
theorem dX11_tell_218 : decode cX11_tell 218 = .ok (.aload_n 0, 1) := by decide +kernel
theorem dX11_tell_219 : decode cX11_tell 219 = .ok (.iload_n 1, 1) := by decide +kernel
theorem dX11_tell_220 : decode cX11_tell 220 = .ok (.invokevirtual 360, 3) := by decide +kernel
theorem dX11_tell_223 : decode cX11_tell 223 = .ok (.laload, 1) := by decide +kernel
theorem dX11_tell_224 : decode cX11_tell 224 = .ok (.invokevirtual 334, 3) := by decide +kernel
theorem dX11_tell_227 : decode cX11_tell 227 = .ok (.aload_n 0, 1) := by decide +kernel
theorem dX11_tell_228 : decode cX11_tell 228 = .ok (.getfield 71, 3) := by decide +kernel
theorem dX11_tell_231 : decode cX11_tell 231 = .ok (.getfield 88, 3) := by decide +kernel
theorem dX11_tell_234 : decode cX11_tell 234 = .ok (.ireturn, 1) := by decide +kernel
theorem dX11_byteAt_0 : decode cX11_byteAt 0 = .ok (.aload_n 0, 1) := by decide +kernel
theorem dX11_byteAt_1 : decode cX11_byteAt 1 = .ok (.getfield 71, 3) := by decide +kernel
theorem dX11_byteAt_4 : decode cX11_byteAt 4 = .ok (.iload_n 1, 1) := by decide +kernel
theorem dX11_byteAt_5 : decode cX11_byteAt 5 = .ok (.invokevirtual 363, 3) := by decide +kernel
theorem dX11_byteAt_8 : decode cX11_byteAt 8 = .ok (.ireturn, 1) := by decide +kernel
theorem dX11_drawn_0 : decode cX11_drawn 0 = .ok (.iload_n 1, 1) := by decide +kernel
theorem dX11_drawn_1 : decode cX11_drawn 1 = .ok (.iconst 1, 1) := by decide +kernel
theorem dX11_drawn_2 : decode cX11_drawn 2 = .ok (.if_icmp .lt 22, 3) := by decide +kernel
theorem dX11_drawn_5 : decode cX11_drawn 5 = .ok (.iload_n 1, 1) := by decide +kernel
theorem dX11_drawn_6 : decode cX11_drawn 6 = .ok (.bipush 60, 2) := by decide +kernel
theorem dX11_drawn_8 : decode cX11_drawn 8 = .ok (.if_icmp .gt 16, 3) := by decide +kernel
theorem dX11_drawn_11 : decode cX11_drawn 11 = .ok (.aload_n 0, 1) := by decide +kernel
theorem dX11_drawn_12 : decode cX11_drawn 12 = .ok (.getfield 21, 3) := by decide +kernel
theorem dX11_drawn_15 : decode cX11_drawn 15 = .ok (.getfield 111, 3) := by decide +kernel
theorem dX11_drawn_18 : decode cX11_drawn 18 = .ok (.getfield 322, 3) := by decide +kernel
theorem dX11_drawn_21 : decode cX11_drawn 21 = .ok (.ifCond .ne 5, 3) := by decide +kernel
theorem dX11_drawn_24 : decode cX11_drawn 24 = .ok (.iconst (-1), 1) := by decide +kernel
theorem dX11_drawn_25 : decode cX11_drawn 25 = .ok (.ireturn, 1) := by decide +kernel
theorem dX11_drawn_26 : decode cX11_drawn 26 = .ok (.aload_n 0, 1) := by decide +kernel
theorem dX11_drawn_27 : decode cX11_drawn 27 = .ok (.getfield 32, 3) := by decide +kernel
theorem dX11_drawn_30 : decode cX11_drawn 30 = .ok (.aload_n 0, 1) := by decide +kernel
theorem dX11_drawn_31 : decode cX11_drawn 31 = .ok (.getfield 21, 3) := by decide +kernel
theorem dX11_drawn_34 : decode cX11_drawn 34 = .ok (.getfield 124, 3) := by decide +kernel
theorem dX11_drawn_37 : decode cX11_drawn 37 = .ok (.invokevirtual 232, 3) := by decide +kernel
theorem dX11_drawn_40 : decode cX11_drawn 40 = .ok (.aload_n 0, 1) := by decide +kernel
theorem dX11_drawn_41 : decode cX11_drawn 41 = .ok (.getfield 21, 3) := by decide +kernel
theorem dX11_drawn_44 : decode cX11_drawn 44 = .ok (.getfield 124, 3) := by decide +kernel
theorem dX11_drawn_47 : decode cX11_drawn 47 = .ok (.iload_n 2, 1) := by decide +kernel
theorem dX11_drawn_48 : decode cX11_drawn 48 = .ok (.putfield 243, 3) := by decide +kernel
theorem dX11_drawn_51 : decode cX11_drawn 51 = .ok (.aload_n 0, 1) := by decide +kernel
theorem dX11_drawn_52 : decode cX11_drawn 52 = .ok (.getfield 21, 3) := by decide +kernel
theorem dX11_drawn_55 : decode cX11_drawn 55 = .ok (.getfield 124, 3) := by decide +kernel
theorem dX11_drawn_58 : decode cX11_drawn 58 = .ok (.aload_n 0, 1) := by decide +kernel
theorem dX11_drawn_59 : decode cX11_drawn 59 = .ok (.getfield 21, 3) := by decide +kernel
theorem dX11_drawn_62 : decode cX11_drawn 62 = .ok (.getfield 111, 3) := by decide +kernel
theorem dX11_drawn_65 : decode cX11_drawn 65 = .ok (.iload_n 1, 1) := by decide +kernel
theorem dX11_drawn_66 : decode cX11_drawn 66 = .ok (.invokevirtual 366, 3) := by decide +kernel
theorem dX11_drawn_69 : decode cX11_drawn 69 = .ok (.istore_n 3, 1) := by decide +kernel
theorem dX11_drawn_70 : decode cX11_drawn 70 = .ok (.iload_n 3, 1) := by decide +kernel
theorem dX11_drawn_71 : decode cX11_drawn 71 = .ok (.ifCond .le 10, 3) := by decide +kernel
theorem dX11_drawn_74 : decode cX11_drawn 74 = .ok (.aload_n 0, 1) := by decide +kernel
theorem dX11_drawn_75 : decode cX11_drawn 75 = .ok (.getfield 32, 3) := by decide +kernel
theorem dX11_drawn_78 : decode cX11_drawn 78 = .ok (.invokevirtual 261, 3) := by decide +kernel
theorem dX11_drawn_81 : decode cX11_drawn 81 = .ok (.iload_n 3, 1) := by decide +kernel
theorem dX11_drawn_82 : decode cX11_drawn 82 = .ok (.ireturn, 1) := by decide +kernel
theorem dX11_odds_0 : decode cX11_odds 0 = .ok (.aload_n 0, 1) := by decide +kernel
theorem dX11_odds_1 : decode cX11_odds 1 = .ok (.iload_n 1, 1) := by decide +kernel
theorem dX11_odds_2 : decode cX11_odds 2 = .ok (.invokevirtual 146, 3) := by decide +kernel
theorem dX11_odds_5 : decode cX11_odds 5 = .ok (.ifCond .eq 14, 3) := by decide +kernel
theorem dX11_odds_8 : decode cX11_odds 8 = .ok (.iload_n 2, 1) := by decide +kernel
theorem dX11_odds_9 : decode cX11_odds 9 = .ok (.iconst 1, 1) := by decide +kernel
theorem dX11_odds_10 : decode cX11_odds 10 = .ok (.if_icmp .lt 9, 3) := by decide +kernel
theorem dX11_odds_13 : decode cX11_odds 13 = .ok (.iload_n 2, 1) := by decide +kernel
theorem dX11_odds_14 : decode cX11_odds 14 = .ok (.bipush 30, 2) := by decide +kernel
theorem dX11_odds_16 : decode cX11_odds 16 = .ok (.if_icmp .le 5, 3) := by decide +kernel
theorem dX11_odds_19 : decode cX11_odds 19 = .ok (.iconst (-1), 1) := by decide +kernel
theorem dX11_odds_20 : decode cX11_odds 20 = .ok (.ireturn, 1) := by decide +kernel
theorem dX11_odds_21 : decode cX11_odds 21 = .ok (.iconst 0, 1) := by decide +kernel
theorem dX11_odds_22 : decode cX11_odds 22 = .ok (.istore 4, 2) := by decide +kernel
theorem dX11_odds_24 : decode cX11_odds 24 = .ok (.iconst 0, 1) := by decide +kernel
theorem dX11_odds_25 : decode cX11_odds 25 = .ok (.istore 5, 2) := by decide +kernel
theorem dX11_odds_27 : decode cX11_odds 27 = .ok (.iload 5, 2) := by decide +kernel
theorem dX11_odds_29 : decode cX11_odds 29 = .ok (.iload_n 2, 1) := by decide +kernel
theorem dX11_odds_30 : decode cX11_odds 30 = .ok (.if_icmp .ge 74, 3) := by decide +kernel
theorem dX11_odds_33 : decode cX11_odds 33 = .ok (.aload_n 0, 1) := by decide +kernel
theorem dX11_odds_34 : decode cX11_odds 34 = .ok (.getfield 39, 3) := by decide +kernel
theorem dX11_odds_37 : decode cX11_odds 37 = .ok (.aload_n 0, 1) := by decide +kernel
theorem dX11_odds_38 : decode cX11_odds 38 = .ok (.getfield 21, 3) := by decide +kernel
theorem dX11_odds_41 : decode cX11_odds 41 = .ok (.getfield 124, 3) := by decide +kernel
theorem dX11_odds_44 : decode cX11_odds 44 = .ok (.invokevirtual 328, 3) := by decide +kernel
theorem dX11_odds_47 : decode cX11_odds 47 = .ok (.aload_n 0, 1) := by decide +kernel
theorem dX11_odds_48 : decode cX11_odds 48 = .ok (.getfield 39, 3) := by decide +kernel
theorem dX11_odds_51 : decode cX11_odds 51 = .ok (.iload_n 3, 1) := by decide +kernel
theorem dX11_odds_52 : decode cX11_odds 52 = .ok (.iload 5, 2) := by decide +kernel
theorem dX11_odds_54 : decode cX11_odds 54 = .ok (.iadd, 1) := by decide +kernel
theorem dX11_odds_55 : decode cX11_odds 55 = .ok (.putfield 243, 3) := by decide +kernel
theorem dX11_odds_58 : decode cX11_odds 58 = .ok (.aload_n 0, 1) := by decide +kernel
theorem dX11_odds_59 : decode cX11_odds 59 = .ok (.getfield 39, 3) := by decide +kernel
theorem dX11_odds_62 : decode cX11_odds 62 = .ok (.aload_n 0, 1) := by decide +kernel
theorem dX11_odds_63 : decode cX11_odds 63 = .ok (.getfield 21, 3) := by decide +kernel
theorem dX11_odds_66 : decode cX11_odds 66 = .ok (.getfield 111, 3) := by decide +kernel
theorem dX11_odds_69 : decode cX11_odds 69 = .ok (.bipush 60, 2) := by decide +kernel
theorem dX11_odds_71 : decode cX11_odds 71 = .ok (.invokevirtual 366, 3) := by decide +kernel
theorem dX11_odds_74 : decode cX11_odds 74 = .ok (.pop, 1) := by decide +kernel
theorem dX11_odds_75 : decode cX11_odds 75 = .ok (.iload 4, 2) := by decide +kernel
theorem dX11_odds_77 : decode cX11_odds 77 = .ok (.aload_n 0, 1) := by decide +kernel
theorem dX11_odds_78 : decode cX11_odds 78 = .ok (.getfield 39, 3) := by decide +kernel
theorem dX11_odds_81 : decode cX11_odds 81 = .ok (.aload_n 0, 1) := by decide +kernel
theorem dX11_odds_82 : decode cX11_odds 82 = .ok (.getfield 21, 3) := by decide +kernel
theorem dX11_odds_85 : decode cX11_odds 85 = .ok (.getfield 111, 3) := by decide +kernel
theorem dX11_odds_88 : decode cX11_odds 88 = .ok (.invokevirtual 182, 3) := by decide +kernel
theorem dX11_odds_91 : decode cX11_odds 91 = .ok (.iload_n 1, 1) := by decide +kernel
theorem dX11_odds_92 : decode cX11_odds 92 = .ok (.invokestatic 171, 3) := by decide +kernel
theorem dX11_odds_95 : decode cX11_odds 95 = .ok (.iadd, 1) := by decide +kernel
theorem dX11_odds_96 : decode cX11_odds 96 = .ok (.istore 4, 2) := by decide +kernel
theorem dX11_odds_98 : decode cX11_odds 98 = .ok (.iinc 5 1, 3) := by decide +kernel
theorem dX11_odds_101 : decode cX11_odds 101 = .ok (.goto (-74), 3) := by decide +kernel
theorem dX11_odds_104 : decode cX11_odds 104 = .ok (.iload 4, 2) := by decide +kernel
theorem dX11_odds_106 : decode cX11_odds 106 = .ok (.ireturn, 1) := by decide +kernel
theorem dX11_log_0 : decode cX11_log 0 = .ok (.iload_n 1, 1) := by decide +kernel
theorem dX11_log_1 : decode cX11_log 1 = .ok (.ifCond .lt 8, 3) := by decide +kernel
theorem dX11_log_4 : decode cX11_log 4 = .ok (.iload_n 1, 1) := by decide +kernel
theorem dX11_log_5 : decode cX11_log 5 = .ok (.iconst 1, 1) := by decide +kernel
theorem dX11_log_6 : decode cX11_log 6 = .ok (.if_icmp .le 7, 3) := by decide +kernel
theorem dX11_log_9 : decode cX11_log 9 = .ok (.sipush (-1000), 3) := by decide +kernel
theorem dX11_log_12 : decode cX11_log 12 = .ok (.ireturn, 1) := by decide +kernel
theorem dX11_log_13 : decode cX11_log 13 = .ok (.aload_n 0, 1) := by decide +kernel
theorem dX11_log_14 : decode cX11_log 14 = .ok (.getfield 53, 3) := by decide +kernel
theorem dX11_log_17 : decode cX11_log 17 = .ok (.aload_n 0, 1) := by decide +kernel
theorem dX11_log_18 : decode cX11_log 18 = .ok (.getfield 14, 3) := by decide +kernel
theorem dX11_log_21 : decode cX11_log 21 = .ok (.aload_n 0, 1) := by decide +kernel
theorem dX11_log_22 : decode cX11_log 22 = .ok (.getfield 21, 3) := by decide +kernel
theorem dX11_log_25 : decode cX11_log 25 = .ok (.getfield 111, 3) := by decide +kernel
theorem dX11_log_28 : decode cX11_log 28 = .ok (.invokevirtual 369, 3) := by decide +kernel
theorem dX11_log_31 : decode cX11_log 31 = .ok (.istore_n 2, 1) := by decide +kernel
theorem dX11_log_32 : decode cX11_log 32 = .ok (.aload_n 0, 1) := by decide +kernel
theorem dX11_log_33 : decode cX11_log 33 = .ok (.aload_n 0, 1) := by decide +kernel
theorem dX11_log_34 : decode cX11_log 34 = .ok (.getfield 53, 3) := by decide +kernel
theorem dX11_log_37 : decode cX11_log 37 = .ok (.getfield 373, 3) := by decide +kernel
theorem dX11_log_40 : decode cX11_log 40 = .ok (.invokevirtual 102, 3) := by decide +kernel
theorem dX11_log_43 : decode cX11_log 43 = .ok (.iload_n 2, 1) := by decide +kernel
theorem dX11_log_44 : decode cX11_log 44 = .ok (.ifCond .ne 17, 3) := by decide +kernel
theorem dX11_log_47 : decode cX11_log 47 = .ok (.bipush (-2), 2) := by decide +kernel
theorem dX11_log_49 : decode cX11_log 49 = .ok (.aload_n 0, 1) := by decide +kernel
theorem dX11_log_50 : decode cX11_log 50 = .ok (.getfield 53, 3) := by decide +kernel
theorem dX11_log_53 : decode cX11_log 53 = .ok (.getfield 373, 3) := by decide +kernel
theorem dX11_log_56 : decode cX11_log 56 = .ok (.getfield 106, 3) := by decide +kernel
theorem dX11_log_59 : decode cX11_log 59 = .ok (.isub, 1) := by decide +kernel
theorem dX11_log_60 : decode cX11_log 60 = .ok (.ireturn, 1) := by decide +kernel
theorem dX11_log_61 : decode cX11_log 61 = .ok (.aload_n 0, 1) := by decide +kernel
theorem dX11_log_62 : decode cX11_log 62 = .ok (.getfield 39, 3) := by decide +kernel
theorem dX11_log_65 : decode cX11_log 65 = .ok (.astore_n 3, 1) := by decide +kernel
theorem dX11_log_66 : decode cX11_log 66 = .ok (.iload_n 1, 1) := by decide +kernel
theorem dX11_log_67 : decode cX11_log 67 = .ok (.iconst 1, 1) := by decide +kernel
theorem dX11_log_68 : decode cX11_log 68 = .ok (.if_icmp .ne 35, 3) := by decide +kernel
theorem dX11_log_71 : decode cX11_log 71 = .ok (.aload_n 0, 1) := by decide +kernel
theorem dX11_log_72 : decode cX11_log 72 = .ok (.getfield 32, 3) := by decide +kernel
theorem dX11_log_75 : decode cX11_log 75 = .ok (.aload_n 0, 1) := by decide +kernel
theorem dX11_log_76 : decode cX11_log 76 = .ok (.getfield 21, 3) := by decide +kernel
theorem dX11_log_79 : decode cX11_log 79 = .ok (.getfield 124, 3) := by decide +kernel
theorem dX11_log_82 : decode cX11_log 82 = .ok (.invokevirtual 232, 3) := by decide +kernel
theorem dX11_log_85 : decode cX11_log 85 = .ok (.aload_n 0, 1) := by decide +kernel
theorem dX11_log_86 : decode cX11_log 86 = .ok (.getfield 32, 3) := by decide +kernel
theorem dX11_log_89 : decode cX11_log 89 = .ok (.invokevirtual 261, 3) := by decide +kernel
theorem dX11_log_92 : decode cX11_log 92 = .ok (.aload_n 0, 1) := by decide +kernel
theorem dX11_log_93 : decode cX11_log 93 = .ok (.getfield 21, 3) := by decide +kernel
theorem dX11_log_96 : decode cX11_log 96 = .ok (.getfield 124, 3) := by decide +kernel
theorem dX11_log_99 : decode cX11_log 99 = .ok (.astore_n 3, 1) := by decide +kernel
theorem dX11_log_100 : decode cX11_log 100 = .ok (.goto 14, 3) := by decide +kernel
theorem dX11_log_103 : decode cX11_log 103 = .ok (.aload_n 3, 1) := by decide +kernel
theorem dX11_log_104 : decode cX11_log 104 = .ok (.aload_n 0, 1) := by decide +kernel
theorem dX11_log_105 : decode cX11_log 105 = .ok (.getfield 21, 3) := by decide +kernel
theorem dX11_log_108 : decode cX11_log 108 = .ok (.getfield 124, 3) := by decide +kernel
theorem dX11_log_111 : decode cX11_log 111 = .ok (.invokevirtual 328, 3) := by decide +kernel
theorem dX11_log_114 : decode cX11_log 114 = .ok (.aload_n 0, 1) := by decide +kernel
theorem dX11_log_115 : decode cX11_log 115 = .ok (.getfield 53, 3) := by decide +kernel
theorem dX11_log_118 : decode cX11_log 118 = .ok (.aload_n 0, 1) := by decide +kernel
theorem dX11_log_119 : decode cX11_log 119 = .ok (.getfield 21, 3) := by decide +kernel
theorem dX11_log_122 : decode cX11_log 122 = .ok (.getfield 111, 3) := by decide +kernel
theorem dX11_log_125 : decode cX11_log 125 = .ok (.aload_n 3, 1) := by decide +kernel
theorem dX11_log_126 : decode cX11_log 126 = .ok (.invokevirtual 374, 3) := by decide +kernel
theorem dX11_log_129 : decode cX11_log 129 = .ok (.istore 4, 2) := by decide +kernel
theorem dX11_log_131 : decode cX11_log 131 = .ok (.aload_n 0, 1) := by decide +kernel
theorem dX11_log_132 : decode cX11_log 132 = .ok (.iconst 1, 1) := by decide +kernel
theorem dX11_log_133 : decode cX11_log 133 = .ok (.putfield 378, 3) := by decide +kernel
theorem dX11_log_136 : decode cX11_log 136 = .ok (.aload_n 0, 1) := by decide +kernel
theorem dX11_log_137 : decode cX11_log 137 = .ok (.getfield 78, 3) := by decide +kernel
theorem dX11_log_140 : decode cX11_log 140 = .ok (.iconst 0, 1) := by decide +kernel
theorem dX11_log_141 : decode cX11_log 141 = .ok (.aload_n 0, 1) := by decide +kernel
theorem dX11_log_142 : decode cX11_log 142 = .ok (.getfield 53, 3) := by decide +kernel
theorem dX11_log_145 : decode cX11_log 145 = .ok (.getfield 382, 3) := by decide +kernel
theorem dX11_log_148 : decode cX11_log 148 = .ok (.iastore, 1) := by decide +kernel
theorem dX11_log_149 : decode cX11_log 149 = .ok (.aload_n 0, 1) := by decide +kernel
theorem dX11_log_150 : decode cX11_log 150 = .ok (.getfield 78, 3) := by decide +kernel
theorem dX11_log_153 : decode cX11_log 153 = .ok (.iconst 1, 1) := by decide +kernel
theorem dX11_log_154 : decode cX11_log 154 = .ok (.iload 4, 2) := by decide +kernel
theorem dX11_log_156 : decode cX11_log 156 = .ok (.iastore, 1) := by decide +kernel
theorem dX11_log_157 : decode cX11_log 157 = .ok (.aload_n 0, 1) := by decide +kernel
theorem dX11_log_158 : decode cX11_log 158 = .ok (.getfield 78, 3) := by decide +kernel
theorem dX11_log_161 : decode cX11_log 161 = .ok (.iconst 2, 1) := by decide +kernel
theorem dX11_log_162 : decode cX11_log 162 = .ok (.aload_n 3, 1) := by decide +kernel
theorem dX11_log_163 : decode cX11_log 163 = .ok (.getfield 216, 3) := by decide +kernel
theorem dX11_log_166 : decode cX11_log 166 = .ok (.iastore, 1) := by decide +kernel
theorem dX11_log_167 : decode cX11_log 167 = .ok (.aload_n 0, 1) := by decide +kernel
theorem dX11_log_168 : decode cX11_log 168 = .ok (.getfield 78, 3) := by decide +kernel
theorem dX11_log_171 : decode cX11_log 171 = .ok (.iconst 3, 1) := by decide +kernel
theorem dX11_log_172 : decode cX11_log 172 = .ok (.aload_n 3, 1) := by decide +kernel
theorem dX11_log_173 : decode cX11_log 173 = .ok (.aload_n 0, 1) := by decide +kernel
theorem dX11_log_174 : decode cX11_log 174 = .ok (.getfield 21, 3) := by decide +kernel
theorem dX11_log_177 : decode cX11_log 177 = .ok (.getfield 111, 3) := by decide +kernel
theorem dX11_log_180 : decode cX11_log 180 = .ok (.invokevirtual 182, 3) := by decide +kernel
theorem dX11_log_183 : decode cX11_log 183 = .ok (.iastore, 1) := by decide +kernel
theorem dX11_log_184 : decode cX11_log 184 = .ok (.aload_n 0, 1) := by decide +kernel
theorem dX11_log_185 : decode cX11_log 185 = .ok (.getfield 53, 3) := by decide +kernel
theorem dX11_log_188 : decode cX11_log 188 = .ok (.getfield 382, 3) := by decide +kernel
theorem dX11_log_191 : decode cX11_log 191 = .ok (.ifCond .ne 7, 3) := by decide +kernel
theorem dX11_log_194 : decode cX11_log 194 = .ok (.iconst (-1), 1) := by decide +kernel
theorem dX11_log_195 : decode cX11_log 195 = .ok (.goto 5, 3) := by decide +kernel
theorem dX11_log_198 : decode cX11_log 198 = .ok (.iload 4, 2) := by decide +kernel
theorem dX11_log_200 : decode cX11_log 200 = .ok (.ireturn, 1) := by decide +kernel
theorem dX11_logged_0 : decode cX11_logged 0 = .ok (.aload_n 0, 1) := by decide +kernel
theorem dX11_logged_1 : decode cX11_logged 1 = .ok (.getfield 378, 3) := by decide +kernel
theorem dX11_logged_4 : decode cX11_logged 4 = .ok (.ifCond .eq 25, 3) := by decide +kernel
theorem dX11_logged_7 : decode cX11_logged 7 = .ok (.iload_n 1, 1) := by decide +kernel
theorem dX11_logged_8 : decode cX11_logged 8 = .ok (.ifCond .lt 21, 3) := by decide +kernel
theorem dX11_logged_11 : decode cX11_logged 11 = .ok (.iload_n 1, 1) := by decide +kernel
theorem dX11_logged_12 : decode cX11_logged 12 = .ok (.aload_n 0, 1) := by decide +kernel
theorem dX11_logged_13 : decode cX11_logged 13 = .ok (.getfield 78, 3) := by decide +kernel
theorem dX11_logged_16 : decode cX11_logged 16 = .ok (.arraylength, 1) := by decide +kernel
theorem dX11_logged_17 : decode cX11_logged 17 = .ok (.if_icmp .ge 12, 3) := by decide +kernel
theorem dX11_logged_20 : decode cX11_logged 20 = .ok (.aload_n 0, 1) := by decide +kernel
theorem dX11_logged_21 : decode cX11_logged 21 = .ok (.getfield 78, 3) := by decide +kernel
theorem dX11_logged_24 : decode cX11_logged 24 = .ok (.iload_n 1, 1) := by decide +kernel
theorem dX11_logged_25 : decode cX11_logged 25 = .ok (.iaload, 1) := by decide +kernel
theorem dX11_logged_26 : decode cX11_logged 26 = .ok (.goto 4, 3) := by decide +kernel
theorem dX11_logged_29 : decode cX11_logged 29 = .ok (.iconst (-1), 1) := by decide +kernel
theorem dX11_logged_30 : decode cX11_logged 30 = .ok (.ireturn, 1) := by decide +kernel
theorem dX11_sentence_0 : decode cX11_sentence 0 = .ok (.aload_n 0, 1) := by decide +kernel
theorem dX11_sentence_1 : decode cX11_sentence 1 = .ok (.getfield 60, 3) := by decide +kernel
theorem dX11_sentence_4 : decode cX11_sentence 4 = .ok (.aload_n 0, 1) := by decide +kernel
theorem dX11_sentence_5 : decode cX11_sentence 5 = .ok (.getfield 14, 3) := by decide +kernel
theorem dX11_sentence_8 : decode cX11_sentence 8 = .ok (.aload_n 0, 1) := by decide +kernel
theorem dX11_sentence_9 : decode cX11_sentence 9 = .ok (.getfield 21, 3) := by decide +kernel
theorem dX11_sentence_12 : decode cX11_sentence 12 = .ok (.getfield 111, 3) := by decide +kernel
theorem dX11_sentence_15 : decode cX11_sentence 15 = .ok (.invokevirtual 385, 3) := by decide +kernel
theorem dX11_sentence_18 : decode cX11_sentence 18 = .ok (.istore_n 1, 1) := by decide +kernel
theorem dX11_sentence_19 : decode cX11_sentence 19 = .ok (.aload_n 0, 1) := by decide +kernel
theorem dX11_sentence_20 : decode cX11_sentence 20 = .ok (.aload_n 0, 1) := by decide +kernel
theorem dX11_sentence_21 : decode cX11_sentence 21 = .ok (.getfield 60, 3) := by decide +kernel
theorem dX11_sentence_24 : decode cX11_sentence 24 = .ok (.getfield 388, 3) := by decide +kernel
theorem dX11_sentence_27 : decode cX11_sentence 27 = .ok (.invokevirtual 102, 3) := by decide +kernel
theorem dX11_sentence_30 : decode cX11_sentence 30 = .ok (.iload_n 1, 1) := by decide +kernel
theorem dX11_sentence_31 : decode cX11_sentence 31 = .ok (.ifCond .ne 16, 3) := by decide +kernel
theorem dX11_sentence_34 : decode cX11_sentence 34 = .ok (.iconst (-1), 1) := by decide +kernel
theorem dX11_sentence_35 : decode cX11_sentence 35 = .ok (.aload_n 0, 1) := by decide +kernel
theorem dX11_sentence_36 : decode cX11_sentence 36 = .ok (.getfield 60, 3) := by decide +kernel
theorem dX11_sentence_39 : decode cX11_sentence 39 = .ok (.getfield 388, 3) := by decide +kernel
theorem dX11_sentence_42 : decode cX11_sentence 42 = .ok (.getfield 106, 3) := by decide +kernel
theorem dX11_sentence_45 : decode cX11_sentence 45 = .ok (.isub, 1) := by decide +kernel
theorem dX11_sentence_46 : decode cX11_sentence 46 = .ok (.ireturn, 1) := by decide +kernel
theorem dX11_sentence_47 : decode cX11_sentence 47 = .ok (.aload_n 0, 1) := by decide +kernel
theorem dX11_sentence_48 : decode cX11_sentence 48 = .ok (.getfield 21, 3) := by decide +kernel
theorem dX11_sentence_51 : decode cX11_sentence 51 = .ok (.getfield 130, 3) := by decide +kernel
theorem dX11_sentence_54 : decode cX11_sentence 54 = .ok (.aload_n 0, 1) := by decide +kernel
theorem dX11_sentence_55 : decode cX11_sentence 55 = .ok (.getfield 60, 3) := by decide +kernel
theorem dX11_sentence_58 : decode cX11_sentence 58 = .ok (.getfield 389, 3) := by decide +kernel
theorem dX11_sentence_61 : decode cX11_sentence 61 = .ok (.invokevirtual 391, 3) := by decide +kernel
theorem dX11_sentence_64 : decode cX11_sentence 64 = .ok (.aload_n 0, 1) := by decide +kernel
theorem dX11_sentence_65 : decode cX11_sentence 65 = .ok (.getfield 21, 3) := by decide +kernel
theorem dX11_sentence_68 : decode cX11_sentence 68 = .ok (.getfield 130, 3) := by decide +kernel
theorem dX11_sentence_71 : decode cX11_sentence 71 = .ok (.getfield 394, 3) := by decide +kernel
theorem dX11_sentence_74 : decode cX11_sentence 74 = .ok (.ireturn, 1) := by decide +kernel
theorem dX11_said_0 : decode cX11_said 0 = .ok (.aload_n 0, 1) := by decide +kernel
theorem dX11_said_1 : decode cX11_said 1 = .ok (.getfield 21, 3) := by decide +kernel
theorem dX11_said_4 : decode cX11_said 4 = .ok (.getfield 130, 3) := by decide +kernel
theorem dX11_said_7 : decode cX11_said 7 = .ok (.getfield 394, 3) := by decide +kernel
theorem dX11_said_10 : decode cX11_said 10 = .ok (.ifCond .ne 5, 3) := by decide +kernel
theorem dX11_said_13 : decode cX11_said 13 = .ok (.iconst (-1), 1) := by decide +kernel
theorem dX11_said_14 : decode cX11_said 14 = .ok (.ireturn, 1) := by decide +kernel
theorem dX11_said_15 : decode cX11_said 15 = .ok (.aload_n 0, 1) := by decide +kernel
theorem dX11_said_16 : decode cX11_said 16 = .ok (.getfield 21, 3) := by decide +kernel
theorem dX11_said_19 : decode cX11_said 19 = .ok (.getfield 130, 3) := by decide +kernel
theorem dX11_said_22 : decode cX11_said 22 = .ok (.aload_n 0, 1) := by decide +kernel
theorem dX11_said_23 : decode cX11_said 23 = .ok (.getfield 21, 3) := by decide +kernel
theorem dX11_said_26 : decode cX11_said 26 = .ok (.getfield 111, 3) := by decide +kernel
theorem dX11_said_29 : decode cX11_said 29 = .ok (.aload_n 0, 1) := by decide +kernel
theorem dX11_said_30 : decode cX11_said 30 = .ok (.getfield 21, 3) := by decide +kernel
theorem dX11_said_33 : decode cX11_said 33 = .ok (.getfield 124, 3) := by decide +kernel
theorem dX11_said_36 : decode cX11_said 36 = .ok (.invokevirtual 397, 3) := by decide +kernel
theorem dX11_said_39 : decode cX11_said 39 = .ok (.istore_n 2, 1) := by decide +kernel
theorem dX11_said_40 : decode cX11_said 40 = .ok (.iload_n 1, 1) := by decide +kernel
theorem dX11_said_41 : decode cX11_said 41 = .ok (.iconst (-1), 1) := by decide +kernel
theorem dX11_said_42 : decode cX11_said 42 = .ok (.if_icmp .ne 8, 3) := by decide +kernel
theorem dX11_said_45 : decode cX11_said 45 = .ok (.iload_n 2, 1) := by decide +kernel
theorem dX11_said_46 : decode cX11_said 46 = .ok (.invokestatic 400, 3) := by decide +kernel
theorem dX11_said_49 : decode cX11_said 49 = .ok (.ireturn, 1) := by decide +kernel
theorem dX11_said_50 : decode cX11_said 50 = .ok (.iconst 0, 1) := by decide +kernel
theorem dX11_said_51 : decode cX11_said 51 = .ok (.istore_n 3, 1) := by decide +kernel
theorem dX11_said_52 : decode cX11_said 52 = .ok (.iconst 0, 1) := by decide +kernel
theorem dX11_said_53 : decode cX11_said 53 = .ok (.istore 4, 2) := by decide +kernel
theorem dX11_said_55 : decode cX11_said 55 = .ok (.iload 4, 2) := by decide +kernel
theorem dX11_said_57 : decode cX11_said 57 = .ok (.aload_n 0, 1) := by decide +kernel
theorem dX11_said_58 : decode cX11_said 58 = .ok (.getfield 21, 3) := by decide +kernel
theorem dX11_said_61 : decode cX11_said 61 = .ok (.getfield 111, 3) := by decide +kernel
theorem dX11_said_64 : decode cX11_said 64 = .ok (.getfield 322, 3) := by decide +kernel
theorem dX11_said_67 : decode cX11_said 67 = .ok (.if_icmp .ge 30, 3) := by decide +kernel
theorem dX11_said_70 : decode cX11_said 70 = .ok (.iload_n 2, 1) := by decide +kernel
theorem dX11_said_71 : decode cX11_said 71 = .ok (.iload 4, 2) := by decide +kernel
theorem dX11_said_73 : decode cX11_said 73 = .ok (.invokestatic 171, 3) := by decide +kernel
theorem dX11_said_76 : decode cX11_said 76 = .ok (.iconst 1, 1) := by decide +kernel
theorem dX11_said_77 : decode cX11_said 77 = .ok (.if_icmp .ne 14, 3) := by decide +kernel
theorem dX11_said_80 : decode cX11_said 80 = .ok (.iload_n 3, 1) := by decide +kernel
theorem dX11_said_81 : decode cX11_said 81 = .ok (.iload_n 1, 1) := by decide +kernel
theorem dX11_said_82 : decode cX11_said 82 = .ok (.if_icmp .ne 6, 3) := by decide +kernel
theorem dX11_said_85 : decode cX11_said 85 = .ok (.iload 4, 2) := by decide +kernel
theorem dX11_said_87 : decode cX11_said 87 = .ok (.ireturn, 1) := by decide +kernel
theorem dX11_said_88 : decode cX11_said 88 = .ok (.iinc 3 1, 3) := by decide +kernel
theorem dX11_said_91 : decode cX11_said 91 = .ok (.iinc 4 1, 3) := by decide +kernel
theorem dX11_said_94 : decode cX11_said 94 = .ok (.goto (-39), 3) := by decide +kernel
theorem dX11_said_97 : decode cX11_said 97 = .ok (.iconst (-1), 1) := by decide +kernel
theorem dX11_said_98 : decode cX11_said 98 = .ok (.ireturn, 1) := by decide +kernel
theorem dX11_image_0 : decode cX11_image 0 = .ok (.iload_n 1, 1) := by decide +kernel
theorem dX11_image_1 : decode cX11_image 1 = .ok (.ifCond .lt 8, 3) := by decide +kernel
theorem dX11_image_4 : decode cX11_image 4 = .ok (.iload_n 1, 1) := by decide +kernel
theorem dX11_image_5 : decode cX11_image 5 = .ok (.iconst 2, 1) := by decide +kernel
theorem dX11_image_6 : decode cX11_image 6 = .ok (.if_icmp .lt 5, 3) := by decide +kernel
theorem dX11_image_9 : decode cX11_image 9 = .ok (.iconst 0, 1) := by decide +kernel
theorem dX11_image_10 : decode cX11_image 10 = .ok (.ireturn, 1) := by decide +kernel
theorem dX11_image_11 : decode cX11_image 11 = .ok (.aload_n 0, 1) := by decide +kernel
theorem dX11_image_12 : decode cX11_image 12 = .ok (.getfield 25, 3) := by decide +kernel
theorem dX11_image_15 : decode cX11_image 15 = .ok (.iload_n 1, 1) := by decide +kernel
theorem dX11_image_16 : decode cX11_image 16 = .ok (.aaload, 1) := by decide +kernel
theorem dX11_image_17 : decode cX11_image 17 = .ok (.aload_n 0, 1) := by decide +kernel
theorem dX11_image_18 : decode cX11_image 18 = .ok (.getfield 21, 3) := by decide +kernel
theorem dX11_image_21 : decode cX11_image 21 = .ok (.invokevirtual 405, 3) := by decide +kernel
theorem dX11_image_24 : decode cX11_image 24 = .ok (.aload_n 0, 1) := by decide +kernel
theorem dX11_image_25 : decode cX11_image 25 = .ok (.getfield 25, 3) := by decide +kernel
theorem dX11_image_28 : decode cX11_image 28 = .ok (.iload_n 1, 1) := by decide +kernel
theorem dX11_image_29 : decode cX11_image 29 = .ok (.aaload, 1) := by decide +kernel
theorem dX11_image_30 : decode cX11_image 30 = .ok (.iconst 1, 1) := by decide +kernel
theorem dX11_image_31 : decode cX11_image 31 = .ok (.putfield 408, 3) := by decide +kernel
theorem dX11_image_34 : decode cX11_image 34 = .ok (.iconst 1, 1) := by decide +kernel
theorem dX11_image_35 : decode cX11_image 35 = .ok (.ireturn, 1) := by decide +kernel
theorem dX11_restore_0 : decode cX11_restore 0 = .ok (.iload_n 1, 1) := by decide +kernel
theorem dX11_restore_1 : decode cX11_restore 1 = .ok (.ifCond .lt 20, 3) := by decide +kernel
theorem dX11_restore_4 : decode cX11_restore 4 = .ok (.iload_n 1, 1) := by decide +kernel
theorem dX11_restore_5 : decode cX11_restore 5 = .ok (.iconst 2, 1) := by decide +kernel
theorem dX11_restore_6 : decode cX11_restore 6 = .ok (.if_icmp .ge 15, 3) := by decide +kernel
theorem dX11_restore_9 : decode cX11_restore 9 = .ok (.aload_n 0, 1) := by decide +kernel
theorem dX11_restore_10 : decode cX11_restore 10 = .ok (.getfield 25, 3) := by decide +kernel
theorem dX11_restore_13 : decode cX11_restore 13 = .ok (.iload_n 1, 1) := by decide +kernel
theorem dX11_restore_14 : decode cX11_restore 14 = .ok (.aaload, 1) := by decide +kernel
theorem dX11_restore_15 : decode cX11_restore 15 = .ok (.getfield 408, 3) := by decide +kernel
theorem dX11_restore_18 : decode cX11_restore 18 = .ok (.ifCond .ne 5, 3) := by decide +kernel
theorem dX11_restore_21 : decode cX11_restore 21 = .ok (.iconst 0, 1) := by decide +kernel
theorem dX11_restore_22 : decode cX11_restore 22 = .ok (.ireturn, 1) := by decide +kernel
theorem dX11_restore_23 : decode cX11_restore 23 = .ok (.aload_n 0, 1) := by decide +kernel
theorem dX11_restore_24 : decode cX11_restore 24 = .ok (.getfield 21, 3) := by decide +kernel
theorem dX11_restore_27 : decode cX11_restore 27 = .ok (.aload_n 0, 1) := by decide +kernel
theorem dX11_restore_28 : decode cX11_restore 28 = .ok (.getfield 25, 3) := by decide +kernel
theorem dX11_restore_31 : decode cX11_restore 31 = .ok (.iload_n 1, 1) := by decide +kernel
theorem dX11_restore_32 : decode cX11_restore 32 = .ok (.aaload, 1) := by decide +kernel
theorem dX11_restore_33 : decode cX11_restore 33 = .ok (.invokevirtual 405, 3) := by decide +kernel
theorem dX11_restore_36 : decode cX11_restore 36 = .ok (.aload_n 0, 1) := by decide +kernel
theorem dX11_restore_37 : decode cX11_restore 37 = .ok (.getfield 32, 3) := by decide +kernel
theorem dX11_restore_40 : decode cX11_restore 40 = .ok (.invokevirtual 139, 3) := by decide +kernel
theorem dX11_restore_43 : decode cX11_restore 43 = .ok (.iconst 1, 1) := by decide +kernel
theorem dX11_restore_44 : decode cX11_restore 44 = .ok (.ireturn, 1) := by decide +kernel
theorem dX11_count_0 : decode cX11_count 0 = .ok (.iload_n 1, 1) := by decide +kernel
theorem dX11_count_1 : decode cX11_count 1 = .ok (.tableswitch 72 0 3 #[31, 42, 53, 64], 31) := by decide +kernel
theorem dX11_count_32 : decode cX11_count 32 = .ok (.aload_n 0, 1) := by decide +kernel
theorem dX11_count_33 : decode cX11_count 33 = .ok (.getfield 21, 3) := by decide +kernel
theorem dX11_count_36 : decode cX11_count 36 = .ok (.getfield 111, 3) := by decide +kernel
theorem dX11_count_39 : decode cX11_count 39 = .ok (.getfield 322, 3) := by decide +kernel
theorem dX11_count_42 : decode cX11_count 42 = .ok (.ireturn, 1) := by decide +kernel
theorem dX11_count_43 : decode cX11_count 43 = .ok (.aload_n 0, 1) := by decide +kernel
theorem dX11_count_44 : decode cX11_count 44 = .ok (.getfield 21, 3) := by decide +kernel
theorem dX11_count_47 : decode cX11_count 47 = .ok (.getfield 111, 3) := by decide +kernel
theorem dX11_count_50 : decode cX11_count 50 = .ok (.getfield 316, 3) := by decide +kernel
theorem dX11_count_53 : decode cX11_count 53 = .ok (.ireturn, 1) := by decide +kernel
theorem dX11_count_54 : decode cX11_count 54 = .ok (.aload_n 0, 1) := by decide +kernel
theorem dX11_count_55 : decode cX11_count 55 = .ok (.getfield 21, 3) := by decide +kernel
theorem dX11_count_58 : decode cX11_count 58 = .ok (.getfield 111, 3) := by decide +kernel
theorem dX11_count_61 : decode cX11_count 61 = .ok (.getfield 411, 3) := by decide +kernel
theorem dX11_count_64 : decode cX11_count 64 = .ok (.ireturn, 1) := by decide +kernel
theorem dX11_count_65 : decode cX11_count 65 = .ok (.aload_n 0, 1) := by decide +kernel
theorem dX11_count_66 : decode cX11_count 66 = .ok (.getfield 14, 3) := by decide +kernel
theorem dX11_count_69 : decode cX11_count 69 = .ok (.getfield 88, 3) := by decide +kernel
theorem dX11_count_72 : decode cX11_count 72 = .ok (.ireturn, 1) := by decide +kernel
theorem dX11_count_73 : decode cX11_count 73 = .ok (.iconst (-1), 1) := by decide +kernel
theorem dX11_count_74 : decode cX11_count 74 = .ok (.ireturn, 1) := by decide +kernel
theorem dX11_isThing_0 : decode cX11_isThing 0 = .ok (.iload_n 1, 1) := by decide +kernel
theorem dX11_isThing_1 : decode cX11_isThing 1 = .ok (.ifCond .lt 21, 3) := by decide +kernel
