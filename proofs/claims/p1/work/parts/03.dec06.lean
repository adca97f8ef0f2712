theorem dX11_odds_81 : decode cX11_odds 81 = .ok (.aload_n 0, 1) := by decide +kernel
theorem dX11_odds_82 : decode cX11_odds 82 = .ok (.getfield 21, 3) := by decide +kernel
theorem dX11_odds_85 : decode cX11_odds 85 = .ok (.getfield 111, 3) := by decide +kernel
theorem dX11_odds_88 : decode cX11_odds 88 = .ok (.invokevirtual 182, 3) := by decide +kernel
theorem dX11_odds_91 : decode cX11_odds 91 = .ok (.iload_n 1, 1) := by decide +kernel
theorem dX11_odds_92 : decode cX11_odds 92 = .ok (.invokestatic 171, 3) := by decide +kernel
theorem dX11_odds_95 : decode cX11_odds 95 = .ok (.iadd, 1) := by decide +kernel
theorem dX11_odds_96 : decode cX11_odds 96 = .ok (.istore 4, 2) := by decide +kernel
theorem dX11_odds_98 : decode cX11_odds 98 = .ok (.iinc 5 1, 3) := by decide +kernel
theorem dX11_odds_101 : decode cX11_odds 101 = .ok (.goto (-74), 3) := by decide +kernel
theorem dX11_odds_104 : decode cX11_odds 104 = .ok (.iload 4, 2) := by decide +kernel
theorem dX11_odds_106 : decode cX11_odds 106 = .ok (.ireturn, 1) := by decide +kernel
theorem dX11_log_0 : decode cX11_log 0 = .ok (.iload_n 1, 1) := by decide +kernel
theorem dX11_log_1 : decode cX11_log 1 = .ok (.ifCond .lt 8, 3) := by decide +kernel
theorem dX11_log_4 : decode cX11_log 4 = .ok (.iload_n 1, 1) := by decide +kernel
theorem dX11_log_5 : decode cX11_log 5 = .ok (.iconst 1, 1) := by decide +kernel
theorem dX11_log_6 : decode cX11_log 6 = .ok (.if_icmp .le 7, 3) := by decide +kernel
theorem dX11_log_9 : decode cX11_log 9 = .ok (.sipush (-1000), 3) := by decide +kernel
theorem dX11_log_12 : decode cX11_log 12 = .ok (.ireturn, 1) := by decide +kernel
theorem dX11_log_13 : decode cX11_log 13 = .ok (.aload_n 0, 1) := by decide +kernel
theorem dX11_log_14 : decode cX11_log 14 = .ok (.getfield 53, 3) := by decide +kernel
theorem dX11_log_17 : decode cX11_log 17 = .ok (.aload_n 0, 1) := by decide +kernel
theorem dX11_log_18 : decode cX11_log 18 = .ok (.getfield 14, 3) := by decide +kernel
theorem dX11_log_21 : decode cX11_log 21 = .ok (.aload_n 0, 1) := by decide +kernel
theorem dX11_log_22 : decode cX11_log 22 = .ok (.getfield 21, 3) := by decide +kernel
theorem dX11_log_25 : decode cX11_log 25 = .ok (.getfield 111, 3) := by decide +kernel
theorem dX11_log_28 : decode cX11_log 28 = .ok (.invokevirtual 369, 3) := by decide +kernel
theorem dX11_log_31 : decode cX11_log 31 = .ok (.istore_n 2, 1) := by decide +kernel
theorem dX11_log_32 : decode cX11_log 32 = .ok (.aload_n 0, 1) := by decide +kernel
theorem dX11_log_33 : decode cX11_log 33 = .ok (.aload_n 0, 1) := by decide +kernel
theorem dX11_log_34 : decode cX11_log 34 = .ok (.getfield 53, 3) := by decide +kernel
theorem dX11_log_37 : decode cX11_log 37 = .ok (.getfield 373, 3) := by decide +kernel
theorem dX11_log_40 : decode cX11_log 40 = .ok (.invokevirtual 102, 3) := by decide +kernel
theorem dX11_log_43 : decode cX11_log 43 = .ok (.iload_n 2, 1) := by decide +kernel
theorem dX11_log_44 : decode cX11_log 44 = .ok (.ifCond .ne 17, 3) := by decide +kernel
theorem dX11_log_47 : decode cX11_log 47 = .ok (.bipush (-2), 2) := by decide +kernel
theorem dX11_log_49 : decode cX11_log 49 = .ok (.aload_n 0, 1) := by decide +kernel
theorem dX11_log_50 : decode cX11_log 50 = .ok (.getfield 53, 3) := by decide +kernel
theorem dX11_log_53 : decode cX11_log 53 = .ok (.getfield 373, 3) := by decide +kernel
theorem dX11_log_56 : decode cX11_log 56 = .ok (.getfield 106, 3) := by decide +kernel
theorem dX11_log_59 : decode cX11_log 59 = .ok (.isub, 1) := by decide +kernel
theorem dX11_log_60 : decode cX11_log 60 = .ok (.ireturn, 1) := by decide +kernel
theorem dX11_log_61 : decode cX11_log 61 = .ok (.aload_n 0, 1) := by decide +kernel
theorem dX11_log_62 : decode cX11_log 62 = .ok (.getfield 39, 3) := by decide +kernel
theorem dX11_log_65 : decode cX11_log 65 = .ok (.astore_n 3, 1) := by decide +kernel
theorem dX11_log_66 : decode cX11_log 66 = .ok (.iload_n 1, 1) := by decide +kernel
theorem dX11_log_67 : decode cX11_log 67 = .ok (.iconst 1, 1) := by decide +kernel
theorem dX11_log_68 : decode cX11_log 68 = .ok (.if_icmp .ne 35, 3) := by decide +kernel
theorem dX11_log_71 : decode cX11_log 71 = .ok (.aload_n 0, 1) := by decide +kernel
theorem dX11_log_72 : decode cX11_log 72 = .ok (.getfield 32, 3) := by decide +kernel
theorem dX11_log_75 : decode cX11_log 75 = .ok (.aload_n 0, 1) := by decide +kernel
theorem dX11_log_76 : decode cX11_log 76 = .ok (.getfield 21, 3) := by decide +kernel
theorem dX11_log_79 : decode cX11_log 79 = .ok (.getfield 124, 3) := by decide +kernel
theorem dX11_log_82 : decode cX11_log 82 = .ok (.invokevirtual 232, 3) := by decide +kernel
theorem dX11_log_85 : decode cX11_log 85 = .ok (.aload_n 0, 1) := by decide +kernel
theorem dX11_log_86 : decode cX11_log 86 = .ok (.getfield 32, 3) := by decide +kernel
theorem dX11_log_89 : decode cX11_log 89 = .ok (.invokevirtual 261, 3) := by decide +kernel
theorem dX11_log_92 : decode cX11_log 92 = .ok (.aload_n 0, 1) := by decide +kernel
theorem dX11_log_93 : decode cX11_log 93 = .ok (.getfield 21, 3) := by decide +kernel
theorem dX11_log_96 : decode cX11_log 96 = .ok (.getfield 124, 3) := by decide +kernel
theorem dX11_log_99 : decode cX11_log 99 = .ok (.astore_n 3, 1) := by decide +kernel
theorem dX11_log_100 : decode cX11_log 100 = .ok (.goto 14, 3) := by decide +kernel
theorem dX11_log_103 : decode cX11_log 103 = .ok (.aload_n 3, 1) := by decide +kernel
theorem dX11_log_104 : decode cX11_log 104 = .ok (.aload_n 0, 1) := by decide +kernel
theorem dX11_log_105 : decode cX11_log 105 = .ok (.getfield 21, 3) := by decide +kernel
theorem dX11_log_108 : decode cX11_log 108 = .ok (.getfield 124, 3) := by decide +kernel
theorem dX11_log_111 : decode cX11_log 111 = .ok (.invokevirtual 328, 3) := by decide +kernel
theorem dX11_log_114 : decode cX11_log 114 = .ok (.aload_n 0, 1) := by decide +kernel
theorem dX11_log_115 : decode cX11_log 115 = .ok (.getfield 53, 3) := by decide +kernel
theorem dX11_log_118 : decode cX11_log 118 = .ok (.aload_n 0, 1) := by decide +kernel
theorem dX11_log_119 : decode cX11_log 119 = .ok (.getfield 21, 3) := by decide +kernel
theorem dX11_log_122 : decode cX11_log 122 = .ok (.getfield 111, 3) := by decide +kernel
theorem dX11_log_125 : decode cX11_log 125 = .ok (.aload_n 3, 1) := by decide +kernel
theorem dX11_log_126 : decode cX11_log 126 = .ok (.invokevirtual 374, 3) := by decide +kernel
theorem dX11_log_129 : decode cX11_log 129 = .ok (.istore 4, 2) := by decide +kernel
theorem dX11_log_131 : decode cX11_log 131 = .ok (.aload_n 0, 1) := by decide +kernel
theorem dX11_log_132 : decode cX11_log 132 = .ok (.iconst 1, 1) := by decide +kernel
theorem dX11_log_133 : decode cX11_log 133 = .ok (.putfield 378, 3) := by decide +kernel
theorem dX11_log_136 : decode cX11_log 136 = .ok (.aload_n 0, 1) := by decide +kernel
theorem dX11_log_137 : decode cX11_log 137 = .ok (.getfield 78, 3) := by decide +kernel
theorem dX11_log_140 : decode cX11_log 140 = .ok (.iconst 0, 1) := by decide +kernel
theorem dX11_log_141 : decode cX11_log 141 = .ok (.aload_n 0, 1) := by decide +kernel
theorem dX11_log_142 : decode cX11_log 142 = .ok (.getfield 53, 3) := by decide +kernel
theorem dX11_log_145 : decode cX11_log 145 = .ok (.getfield 382, 3) := by decide +kernel
theorem dX11_log_148 : decode cX11_log 148 = .ok (.iastore, 1) := by decide +kernel
theorem dX11_log_149 : decode cX11_log 149 = .ok (.aload_n 0, 1) := by decide +kernel
theorem dX11_log_150 : decode cX11_log 150 = .ok (.getfield 78, 3) := by decide +kernel
theorem dX11_log_153 : decode cX11_log 153 = .ok (.iconst 1, 1) := by decide +kernel
theorem dX11_log_154 : decode cX11_log 154 = .ok (.iload 4, 2) := by decide +kernel
theorem dX11_log_156 : decode cX11_log 156 = .ok (.iastore, 1) := by decide +kernel
theorem dX11_log_157 : decode cX11_log 157 = .ok (.aload_n 0, 1) := by decide +kernel
theorem dX11_log_158 : decode cX11_log 158 = .ok (.getfield 78, 3) := by decide +kernel
theorem dX11_log_161 : decode cX11_log 161 = .ok (.iconst 2, 1) := by decide +kernel
theorem dX11_log_162 : decode cX11_log 162 = .ok (.aload_n 3, 1) := by decide +kernel
theorem dX11_log_163 : decode cX11_log 163 = .ok (.getfield 216, 3) := by decide +kernel
theorem dX11_log_166 : decode cX11_log 166 = .ok (.iastore, 1) := by decide +kernel
theorem dX11_log_167 : decode cX11_log 167 = .ok (.aload_n 0, 1) := by decide +kernel
theorem dX11_log_168 : decode cX11_log 168 = .ok (.getfield 78, 3) := by decide +kernel
theorem dX11_log_171 : decode cX11_log 171 = .ok (.iconst 3, 1) := by decide +kernel
theorem dX11_log_172 : decode cX11_log 172 = .ok (.aload_n 3, 1) := by decide +kernel
theorem dX11_log_173 : decode cX11_log 173 = .ok (.aload_n 0, 1) := by decide +kernel
theorem dX11_log_174 : decode cX11_log 174 = .ok (.getfield 21, 3) := by decide +kernel
theorem dX11_log_177 : decode cX11_log 177 = .ok (.getfield 111, 3) := by decide +kernel
theorem dX11_log_180 : decode cX11_log 180 = .ok (.invokevirtual 182, 3) := by decide +kernel
theorem dX11_log_183 : decode cX11_log 183 = .ok (.iastore, 1) := by decide +kernel
theorem dX11_log_184 : decode cX11_log 184 = .ok (.aload_n 0, 1) := by decide +kernel
theorem dX11_log_185 : decode cX11_log 185 = .ok (.getfield 53, 3) := by decide +kernel
theorem dX11_log_188 : decode cX11_log 188 = .ok (.getfield 382, 3) := by decide +kernel
theorem dX11_log_191 : decode cX11_log 191 = .ok (.ifCond .ne 7, 3) := by decide +kernel
theorem dX11_log_194 : decode cX11_log 194 = .ok (.iconst (-1), 1) := by decide +kernel
theorem dX11_log_195 : decode cX11_log 195 = .ok (.goto 5, 3) := by decide +kernel
theorem dX11_log_198 : decode cX11_log 198 = .ok (.iload 4, 2) := by decide +kernel
theorem dX11_log_200 : decode cX11_log 200 = .ok (.ireturn, 1) := by decide +kernel
theorem dX11_logged_0 : decode cX11_logged 0 = .ok (.aload_n 0, 1) := by decide +kernel
theorem dX11_logged_1 : decode cX11_logged 1 = .ok (.getfield 378, 3) := by decide +kernel
theorem dX11_logged_4 : decode cX11_logged 4 = .ok (.ifCond .eq 25, 3) := by decide +kernel
theorem dX11_logged_7 : decode cX11_logged 7 = .ok (.iload_n 1, 1) := by decide +kernel
theorem dX11_logged_8 : decode cX11_logged 8 = .ok (.ifCond .lt 21, 3) := by decide +kernel
theorem dX11_logged_11 : decode cX11_logged 11 = .ok (.iload_n 1, 1) := by decide +kernel
theorem dX11_logged_12 : decode cX11_logged 12 = .ok (.aload_n 0, 1) := by decide +kernel
theorem dX11_logged_13 : decode cX11_logged 13 = .ok (.getfield 78, 3) := by decide +kernel
theorem dX11_logged_16 : decode cX11_logged 16 = .ok (.arraylength, 1) := by decide +kernel
theorem dX11_logged_17 : decode cX11_logged 17 = .ok (.if_icmp .ge 12, 3) := by decide +kernel
theorem dX11_logged_20 : decode cX11_logged 20 = .ok (.aload_n 0, 1) := by decide +kernel
theorem dX11_logged_21 : decode cX11_logged 21 = .ok (.getfield 78, 3) := by decide +kernel
theorem dX11_logged_24 : decode cX11_logged 24 = .ok (.iload_n 1, 1) := by decide +kernel
theorem dX11_logged_25 : decode cX11_logged 25 = .ok (.iaload, 1) := by decide +kernel
theorem dX11_logged_26 : decode cX11_logged 26 = .ok (.goto 4, 3) := by decide +kernel
theorem dX11_logged_29 : decode cX11_logged 29 = .ok (.iconst (-1), 1) := by decide +kernel
theorem dX11_logged_30 : decode cX11_logged 30 = .ok (.ireturn, 1) := by decide +kernel
theorem dX11_sentence_0 : decode cX11_sentence 0 = .ok (.aload_n 0, 1) := by decide +kernel
theorem dX11_sentence_1 : decode cX11_sentence 1 = .ok (.getfield 60, 3) := by decide +kernel
theorem dX11_sentence_4 : decode cX11_sentence 4 = .ok (.aload_n 0, 1) := by decide +kernel
theorem dX11_sentence_5 : decode cX11_sentence 5 = .ok (.getfield 14, 3) := by decide +kernel
theorem dX11_sentence_8 : decode cX11_sentence 8 = .ok (.aload_n 0, 1) := by decide +kernel
theorem dX11_sentence_9 : decode cX11_sentence 9 = .ok (.getfield 21, 3) := by decide +kernel
theorem dX11_sentence_12 : decode cX11_sentence 12 = .ok (.getfield 111, 3) := by decide +kernel
theorem dX11_sentence_15 : decode cX11_sentence 15 = .ok (.invokevirtual 385, 3) := by decide +kernel
theorem dX11_sentence_18 : decode cX11_sentence 18 = .ok (.istore_n 1, 1) := by decide +kernel
theorem dX11_sentence_19 : decode cX11_sentence 19 = .ok (.aload_n 0, 1) := by decide +kernel
theorem dX11_sentence_20 : decode cX11_sentence 20 = .ok (.aload_n 0, 1) := by decide +kernel
theorem dX11_sentence_21 : decode cX11_sentence 21 = .ok (.getfield 60, 3) := by decide +kernel
theorem dX11_sentence_24 : decode cX11_sentence 24 = .ok (.getfield 388, 3) := by decide +kernel
theorem dX11_sentence_27 : decode cX11_sentence 27 = .ok (.invokevirtual 102, 3) := by decide +kernel
theorem dX11_sentence_30 : decode cX11_sentence 30 = .ok (.iload_n 1, 1) := by decide +kernel
theorem dX11_sentence_31 : decode cX11_sentence 31 = .ok (.ifCond .ne 16, 3) := by decide +kernel
theorem dX11_sentence_34 : decode cX11_sentence 34 = .ok (.iconst (-1), 1) := by decide +kernel
theorem dX11_sentence_35 : decode cX11_sentence 35 = .ok (.aload_n 0, 1) := by decide +kernel
theorem dX11_sentence_36 : decode cX11_sentence 36 = .ok (.getfield 60, 3) := by decide +kernel
theorem dX11_sentence_39 : decode cX11_sentence 39 = .ok (.getfield 388, 3) := by decide +kernel
theorem dX11_sentence_42 : decode cX11_sentence 42 = .ok (.getfield 106, 3) := by decide +kernel
theorem dX11_sentence_45 : decode cX11_sentence 45 = .ok (.isub, 1) := by decide +kernel
theorem dX11_sentence_46 : decode cX11_sentence 46 = .ok (.ireturn, 1) := by decide +kernel
theorem dX11_sentence_47 : decode cX11_sentence 47 = .ok (.aload_n 0, 1) := by decide +kernel
theorem dX11_sentence_48 : decode cX11_sentence 48 = .ok (.getfield 21, 3) := by decide +kernel
theorem dX11_sentence_51 : decode cX11_sentence 51 = .ok (.getfield 130, 3) := by decide +kernel
theorem dX11_sentence_54 : decode cX11_sentence 54 = .ok (.aload_n 0, 1) := by decide +kernel
theorem dX11_sentence_55 : decode cX11_sentence 55 = .ok (.getfield 60, 3) := by decide +kernel
theorem dX11_sentence_58 : decode cX11_sentence 58 = .ok (.getfield 389, 3) := by decide +kernel
theorem dX11_sentence_61 : decode cX11_sentence 61 = .ok (.invokevirtual 391, 3) := by decide +kernel
theorem dX11_sentence_64 : decode cX11_sentence 64 = .ok (.aload_n 0, 1) := by decide +kernel
theorem dX11_sentence_65 : decode cX11_sentence 65 = .ok (.getfield 21, 3) := by decide +kernel
theorem dX11_sentence_68 : decode cX11_sentence 68 = .ok (.getfield 130, 3) := by decide +kernel
theorem dX11_sentence_71 : decode cX11_sentence 71 = .ok (.getfield 394, 3) := by decide +kernel
theorem dX11_sentence_74 : decode cX11_sentence 74 = .ok (.ireturn, 1) := by decide +kernel
theorem dX11_said_0 : decode cX11_said 0 = .ok (.aload_n 0, 1) := by decide +kernel
theorem dX11_said_1 : decode cX11_said 1 = .ok (.getfield 21, 3) := by decide +kernel
theorem dX11_said_4 : decode cX11_said 4 = .ok (.getfield 130, 3) := by decide +kernel
theorem dX11_said_7 : decode cX11_said 7 = .ok (.getfield 394, 3) := by decide +kernel
theorem dX11_said_10 : decode cX11_said 10 = .ok (.ifCond .ne 5, 3) := by decide +kernel
theorem dX11_said_13 : decode cX11_said 13 = .ok (.iconst (-1), 1) := by decide +kernel
theorem dX11_said_14 : decode cX11_said 14 = .ok (.ireturn, 1) := by decide +kernel
theorem dX11_said_15 : decode cX11_said 15 = .ok (.aload_n 0, 1) := by decide +kernel
theorem dX11_said_16 : decode cX11_said 16 = .ok (.getfield 21, 3) := by decide +kernel
theorem dX11_said_19 : decode cX11_said 19 = .ok (.getfield 130, 3) := by decide +kernel
theorem dX11_said_22 : decode cX11_said 22 = .ok (.aload_n 0, 1) := by decide +kernel
theorem dX11_said_23 : decode cX11_said 23 = .ok (.getfield 21, 3) := by decide +kernel
theorem dX11_said_26 : decode cX11_said 26 = .ok (.getfield 111, 3) := by decide +kernel
theorem dX11_said_29 : decode cX11_said 29 = .ok (.aload_n 0, 1) := by decide +kernel
theorem dX11_said_30 : decode cX11_said 30 = .ok (.getfield 21, 3) := by decide +kernel
theorem dX11_said_33 : decode cX11_said 33 = .ok (.getfield 124, 3) := by decide +kernel
theorem dX11_said_36 : decode cX11_said 36 = .ok (.invokevirtual 397, 3) := by decide +kernel
theorem dX11_said_39 : decode cX11_said 39 = .ok (.istore_n 2, 1) := by decide +kernel
theorem dX11_said_40 : decode cX11_said 40 = .ok (.iload_n 1, 1) := by decide +kernel
theorem dX11_said_41 : decode cX11_said 41 = .ok (.iconst (-1), 1) := by decide +kernel
theorem dX11_said_42 : decode cX11_said 42 = .ok (.if_icmp .ne 8, 3) := by decide +kernel
theorem dX11_said_45 : decode cX11_said 45 = .ok (.iload_n 2, 1) := by decide +kernel
theorem dX11_said_46 : decode cX11_said 46 = .ok (.invokestatic 400, 3) := by decide +kernel
theorem dX11_said_49 : decode cX11_said 49 = .ok (.ireturn, 1) := by decide +kernel
theorem dX11_said_50 : decode cX11_said 50 = .ok (.iconst 0, 1) := by decide +kernel
theorem dX11_said_51 : decode cX11_said 51 = .ok (.istore_n 3, 1) := by decide +kernel
theorem dX11_said_52 : decode cX11_said 52 = .ok (.iconst 0, 1) := by decide +kernel
theorem dX11_said_53 : decode cX11_said 53 = .ok (.istore 4, 2) := by decide +kernel
theorem dX11_said_55 : decode cX11_said 55 = .ok (.iload 4, 2) := by decide +kernel
theorem dX11_said_57 : decode cX11_said 57 = .ok (.aload_n 0, 1) := by decide +kernel
theorem dX11_said_58 : decode cX11_said 58 = .ok (.getfield 21, 3) := by decide +kernel
theorem dX11_said_61 : decode cX11_said 61 = .ok (.getfield 111, 3) := by decide +kernel
theorem dX11_said_64 : decode cX11_said 64 = .ok (.getfield 322, 3) := by decide +kernel
theorem dX11_said_67 : decode cX11_said 67 = .ok (.if_icmp .ge 30, 3) := by decide +kernel
theorem dX11_said_70 : decode cX11_said 70 = .ok (.iload_n 2, 1) := by decide +kernel
theorem dX11_said_71 : decode cX11_said 71 = .ok (.iload 4, 2) := by decide +kernel
theorem dX11_said_73 : decode cX11_said 73 = .ok (.invokestatic 171, 3) := by decide +kernel
theorem dX11_said_76 : decode cX11_said 76 = .ok (.iconst 1, 1) := by decide +kernel
theorem dX11_said_77 : decode cX11_said 77 = .ok (.if_icmp .ne 14, 3) := by decide +kernel
theorem dX11_said_80 : decode cX11_said 80 = .ok (.iload_n 3, 1) := by decide +kernel
theorem dX11_said_81 : decode cX11_said 81 = .ok (.iload_n 1, 1) := by decide +kernel
theorem dX11_said_82 : decode cX11_said 82 = .ok (.if_icmp .ne 6, 3) := by decide +kernel
theorem dX11_said_85 : decode cX11_said 85 = .ok (.iload 4, 2) := by decide +kernel
theorem dX11_said_87 : decode cX11_said 87 = .ok (.ireturn, 1) := by decide +kernel
theorem dX11_said_88 : decode cX11_said 88 = .ok (.iinc 3 1, 3) := by decide +kernel
theorem dX11_said_91 : decode cX11_said 91 = .ok (.iinc 4 1, 3) := by decide +kernel
theorem dX11_said_94 : decode cX11_said 94 = .ok (.goto (-39), 3) := by decide +kernel
theorem dX11_said_97 : decode cX11_said 97 = .ok (.iconst (-1), 1) := by decide +kernel
theorem dX11_said_98 : decode cX11_said 98 = .ok (.ireturn, 1) := by decide +kernel
theorem dX11_image_0 : decode cX11_image 0 = .ok (.iload_n 1, 1) := by decide +kernel
theorem dX11_image_1 : decode cX11_image 1 = .ok (.ifCond .lt 8, 3) := by decide +kernel
theorem dX11_image_4 : decode cX11_image 4 = .ok (.iload_n 1, 1) := by decide +kernel
theorem dX11_image_5 : decode cX11_image 5 = .ok (.iconst 2, 1) := by decide +kernel
theorem dX11_image_6 : decode cX11_image 6 = .ok (.if_icmp .lt 5, 3) := by decide +kernel
theorem dX11_image_9 : decode cX11_image 9 = .ok (.iconst 0, 1) := by decide +kernel
theorem dX11_image_10 : decode cX11_image 10 = .ok (.ireturn, 1) := by decide +kernel
theorem dX11_image_11 : decode cX11_image 11 = .ok (.aload_n 0, 1) := by decide +kernel
theorem dX11_image_12 : decode cX11_image 12 = .ok (.getfield 25, 3) := by decide +kernel
theorem dX11_image_15 : decode cX11_image 15 = .ok (.iload_n 1, 1) := by decide +kernel
theorem dX11_image_16 : decode cX11_image 16 = .ok (.aaload, 1) := by decide +kernel
theorem dX11_image_17 : decode cX11_image 17 = .ok (.aload_n 0, 1) := by decide +kernel
theorem dX11_image_18 : decode cX11_image 18 = .ok (.getfield 21, 3) := by decide +kernel
theorem dX11_image_21 : decode cX11_image 21 = .ok (.invokevirtual 405, 3) := by decide +kernel
theorem dX11_image_24 : decode cX11_image 24 = .ok (.aload_n 0, 1) := by decide +kernel
theorem dX11_image_25 : decode cX11_image 25 = .ok (.getfield 25, 3) := by decide +kernel
theorem dX11_image_28 : decode cX11_image 28 = .ok (.iload_n 1, 1) := by decide +kernel
theorem dX11_image_29 : decode cX11_image 29 = .ok (.aaload, 1) := by decide +kernel
theorem dX11_image_30 : decode cX11_image 30 = .ok (.iconst 1, 1) := by decide +kernel
theorem dX11_image_31 : decode cX11_image 31 = .ok (.putfield 408, 3) := by decide +kernel
theorem dX11_image_34 : decode cX11_image 34 = .ok (.iconst 1, 1) := by decide +kernel
theorem dX11_image_35 : decode cX11_image 35 = .ok (.ireturn, 1) := by decide +kernel
theorem dX11_restore_0 : decode cX11_restore 0 = .ok (.iload_n 1, 1) := by decide +kernel
theorem dX11_restore_1 : decode cX11_restore 1 = .ok (.ifCond .lt 20, 3) := by decide +kernel
theorem dX11_restore_4 : decode cX11_restore 4 = .ok (.iload_n 1, 1) := by decide +kernel
theorem dX11_restore_5 : decode cX11_restore 5 = .ok (.iconst 2, 1) := by decide +kernel
theorem dX11_restore_6 : decode cX11_restore 6 = .ok (.if_icmp .ge 15, 3) := by decide +kernel
theorem dX11_restore_9 : decode cX11_restore 9 = .ok (.aload_n 0, 1) := by decide +kernel
theorem dX11_restore_10 : decode cX11_restore 10 = .ok (.getfield 25, 3) := by decide +kernel
theorem dX11_restore_13 : decode cX11_restore 13 = .ok (.iload_n 1, 1) := by decide +kernel
theorem dX11_restore_14 : decode cX11_restore 14 = .ok (.aaload, 1) := by decide +kernel
theorem dX11_restore_15 : decode cX11_restore 15 = .ok (.getfield 408, 3) := by decide +kernel
theorem dX11_restore_18 : decode cX11_restore 18 = .ok (.ifCond .ne 5, 3) := by decide +kernel
theorem dX11_restore_21 : decode cX11_restore 21 = .ok (.iconst 0, 1) := by decide +kernel
theorem dX11_restore_22 : decode cX11_restore 22 = .ok (.ireturn, 1) := by decide +kernel
theorem dX11_restore_23 : decode cX11_restore 23 = .ok (.aload_n 0, 1) := by decide +kernel
theorem dX11_restore_24 : decode cX11_restore 24 = .ok (.getfield 21, 3) := by decide +kernel
theorem dX11_restore_27 : decode cX11_restore 27 = .ok (.aload_n 0, 1) := by decide +kernel
theorem dX11_restore_28 : decode cX11_restore 28 = .ok (.getfield 25, 3) := by decide +kernel
theorem dX11_restore_31 : decode cX11_restore 31 = .ok (.iload_n 1, 1) := by decide +kernel
theorem dX11_restore_32 : decode cX11_restore 32 = .ok (.aaload, 1) := by decide +kernel
theorem dX11_restore_33 : decode cX11_restore 33 = .ok (.invokevirtual 405, 3) := by decide +kernel
theorem dX11_restore_36 : decode cX11_restore 36 = .ok (.aload_n 0, 1) := by decide +kernel
theorem dX11_restore_37 : decode cX11_restore 37 = .ok (.getfield 32, 3) := by decide +kernel
theorem dX11_restore_40 : decode cX11_restore 40 = .ok (.invokevirtual 139, 3) := by decide +kernel
theorem dX11_restore_43 : decode cX11_restore 43 = .ok (.iconst 1, 1) := by decide +kernel
theorem dX11_restore_44 : decode cX11_restore 44 = .ok (.ireturn, 1) := by decide +kernel
theorem dX11_count_0 : decode cX11_count 0 = .ok (.iload_n 1, 1) := by decide +kernel
theorem dX11_count_1 : decode cX11_count 1 = .ok (.tableswitch 72 0 3 #[31, 42, 53, 64], 31) := by decide +kernel
theorem dX11_count_32 : decode cX11_count 32 = .ok (.aload_n 0, 1) := by decide +kernel
theorem dX11_count_33 : decode cX11_count 33 = .ok (.getfield 21, 3) := by decide +kernel
theorem dX11_count_36 : decode cX11_count 36 = .ok (.getfield 111, 3) := by decide +kernel
theorem dX11_count_39 : decode cX11_count 39 = .ok (.getfield 322, 3) := by decide +kernel
theorem dX11_count_42 : decode cX11_count 42 = .ok (.ireturn, 1) := by decide +kernel
theorem dX11_count_43 : decode cX11_count 43 = .ok (.aload_n 0, 1) := by decide +kernel
theorem dX11_count_44 : decode cX11_count 44 = .ok (.getfield 21, 3) := by decide +kernel
theorem dX11_count_47 : decode cX11_count 47 = .ok (.getfield 111, 3) := by decide +kernel
theorem dX11_count_50 : decode cX11_count 50 = .ok (.getfield 316, 3) := by decide +kernel
theorem dX11_count_53 : decode cX11_count 53 = .ok (.ireturn, 1) := by decide +kernel
theorem dX11_count_54 : decode cX11_count 54 = .ok (.aload_n 0, 1) := by decide +kernel
theorem dX11_count_55 : decode cX11_count 55 = .ok (.getfield 21, 3) := by decide +kernel
theorem dX11_count_58 : decode cX11_count 58 = .ok (.getfield 111, 3) := by decide +kernel
theorem dX11_count_61 : decode cX11_count 61 = .ok (.getfield 411, 3) := by decide +kernel
theorem dX11_count_64 : decode cX11_count 64 = .ok (.ireturn, 1) := by decide +kernel
theorem dX11_count_65 : decode cX11_count 65 = .ok (.aload_n 0, 1) := by decide +kernel
theorem dX11_count_66 : decode cX11_count 66 = .ok (.getfield 14, 3) := by decide +kernel
theorem dX11_count_69 : decode cX11_count 69 = .ok (.getfield 88, 3) := by decide +kernel
theorem dX11_count_72 : decode cX11_count 72 = .ok (.ireturn, 1) := by decide +kernel
theorem dX11_count_73 : decode cX11_count 73 = .ok (.iconst (-1), 1) := by decide +kernel
theorem dX11_count_74 : decode cX11_count 74 = .ok (.ireturn, 1) := by decide +kernel
theorem dX11_isThing_0 : decode cX11_isThing 0 = .ok (.iload_n 1, 1) := by decide +kernel
theorem dX11_isThing_1 : decode cX11_isThing 1 = .ok (.ifCond .lt 21, 3) := by decide +kernel
theorem dX11_isThing_4 : decode cX11_isThing 4 = .ok (.iload_n 1, 1) := by decide +kernel
theorem dX11_isThing_5 : decode cX11_isThing 5 = .ok (.aload_n 0, 1) := by decide +kernel
theorem dX11_isThing_6 : decode cX11_isThing 6 = .ok (.getfield 21, 3) := by decide +kernel
theorem dX11_isThing_9 : decode cX11_isThing 9 = .ok (.getfield 111, 3) := by decide +kernel
theorem dX11_isThing_12 : decode cX11_isThing 12 = .ok (.getfield 322, 3) := by decide +kernel
theorem dX11_isThing_15 : decode cX11_isThing 15 = .ok (.if_icmp .ge 7, 3) := by decide +kernel
theorem dX11_isThing_18 : decode cX11_isThing 18 = .ok (.iconst 1, 1) := by decide +kernel
theorem dX11_isThing_19 : decode cX11_isThing 19 = .ok (.goto 4, 3) := by decide +kernel
theorem dX11_isThing_22 : decode cX11_isThing 22 = .ok (.iconst 0, 1) := by decide +kernel
theorem dX11_isThing_23 : decode cX11_isThing 23 = .ok (.ireturn, 1) := by decide +kernel
theorem dX11_isFault_0 : decode cX11_isFault 0 = .ok (.iload_n 1, 1) := by decide +kernel
theorem dX11_isFault_1 : decode cX11_isFault 1 = .ok (.ifCond .lt 21, 3) := by decide +kernel
theorem dX11_isFault_4 : decode cX11_isFault 4 = .ok (.iload_n 1, 1) := by decide +kernel
theorem dX11_isFault_5 : decode cX11_isFault 5 = .ok (.aload_n 0, 1) := by decide +kernel
theorem dX11_isFault_6 : decode cX11_isFault 6 = .ok (.getfield 21, 3) := by decide +kernel
theorem dX11_isFault_9 : decode cX11_isFault 9 = .ok (.getfield 111, 3) := by decide +kernel
theorem dX11_isFault_12 : decode cX11_isFault 12 = .ok (.getfield 316, 3) := by decide +kernel
theorem dX11_isFault_15 : decode cX11_isFault 15 = .ok (.if_icmp .ge 7, 3) := by decide +kernel
theorem dX11_isFault_18 : decode cX11_isFault 18 = .ok (.iconst 1, 1) := by decide +kernel
theorem dX11_isFault_19 : decode cX11_isFault 19 = .ok (.goto 4, 3) := by decide +kernel
theorem dX11_isFault_22 : decode cX11_isFault 22 = .ok (.iconst 0, 1) := by decide +kernel
theorem dX11_isFault_23 : decode cX11_isFault 23 = .ok (.ireturn, 1) := by decide +kernel
theorem dX11_takeText_0 : decode cX11_takeText 0 = .ok (.aload_n 0, 1) := by decide +kernel
theorem dX11_takeText_1 : decode cX11_takeText 1 = .ok (.getfield 14, 3) := by decide +kernel
theorem dX11_takeText_4 : decode cX11_takeText 4 = .ok (.iconst 0, 1) := by decide +kernel
theorem dX11_takeText_5 : decode cX11_takeText 5 = .ok (.putfield 88, 3) := by decide +kernel
theorem dX11_takeText_8 : decode cX11_takeText 8 = .ok (.aload_n 0, 1) := by decide +kernel
theorem dX11_takeText_9 : decode cX11_takeText 9 = .ok (.aload_n 1, 1) := by decide +kernel
theorem dX11_takeText_10 : decode cX11_takeText 10 = .ok (.getfield 414, 3) := by decide +kernel
theorem dX11_takeText_13 : decode cX11_takeText 13 = .ok (.putfield 143, 3) := by decide +kernel
theorem dX11_takeText_16 : decode cX11_takeText 16 = .ok (.return_, 1) := by decide +kernel
theorem dX11_faultsByLamps_0 : decode cX11_faultsByLamps 0 = .ok (.aload_n 0, 1) := by decide +kernel
theorem dX11_faultsByLamps_1 : decode cX11_faultsByLamps 1 = .ok (.getfield 21, 3) := by decide +kernel
theorem dX11_faultsByLamps_4 : decode cX11_faultsByLamps 4 = .ok (.getfield 111, 3) := by decide +kernel
theorem dX11_faultsByLamps_7 : decode cX11_faultsByLamps 7 = .ok (.astore_n 1, 1) := by decide +kernel
theorem dX11_faultsByLamps_8 : decode cX11_faultsByLamps 8 = .ok (.aload_n 0, 1) := by decide +kernel
theorem dX11_faultsByLamps_9 : decode cX11_faultsByLamps 9 = .ok (.getfield 14, 3) := by decide +kernel
theorem dX11_faultsByLamps_12 : decode cX11_faultsByLamps 12 = .ok (.getfield 88, 3) := by decide +kernel
theorem dX11_faultsByLamps_15 : decode cX11_faultsByLamps 15 = .ok (.iconst 2, 1) := by decide +kernel
theorem dX11_faultsByLamps_16 : decode cX11_faultsByLamps 16 = .ok (.if_icmp .lt 27, 3) := by decide +kernel
theorem dX11_faultsByLamps_19 : decode cX11_faultsByLamps 19 = .ok (.aload_n 0, 1) := by decide +kernel
theorem dX11_faultsByLamps_20 : decode cX11_faultsByLamps 20 = .ok (.getfield 14, 3) := by decide +kernel
theorem dX11_faultsByLamps_23 : decode cX11_faultsByLamps 23 = .ok (.getfield 88, 3) := by decide +kernel
theorem dX11_faultsByLamps_26 : decode cX11_faultsByLamps 26 = .ok (.bipush 12, 2) := by decide +kernel
theorem dX11_faultsByLamps_28 : decode cX11_faultsByLamps 28 = .ok (.if_icmp .gt 15, 3) := by decide +kernel
theorem dX11_faultsByLamps_31 : decode cX11_faultsByLamps 31 = .ok (.aload_n 0, 1) := by decide +kernel
theorem dX11_faultsByLamps_32 : decode cX11_faultsByLamps 32 = .ok (.getfield 14, 3) := by decide +kernel
theorem dX11_faultsByLamps_35 : decode cX11_faultsByLamps 35 = .ok (.getfield 88, 3) := by decide +kernel
theorem dX11_faultsByLamps_38 : decode cX11_faultsByLamps 38 = .ok (.iconst 2, 1) := by decide +kernel
theorem dX11_faultsByLamps_39 : decode cX11_faultsByLamps 39 = .ok (.irem, 1) := by decide +kernel
theorem dX11_faultsByLamps_40 : decode cX11_faultsByLamps 40 = .ok (.ifCond .eq 5, 3) := by decide +kernel
theorem dX11_faultsByLamps_43 : decode cX11_faultsByLamps 43 = .ok (.iconst (-1), 1) := by decide +kernel
theorem dX11_faultsByLamps_44 : decode cX11_faultsByLamps 44 = .ok (.ireturn, 1) := by decide +kernel
theorem dX11_faultsByLamps_45 : decode cX11_faultsByLamps 45 = .ok (.iconst 1, 1) := by decide +kernel
theorem dX11_faultsByLamps_46 : decode cX11_faultsByLamps 46 = .ok (.aload_n 1, 1) := by decide +kernel
theorem dX11_faultsByLamps_47 : decode cX11_faultsByLamps 47 = .ok (.getfield 316, 3) := by decide +kernel
theorem dX11_faultsByLamps_50 : decode cX11_faultsByLamps 50 = .ok (.ishl, 1) := by decide +kernel
theorem dX11_faultsByLamps_51 : decode cX11_faultsByLamps 51 = .ok (.iconst 1, 1) := by decide +kernel
theorem dX11_faultsByLamps_52 : decode cX11_faultsByLamps 52 = .ok (.isub, 1) := by decide +kernel
theorem dX11_faultsByLamps_53 : decode cX11_faultsByLamps 53 = .ok (.istore_n 2, 1) := by decide +kernel
theorem dX11_faultsByLamps_54 : decode cX11_faultsByLamps 54 = .ok (.iconst 0, 1) := by decide +kernel
theorem dX11_faultsByLamps_55 : decode cX11_faultsByLamps 55 = .ok (.istore_n 3, 1) := by decide +kernel
theorem dX11_faultsByLamps_56 : decode cX11_faultsByLamps 56 = .ok (.iload_n 3, 1) := by decide +kernel
theorem dX11_faultsByLamps_57 : decode cX11_faultsByLamps 57 = .ok (.aload_n 0, 1) := by decide +kernel
theorem dX11_faultsByLamps_58 : decode cX11_faultsByLamps 58 = .ok (.getfield 14, 3) := by decide +kernel
theorem dX11_faultsByLamps_61 : decode cX11_faultsByLamps 61 = .ok (.getfield 88, 3) := by decide +kernel
theorem dX11_faultsByLamps_64 : decode cX11_faultsByLamps 64 = .ok (.if_icmp .ge 49, 3) := by decide +kernel
theorem dX11_faultsByLamps_67 : decode cX11_faultsByLamps 67 = .ok (.aload_n 0, 1) := by decide +kernel
theorem dX11_faultsByLamps_68 : decode cX11_faultsByLamps 68 = .ok (.getfield 14, 3) := by decide +kernel
theorem dX11_faultsByLamps_71 : decode cX11_faultsByLamps 71 = .ok (.iload_n 3, 1) := by decide +kernel
theorem dX11_faultsByLamps_72 : decode cX11_faultsByLamps 72 = .ok (.invokevirtual 363, 3) := by decide +kernel
theorem dX11_faultsByLamps_75 : decode cX11_faultsByLamps 75 = .ok (.istore 4, 2) := by decide +kernel
theorem dX11_faultsByLamps_77 : decode cX11_faultsByLamps 77 = .ok (.aload_n 0, 1) := by decide +kernel
theorem dX11_faultsByLamps_78 : decode cX11_faultsByLamps 78 = .ok (.iload 4, 2) := by decide +kernel
theorem dX11_faultsByLamps_80 : decode cX11_faultsByLamps 80 = .ok (.invokevirtual 146, 3) := by decide +kernel
theorem dX11_faultsByLamps_83 : decode cX11_faultsByLamps 83 = .ok (.ifCond .ne 5, 3) := by decide +kernel
theorem dX11_faultsByLamps_86 : decode cX11_faultsByLamps 86 = .ok (.iconst (-1), 1) := by decide +kernel
theorem dX11_faultsByLamps_87 : decode cX11_faultsByLamps 87 = .ok (.ireturn, 1) := by decide +kernel
theorem dX11_faultsByLamps_88 : decode cX11_faultsByLamps 88 = .ok (.iload_n 2, 1) := by decide +kernel
theorem dX11_faultsByLamps_89 : decode cX11_faultsByLamps 89 = .ok (.aload_n 1, 1) := by decide +kernel
theorem dX11_faultsByLamps_90 : decode cX11_faultsByLamps 90 = .ok (.iload 4, 2) := by decide +kernel
theorem dX11_faultsByLamps_92 : decode cX11_faultsByLamps 92 = .ok (.aload_n 0, 1) := by decide +kernel
theorem dX11_faultsByLamps_93 : decode cX11_faultsByLamps 93 = .ok (.getfield 14, 3) := by decide +kernel
theorem dX11_faultsByLamps_96 : decode cX11_faultsByLamps 96 = .ok (.iload_n 3, 1) := by decide +kernel
theorem dX11_faultsByLamps_97 : decode cX11_faultsByLamps 97 = .ok (.iconst 1, 1) := by decide +kernel
theorem dX11_faultsByLamps_98 : decode cX11_faultsByLamps 98 = .ok (.iadd, 1) := by decide +kernel
theorem dX11_faultsByLamps_99 : decode cX11_faultsByLamps 99 = .ok (.invokevirtual 363, 3) := by decide +kernel
theorem dX11_faultsByLamps_102 : decode cX11_faultsByLamps 102 = .ok (.invokevirtual 417, 3) := by decide +kernel
theorem dX11_faultsByLamps_105 : decode cX11_faultsByLamps 105 = .ok (.iand, 1) := by decide +kernel
theorem dX11_faultsByLamps_106 : decode cX11_faultsByLamps 106 = .ok (.istore_n 2, 1) := by decide +kernel
theorem dX11_faultsByLamps_107 : decode cX11_faultsByLamps 107 = .ok (.iinc 3 2, 3) := by decide +kernel
theorem dX11_faultsByLamps_110 : decode cX11_faultsByLamps 110 = .ok (.goto (-54), 3) := by decide +kernel
theorem dX11_faultsByLamps_113 : decode cX11_faultsByLamps 113 = .ok (.iload_n 2, 1) := by decide +kernel
theorem dX11_faultsByLamps_114 : decode cX11_faultsByLamps 114 = .ok (.ireturn, 1) := by decide +kernel
theorem dX11_eveningsWithDeed_0 : decode cX11_eveningsWithDeed 0 = .ok (.aload_n 0, 1) := by decide +kernel
theorem dX11_eveningsWithDeed_1 : decode cX11_eveningsWithDeed 1 = .ok (.getfield 14, 3) := by decide +kernel
theorem dX11_eveningsWithDeed_4 : decode cX11_eveningsWithDeed 4 = .ok (.getfield 88, 3) := by decide +kernel
theorem dX11_eveningsWithDeed_7 : decode cX11_eveningsWithDeed 7 = .ok (.iconst 4, 1) := by decide +kernel
theorem dX11_eveningsWithDeed_8 : decode cX11_eveningsWithDeed 8 = .ok (.if_icmp .lt 27, 3) := by decide +kernel
theorem dX11_eveningsWithDeed_11 : decode cX11_eveningsWithDeed 11 = .ok (.aload_n 0, 1) := by decide +kernel
theorem dX11_eveningsWithDeed_12 : decode cX11_eveningsWithDeed 12 = .ok (.getfield 14, 3) := by decide +kernel
theorem dX11_eveningsWithDeed_15 : decode cX11_eveningsWithDeed 15 = .ok (.getfield 88, 3) := by decide +kernel
theorem dX11_eveningsWithDeed_18 : decode cX11_eveningsWithDeed 18 = .ok (.bipush 20, 2) := by decide +kernel
theorem dX11_eveningsWithDeed_20 : decode cX11_eveningsWithDeed 20 = .ok (.if_icmp .gt 15, 3) := by decide +kernel
theorem dX11_eveningsWithDeed_23 : decode cX11_eveningsWithDeed 23 = .ok (.aload_n 0, 1) := by decide +kernel
theorem dX11_eveningsWithDeed_24 : decode cX11_eveningsWithDeed 24 = .ok (.getfield 14, 3) := by decide +kernel
theorem dX11_eveningsWithDeed_27 : decode cX11_eveningsWithDeed 27 = .ok (.getfield 88, 3) := by decide +kernel
theorem dX11_eveningsWithDeed_30 : decode cX11_eveningsWithDeed 30 = .ok (.iconst 2, 1) := by decide +kernel
theorem dX11_eveningsWithDeed_31 : decode cX11_eveningsWithDeed 31 = .ok (.irem, 1) := by decide +kernel
theorem dX11_eveningsWithDeed_32 : decode cX11_eveningsWithDeed 32 = .ok (.ifCond .eq 5, 3) := by decide +kernel
theorem dX11_eveningsWithDeed_35 : decode cX11_eveningsWithDeed 35 = .ok (.iconst (-1), 1) := by decide +kernel
theorem dX11_eveningsWithDeed_36 : decode cX11_eveningsWithDeed 36 = .ok (.ireturn, 1) := by decide +kernel
theorem dX11_eveningsWithDeed_37 : decode cX11_eveningsWithDeed 37 = .ok (.iconst 0, 1) := by decide +kernel
theorem dX11_eveningsWithDeed_38 : decode cX11_eveningsWithDeed 38 = .ok (.istore_n 1, 1) := by decide +kernel
