theorem dX12_readDoes_96 : decode cX12_readDoes 96 = .ok (.iconst 0, 1) := by decide +kernel
theorem dX12_readDoes_97 : decode cX12_readDoes 97 = .ok (.aload_n 0, 1) := by decide +kernel
theorem dX12_readDoes_98 : decode cX12_readDoes 98 = .ok (.getfield 13, 3) := by decide +kernel
theorem dX12_readDoes_101 : decode cX12_readDoes 101 = .ok (.iconst 0, 1) := by decide +kernel
theorem dX12_readDoes_102 : decode cX12_readDoes 102 = .ok (.iaload, 1) := by decide +kernel
theorem dX12_readDoes_103 : decode cX12_readDoes 103 = .ok (.aload_n 0, 1) := by decide +kernel
theorem dX12_readDoes_104 : decode cX12_readDoes 104 = .ok (.getfield 108, 3) := by decide +kernel
theorem dX12_readDoes_107 : decode cX12_readDoes 107 = .ok (.invokestatic 161, 3) := by decide +kernel
theorem dX12_readDoes_110 : decode cX12_readDoes 110 = .ok (.iastore, 1) := by decide +kernel
theorem dX12_readDoes_111 : decode cX12_readDoes 111 = .ok (.aload_n 0, 1) := by decide +kernel
theorem dX12_readDoes_112 : decode cX12_readDoes 112 = .ok (.invokevirtual 147, 3) := by decide +kernel
theorem dX12_readDoes_115 : decode cX12_readDoes 115 = .ok (.iconst 3, 1) := by decide +kernel
theorem dX12_readDoes_116 : decode cX12_readDoes 116 = .ok (.istore_n 2, 1) := by decide +kernel
theorem dX12_readDoes_117 : decode cX12_readDoes 117 = .ok (.iload_n 2, 1) := by decide +kernel
theorem dX12_readDoes_118 : decode cX12_readDoes 118 = .ok (.bipush 6, 2) := by decide +kernel
theorem dX12_readDoes_120 : decode cX12_readDoes 120 = .ok (.if_icmp .gt 17, 3) := by decide +kernel
theorem dX12_readDoes_123 : decode cX12_readDoes 123 = .ok (.aload_n 0, 1) := by decide +kernel
theorem dX12_readDoes_124 : decode cX12_readDoes 124 = .ok (.iload_n 2, 1) := by decide +kernel
theorem dX12_readDoes_125 : decode cX12_readDoes 125 = .ok (.invokevirtual 179, 3) := by decide +kernel
theorem dX12_readDoes_128 : decode cX12_readDoes 128 = .ok (.ifCond .ne 9, 3) := by decide +kernel
theorem dX12_readDoes_131 : decode cX12_readDoes 131 = .ok (.iinc 2 1, 3) := by decide +kernel
theorem dX12_readDoes_134 : decode cX12_readDoes 134 = .ok (.goto (-17), 3) := by decide +kernel
theorem dX12_readDoes_137 : decode cX12_readDoes 137 = .ok (.iload_n 2, 1) := by decide +kernel
theorem dX12_readDoes_138 : decode cX12_readDoes 138 = .ok (.bipush 6, 2) := by decide +kernel
theorem dX12_readDoes_140 : decode cX12_readDoes 140 = .ok (.if_icmp .le 9, 3) := by decide +kernel
theorem dX12_readDoes_143 : decode cX12_readDoes 143 = .ok (.aload_n 0, 1) := by decide +kernel
theorem dX12_readDoes_144 : decode cX12_readDoes 144 = .ok (.iconst 1, 1) := by decide +kernel
theorem dX12_readDoes_145 : decode cX12_readDoes 145 = .ok (.invokevirtual 137, 3) := by decide +kernel
theorem dX12_readDoes_148 : decode cX12_readDoes 148 = .ok (.ireturn, 1) := by decide +kernel
theorem dX12_readDoes_149 : decode cX12_readDoes 149 = .ok (.aload_n 0, 1) := by decide +kernel
theorem dX12_readDoes_150 : decode cX12_readDoes 150 = .ok (.getfield 64, 3) := by decide +kernel
theorem dX12_readDoes_153 : decode cX12_readDoes 153 = .ok (.iload_n 1, 1) := by decide +kernel
theorem dX12_readDoes_154 : decode cX12_readDoes 154 = .ok (.iload_n 2, 1) := by decide +kernel
theorem dX12_readDoes_155 : decode cX12_readDoes 155 = .ok (.iconst 3, 1) := by decide +kernel
theorem dX12_readDoes_156 : decode cX12_readDoes 156 = .ok (.if_icmp .ne 7, 3) := by decide +kernel
theorem dX12_readDoes_159 : decode cX12_readDoes 159 = .ok (.iconst 0, 1) := by decide +kernel
theorem dX12_readDoes_160 : decode cX12_readDoes 160 = .ok (.goto 23, 3) := by decide +kernel
theorem dX12_readDoes_163 : decode cX12_readDoes 163 = .ok (.iload_n 2, 1) := by decide +kernel
theorem dX12_readDoes_164 : decode cX12_readDoes 164 = .ok (.bipush 6, 2) := by decide +kernel
theorem dX12_readDoes_166 : decode cX12_readDoes 166 = .ok (.if_icmp .ne 7, 3) := by decide +kernel
theorem dX12_readDoes_169 : decode cX12_readDoes 169 = .ok (.iconst 1, 1) := by decide +kernel
theorem dX12_readDoes_170 : decode cX12_readDoes 170 = .ok (.goto 13, 3) := by decide +kernel
theorem dX12_readDoes_173 : decode cX12_readDoes 173 = .ok (.iload_n 2, 1) := by decide +kernel
theorem dX12_readDoes_174 : decode cX12_readDoes 174 = .ok (.iconst 4, 1) := by decide +kernel
theorem dX12_readDoes_175 : decode cX12_readDoes 175 = .ok (.if_icmp .ne 7, 3) := by decide +kernel
theorem dX12_readDoes_178 : decode cX12_readDoes 178 = .ok (.iconst 2, 1) := by decide +kernel
theorem dX12_readDoes_179 : decode cX12_readDoes 179 = .ok (.goto 4, 3) := by decide +kernel
theorem dX12_readDoes_182 : decode cX12_readDoes 182 = .ok (.iconst 3, 1) := by decide +kernel
theorem dX12_readDoes_183 : decode cX12_readDoes 183 = .ok (.iastore, 1) := by decide +kernel
theorem dX12_readDoes_184 : decode cX12_readDoes 184 = .ok (.aload_n 0, 1) := by decide +kernel
theorem dX12_readDoes_185 : decode cX12_readDoes 185 = .ok (.invokevirtual 147, 3) := by decide +kernel
theorem dX12_readDoes_188 : decode cX12_readDoes 188 = .ok (.iload_n 2, 1) := by decide +kernel
theorem dX12_readDoes_189 : decode cX12_readDoes 189 = .ok (.iconst 3, 1) := by decide +kernel
theorem dX12_readDoes_190 : decode cX12_readDoes 190 = .ok (.if_icmp .ne 5, 3) := by decide +kernel
theorem dX12_readDoes_193 : decode cX12_readDoes 193 = .ok (.iconst 1, 1) := by decide +kernel
theorem dX12_readDoes_194 : decode cX12_readDoes 194 = .ok (.ireturn, 1) := by decide +kernel
theorem dX12_readDoes_195 : decode cX12_readDoes 195 = .ok (.aload_n 0, 1) := by decide +kernel
theorem dX12_readDoes_196 : decode cX12_readDoes 196 = .ok (.iconst 0, 1) := by decide +kernel
theorem dX12_readDoes_197 : decode cX12_readDoes 197 = .ok (.sipush 999, 3) := by decide +kernel
theorem dX12_readDoes_200 : decode cX12_readDoes 200 = .ok (.invokevirtual 172, 3) := by decide +kernel
theorem dX12_readDoes_203 : decode cX12_readDoes 203 = .ok (.ifCond .ne 5, 3) := by decide +kernel
theorem dX12_readDoes_206 : decode cX12_readDoes 206 = .ok (.iconst 0, 1) := by decide +kernel
theorem dX12_readDoes_207 : decode cX12_readDoes 207 = .ok (.ireturn, 1) := by decide +kernel
theorem dX12_readDoes_208 : decode cX12_readDoes 208 = .ok (.aload_n 0, 1) := by decide +kernel
theorem dX12_readDoes_209 : decode cX12_readDoes 209 = .ok (.getfield 64, 3) := by decide +kernel
theorem dX12_readDoes_212 : decode cX12_readDoes 212 = .ok (.iload_n 1, 1) := by decide +kernel
theorem dX12_readDoes_213 : decode cX12_readDoes 213 = .ok (.iconst 2, 1) := by decide +kernel
theorem dX12_readDoes_214 : decode cX12_readDoes 214 = .ok (.iadd, 1) := by decide +kernel
theorem dX12_readDoes_215 : decode cX12_readDoes 215 = .ok (.aload_n 0, 1) := by decide +kernel
theorem dX12_readDoes_216 : decode cX12_readDoes 216 = .ok (.getfield 144, 3) := by decide +kernel
theorem dX12_readDoes_219 : decode cX12_readDoes 219 = .ok (.iastore, 1) := by decide +kernel
theorem dX12_readDoes_220 : decode cX12_readDoes 220 = .ok (.iconst 1, 1) := by decide +kernel
theorem dX12_readDoes_221 : decode cX12_readDoes 221 = .ok (.ireturn, 1) := by decide +kernel
theorem dX12_readLogLine_0 : decode cX12_readLogLine 0 = .ok (.aload_n 0, 1) := by decide +kernel
theorem dX12_readLogLine_1 : decode cX12_readLogLine 1 = .ok (.bipush 7, 2) := by decide +kernel
theorem dX12_readLogLine_3 : decode cX12_readLogLine 3 = .ok (.invokevirtual 179, 3) := by decide +kernel
theorem dX12_readLogLine_6 : decode cX12_readLogLine 6 = .ok (.ifCond .ne 53, 3) := by decide +kernel
theorem dX12_readLogLine_9 : decode cX12_readLogLine 9 = .ok (.aload_n 0, 1) := by decide +kernel
theorem dX12_readLogLine_10 : decode cX12_readLogLine 10 = .ok (.bipush 8, 2) := by decide +kernel
theorem dX12_readLogLine_12 : decode cX12_readLogLine 12 = .ok (.invokevirtual 179, 3) := by decide +kernel
theorem dX12_readLogLine_15 : decode cX12_readLogLine 15 = .ok (.ifCond .ne 44, 3) := by decide +kernel
theorem dX12_readLogLine_18 : decode cX12_readLogLine 18 = .ok (.aload_n 0, 1) := by decide +kernel
theorem dX12_readLogLine_19 : decode cX12_readLogLine 19 = .ok (.invokevirtual 157, 3) := by decide +kernel
theorem dX12_readLogLine_22 : decode cX12_readLogLine 22 = .ok (.ifCond .ne 9, 3) := by decide +kernel
theorem dX12_readLogLine_25 : decode cX12_readLogLine 25 = .ok (.aload_n 0, 1) := by decide +kernel
theorem dX12_readLogLine_26 : decode cX12_readLogLine 26 = .ok (.iconst 1, 1) := by decide +kernel
theorem dX12_readLogLine_27 : decode cX12_readLogLine 27 = .ok (.invokevirtual 137, 3) := by decide +kernel
theorem dX12_readLogLine_30 : decode cX12_readLogLine 30 = .ok (.ireturn, 1) := by decide +kernel
theorem dX12_readLogLine_31 : decode cX12_readLogLine 31 = .ok (.aload_n 0, 1) := by decide +kernel
theorem dX12_readLogLine_32 : decode cX12_readLogLine 32 = .ok (.getfield 28, 3) := by decide +kernel
theorem dX12_readLogLine_35 : decode cX12_readLogLine 35 = .ok (.iconst 0, 1) := by decide +kernel
theorem dX12_readLogLine_36 : decode cX12_readLogLine 36 = .ok (.aload_n 0, 1) := by decide +kernel
theorem dX12_readLogLine_37 : decode cX12_readLogLine 37 = .ok (.getfield 13, 3) := by decide +kernel
theorem dX12_readLogLine_40 : decode cX12_readLogLine 40 = .ok (.iconst 0, 1) := by decide +kernel
theorem dX12_readLogLine_41 : decode cX12_readLogLine 41 = .ok (.iaload, 1) := by decide +kernel
theorem dX12_readLogLine_42 : decode cX12_readLogLine 42 = .ok (.aload_n 0, 1) := by decide +kernel
theorem dX12_readLogLine_43 : decode cX12_readLogLine 43 = .ok (.getfield 108, 3) := by decide +kernel
theorem dX12_readLogLine_46 : decode cX12_readLogLine 46 = .ok (.invokestatic 161, 3) := by decide +kernel
theorem dX12_readLogLine_49 : decode cX12_readLogLine 49 = .ok (.iconst (-1), 1) := by decide +kernel
theorem dX12_readLogLine_50 : decode cX12_readLogLine 50 = .ok (.if_icmp .ne 9, 3) := by decide +kernel
theorem dX12_readLogLine_53 : decode cX12_readLogLine 53 = .ok (.aload_n 0, 1) := by decide +kernel
theorem dX12_readLogLine_54 : decode cX12_readLogLine 54 = .ok (.iconst 3, 1) := by decide +kernel
theorem dX12_readLogLine_55 : decode cX12_readLogLine 55 = .ok (.invokevirtual 137, 3) := by decide +kernel
theorem dX12_readLogLine_58 : decode cX12_readLogLine 58 = .ok (.ireturn, 1) := by decide +kernel
theorem dX12_readLogLine_59 : decode cX12_readLogLine 59 = .ok (.aload_n 0, 1) := by decide +kernel
theorem dX12_readLogLine_60 : decode cX12_readLogLine 60 = .ok (.getfield 360, 3) := by decide +kernel
theorem dX12_readLogLine_63 : decode cX12_readLogLine 63 = .ok (.bipush 40, 2) := by decide +kernel
theorem dX12_readLogLine_65 : decode cX12_readLogLine 65 = .ok (.if_icmp .ne 9, 3) := by decide +kernel
theorem dX12_readLogLine_68 : decode cX12_readLogLine 68 = .ok (.aload_n 0, 1) := by decide +kernel
theorem dX12_readLogLine_69 : decode cX12_readLogLine 69 = .ok (.iconst 4, 1) := by decide +kernel
theorem dX12_readLogLine_70 : decode cX12_readLogLine 70 = .ok (.invokevirtual 137, 3) := by decide +kernel
theorem dX12_readLogLine_73 : decode cX12_readLogLine 73 = .ok (.ireturn, 1) := by decide +kernel
theorem dX12_readLogLine_74 : decode cX12_readLogLine 74 = .ok (.aload_n 0, 1) := by decide +kernel
theorem dX12_readLogLine_75 : decode cX12_readLogLine 75 = .ok (.iconst 3, 1) := by decide +kernel
theorem dX12_readLogLine_76 : decode cX12_readLogLine 76 = .ok (.aload_n 0, 1) := by decide +kernel
theorem dX12_readLogLine_77 : decode cX12_readLogLine 77 = .ok (.getfield 360, 3) := by decide +kernel
theorem dX12_readLogLine_80 : decode cX12_readLogLine 80 = .ok (.imul, 1) := by decide +kernel
theorem dX12_readLogLine_81 : decode cX12_readLogLine 81 = .ok (.invokevirtual 363, 3) := by decide +kernel
theorem dX12_readLogLine_84 : decode cX12_readLogLine 84 = .ok (.ifCond .eq 14, 3) := by decide +kernel
theorem dX12_readLogLine_87 : decode cX12_readLogLine 87 = .ok (.aload_n 0, 1) := by decide +kernel
theorem dX12_readLogLine_88 : decode cX12_readLogLine 88 = .ok (.invokevirtual 200, 3) := by decide +kernel
theorem dX12_readLogLine_91 : decode cX12_readLogLine 91 = .ok (.ifCond .eq 7, 3) := by decide +kernel
theorem dX12_readLogLine_94 : decode cX12_readLogLine 94 = .ok (.iconst 1, 1) := by decide +kernel
theorem dX12_readLogLine_95 : decode cX12_readLogLine 95 = .ok (.goto 4, 3) := by decide +kernel
theorem dX12_readLogLine_98 : decode cX12_readLogLine 98 = .ok (.iconst 0, 1) := by decide +kernel
theorem dX12_readLogLine_99 : decode cX12_readLogLine 99 = .ok (.ireturn, 1) := by decide +kernel
theorem dX12_goBy_0 : decode cX12_goBy 0 = .ok (.aload_n 0, 1) := by decide +kernel
theorem dX12_goBy_1 : decode cX12_goBy 1 = .ok (.getfield 64, 3) := by decide +kernel
theorem dX12_goBy_4 : decode cX12_goBy 4 = .ok (.iload_n 1, 1) := by decide +kernel
theorem dX12_goBy_5 : decode cX12_goBy 5 = .ok (.iconst 1, 1) := by decide +kernel
theorem dX12_goBy_6 : decode cX12_goBy 6 = .ok (.iadd, 1) := by decide +kernel
theorem dX12_goBy_7 : decode cX12_goBy 7 = .ok (.iaload, 1) := by decide +kernel
theorem dX12_goBy_8 : decode cX12_goBy 8 = .ok (.istore_n 2, 1) := by decide +kernel
theorem dX12_goBy_9 : decode cX12_goBy 9 = .ok (.aload_n 0, 1) := by decide +kernel
theorem dX12_goBy_10 : decode cX12_goBy 10 = .ok (.getfield 64, 3) := by decide +kernel
theorem dX12_goBy_13 : decode cX12_goBy 13 = .ok (.iload_n 1, 1) := by decide +kernel
theorem dX12_goBy_14 : decode cX12_goBy 14 = .ok (.iaload, 1) := by decide +kernel
theorem dX12_goBy_15 : decode cX12_goBy 15 = .ok (.iconst 5, 1) := by decide +kernel
theorem dX12_goBy_16 : decode cX12_goBy 16 = .ok (.if_icmp .ne 29, 3) := by decide +kernel
theorem dX12_goBy_19 : decode cX12_goBy 19 = .ok (.aload_n 0, 1) := by decide +kernel
theorem dX12_goBy_20 : decode cX12_goBy 20 = .ok (.getfield 13, 3) := by decide +kernel
theorem dX12_goBy_23 : decode cX12_goBy 23 = .ok (.bipush 77, 2) := by decide +kernel
theorem dX12_goBy_25 : decode cX12_goBy 25 = .ok (.iaload, 1) := by decide +kernel
theorem dX12_goBy_26 : decode cX12_goBy 26 = .ok (.iload_n 2, 1) := by decide +kernel
theorem dX12_goBy_27 : decode cX12_goBy 27 = .ok (.iadd, 1) := by decide +kernel
theorem dX12_goBy_28 : decode cX12_goBy 28 = .ok (.sipush 1000, 3) := by decide +kernel
theorem dX12_goBy_31 : decode cX12_goBy 31 = .ok (.if_icmp .le 6, 3) := by decide +kernel
theorem dX12_goBy_34 : decode cX12_goBy 34 = .ok (.bipush 51, 2) := by decide +kernel
theorem dX12_goBy_36 : decode cX12_goBy 36 = .ok (.ireturn, 1) := by decide +kernel
theorem dX12_goBy_37 : decode cX12_goBy 37 = .ok (.aload_n 0, 1) := by decide +kernel
theorem dX12_goBy_38 : decode cX12_goBy 38 = .ok (.iload_n 2, 1) := by decide +kernel
theorem dX12_goBy_39 : decode cX12_goBy 39 = .ok (.invokevirtual 279, 3) := by decide +kernel
theorem dX12_goBy_42 : decode cX12_goBy 42 = .ok (.pop, 1) := by decide +kernel
theorem dX12_goBy_43 : decode cX12_goBy 43 = .ok (.iconst 0, 1) := by decide +kernel
theorem dX12_goBy_44 : decode cX12_goBy 44 = .ok (.ireturn, 1) := by decide +kernel
theorem dX12_goBy_45 : decode cX12_goBy 45 = .ok (.aload_n 0, 1) := by decide +kernel
theorem dX12_goBy_46 : decode cX12_goBy 46 = .ok (.aload_n 0, 1) := by decide +kernel
theorem dX12_goBy_47 : decode cX12_goBy 47 = .ok (.getfield 64, 3) := by decide +kernel
theorem dX12_goBy_50 : decode cX12_goBy 50 = .ok (.iload_n 1, 1) := by decide +kernel
theorem dX12_goBy_51 : decode cX12_goBy 51 = .ok (.iaload, 1) := by decide +kernel
theorem dX12_goBy_52 : decode cX12_goBy 52 = .ok (.iload_n 2, 1) := by decide +kernel
theorem dX12_goBy_53 : decode cX12_goBy 53 = .ok (.invokevirtual 259, 3) := by decide +kernel
theorem dX12_goBy_56 : decode cX12_goBy 56 = .ok (.istore_n 3, 1) := by decide +kernel
theorem dX12_goBy_57 : decode cX12_goBy 57 = .ok (.iload_n 3, 1) := by decide +kernel
theorem dX12_goBy_58 : decode cX12_goBy 58 = .ok (.ifCond .eq 15, 3) := by decide +kernel
theorem dX12_goBy_61 : decode cX12_goBy 61 = .ok (.bipush 10, 2) := by decide +kernel
theorem dX12_goBy_63 : decode cX12_goBy 63 = .ok (.aload_n 0, 1) := by decide +kernel
theorem dX12_goBy_64 : decode cX12_goBy 64 = .ok (.getfield 64, 3) := by decide +kernel
theorem dX12_goBy_67 : decode cX12_goBy 67 = .ok (.iload_n 1, 1) := by decide +kernel
theorem dX12_goBy_68 : decode cX12_goBy 68 = .ok (.iaload, 1) := by decide +kernel
theorem dX12_goBy_69 : decode cX12_goBy 69 = .ok (.imul, 1) := by decide +kernel
theorem dX12_goBy_70 : decode cX12_goBy 70 = .ok (.iload_n 3, 1) := by decide +kernel
theorem dX12_goBy_71 : decode cX12_goBy 71 = .ok (.iadd, 1) := by decide +kernel
theorem dX12_goBy_72 : decode cX12_goBy 72 = .ok (.ireturn, 1) := by decide +kernel
theorem dX12_goBy_73 : decode cX12_goBy 73 = .ok (.aload_n 0, 1) := by decide +kernel
theorem dX12_goBy_74 : decode cX12_goBy 74 = .ok (.aload_n 0, 1) := by decide +kernel
theorem dX12_goBy_75 : decode cX12_goBy 75 = .ok (.getfield 64, 3) := by decide +kernel
theorem dX12_goBy_78 : decode cX12_goBy 78 = .ok (.iload_n 1, 1) := by decide +kernel
theorem dX12_goBy_79 : decode cX12_goBy 79 = .ok (.iconst 2, 1) := by decide +kernel
theorem dX12_goBy_80 : decode cX12_goBy 80 = .ok (.iadd, 1) := by decide +kernel
theorem dX12_goBy_81 : decode cX12_goBy 81 = .ok (.iaload, 1) := by decide +kernel
theorem dX12_goBy_82 : decode cX12_goBy 82 = .ok (.putfield 236, 3) := by decide +kernel
theorem dX12_goBy_85 : decode cX12_goBy 85 = .ok (.aload_n 0, 1) := by decide +kernel
theorem dX12_goBy_86 : decode cX12_goBy 86 = .ok (.aload_n 0, 1) := by decide +kernel
theorem dX12_goBy_87 : decode cX12_goBy 87 = .ok (.getfield 64, 3) := by decide +kernel
theorem dX12_goBy_90 : decode cX12_goBy 90 = .ok (.iload_n 1, 1) := by decide +kernel
theorem dX12_goBy_91 : decode cX12_goBy 91 = .ok (.iaload, 1) := by decide +kernel
theorem dX12_goBy_92 : decode cX12_goBy 92 = .ok (.iload_n 2, 1) := by decide +kernel
theorem dX12_goBy_93 : decode cX12_goBy 93 = .ok (.invokevirtual 266, 3) := by decide +kernel
theorem dX12_goBy_96 : decode cX12_goBy 96 = .ok (.iconst 0, 1) := by decide +kernel
theorem dX12_goBy_97 : decode cX12_goBy 97 = .ok (.ireturn, 1) := by decide +kernel
theorem dX12_log_0 : decode cX12_log 0 = .ok (.aload_n 0, 1) := by decide +kernel
theorem dX12_log_1 : decode cX12_log 1 = .ok (.iconst 0, 1) := by decide +kernel
theorem dX12_log_2 : decode cX12_log 2 = .ok (.putfield 73, 3) := by decide +kernel
theorem dX12_log_5 : decode cX12_log 5 = .ok (.iload_n 1, 1) := by decide +kernel
theorem dX12_log_6 : decode cX12_log 6 = .ok (.iconst 0, 1) := by decide +kernel
theorem dX12_log_7 : decode cX12_log 7 = .ok (.iconst 1, 1) := by decide +kernel
theorem dX12_log_8 : decode cX12_log 8 = .ok (.invokestatic 140, 3) := by decide +kernel
theorem dX12_log_11 : decode cX12_log 11 = .ok (.ifCond .ne 7, 3) := by decide +kernel
theorem dX12_log_14 : decode cX12_log 14 = .ok (.sipush (-1000), 3) := by decide +kernel
theorem dX12_log_17 : decode cX12_log 17 = .ok (.ireturn, 1) := by decide +kernel
theorem dX12_log_18 : decode cX12_log 18 = .ok (.aload_n 0, 1) := by decide +kernel
theorem dX12_log_19 : decode cX12_log 19 = .ok (.sipush 400, 3) := by decide +kernel
theorem dX12_log_22 : decode cX12_log 22 = .ok (.invokevirtual 194, 3) := by decide +kernel
theorem dX12_log_25 : decode cX12_log 25 = .ok (.aload_n 0, 1) := by decide +kernel
theorem dX12_log_26 : decode cX12_log 26 = .ok (.iconst 0, 1) := by decide +kernel
theorem dX12_log_27 : decode cX12_log 27 = .ok (.putfield 360, 3) := by decide +kernel
theorem dX12_log_30 : decode cX12_log 30 = .ok (.aload_n 0, 1) := by decide +kernel
theorem dX12_log_31 : decode cX12_log 31 = .ok (.getfield 95, 3) := by decide +kernel
theorem dX12_log_34 : decode cX12_log 34 = .ok (.ifCond .eq 31, 3) := by decide +kernel
theorem dX12_log_37 : decode cX12_log 37 = .ok (.aload_n 0, 1) := by decide +kernel
theorem dX12_log_38 : decode cX12_log 38 = .ok (.invokevirtual 366, 3) := by decide +kernel
theorem dX12_log_41 : decode cX12_log 41 = .ok (.ifCond .ne 11, 3) := by decide +kernel
theorem dX12_log_44 : decode cX12_log 44 = .ok (.bipush (-2), 2) := by decide +kernel
theorem dX12_log_46 : decode cX12_log 46 = .ok (.aload_n 0, 1) := by decide +kernel
theorem dX12_log_47 : decode cX12_log 47 = .ok (.getfield 134, 3) := by decide +kernel
theorem dX12_log_50 : decode cX12_log 50 = .ok (.isub, 1) := by decide +kernel
theorem dX12_log_51 : decode cX12_log 51 = .ok (.ireturn, 1) := by decide +kernel
theorem dX12_log_52 : decode cX12_log 52 = .ok (.aload_n 0, 1) := by decide +kernel
theorem dX12_log_53 : decode cX12_log 53 = .ok (.dup, 1) := by decide +kernel
theorem dX12_log_54 : decode cX12_log 54 = .ok (.getfield 360, 3) := by decide +kernel
theorem dX12_log_57 : decode cX12_log 57 = .ok (.iconst 1, 1) := by decide +kernel
theorem dX12_log_58 : decode cX12_log 58 = .ok (.iadd, 1) := by decide +kernel
theorem dX12_log_59 : decode cX12_log 59 = .ok (.putfield 360, 3) := by decide +kernel
theorem dX12_log_62 : decode cX12_log 62 = .ok (.goto (-32), 3) := by decide +kernel
theorem dX12_log_65 : decode cX12_log 65 = .ok (.aload_n 0, 1) := by decide +kernel
theorem dX12_log_66 : decode cX12_log 66 = .ok (.invokevirtual 329, 3) := by decide +kernel
theorem dX12_log_69 : decode cX12_log 69 = .ok (.iconst 0, 1) := by decide +kernel
theorem dX12_log_70 : decode cX12_log 70 = .ok (.istore_n 2, 1) := by decide +kernel
theorem dX12_log_71 : decode cX12_log 71 = .ok (.iconst 0, 1) := by decide +kernel
theorem dX12_log_72 : decode cX12_log 72 = .ok (.istore_n 3, 1) := by decide +kernel
theorem dX12_log_73 : decode cX12_log 73 = .ok (.iload_n 2, 1) := by decide +kernel
theorem dX12_log_74 : decode cX12_log 74 = .ok (.aload_n 0, 1) := by decide +kernel
theorem dX12_log_75 : decode cX12_log 75 = .ok (.getfield 360, 3) := by decide +kernel
theorem dX12_log_78 : decode cX12_log 78 = .ok (.if_icmp .ge 25, 3) := by decide +kernel
theorem dX12_log_81 : decode cX12_log 81 = .ok (.iload_n 3, 1) := by decide +kernel
theorem dX12_log_82 : decode cX12_log 82 = .ok (.ifCond .ne 21, 3) := by decide +kernel
theorem dX12_log_85 : decode cX12_log 85 = .ok (.aload_n 0, 1) := by decide +kernel
theorem dX12_log_86 : decode cX12_log 86 = .ok (.iconst 3, 1) := by decide +kernel
theorem dX12_log_87 : decode cX12_log 87 = .ok (.iload_n 2, 1) := by decide +kernel
theorem dX12_log_88 : decode cX12_log 88 = .ok (.imul, 1) := by decide +kernel
theorem dX12_log_89 : decode cX12_log 89 = .ok (.invokevirtual 369, 3) := by decide +kernel
theorem dX12_log_92 : decode cX12_log 92 = .ok (.istore_n 3, 1) := by decide +kernel
theorem dX12_log_93 : decode cX12_log 93 = .ok (.iload_n 3, 1) := by decide +kernel
theorem dX12_log_94 : decode cX12_log 94 = .ok (.ifCond .ne (-21), 3) := by decide +kernel
theorem dX12_log_97 : decode cX12_log 97 = .ok (.iinc 2 1, 3) := by decide +kernel
theorem dX12_log_100 : decode cX12_log 100 = .ok (.goto (-27), 3) := by decide +kernel
theorem dX12_log_103 : decode cX12_log 103 = .ok (.aload_n 0, 1) := by decide +kernel
theorem dX12_log_104 : decode cX12_log 104 = .ok (.getfield 67, 3) := by decide +kernel
theorem dX12_log_107 : decode cX12_log 107 = .ok (.iconst 0, 1) := by decide +kernel
theorem dX12_log_108 : decode cX12_log 108 = .ok (.iload_n 3, 1) := by decide +kernel
theorem dX12_log_109 : decode cX12_log 109 = .ok (.iastore, 1) := by decide +kernel
theorem dX12_log_110 : decode cX12_log 110 = .ok (.aload_n 0, 1) := by decide +kernel
theorem dX12_log_111 : decode cX12_log 111 = .ok (.getfield 67, 3) := by decide +kernel
theorem dX12_log_114 : decode cX12_log 114 = .ok (.iconst 1, 1) := by decide +kernel
theorem dX12_log_115 : decode cX12_log 115 = .ok (.iload_n 2, 1) := by decide +kernel
theorem dX12_log_116 : decode cX12_log 116 = .ok (.iastore, 1) := by decide +kernel
theorem dX12_log_117 : decode cX12_log 117 = .ok (.aload_n 0, 1) := by decide +kernel
theorem dX12_log_118 : decode cX12_log 118 = .ok (.getfield 67, 3) := by decide +kernel
theorem dX12_log_121 : decode cX12_log 121 = .ok (.iconst 2, 1) := by decide +kernel
theorem dX12_log_122 : decode cX12_log 122 = .ok (.aload_n 0, 1) := by decide +kernel
theorem dX12_log_123 : decode cX12_log 123 = .ok (.getfield 13, 3) := by decide +kernel
theorem dX12_log_126 : decode cX12_log 126 = .ok (.bipush 77, 2) := by decide +kernel
theorem dX12_log_128 : decode cX12_log 128 = .ok (.iaload, 1) := by decide +kernel
theorem dX12_log_129 : decode cX12_log 129 = .ok (.iastore, 1) := by decide +kernel
theorem dX12_log_130 : decode cX12_log 130 = .ok (.aload_n 0, 1) := by decide +kernel
theorem dX12_log_131 : decode cX12_log 131 = .ok (.getfield 67, 3) := by decide +kernel
theorem dX12_log_134 : decode cX12_log 134 = .ok (.iconst 3, 1) := by decide +kernel
theorem dX12_log_135 : decode cX12_log 135 = .ok (.aload_n 0, 1) := by decide +kernel
theorem dX12_log_136 : decode cX12_log 136 = .ok (.invokevirtual 233, 3) := by decide +kernel
theorem dX12_log_139 : decode cX12_log 139 = .ok (.iastore, 1) := by decide +kernel
theorem dX12_log_140 : decode cX12_log 140 = .ok (.aload_n 0, 1) := by decide +kernel
theorem dX12_log_141 : decode cX12_log 141 = .ok (.iconst 1, 1) := by decide +kernel
theorem dX12_log_142 : decode cX12_log 142 = .ok (.putfield 372, 3) := by decide +kernel
theorem dX12_log_145 : decode cX12_log 145 = .ok (.aload_n 0, 1) := by decide +kernel
theorem dX12_log_146 : decode cX12_log 146 = .ok (.iload_n 1, 1) := by decide +kernel
theorem dX12_log_147 : decode cX12_log 147 = .ok (.iconst 1, 1) := by decide +kernel
theorem dX12_log_148 : decode cX12_log 148 = .ok (.if_icmp .ne 11, 3) := by decide +kernel
theorem dX12_log_151 : decode cX12_log 151 = .ok (.iload_n 2, 1) := by decide +kernel
theorem dX12_log_152 : decode cX12_log 152 = .ok (.ifCond .le 7, 3) := by decide +kernel
theorem dX12_log_155 : decode cX12_log 155 = .ok (.iconst 1, 1) := by decide +kernel
theorem dX12_log_156 : decode cX12_log 156 = .ok (.goto 4, 3) := by decide +kernel
theorem dX12_log_159 : decode cX12_log 159 = .ok (.iconst 0, 1) := by decide +kernel
theorem dX12_log_160 : decode cX12_log 160 = .ok (.invokevirtual 376, 3) := by decide +kernel
theorem dX12_log_163 : decode cX12_log 163 = .ok (.iload_n 3, 1) := by decide +kernel
theorem dX12_log_164 : decode cX12_log 164 = .ok (.ifCond .ne 7, 3) := by decide +kernel
theorem dX12_log_167 : decode cX12_log 167 = .ok (.iconst (-1), 1) := by decide +kernel
theorem dX12_log_168 : decode cX12_log 168 = .ok (.goto 4, 3) := by decide +kernel
theorem dX12_log_171 : decode cX12_log 171 = .ok (.iload_n 2, 1) := by decide +kernel
theorem dX12_log_172 : decode cX12_log 172 = .ok (.ireturn, 1) := by decide +kernel
theorem dX12_stay_0 : decode cX12_stay 0 = .ok (.iconst 0, 1) := by decide +kernel
theorem dX12_stay_1 : decode cX12_stay 1 = .ok (.istore_n 2, 1) := by decide +kernel
theorem dX12_stay_2 : decode cX12_stay 2 = .ok (.iload_n 2, 1) := by decide +kernel
theorem dX12_stay_3 : decode cX12_stay 3 = .ok (.bipush 60, 2) := by decide +kernel
theorem dX12_stay_5 : decode cX12_stay 5 = .ok (.if_icmp .ge 41, 3) := by decide +kernel
theorem dX12_stay_8 : decode cX12_stay 8 = .ok (.aload_n 0, 1) := by decide +kernel
theorem dX12_stay_9 : decode cX12_stay 9 = .ok (.getfield 13, 3) := by decide +kernel
theorem dX12_stay_12 : decode cX12_stay 12 = .ok (.bipush 77, 2) := by decide +kernel
theorem dX12_stay_14 : decode cX12_stay 14 = .ok (.iload_n 2, 1) := by decide +kernel
theorem dX12_stay_15 : decode cX12_stay 15 = .ok (.iadd, 1) := by decide +kernel
theorem dX12_stay_16 : decode cX12_stay 16 = .ok (.iaload, 1) := by decide +kernel
theorem dX12_stay_17 : decode cX12_stay 17 = .ok (.istore_n 3, 1) := by decide +kernel
theorem dX12_stay_18 : decode cX12_stay 18 = .ok (.aload_n 0, 1) := by decide +kernel
theorem dX12_stay_19 : decode cX12_stay 19 = .ok (.getfield 13, 3) := by decide +kernel
theorem dX12_stay_22 : decode cX12_stay 22 = .ok (.bipush 77, 2) := by decide +kernel
theorem dX12_stay_24 : decode cX12_stay 24 = .ok (.iload_n 2, 1) := by decide +kernel
theorem dX12_stay_25 : decode cX12_stay 25 = .ok (.iadd, 1) := by decide +kernel
theorem dX12_stay_26 : decode cX12_stay 26 = .ok (.aload_n 0, 1) := by decide +kernel
theorem dX12_stay_27 : decode cX12_stay 27 = .ok (.getfield 25, 3) := by decide +kernel
theorem dX12_stay_30 : decode cX12_stay 30 = .ok (.iload_n 2, 1) := by decide +kernel
theorem dX12_stay_31 : decode cX12_stay 31 = .ok (.iaload, 1) := by decide +kernel
theorem dX12_stay_32 : decode cX12_stay 32 = .ok (.iastore, 1) := by decide +kernel
theorem dX12_stay_33 : decode cX12_stay 33 = .ok (.aload_n 0, 1) := by decide +kernel
theorem dX12_stay_34 : decode cX12_stay 34 = .ok (.getfield 25, 3) := by decide +kernel
theorem dX12_stay_37 : decode cX12_stay 37 = .ok (.iload_n 2, 1) := by decide +kernel
theorem dX12_stay_38 : decode cX12_stay 38 = .ok (.iload_n 3, 1) := by decide +kernel
theorem dX12_stay_39 : decode cX12_stay 39 = .ok (.iastore, 1) := by decide +kernel
theorem dX12_stay_40 : decode cX12_stay 40 = .ok (.iinc 2 1, 3) := by decide +kernel
theorem dX12_stay_43 : decode cX12_stay 43 = .ok (.goto (-41), 3) := by decide +kernel
theorem dX12_stay_46 : decode cX12_stay 46 = .ok (.iload_n 1, 1) := by decide +kernel
theorem dX12_stay_47 : decode cX12_stay 47 = .ok (.ifCond .ne 4, 3) := by decide +kernel
theorem dX12_stay_50 : decode cX12_stay 50 = .ok (.return_, 1) := by decide +kernel
theorem dX12_stay_51 : decode cX12_stay 51 = .ok (.aload_n 0, 1) := by decide +kernel
theorem dX12_stay_52 : decode cX12_stay 52 = .ok (.invokevirtual 263, 3) := by decide +kernel
theorem dX12_stay_55 : decode cX12_stay 55 = .ok (.aload_n 0, 1) := by decide +kernel
theorem dX12_stay_56 : decode cX12_stay 56 = .ok (.invokevirtual 326, 3) := by decide +kernel
theorem dX12_stay_59 : decode cX12_stay 59 = .ok (.return_, 1) := by decide +kernel
theorem dX12_logged_0 : decode cX12_logged 0 = .ok (.aload_n 0, 1) := by decide +kernel
theorem dX12_logged_1 : decode cX12_logged 1 = .ok (.iconst 0, 1) := by decide +kernel
theorem dX12_logged_2 : decode cX12_logged 2 = .ok (.putfield 73, 3) := by decide +kernel
theorem dX12_logged_5 : decode cX12_logged 5 = .ok (.aload_n 0, 1) := by decide +kernel
theorem dX12_logged_6 : decode cX12_logged 6 = .ok (.getfield 372, 3) := by decide +kernel
theorem dX12_logged_9 : decode cX12_logged 9 = .ok (.ifCond .eq 21, 3) := by decide +kernel
theorem dX12_logged_12 : decode cX12_logged 12 = .ok (.iload_n 1, 1) := by decide +kernel
theorem dX12_logged_13 : decode cX12_logged 13 = .ok (.iconst 0, 1) := by decide +kernel
theorem dX12_logged_14 : decode cX12_logged 14 = .ok (.iconst 3, 1) := by decide +kernel
theorem dX12_logged_15 : decode cX12_logged 15 = .ok (.invokestatic 140, 3) := by decide +kernel
theorem dX12_logged_18 : decode cX12_logged 18 = .ok (.ifCond .eq 12, 3) := by decide +kernel
theorem dX12_logged_21 : decode cX12_logged 21 = .ok (.aload_n 0, 1) := by decide +kernel
theorem dX12_logged_22 : decode cX12_logged 22 = .ok (.getfield 67, 3) := by decide +kernel
theorem dX12_logged_25 : decode cX12_logged 25 = .ok (.iload_n 1, 1) := by decide +kernel
theorem dX12_logged_26 : decode cX12_logged 26 = .ok (.iaload, 1) := by decide +kernel
theorem dX12_logged_27 : decode cX12_logged 27 = .ok (.goto 4, 3) := by decide +kernel
theorem dX12_logged_30 : decode cX12_logged 30 = .ok (.iconst (-1), 1) := by decide +kernel
theorem dX12_logged_31 : decode cX12_logged 31 = .ok (.ireturn, 1) := by decide +kernel
theorem dX12_saysOne_0 : decode cX12_saysOne 0 = .ok (.iconst 4, 1) := by decide +kernel
theorem dX12_saysOne_1 : decode cX12_saysOne 1 = .ok (.aload_n 0, 1) := by decide +kernel
theorem dX12_saysOne_2 : decode cX12_saysOne 2 = .ok (.getfield 380, 3) := by decide +kernel
theorem dX12_saysOne_5 : decode cX12_saysOne 5 = .ok (.imul, 1) := by decide +kernel
theorem dX12_saysOne_6 : decode cX12_saysOne 6 = .ok (.istore 5, 2) := by decide +kernel
theorem dX12_saysOne_8 : decode cX12_saysOne 8 = .ok (.aload_n 0, 1) := by decide +kernel
theorem dX12_saysOne_9 : decode cX12_saysOne 9 = .ok (.getfield 70, 3) := by decide +kernel
theorem dX12_saysOne_12 : decode cX12_saysOne 12 = .ok (.iload 5, 2) := by decide +kernel
theorem dX12_saysOne_14 : decode cX12_saysOne 14 = .ok (.iload_n 1, 1) := by decide +kernel
theorem dX12_saysOne_15 : decode cX12_saysOne 15 = .ok (.iastore, 1) := by decide +kernel
theorem dX12_saysOne_16 : decode cX12_saysOne 16 = .ok (.aload_n 0, 1) := by decide +kernel
theorem dX12_saysOne_17 : decode cX12_saysOne 17 = .ok (.getfield 70, 3) := by decide +kernel
theorem dX12_saysOne_20 : decode cX12_saysOne 20 = .ok (.iload 5, 2) := by decide +kernel
theorem dX12_saysOne_22 : decode cX12_saysOne 22 = .ok (.iconst 1, 1) := by decide +kernel
theorem dX12_saysOne_23 : decode cX12_saysOne 23 = .ok (.iadd, 1) := by decide +kernel
theorem dX12_saysOne_24 : decode cX12_saysOne 24 = .ok (.iload_n 2, 1) := by decide +kernel
theorem dX12_saysOne_25 : decode cX12_saysOne 25 = .ok (.iastore, 1) := by decide +kernel
theorem dX12_saysOne_26 : decode cX12_saysOne 26 = .ok (.aload_n 0, 1) := by decide +kernel
theorem dX12_saysOne_27 : decode cX12_saysOne 27 = .ok (.getfield 70, 3) := by decide +kernel
theorem dX12_saysOne_30 : decode cX12_saysOne 30 = .ok (.iload 5, 2) := by decide +kernel
theorem dX12_saysOne_32 : decode cX12_saysOne 32 = .ok (.iconst 2, 1) := by decide +kernel
theorem dX12_saysOne_33 : decode cX12_saysOne 33 = .ok (.iadd, 1) := by decide +kernel
theorem dX12_saysOne_34 : decode cX12_saysOne 34 = .ok (.iload_n 3, 1) := by decide +kernel
theorem dX12_saysOne_35 : decode cX12_saysOne 35 = .ok (.iastore, 1) := by decide +kernel
theorem dX12_saysOne_36 : decode cX12_saysOne 36 = .ok (.aload_n 0, 1) := by decide +kernel
theorem dX12_saysOne_37 : decode cX12_saysOne 37 = .ok (.getfield 70, 3) := by decide +kernel
theorem dX12_saysOne_40 : decode cX12_saysOne 40 = .ok (.iload 5, 2) := by decide +kernel
theorem dX12_saysOne_42 : decode cX12_saysOne 42 = .ok (.iconst 3, 1) := by decide +kernel
theorem dX12_saysOne_43 : decode cX12_saysOne 43 = .ok (.iadd, 1) := by decide +kernel
theorem dX12_saysOne_44 : decode cX12_saysOne 44 = .ok (.iload 4, 2) := by decide +kernel
theorem dX12_saysOne_46 : decode cX12_saysOne 46 = .ok (.iastore, 1) := by decide +kernel
theorem dX12_saysOne_47 : decode cX12_saysOne 47 = .ok (.aload_n 0, 1) := by decide +kernel
theorem dX12_saysOne_48 : decode cX12_saysOne 48 = .ok (.dup, 1) := by decide +kernel
theorem dX12_saysOne_49 : decode cX12_saysOne 49 = .ok (.getfield 380, 3) := by decide +kernel
theorem dX12_saysOne_52 : decode cX12_saysOne 52 = .ok (.iconst 1, 1) := by decide +kernel
theorem dX12_saysOne_53 : decode cX12_saysOne 53 = .ok (.iadd, 1) := by decide +kernel
theorem dX12_saysOne_54 : decode cX12_saysOne 54 = .ok (.putfield 380, 3) := by decide +kernel
theorem dX12_saysOne_57 : decode cX12_saysOne 57 = .ok (.aload_n 0, 1) := by decide +kernel
theorem dX12_saysOne_58 : decode cX12_saysOne 58 = .ok (.getfield 380, 3) := by decide +kernel
theorem dX12_saysOne_61 : decode cX12_saysOne 61 = .ok (.iconst 1, 1) := by decide +kernel
theorem dX12_saysOne_62 : decode cX12_saysOne 62 = .ok (.isub, 1) := by decide +kernel
theorem dX12_saysOne_63 : decode cX12_saysOne 63 = .ok (.ireturn, 1) := by decide +kernel
theorem dX12_readOr_0 : decode cX12_readOr 0 = .ok (.aload_n 0, 1) := by decide +kernel
theorem dX12_readOr_1 : decode cX12_readOr 1 = .ok (.invokevirtual 383, 3) := by decide +kernel
theorem dX12_readOr_4 : decode cX12_readOr 4 = .ok (.ifCond .ne 5, 3) := by decide +kernel
theorem dX12_readOr_7 : decode cX12_readOr 7 = .ok (.iconst 0, 1) := by decide +kernel
theorem dX12_readOr_8 : decode cX12_readOr 8 = .ok (.ireturn, 1) := by decide +kernel
theorem dX12_readOr_9 : decode cX12_readOr 9 = .ok (.aload_n 0, 1) := by decide +kernel
theorem dX12_readOr_10 : decode cX12_readOr 10 = .ok (.getfield 386, 3) := by decide +kernel
theorem dX12_readOr_13 : decode cX12_readOr 13 = .ok (.istore_n 1, 1) := by decide +kernel
theorem dX12_readOr_14 : decode cX12_readOr 14 = .ok (.aload_n 0, 1) := by decide +kernel
theorem dX12_readOr_15 : decode cX12_readOr 15 = .ok (.bipush 9, 2) := by decide +kernel
theorem dX12_readOr_17 : decode cX12_readOr 17 = .ok (.invokevirtual 179, 3) := by decide +kernel
theorem dX12_readOr_20 : decode cX12_readOr 20 = .ok (.ifCond .eq 31, 3) := by decide +kernel
theorem dX12_readOr_23 : decode cX12_readOr 23 = .ok (.aload_n 0, 1) := by decide +kernel
