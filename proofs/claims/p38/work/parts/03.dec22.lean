theorem dX12_writeWord_13 : decode cX12_writeWord 13 = .ok (.ldiv, 1) := by decide +kernel
theorem dX12_writeWord_14 : decode cX12_writeWord 14 = .ok (.invokevirtual 338, 3) := by decide +kernel
theorem dX12_writeWord_17 : decode cX12_writeWord 17 = .ok (.aload_n 0, 1) := by decide +kernel
theorem dX12_writeWord_18 : decode cX12_writeWord 18 = .ok (.bipush 96, 2) := by decide +kernel
theorem dX12_writeWord_20 : decode cX12_writeWord 20 = .ok (.lload_n 1, 1) := by decide +kernel
theorem dX12_writeWord_21 : decode cX12_writeWord 21 = .ok (.ldc2_w 119, 3) := by decide +kernel
theorem dX12_writeWord_24 : decode cX12_writeWord 24 = .ok (.lrem, 1) := by decide +kernel
theorem dX12_writeWord_25 : decode cX12_writeWord 25 = .ok (.l2i, 1) := by decide +kernel
theorem dX12_writeWord_26 : decode cX12_writeWord 26 = .ok (.iadd, 1) := by decide +kernel
theorem dX12_writeWord_27 : decode cX12_writeWord 27 = .ok (.invokevirtual 342, 3) := by decide +kernel
theorem dX12_writeWord_30 : decode cX12_writeWord 30 = .ok (.return_, 1) := by decide +kernel
theorem dX12_writeNumber_0 : decode cX12_writeNumber 0 = .ok (.iload_n 1, 1) := by decide +kernel
theorem dX12_writeNumber_1 : decode cX12_writeNumber 1 = .ok (.bipush 9, 2) := by decide +kernel
theorem dX12_writeNumber_3 : decode cX12_writeNumber 3 = .ok (.if_icmp .le 11, 3) := by decide +kernel
theorem dX12_writeNumber_6 : decode cX12_writeNumber 6 = .ok (.aload_n 0, 1) := by decide +kernel
theorem dX12_writeNumber_7 : decode cX12_writeNumber 7 = .ok (.iload_n 1, 1) := by decide +kernel
theorem dX12_writeNumber_8 : decode cX12_writeNumber 8 = .ok (.bipush 10, 2) := by decide +kernel
theorem dX12_writeNumber_10 : decode cX12_writeNumber 10 = .ok (.idiv, 1) := by decide +kernel
theorem dX12_writeNumber_11 : decode cX12_writeNumber 11 = .ok (.invokevirtual 345, 3) := by decide +kernel
theorem dX12_writeNumber_14 : decode cX12_writeNumber 14 = .ok (.aload_n 0, 1) := by decide +kernel
theorem dX12_writeNumber_15 : decode cX12_writeNumber 15 = .ok (.bipush 48, 2) := by decide +kernel
theorem dX12_writeNumber_17 : decode cX12_writeNumber 17 = .ok (.iload_n 1, 1) := by decide +kernel
theorem dX12_writeNumber_18 : decode cX12_writeNumber 18 = .ok (.bipush 10, 2) := by decide +kernel
theorem dX12_writeNumber_20 : decode cX12_writeNumber 20 = .ok (.irem, 1) := by decide +kernel
theorem dX12_writeNumber_21 : decode cX12_writeNumber 21 = .ok (.iadd, 1) := by decide +kernel
theorem dX12_writeNumber_22 : decode cX12_writeNumber 22 = .ok (.invokevirtual 342, 3) := by decide +kernel
theorem dX12_writeNumber_25 : decode cX12_writeNumber 25 = .ok (.return_, 1) := by decide +kernel
theorem dX12_writeNext_0 : decode cX12_writeNext 0 = .ok (.aload_n 0, 1) := by decide +kernel
theorem dX12_writeNext_1 : decode cX12_writeNext 1 = .ok (.bipush 32, 2) := by decide +kernel
theorem dX12_writeNext_3 : decode cX12_writeNext 3 = .ok (.invokevirtual 342, 3) := by decide +kernel
theorem dX12_writeNext_6 : decode cX12_writeNext 6 = .ok (.aload_n 0, 1) := by decide +kernel
theorem dX12_writeNext_7 : decode cX12_writeNext 7 = .ok (.lload_n 1, 1) := by decide +kernel
theorem dX12_writeNext_8 : decode cX12_writeNext 8 = .ok (.invokevirtual 338, 3) := by decide +kernel
theorem dX12_writeNext_11 : decode cX12_writeNext 11 = .ok (.return_, 1) := by decide +kernel
theorem dX12_tell_0 : decode cX12_tell 0 = .ok (.aload_n 0, 1) := by decide +kernel
theorem dX12_tell_1 : decode cX12_tell 1 = .ok (.iconst 0, 1) := by decide +kernel
theorem dX12_tell_2 : decode cX12_tell 2 = .ok (.putfield 73, 3) := by decide +kernel
theorem dX12_tell_5 : decode cX12_tell 5 = .ok (.aload_n 0, 1) := by decide +kernel
theorem dX12_tell_6 : decode cX12_tell 6 = .ok (.iload_n 1, 1) := by decide +kernel
theorem dX12_tell_7 : decode cX12_tell 7 = .ok (.invokevirtual 221, 3) := by decide +kernel
theorem dX12_tell_10 : decode cX12_tell 10 = .ok (.ifCond .ne 5, 3) := by decide +kernel
theorem dX12_tell_13 : decode cX12_tell 13 = .ok (.iconst (-1), 1) := by decide +kernel
theorem dX12_tell_14 : decode cX12_tell 14 = .ok (.ireturn, 1) := by decide +kernel
theorem dX12_tell_15 : decode cX12_tell 15 = .ok (.aload_n 0, 1) := by decide +kernel
theorem dX12_tell_16 : decode cX12_tell 16 = .ok (.iconst 0, 1) := by decide +kernel
theorem dX12_tell_17 : decode cX12_tell 17 = .ok (.putfield 335, 3) := by decide +kernel
theorem dX12_tell_20 : decode cX12_tell 20 = .ok (.aload_n 0, 1) := by decide +kernel
theorem dX12_tell_21 : decode cX12_tell 21 = .ok (.aload_n 0, 1) := by decide +kernel
theorem dX12_tell_22 : decode cX12_tell 22 = .ok (.getfield 28, 3) := by decide +kernel
theorem dX12_tell_25 : decode cX12_tell 25 = .ok (.iload_n 1, 1) := by decide +kernel
theorem dX12_tell_26 : decode cX12_tell 26 = .ok (.laload, 1) := by decide +kernel
theorem dX12_tell_27 : decode cX12_tell 27 = .ok (.invokevirtual 338, 3) := by decide +kernel
theorem dX12_tell_30 : decode cX12_tell 30 = .ok (.aload_n 0, 1) := by decide +kernel
theorem dX12_tell_31 : decode cX12_tell 31 = .ok (.iload_n 1, 1) := by decide +kernel
theorem dX12_tell_32 : decode cX12_tell 32 = .ok (.invokevirtual 227, 3) := by decide +kernel
theorem dX12_tell_35 : decode cX12_tell 35 = .ok (.istore_n 2, 1) := by decide +kernel
theorem dX12_tell_36 : decode cX12_tell 36 = .ok (.iload_n 2, 1) := by decide +kernel
theorem dX12_tell_37 : decode cX12_tell 37 = .ok (.ifCond .ne 30, 3) := by decide +kernel
theorem dX12_tell_40 : decode cX12_tell 40 = .ok (.aload_n 0, 1) := by decide +kernel
theorem dX12_tell_41 : decode cX12_tell 41 = .ok (.bipush 105, 2) := by decide +kernel
theorem dX12_tell_43 : decode cX12_tell 43 = .ok (.bipush 115, 2) := by decide +kernel
theorem dX12_tell_45 : decode cX12_tell 45 = .ok (.iconst 0, 1) := by decide +kernel
theorem dX12_tell_46 : decode cX12_tell 46 = .ok (.iconst 0, 1) := by decide +kernel
theorem dX12_tell_47 : decode cX12_tell 47 = .ok (.iconst 0, 1) := by decide +kernel
theorem dX12_tell_48 : decode cX12_tell 48 = .ok (.iconst 0, 1) := by decide +kernel
theorem dX12_tell_49 : decode cX12_tell 49 = .ok (.iconst 0, 1) := by decide +kernel
theorem dX12_tell_50 : decode cX12_tell 50 = .ok (.invokestatic 123, 3) := by decide +kernel
theorem dX12_tell_53 : decode cX12_tell 53 = .ok (.invokevirtual 348, 3) := by decide +kernel
theorem dX12_tell_56 : decode cX12_tell 56 = .ok (.aload_n 0, 1) := by decide +kernel
theorem dX12_tell_57 : decode cX12_tell 57 = .ok (.iconst 3, 1) := by decide +kernel
theorem dX12_tell_58 : decode cX12_tell 58 = .ok (.invokestatic 127, 3) := by decide +kernel
theorem dX12_tell_61 : decode cX12_tell 61 = .ok (.invokevirtual 348, 3) := by decide +kernel
theorem dX12_tell_64 : decode cX12_tell 64 = .ok (.goto 153, 3) := by decide +kernel
theorem dX12_tell_67 : decode cX12_tell 67 = .ok (.iload_n 2, 1) := by decide +kernel
theorem dX12_tell_68 : decode cX12_tell 68 = .ok (.bipush 16, 2) := by decide +kernel
theorem dX12_tell_70 : decode cX12_tell 70 = .ok (.if_icmp .ne 34, 3) := by decide +kernel
theorem dX12_tell_73 : decode cX12_tell 73 = .ok (.aload_n 0, 1) := by decide +kernel
theorem dX12_tell_74 : decode cX12_tell 74 = .ok (.bipush 14, 2) := by decide +kernel
theorem dX12_tell_76 : decode cX12_tell 76 = .ok (.invokestatic 127, 3) := by decide +kernel
theorem dX12_tell_79 : decode cX12_tell 79 = .ok (.invokevirtual 348, 3) := by decide +kernel
theorem dX12_tell_82 : decode cX12_tell 82 = .ok (.aload_n 0, 1) := by decide +kernel
theorem dX12_tell_83 : decode cX12_tell 83 = .ok (.bipush 32, 2) := by decide +kernel
theorem dX12_tell_85 : decode cX12_tell 85 = .ok (.invokevirtual 342, 3) := by decide +kernel
theorem dX12_tell_88 : decode cX12_tell 88 = .ok (.aload_n 0, 1) := by decide +kernel
theorem dX12_tell_89 : decode cX12_tell 89 = .ok (.aload_n 0, 1) := by decide +kernel
theorem dX12_tell_90 : decode cX12_tell 90 = .ok (.getfield 13, 3) := by decide +kernel
theorem dX12_tell_93 : decode cX12_tell 93 = .ok (.bipush 87, 2) := by decide +kernel
theorem dX12_tell_95 : decode cX12_tell 95 = .ok (.iload_n 1, 1) := by decide +kernel
theorem dX12_tell_96 : decode cX12_tell 96 = .ok (.iadd, 1) := by decide +kernel
theorem dX12_tell_97 : decode cX12_tell 97 = .ok (.iaload, 1) := by decide +kernel
theorem dX12_tell_98 : decode cX12_tell 98 = .ok (.invokevirtual 345, 3) := by decide +kernel
theorem dX12_tell_101 : decode cX12_tell 101 = .ok (.goto 116, 3) := by decide +kernel
theorem dX12_tell_104 : decode cX12_tell 104 = .ok (.iload_n 2, 1) := by decide +kernel
theorem dX12_tell_105 : decode cX12_tell 105 = .ok (.bipush 16, 2) := by decide +kernel
theorem dX12_tell_107 : decode cX12_tell 107 = .ok (.if_icmp .ge 32, 3) := by decide +kernel
theorem dX12_tell_110 : decode cX12_tell 110 = .ok (.aload_n 0, 1) := by decide +kernel
theorem dX12_tell_111 : decode cX12_tell 111 = .ok (.bipush 15, 2) := by decide +kernel
theorem dX12_tell_113 : decode cX12_tell 113 = .ok (.invokestatic 127, 3) := by decide +kernel
theorem dX12_tell_116 : decode cX12_tell 116 = .ok (.invokevirtual 348, 3) := by decide +kernel
theorem dX12_tell_119 : decode cX12_tell 119 = .ok (.aload_n 0, 1) := by decide +kernel
theorem dX12_tell_120 : decode cX12_tell 120 = .ok (.aload_n 0, 1) := by decide +kernel
theorem dX12_tell_121 : decode cX12_tell 121 = .ok (.getfield 28, 3) := by decide +kernel
theorem dX12_tell_124 : decode cX12_tell 124 = .ok (.bipush 6, 2) := by decide +kernel
theorem dX12_tell_126 : decode cX12_tell 126 = .ok (.aload_n 0, 1) := by decide +kernel
theorem dX12_tell_127 : decode cX12_tell 127 = .ok (.iload_n 1, 1) := by decide +kernel
theorem dX12_tell_128 : decode cX12_tell 128 = .ok (.invokevirtual 212, 3) := by decide +kernel
theorem dX12_tell_131 : decode cX12_tell 131 = .ok (.iadd, 1) := by decide +kernel
theorem dX12_tell_132 : decode cX12_tell 132 = .ok (.laload, 1) := by decide +kernel
theorem dX12_tell_133 : decode cX12_tell 133 = .ok (.invokevirtual 348, 3) := by decide +kernel
theorem dX12_tell_136 : decode cX12_tell 136 = .ok (.goto 81, 3) := by decide +kernel
theorem dX12_tell_139 : decode cX12_tell 139 = .ok (.iload_n 2, 1) := by decide +kernel
theorem dX12_tell_140 : decode cX12_tell 140 = .ok (.bipush 17, 2) := by decide +kernel
theorem dX12_tell_142 : decode cX12_tell 142 = .ok (.if_icmp .ne 40, 3) := by decide +kernel
theorem dX12_tell_145 : decode cX12_tell 145 = .ok (.aload_n 0, 1) := by decide +kernel
theorem dX12_tell_146 : decode cX12_tell 146 = .ok (.bipush 15, 2) := by decide +kernel
theorem dX12_tell_148 : decode cX12_tell 148 = .ok (.invokestatic 127, 3) := by decide +kernel
theorem dX12_tell_151 : decode cX12_tell 151 = .ok (.invokevirtual 348, 3) := by decide +kernel
theorem dX12_tell_154 : decode cX12_tell 154 = .ok (.aload_n 0, 1) := by decide +kernel
theorem dX12_tell_155 : decode cX12_tell 155 = .ok (.bipush 110, 2) := by decide +kernel
theorem dX12_tell_157 : decode cX12_tell 157 = .ok (.bipush 111, 2) := by decide +kernel
theorem dX12_tell_159 : decode cX12_tell 159 = .ok (.iconst 0, 1) := by decide +kernel
theorem dX12_tell_160 : decode cX12_tell 160 = .ok (.iconst 0, 1) := by decide +kernel
theorem dX12_tell_161 : decode cX12_tell 161 = .ok (.iconst 0, 1) := by decide +kernel
theorem dX12_tell_162 : decode cX12_tell 162 = .ok (.iconst 0, 1) := by decide +kernel
theorem dX12_tell_163 : decode cX12_tell 163 = .ok (.iconst 0, 1) := by decide +kernel
theorem dX12_tell_164 : decode cX12_tell 164 = .ok (.invokestatic 123, 3) := by decide +kernel
theorem dX12_tell_167 : decode cX12_tell 167 = .ok (.invokevirtual 348, 3) := by decide +kernel
theorem dX12_tell_170 : decode cX12_tell 170 = .ok (.aload_n 0, 1) := by decide +kernel
theorem dX12_tell_171 : decode cX12_tell 171 = .ok (.bipush 19, 2) := by decide +kernel
theorem dX12_tell_173 : decode cX12_tell 173 = .ok (.invokestatic 127, 3) := by decide +kernel
theorem dX12_tell_176 : decode cX12_tell 176 = .ok (.invokevirtual 348, 3) := by decide +kernel
theorem dX12_tell_179 : decode cX12_tell 179 = .ok (.goto 38, 3) := by decide +kernel
theorem dX12_tell_182 : decode cX12_tell 182 = .ok (.aload_n 0, 1) := by decide +kernel
theorem dX12_tell_183 : decode cX12_tell 183 = .ok (.aload_n 0, 1) := by decide +kernel
theorem dX12_tell_184 : decode cX12_tell 184 = .ok (.iload_n 1, 1) := by decide +kernel
theorem dX12_tell_185 : decode cX12_tell 185 = .ok (.invokevirtual 218, 3) := by decide +kernel
theorem dX12_tell_188 : decode cX12_tell 188 = .ok (.ifCond .eq 11, 3) := by decide +kernel
theorem dX12_tell_191 : decode cX12_tell 191 = .ok (.bipush 12, 2) := by decide +kernel
theorem dX12_tell_193 : decode cX12_tell 193 = .ok (.invokestatic 127, 3) := by decide +kernel
theorem dX12_tell_196 : decode cX12_tell 196 = .ok (.goto 18, 3) := by decide +kernel
theorem dX12_tell_199 : decode cX12_tell 199 = .ok (.bipush 119, 2) := by decide +kernel
theorem dX12_tell_201 : decode cX12_tell 201 = .ok (.bipush 97, 2) := by decide +kernel
theorem dX12_tell_203 : decode cX12_tell 203 = .ok (.bipush 105, 2) := by decide +kernel
theorem dX12_tell_205 : decode cX12_tell 205 = .ok (.bipush 116, 2) := by decide +kernel
theorem dX12_tell_207 : decode cX12_tell 207 = .ok (.bipush 115, 2) := by decide +kernel
theorem dX12_tell_209 : decode cX12_tell 209 = .ok (.iconst 0, 1) := by decide +kernel
theorem dX12_tell_210 : decode cX12_tell 210 = .ok (.iconst 0, 1) := by decide +kernel
theorem dX12_tell_211 : decode cX12_tell 211 = .ok (.invokestatic 123, 3) := by decide +kernel
theorem dX12_tell_214 : decode cX12_tell 214 = .ok (.invokevirtual 348, 3) := by decide +kernel
theorem dX12_tell_217 : decode cX12_tell 217 = .ok (.aload_n 0, 1) := by decide +kernel
theorem dX12_tell_218 : decode cX12_tell 218 = .ok (.getfield 335, 3) := by decide +kernel
theorem dX12_tell_221 : decode cX12_tell 221 = .ok (.ireturn, 1) := by decide +kernel
theorem dX12_byteAt_0 : decode cX12_byteAt 0 = .ok (.aload_n 0, 1) := by decide +kernel
theorem dX12_byteAt_1 : decode cX12_byteAt 1 = .ok (.iconst 0, 1) := by decide +kernel
theorem dX12_byteAt_2 : decode cX12_byteAt 2 = .ok (.putfield 73, 3) := by decide +kernel
theorem dX12_byteAt_5 : decode cX12_byteAt 5 = .ok (.iload_n 1, 1) := by decide +kernel
theorem dX12_byteAt_6 : decode cX12_byteAt 6 = .ok (.iconst 0, 1) := by decide +kernel
theorem dX12_byteAt_7 : decode cX12_byteAt 7 = .ok (.aload_n 0, 1) := by decide +kernel
theorem dX12_byteAt_8 : decode cX12_byteAt 8 = .ok (.getfield 335, 3) := by decide +kernel
theorem dX12_byteAt_11 : decode cX12_byteAt 11 = .ok (.iconst 1, 1) := by decide +kernel
theorem dX12_byteAt_12 : decode cX12_byteAt 12 = .ok (.isub, 1) := by decide +kernel
theorem dX12_byteAt_13 : decode cX12_byteAt 13 = .ok (.invokestatic 140, 3) := by decide +kernel
theorem dX12_byteAt_16 : decode cX12_byteAt 16 = .ok (.ifCond .eq 12, 3) := by decide +kernel
theorem dX12_byteAt_19 : decode cX12_byteAt 19 = .ok (.aload_n 0, 1) := by decide +kernel
theorem dX12_byteAt_20 : decode cX12_byteAt 20 = .ok (.getfield 61, 3) := by decide +kernel
theorem dX12_byteAt_23 : decode cX12_byteAt 23 = .ok (.iload_n 1, 1) := by decide +kernel
theorem dX12_byteAt_24 : decode cX12_byteAt 24 = .ok (.iaload, 1) := by decide +kernel
theorem dX12_byteAt_25 : decode cX12_byteAt 25 = .ok (.goto 4, 3) := by decide +kernel
theorem dX12_byteAt_28 : decode cX12_byteAt 28 = .ok (.iconst (-1), 1) := by decide +kernel
theorem dX12_byteAt_29 : decode cX12_byteAt 29 = .ok (.ireturn, 1) := by decide +kernel
theorem dX12_tryTo_0 : decode cX12_tryTo 0 = .ok (.aload_n 0, 1) := by decide +kernel
theorem dX12_tryTo_1 : decode cX12_tryTo 1 = .ok (.iload_n 1, 1) := by decide +kernel
theorem dX12_tryTo_2 : decode cX12_tryTo 2 = .ok (.iload_n 2, 1) := by decide +kernel
theorem dX12_tryTo_3 : decode cX12_tryTo 3 = .ok (.invokevirtual 259, 3) := by decide +kernel
theorem dX12_tryTo_6 : decode cX12_tryTo 6 = .ok (.ifCond .ne 9, 3) := by decide +kernel
theorem dX12_tryTo_9 : decode cX12_tryTo 9 = .ok (.aload_n 0, 1) := by decide +kernel
theorem dX12_tryTo_10 : decode cX12_tryTo 10 = .ok (.iload_n 1, 1) := by decide +kernel
theorem dX12_tryTo_11 : decode cX12_tryTo 11 = .ok (.iload_n 2, 1) := by decide +kernel
theorem dX12_tryTo_12 : decode cX12_tryTo 12 = .ok (.invokevirtual 266, 3) := by decide +kernel
theorem dX12_tryTo_15 : decode cX12_tryTo 15 = .ok (.return_, 1) := by decide +kernel
theorem dX12_drawMinutes_0 : decode cX12_drawMinutes 0 = .ok (.aload_n 0, 1) := by decide +kernel
theorem dX12_drawMinutes_1 : decode cX12_drawMinutes 1 = .ok (.iload_n 2, 1) := by decide +kernel
theorem dX12_drawMinutes_2 : decode cX12_drawMinutes 2 = .ok (.putfield 236, 3) := by decide +kernel
theorem dX12_drawMinutes_5 : decode cX12_drawMinutes 5 = .ok (.iload_n 1, 1) := by decide +kernel
theorem dX12_drawMinutes_6 : decode cX12_drawMinutes 6 = .ok (.sipush 1000, 3) := by decide +kernel
theorem dX12_drawMinutes_9 : decode cX12_drawMinutes 9 = .ok (.aload_n 0, 1) := by decide +kernel
theorem dX12_drawMinutes_10 : decode cX12_drawMinutes 10 = .ok (.getfield 13, 3) := by decide +kernel
theorem dX12_drawMinutes_13 : decode cX12_drawMinutes 13 = .ok (.bipush 77, 2) := by decide +kernel
theorem dX12_drawMinutes_15 : decode cX12_drawMinutes 15 = .ok (.iaload, 1) := by decide +kernel
theorem dX12_drawMinutes_16 : decode cX12_drawMinutes 16 = .ok (.isub, 1) := by decide +kernel
theorem dX12_drawMinutes_17 : decode cX12_drawMinutes 17 = .ok (.invokestatic 273, 3) := by decide +kernel
theorem dX12_drawMinutes_20 : decode cX12_drawMinutes 20 = .ok (.istore_n 3, 1) := by decide +kernel
theorem dX12_drawMinutes_21 : decode cX12_drawMinutes 21 = .ok (.iconst 0, 1) := by decide +kernel
theorem dX12_drawMinutes_22 : decode cX12_drawMinutes 22 = .ok (.istore 4, 2) := by decide +kernel
theorem dX12_drawMinutes_24 : decode cX12_drawMinutes 24 = .ok (.iload 4, 2) := by decide +kernel
theorem dX12_drawMinutes_26 : decode cX12_drawMinutes 26 = .ok (.iload_n 3, 1) := by decide +kernel
theorem dX12_drawMinutes_27 : decode cX12_drawMinutes 27 = .ok (.if_icmp .ge 96, 3) := by decide +kernel
theorem dX12_drawMinutes_30 : decode cX12_drawMinutes 30 = .ok (.aload_n 0, 1) := by decide +kernel
theorem dX12_drawMinutes_31 : decode cX12_drawMinutes 31 = .ok (.bipush 30, 2) := by decide +kernel
theorem dX12_drawMinutes_33 : decode cX12_drawMinutes 33 = .ok (.invokevirtual 240, 3) := by decide +kernel
theorem dX12_drawMinutes_36 : decode cX12_drawMinutes 36 = .ok (.ifCond .ne 27, 3) := by decide +kernel
theorem dX12_drawMinutes_39 : decode cX12_drawMinutes 39 = .ok (.aload_n 0, 1) := by decide +kernel
theorem dX12_drawMinutes_40 : decode cX12_drawMinutes 40 = .ok (.getfield 13, 3) := by decide +kernel
theorem dX12_drawMinutes_43 : decode cX12_drawMinutes 43 = .ok (.iconst 1, 1) := by decide +kernel
theorem dX12_drawMinutes_44 : decode cX12_drawMinutes 44 = .ok (.iaload, 1) := by decide +kernel
theorem dX12_drawMinutes_45 : decode cX12_drawMinutes 45 = .ok (.ifCond .le 18, 3) := by decide +kernel
theorem dX12_drawMinutes_48 : decode cX12_drawMinutes 48 = .ok (.aload_n 0, 1) := by decide +kernel
theorem dX12_drawMinutes_49 : decode cX12_drawMinutes 49 = .ok (.iconst 4, 1) := by decide +kernel
theorem dX12_drawMinutes_50 : decode cX12_drawMinutes 50 = .ok (.aload_n 0, 1) := by decide +kernel
theorem dX12_drawMinutes_51 : decode cX12_drawMinutes 51 = .ok (.aload_n 0, 1) := by decide +kernel
theorem dX12_drawMinutes_52 : decode cX12_drawMinutes 52 = .ok (.getfield 13, 3) := by decide +kernel
theorem dX12_drawMinutes_55 : decode cX12_drawMinutes 55 = .ok (.iconst 1, 1) := by decide +kernel
theorem dX12_drawMinutes_56 : decode cX12_drawMinutes 56 = .ok (.iaload, 1) := by decide +kernel
theorem dX12_drawMinutes_57 : decode cX12_drawMinutes 57 = .ok (.invokevirtual 240, 3) := by decide +kernel
theorem dX12_drawMinutes_60 : decode cX12_drawMinutes 60 = .ok (.invokevirtual 351, 3) := by decide +kernel
theorem dX12_drawMinutes_63 : decode cX12_drawMinutes 63 = .ok (.iconst 0, 1) := by decide +kernel
theorem dX12_drawMinutes_64 : decode cX12_drawMinutes 64 = .ok (.istore 5, 2) := by decide +kernel
theorem dX12_drawMinutes_66 : decode cX12_drawMinutes 66 = .ok (.iload 5, 2) := by decide +kernel
theorem dX12_drawMinutes_68 : decode cX12_drawMinutes 68 = .ok (.aload_n 0, 1) := by decide +kernel
theorem dX12_drawMinutes_69 : decode cX12_drawMinutes 69 = .ok (.getfield 13, 3) := by decide +kernel
theorem dX12_drawMinutes_72 : decode cX12_drawMinutes 72 = .ok (.iconst 0, 1) := by decide +kernel
theorem dX12_drawMinutes_73 : decode cX12_drawMinutes 73 = .ok (.iaload, 1) := by decide +kernel
theorem dX12_drawMinutes_74 : decode cX12_drawMinutes 74 = .ok (.if_icmp .ge 39, 3) := by decide +kernel
theorem dX12_drawMinutes_77 : decode cX12_drawMinutes 77 = .ok (.aload_n 0, 1) := by decide +kernel
theorem dX12_drawMinutes_78 : decode cX12_drawMinutes 78 = .ok (.bipush 20, 2) := by decide +kernel
theorem dX12_drawMinutes_80 : decode cX12_drawMinutes 80 = .ok (.invokevirtual 240, 3) := by decide +kernel
theorem dX12_drawMinutes_83 : decode cX12_drawMinutes 83 = .ok (.istore 6, 2) := by decide +kernel
theorem dX12_drawMinutes_85 : decode cX12_drawMinutes 85 = .ok (.iload 6, 2) := by decide +kernel
theorem dX12_drawMinutes_87 : decode cX12_drawMinutes 87 = .ok (.iconst 4, 1) := by decide +kernel
theorem dX12_drawMinutes_88 : decode cX12_drawMinutes 88 = .ok (.if_icmp .ge 19, 3) := by decide +kernel
theorem dX12_drawMinutes_91 : decode cX12_drawMinutes 91 = .ok (.aload_n 0, 1) := by decide +kernel
theorem dX12_drawMinutes_92 : decode cX12_drawMinutes 92 = .ok (.iload 6, 2) := by decide +kernel
theorem dX12_drawMinutes_94 : decode cX12_drawMinutes 94 = .ok (.ifCond .ne 7, 3) := by decide +kernel
theorem dX12_drawMinutes_97 : decode cX12_drawMinutes 97 = .ok (.iconst 0, 1) := by decide +kernel
theorem dX12_drawMinutes_98 : decode cX12_drawMinutes 98 = .ok (.goto 4, 3) := by decide +kernel
theorem dX12_drawMinutes_101 : decode cX12_drawMinutes 101 = .ok (.iconst 1, 1) := by decide +kernel
theorem dX12_drawMinutes_102 : decode cX12_drawMinutes 102 = .ok (.iload 5, 2) := by decide +kernel
theorem dX12_drawMinutes_104 : decode cX12_drawMinutes 104 = .ok (.invokevirtual 351, 3) := by decide +kernel
theorem dX12_drawMinutes_107 : decode cX12_drawMinutes 107 = .ok (.iinc 5 1, 3) := by decide +kernel
theorem dX12_drawMinutes_110 : decode cX12_drawMinutes 110 = .ok (.goto (-44), 3) := by decide +kernel
theorem dX12_drawMinutes_113 : decode cX12_drawMinutes 113 = .ok (.aload_n 0, 1) := by decide +kernel
theorem dX12_drawMinutes_114 : decode cX12_drawMinutes 114 = .ok (.invokevirtual 276, 3) := by decide +kernel
theorem dX12_drawMinutes_117 : decode cX12_drawMinutes 117 = .ok (.iinc 4 1, 3) := by decide +kernel
theorem dX12_drawMinutes_120 : decode cX12_drawMinutes 120 = .ok (.goto (-96), 3) := by decide +kernel
theorem dX12_drawMinutes_123 : decode cX12_drawMinutes 123 = .ok (.iload_n 3, 1) := by decide +kernel
theorem dX12_drawMinutes_124 : decode cX12_drawMinutes 124 = .ok (.ireturn, 1) := by decide +kernel
theorem dX12_drawn_0 : decode cX12_drawn 0 = .ok (.aload_n 0, 1) := by decide +kernel
theorem dX12_drawn_1 : decode cX12_drawn 1 = .ok (.iconst 0, 1) := by decide +kernel
theorem dX12_drawn_2 : decode cX12_drawn 2 = .ok (.putfield 73, 3) := by decide +kernel
theorem dX12_drawn_5 : decode cX12_drawn 5 = .ok (.iload_n 1, 1) := by decide +kernel
theorem dX12_drawn_6 : decode cX12_drawn 6 = .ok (.iconst 1, 1) := by decide +kernel
theorem dX12_drawn_7 : decode cX12_drawn 7 = .ok (.bipush 60, 2) := by decide +kernel
theorem dX12_drawn_9 : decode cX12_drawn 9 = .ok (.invokestatic 140, 3) := by decide +kernel
theorem dX12_drawn_12 : decode cX12_drawn 12 = .ok (.ifCond .eq 12, 3) := by decide +kernel
theorem dX12_drawn_15 : decode cX12_drawn 15 = .ok (.aload_n 0, 1) := by decide +kernel
theorem dX12_drawn_16 : decode cX12_drawn 16 = .ok (.getfield 13, 3) := by decide +kernel
theorem dX12_drawn_19 : decode cX12_drawn 19 = .ok (.iconst 0, 1) := by decide +kernel
theorem dX12_drawn_20 : decode cX12_drawn 20 = .ok (.iaload, 1) := by decide +kernel
theorem dX12_drawn_21 : decode cX12_drawn 21 = .ok (.ifCond .ne 5, 3) := by decide +kernel
theorem dX12_drawn_24 : decode cX12_drawn 24 = .ok (.iconst (-1), 1) := by decide +kernel
theorem dX12_drawn_25 : decode cX12_drawn 25 = .ok (.ireturn, 1) := by decide +kernel
theorem dX12_drawn_26 : decode cX12_drawn 26 = .ok (.aload_n 0, 1) := by decide +kernel
theorem dX12_drawn_27 : decode cX12_drawn 27 = .ok (.getfield 13, 3) := by decide +kernel
theorem dX12_drawn_30 : decode cX12_drawn 30 = .ok (.bipush 77, 2) := by decide +kernel
theorem dX12_drawn_32 : decode cX12_drawn 32 = .ok (.iaload, 1) := by decide +kernel
theorem dX12_drawn_33 : decode cX12_drawn 33 = .ok (.sipush 1000, 3) := by decide +kernel
theorem dX12_drawn_36 : decode cX12_drawn 36 = .ok (.if_icmp .ne 5, 3) := by decide +kernel
theorem dX12_drawn_39 : decode cX12_drawn 39 = .ok (.iconst 0, 1) := by decide +kernel
theorem dX12_drawn_40 : decode cX12_drawn 40 = .ok (.ireturn, 1) := by decide +kernel
theorem dX12_drawn_41 : decode cX12_drawn 41 = .ok (.aload_n 0, 1) := by decide +kernel
theorem dX12_drawn_42 : decode cX12_drawn 42 = .ok (.invokevirtual 263, 3) := by decide +kernel
theorem dX12_drawn_45 : decode cX12_drawn 45 = .ok (.aload_n 0, 1) := by decide +kernel
theorem dX12_drawn_46 : decode cX12_drawn 46 = .ok (.iload_n 1, 1) := by decide +kernel
theorem dX12_drawn_47 : decode cX12_drawn 47 = .ok (.iload_n 2, 1) := by decide +kernel
theorem dX12_drawn_48 : decode cX12_drawn 48 = .ok (.invokevirtual 354, 3) := by decide +kernel
theorem dX12_drawn_51 : decode cX12_drawn 51 = .ok (.ireturn, 1) := by decide +kernel
theorem dX12_odds_0 : decode cX12_odds 0 = .ok (.aload_n 0, 1) := by decide +kernel
theorem dX12_odds_1 : decode cX12_odds 1 = .ok (.iconst 0, 1) := by decide +kernel
theorem dX12_odds_2 : decode cX12_odds 2 = .ok (.putfield 73, 3) := by decide +kernel
theorem dX12_odds_5 : decode cX12_odds 5 = .ok (.aload_n 0, 1) := by decide +kernel
theorem dX12_odds_6 : decode cX12_odds 6 = .ok (.iload_n 1, 1) := by decide +kernel
theorem dX12_odds_7 : decode cX12_odds 7 = .ok (.invokevirtual 221, 3) := by decide +kernel
theorem dX12_odds_10 : decode cX12_odds 10 = .ok (.ifCond .eq 13, 3) := by decide +kernel
theorem dX12_odds_13 : decode cX12_odds 13 = .ok (.iload_n 2, 1) := by decide +kernel
theorem dX12_odds_14 : decode cX12_odds 14 = .ok (.iconst 1, 1) := by decide +kernel
theorem dX12_odds_15 : decode cX12_odds 15 = .ok (.bipush 30, 2) := by decide +kernel
theorem dX12_odds_17 : decode cX12_odds 17 = .ok (.invokestatic 140, 3) := by decide +kernel
theorem dX12_odds_20 : decode cX12_odds 20 = .ok (.ifCond .ne 5, 3) := by decide +kernel
theorem dX12_odds_23 : decode cX12_odds 23 = .ok (.iconst (-1), 1) := by decide +kernel
theorem dX12_odds_24 : decode cX12_odds 24 = .ok (.ireturn, 1) := by decide +kernel
theorem dX12_odds_25 : decode cX12_odds 25 = .ok (.aload_n 0, 1) := by decide +kernel
theorem dX12_odds_26 : decode cX12_odds 26 = .ok (.invokevirtual 329, 3) := by decide +kernel
theorem dX12_odds_29 : decode cX12_odds 29 = .ok (.iconst 0, 1) := by decide +kernel
theorem dX12_odds_30 : decode cX12_odds 30 = .ok (.istore 4, 2) := by decide +kernel
theorem dX12_odds_32 : decode cX12_odds 32 = .ok (.iconst 0, 1) := by decide +kernel
theorem dX12_odds_33 : decode cX12_odds 33 = .ok (.istore 5, 2) := by decide +kernel
theorem dX12_odds_35 : decode cX12_odds 35 = .ok (.iload 5, 2) := by decide +kernel
theorem dX12_odds_37 : decode cX12_odds 37 = .ok (.iload_n 2, 1) := by decide +kernel
theorem dX12_odds_38 : decode cX12_odds 38 = .ok (.if_icmp .ge 35, 3) := by decide +kernel
theorem dX12_odds_41 : decode cX12_odds 41 = .ok (.aload_n 0, 1) := by decide +kernel
theorem dX12_odds_42 : decode cX12_odds 42 = .ok (.bipush 60, 2) := by decide +kernel
theorem dX12_odds_44 : decode cX12_odds 44 = .ok (.iload_n 3, 1) := by decide +kernel
theorem dX12_odds_45 : decode cX12_odds 45 = .ok (.iload 5, 2) := by decide +kernel
theorem dX12_odds_47 : decode cX12_odds 47 = .ok (.iadd, 1) := by decide +kernel
theorem dX12_odds_48 : decode cX12_odds 48 = .ok (.invokevirtual 354, 3) := by decide +kernel
theorem dX12_odds_51 : decode cX12_odds 51 = .ok (.pop, 1) := by decide +kernel
theorem dX12_odds_52 : decode cX12_odds 52 = .ok (.aload_n 0, 1) := by decide +kernel
theorem dX12_odds_53 : decode cX12_odds 53 = .ok (.iload_n 1, 1) := by decide +kernel
theorem dX12_odds_54 : decode cX12_odds 54 = .ok (.invokevirtual 218, 3) := by decide +kernel
theorem dX12_odds_57 : decode cX12_odds 57 = .ok (.ifCond .eq 6, 3) := by decide +kernel
theorem dX12_odds_60 : decode cX12_odds 60 = .ok (.iinc 4 1, 3) := by decide +kernel
theorem dX12_odds_63 : decode cX12_odds 63 = .ok (.aload_n 0, 1) := by decide +kernel
theorem dX12_odds_64 : decode cX12_odds 64 = .ok (.invokevirtual 326, 3) := by decide +kernel
theorem dX12_odds_67 : decode cX12_odds 67 = .ok (.iinc 5 1, 3) := by decide +kernel
theorem dX12_odds_70 : decode cX12_odds 70 = .ok (.goto (-35), 3) := by decide +kernel
theorem dX12_odds_73 : decode cX12_odds 73 = .ok (.iload 4, 2) := by decide +kernel
theorem dX12_odds_75 : decode cX12_odds 75 = .ok (.ireturn, 1) := by decide +kernel
theorem dX12_readNamed_0 : decode cX12_readNamed 0 = .ok (.aload_n 0, 1) := by decide +kernel
theorem dX12_readNamed_1 : decode cX12_readNamed 1 = .ok (.invokevirtual 157, 3) := by decide +kernel
theorem dX12_readNamed_4 : decode cX12_readNamed 4 = .ok (.ifCond .ne 9, 3) := by decide +kernel
theorem dX12_readNamed_7 : decode cX12_readNamed 7 = .ok (.aload_n 0, 1) := by decide +kernel
theorem dX12_readNamed_8 : decode cX12_readNamed 8 = .ok (.iconst 1, 1) := by decide +kernel
theorem dX12_readNamed_9 : decode cX12_readNamed 9 = .ok (.invokevirtual 137, 3) := by decide +kernel
theorem dX12_readNamed_12 : decode cX12_readNamed 12 = .ok (.ireturn, 1) := by decide +kernel
theorem dX12_readNamed_13 : decode cX12_readNamed 13 = .ok (.aload_n 0, 1) := by decide +kernel
theorem dX12_readNamed_14 : decode cX12_readNamed 14 = .ok (.aload_n 0, 1) := by decide +kernel
theorem dX12_readNamed_15 : decode cX12_readNamed 15 = .ok (.getfield 28, 3) := by decide +kernel
theorem dX12_readNamed_18 : decode cX12_readNamed 18 = .ok (.iload_n 1, 1) := by decide +kernel
theorem dX12_readNamed_19 : decode cX12_readNamed 19 = .ok (.iload_n 2, 1) := by decide +kernel
theorem dX12_readNamed_20 : decode cX12_readNamed 20 = .ok (.aload_n 0, 1) := by decide +kernel
theorem dX12_readNamed_21 : decode cX12_readNamed 21 = .ok (.getfield 108, 3) := by decide +kernel
theorem dX12_readNamed_24 : decode cX12_readNamed 24 = .ok (.invokestatic 161, 3) := by decide +kernel
theorem dX12_readNamed_27 : decode cX12_readNamed 27 = .ok (.putfield 144, 3) := by decide +kernel
theorem dX12_readNamed_30 : decode cX12_readNamed 30 = .ok (.aload_n 0, 1) := by decide +kernel
theorem dX12_readNamed_31 : decode cX12_readNamed 31 = .ok (.getfield 144, 3) := by decide +kernel
theorem dX12_readNamed_34 : decode cX12_readNamed 34 = .ok (.iconst (-1), 1) := by decide +kernel
theorem dX12_readNamed_35 : decode cX12_readNamed 35 = .ok (.if_icmp .ne 9, 3) := by decide +kernel
theorem dX12_readNamed_38 : decode cX12_readNamed 38 = .ok (.aload_n 0, 1) := by decide +kernel
theorem dX12_readNamed_39 : decode cX12_readNamed 39 = .ok (.iconst 3, 1) := by decide +kernel
theorem dX12_readNamed_40 : decode cX12_readNamed 40 = .ok (.invokevirtual 137, 3) := by decide +kernel
theorem dX12_readNamed_43 : decode cX12_readNamed 43 = .ok (.ireturn, 1) := by decide +kernel
theorem dX12_readNamed_44 : decode cX12_readNamed 44 = .ok (.aload_n 0, 1) := by decide +kernel
theorem dX12_readNamed_45 : decode cX12_readNamed 45 = .ok (.invokevirtual 147, 3) := by decide +kernel
theorem dX12_readNamed_48 : decode cX12_readNamed 48 = .ok (.iconst 1, 1) := by decide +kernel
theorem dX12_readNamed_49 : decode cX12_readNamed 49 = .ok (.ireturn, 1) := by decide +kernel
theorem dX12_readDoes_0 : decode cX12_readDoes 0 = .ok (.aload_n 0, 1) := by decide +kernel
theorem dX12_readDoes_1 : decode cX12_readDoes 1 = .ok (.bipush 7, 2) := by decide +kernel
theorem dX12_readDoes_3 : decode cX12_readDoes 3 = .ok (.invokevirtual 179, 3) := by decide +kernel
theorem dX12_readDoes_6 : decode cX12_readDoes 6 = .ok (.ifCond .ne 12, 3) := by decide +kernel
theorem dX12_readDoes_9 : decode cX12_readDoes 9 = .ok (.aload_n 0, 1) := by decide +kernel
theorem dX12_readDoes_10 : decode cX12_readDoes 10 = .ok (.bipush 8, 2) := by decide +kernel
theorem dX12_readDoes_12 : decode cX12_readDoes 12 = .ok (.invokevirtual 179, 3) := by decide +kernel
theorem dX12_readDoes_15 : decode cX12_readDoes 15 = .ok (.ifCond .eq 70, 3) := by decide +kernel
theorem dX12_readDoes_18 : decode cX12_readDoes 18 = .ok (.aload_n 0, 1) := by decide +kernel
theorem dX12_readDoes_19 : decode cX12_readDoes 19 = .ok (.bipush 7, 2) := by decide +kernel
theorem dX12_readDoes_21 : decode cX12_readDoes 21 = .ok (.invokevirtual 179, 3) := by decide +kernel
theorem dX12_readDoes_24 : decode cX12_readDoes 24 = .ok (.istore_n 2, 1) := by decide +kernel
theorem dX12_readDoes_25 : decode cX12_readDoes 25 = .ok (.aload_n 0, 1) := by decide +kernel
theorem dX12_readDoes_26 : decode cX12_readDoes 26 = .ok (.getfield 64, 3) := by decide +kernel
theorem dX12_readDoes_29 : decode cX12_readDoes 29 = .ok (.iload_n 1, 1) := by decide +kernel
theorem dX12_readDoes_30 : decode cX12_readDoes 30 = .ok (.iload_n 2, 1) := by decide +kernel
theorem dX12_readDoes_31 : decode cX12_readDoes 31 = .ok (.ifCond .eq 7, 3) := by decide +kernel
theorem dX12_readDoes_34 : decode cX12_readDoes 34 = .ok (.iconst 4, 1) := by decide +kernel
theorem dX12_readDoes_35 : decode cX12_readDoes 35 = .ok (.goto 4, 3) := by decide +kernel
theorem dX12_readDoes_38 : decode cX12_readDoes 38 = .ok (.iconst 5, 1) := by decide +kernel
theorem dX12_readDoes_39 : decode cX12_readDoes 39 = .ok (.iastore, 1) := by decide +kernel
theorem dX12_readDoes_40 : decode cX12_readDoes 40 = .ok (.aload_n 0, 1) := by decide +kernel
theorem dX12_readDoes_41 : decode cX12_readDoes 41 = .ok (.invokevirtual 147, 3) := by decide +kernel
theorem dX12_readDoes_44 : decode cX12_readDoes 44 = .ok (.iload_n 2, 1) := by decide +kernel
theorem dX12_readDoes_45 : decode cX12_readDoes 45 = .ok (.ifCond .eq 18, 3) := by decide +kernel
theorem dX12_readDoes_48 : decode cX12_readDoes 48 = .ok (.aload_n 0, 1) := by decide +kernel
theorem dX12_readDoes_49 : decode cX12_readDoes 49 = .ok (.bipush 6, 2) := by decide +kernel
theorem dX12_readDoes_51 : decode cX12_readDoes 51 = .ok (.aload_n 0, 1) := by decide +kernel
theorem dX12_readDoes_52 : decode cX12_readDoes 52 = .ok (.getfield 13, 3) := by decide +kernel
theorem dX12_readDoes_55 : decode cX12_readDoes 55 = .ok (.iconst 1, 1) := by decide +kernel
theorem dX12_readDoes_56 : decode cX12_readDoes 56 = .ok (.iaload, 1) := by decide +kernel
theorem dX12_readDoes_57 : decode cX12_readDoes 57 = .ok (.invokevirtual 357, 3) := by decide +kernel
theorem dX12_readDoes_60 : decode cX12_readDoes 60 = .ok (.goto 10, 3) := by decide +kernel
theorem dX12_readDoes_63 : decode cX12_readDoes 63 = .ok (.aload_n 0, 1) := by decide +kernel
theorem dX12_readDoes_64 : decode cX12_readDoes 64 = .ok (.iconst 1, 1) := by decide +kernel
theorem dX12_readDoes_65 : decode cX12_readDoes 65 = .ok (.bipush 60, 2) := by decide +kernel
theorem dX12_readDoes_67 : decode cX12_readDoes 67 = .ok (.invokevirtual 172, 3) := by decide +kernel
theorem dX12_readDoes_70 : decode cX12_readDoes 70 = .ok (.istore_n 3, 1) := by decide +kernel
theorem dX12_readDoes_71 : decode cX12_readDoes 71 = .ok (.aload_n 0, 1) := by decide +kernel
theorem dX12_readDoes_72 : decode cX12_readDoes 72 = .ok (.getfield 64, 3) := by decide +kernel
theorem dX12_readDoes_75 : decode cX12_readDoes 75 = .ok (.iload_n 1, 1) := by decide +kernel
theorem dX12_readDoes_76 : decode cX12_readDoes 76 = .ok (.iconst 1, 1) := by decide +kernel
theorem dX12_readDoes_77 : decode cX12_readDoes 77 = .ok (.iadd, 1) := by decide +kernel
theorem dX12_readDoes_78 : decode cX12_readDoes 78 = .ok (.aload_n 0, 1) := by decide +kernel
theorem dX12_readDoes_79 : decode cX12_readDoes 79 = .ok (.getfield 144, 3) := by decide +kernel
theorem dX12_readDoes_82 : decode cX12_readDoes 82 = .ok (.iastore, 1) := by decide +kernel
theorem dX12_readDoes_83 : decode cX12_readDoes 83 = .ok (.iload_n 3, 1) := by decide +kernel
theorem dX12_readDoes_84 : decode cX12_readDoes 84 = .ok (.ireturn, 1) := by decide +kernel
theorem dX12_readDoes_85 : decode cX12_readDoes 85 = .ok (.aload_n 0, 1) := by decide +kernel
theorem dX12_readDoes_86 : decode cX12_readDoes 86 = .ok (.getfield 64, 3) := by decide +kernel
theorem dX12_readDoes_89 : decode cX12_readDoes 89 = .ok (.iload_n 1, 1) := by decide +kernel
theorem dX12_readDoes_90 : decode cX12_readDoes 90 = .ok (.iconst 1, 1) := by decide +kernel
theorem dX12_readDoes_91 : decode cX12_readDoes 91 = .ok (.iadd, 1) := by decide +kernel
theorem dX12_readDoes_92 : decode cX12_readDoes 92 = .ok (.aload_n 0, 1) := by decide +kernel
theorem dX12_readDoes_93 : decode cX12_readDoes 93 = .ok (.getfield 28, 3) := by decide +kernel
