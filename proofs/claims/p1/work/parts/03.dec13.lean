theorem dX12_readAnd_43 : decode cX12_readAnd 43 = .ok (.iconst 0, 1) := by decide +kernel
theorem dX12_readAnd_44 : decode cX12_readAnd 44 = .ok (.invokevirtual 389, 3) := by decide +kernel
theorem dX12_readAnd_47 : decode cX12_readAnd 47 = .ok (.istore_n 1, 1) := by decide +kernel
theorem dX12_readAnd_48 : decode cX12_readAnd 48 = .ok (.goto (-34), 3) := by decide +kernel
theorem dX12_readAnd_51 : decode cX12_readAnd 51 = .ok (.aload_n 0, 1) := by decide +kernel
theorem dX12_readAnd_52 : decode cX12_readAnd 52 = .ok (.iload_n 1, 1) := by decide +kernel
theorem dX12_readAnd_53 : decode cX12_readAnd 53 = .ok (.putfield 386, 3) := by decide +kernel
theorem dX12_readAnd_56 : decode cX12_readAnd 56 = .ok (.iconst 1, 1) := by decide +kernel
theorem dX12_readAnd_57 : decode cX12_readAnd 57 = .ok (.ireturn, 1) := by decide +kernel
theorem dX12_readSaid_0 : decode cX12_readSaid 0 = .ok (.aload_n 0, 1) := by decide +kernel
theorem dX12_readSaid_1 : decode cX12_readSaid 1 = .ok (.bipush 40, 2) := by decide +kernel
theorem dX12_readSaid_3 : decode cX12_readSaid 3 = .ok (.invokevirtual 150, 3) := by decide +kernel
theorem dX12_readSaid_6 : decode cX12_readSaid 6 = .ok (.istore_n 1, 1) := by decide +kernel
theorem dX12_readSaid_7 : decode cX12_readSaid 7 = .ok (.bipush 11, 2) := by decide +kernel
theorem dX12_readSaid_9 : decode cX12_readSaid 9 = .ok (.istore_n 2, 1) := by decide +kernel
theorem dX12_readSaid_10 : decode cX12_readSaid 10 = .ok (.iload_n 2, 1) := by decide +kernel
theorem dX12_readSaid_11 : decode cX12_readSaid 11 = .ok (.bipush 19, 2) := by decide +kernel
theorem dX12_readSaid_13 : decode cX12_readSaid 13 = .ok (.if_icmp .gt 17, 3) := by decide +kernel
theorem dX12_readSaid_16 : decode cX12_readSaid 16 = .ok (.aload_n 0, 1) := by decide +kernel
theorem dX12_readSaid_17 : decode cX12_readSaid 17 = .ok (.iload_n 2, 1) := by decide +kernel
theorem dX12_readSaid_18 : decode cX12_readSaid 18 = .ok (.invokevirtual 179, 3) := by decide +kernel
theorem dX12_readSaid_21 : decode cX12_readSaid 21 = .ok (.ifCond .ne 9, 3) := by decide +kernel
theorem dX12_readSaid_24 : decode cX12_readSaid 24 = .ok (.iinc 2 1, 3) := by decide +kernel
theorem dX12_readSaid_27 : decode cX12_readSaid 27 = .ok (.goto (-17), 3) := by decide +kernel
theorem dX12_readSaid_30 : decode cX12_readSaid 30 = .ok (.iload_n 1, 1) := by decide +kernel
theorem dX12_readSaid_31 : decode cX12_readSaid 31 = .ok (.ifCond .ne 15, 3) := by decide +kernel
theorem dX12_readSaid_34 : decode cX12_readSaid 34 = .ok (.iload_n 2, 1) := by decide +kernel
theorem dX12_readSaid_35 : decode cX12_readSaid 35 = .ok (.bipush 19, 2) := by decide +kernel
theorem dX12_readSaid_37 : decode cX12_readSaid 37 = .ok (.if_icmp .le 9, 3) := by decide +kernel
theorem dX12_readSaid_40 : decode cX12_readSaid 40 = .ok (.aload_n 0, 1) := by decide +kernel
theorem dX12_readSaid_41 : decode cX12_readSaid 41 = .ok (.iconst 1, 1) := by decide +kernel
theorem dX12_readSaid_42 : decode cX12_readSaid 42 = .ok (.invokevirtual 137, 3) := by decide +kernel
theorem dX12_readSaid_45 : decode cX12_readSaid 45 = .ok (.ireturn, 1) := by decide +kernel
theorem dX12_readSaid_46 : decode cX12_readSaid 46 = .ok (.aload_n 0, 1) := by decide +kernel
theorem dX12_readSaid_47 : decode cX12_readSaid 47 = .ok (.getfield 396, 3) := by decide +kernel
theorem dX12_readSaid_50 : decode cX12_readSaid 50 = .ok (.bipush 20, 2) := by decide +kernel
theorem dX12_readSaid_52 : decode cX12_readSaid 52 = .ok (.if_icmp .eq 12, 3) := by decide +kernel
theorem dX12_readSaid_55 : decode cX12_readSaid 55 = .ok (.aload_n 0, 1) := by decide +kernel
theorem dX12_readSaid_56 : decode cX12_readSaid 56 = .ok (.getfield 399, 3) := by decide +kernel
theorem dX12_readSaid_59 : decode cX12_readSaid 59 = .ok (.bipush 8, 2) := by decide +kernel
theorem dX12_readSaid_61 : decode cX12_readSaid 61 = .ok (.if_icmp .ne 9, 3) := by decide +kernel
theorem dX12_readSaid_64 : decode cX12_readSaid 64 = .ok (.aload_n 0, 1) := by decide +kernel
theorem dX12_readSaid_65 : decode cX12_readSaid 65 = .ok (.iconst 4, 1) := by decide +kernel
theorem dX12_readSaid_66 : decode cX12_readSaid 66 = .ok (.invokevirtual 137, 3) := by decide +kernel
theorem dX12_readSaid_69 : decode cX12_readSaid 69 = .ok (.ireturn, 1) := by decide +kernel
theorem dX12_readSaid_70 : decode cX12_readSaid 70 = .ok (.aload_n 0, 1) := by decide +kernel
theorem dX12_readSaid_71 : decode cX12_readSaid 71 = .ok (.dup, 1) := by decide +kernel
theorem dX12_readSaid_72 : decode cX12_readSaid 72 = .ok (.getfield 396, 3) := by decide +kernel
theorem dX12_readSaid_75 : decode cX12_readSaid 75 = .ok (.iconst 1, 1) := by decide +kernel
theorem dX12_readSaid_76 : decode cX12_readSaid 76 = .ok (.iadd, 1) := by decide +kernel
theorem dX12_readSaid_77 : decode cX12_readSaid 77 = .ok (.putfield 396, 3) := by decide +kernel
theorem dX12_readSaid_80 : decode cX12_readSaid 80 = .ok (.aload_n 0, 1) := by decide +kernel
theorem dX12_readSaid_81 : decode cX12_readSaid 81 = .ok (.dup, 1) := by decide +kernel
theorem dX12_readSaid_82 : decode cX12_readSaid 82 = .ok (.getfield 399, 3) := by decide +kernel
theorem dX12_readSaid_85 : decode cX12_readSaid 85 = .ok (.iconst 1, 1) := by decide +kernel
theorem dX12_readSaid_86 : decode cX12_readSaid 86 = .ok (.iadd, 1) := by decide +kernel
theorem dX12_readSaid_87 : decode cX12_readSaid 87 = .ok (.putfield 399, 3) := by decide +kernel
theorem dX12_readSaid_90 : decode cX12_readSaid 90 = .ok (.aload_n 0, 1) := by decide +kernel
theorem dX12_readSaid_91 : decode cX12_readSaid 91 = .ok (.invokevirtual 147, 3) := by decide +kernel
theorem dX12_readSaid_94 : decode cX12_readSaid 94 = .ok (.iconst 1, 1) := by decide +kernel
theorem dX12_readSaid_95 : decode cX12_readSaid 95 = .ok (.istore_n 3, 1) := by decide +kernel
theorem dX12_readSaid_96 : decode cX12_readSaid 96 = .ok (.iload_n 1, 1) := by decide +kernel
theorem dX12_readSaid_97 : decode cX12_readSaid 97 = .ok (.ifCond .eq 11, 3) := by decide +kernel
theorem dX12_readSaid_100 : decode cX12_readSaid 100 = .ok (.aload_n 0, 1) := by decide +kernel
theorem dX12_readSaid_101 : decode cX12_readSaid 101 = .ok (.invokevirtual 402, 3) := by decide +kernel
theorem dX12_readSaid_104 : decode cX12_readSaid 104 = .ok (.istore_n 3, 1) := by decide +kernel
theorem dX12_readSaid_105 : decode cX12_readSaid 105 = .ok (.goto 61, 3) := by decide +kernel
theorem dX12_readSaid_108 : decode cX12_readSaid 108 = .ok (.iload_n 2, 1) := by decide +kernel
theorem dX12_readSaid_109 : decode cX12_readSaid 109 = .ok (.bipush 11, 2) := by decide +kernel
theorem dX12_readSaid_111 : decode cX12_readSaid 111 = .ok (.if_icmp .ne 11, 3) := by decide +kernel
theorem dX12_readSaid_114 : decode cX12_readSaid 114 = .ok (.aload_n 0, 1) := by decide +kernel
theorem dX12_readSaid_115 : decode cX12_readSaid 115 = .ok (.invokevirtual 405, 3) := by decide +kernel
theorem dX12_readSaid_118 : decode cX12_readSaid 118 = .ok (.istore_n 3, 1) := by decide +kernel
theorem dX12_readSaid_119 : decode cX12_readSaid 119 = .ok (.goto 47, 3) := by decide +kernel
theorem dX12_readSaid_122 : decode cX12_readSaid 122 = .ok (.iload_n 2, 1) := by decide +kernel
theorem dX12_readSaid_123 : decode cX12_readSaid 123 = .ok (.bipush 15, 2) := by decide +kernel
theorem dX12_readSaid_125 : decode cX12_readSaid 125 = .ok (.if_icmp .ge 21, 3) := by decide +kernel
theorem dX12_readSaid_128 : decode cX12_readSaid 128 = .ok (.aload_n 0, 1) := by decide +kernel
theorem dX12_readSaid_129 : decode cX12_readSaid 129 = .ok (.aload_n 0, 1) := by decide +kernel
theorem dX12_readSaid_130 : decode cX12_readSaid 130 = .ok (.bipush 50, 2) := by decide +kernel
theorem dX12_readSaid_132 : decode cX12_readSaid 132 = .ok (.iload_n 2, 1) := by decide +kernel
theorem dX12_readSaid_133 : decode cX12_readSaid 133 = .ok (.iadd, 1) := by decide +kernel
theorem dX12_readSaid_134 : decode cX12_readSaid 134 = .ok (.iconst 0, 1) := by decide +kernel
theorem dX12_readSaid_135 : decode cX12_readSaid 135 = .ok (.iconst 0, 1) := by decide +kernel
theorem dX12_readSaid_136 : decode cX12_readSaid 136 = .ok (.iconst 0, 1) := by decide +kernel
theorem dX12_readSaid_137 : decode cX12_readSaid 137 = .ok (.invokevirtual 389, 3) := by decide +kernel
theorem dX12_readSaid_140 : decode cX12_readSaid 140 = .ok (.putfield 386, 3) := by decide +kernel
theorem dX12_readSaid_143 : decode cX12_readSaid 143 = .ok (.goto 23, 3) := by decide +kernel
theorem dX12_readSaid_146 : decode cX12_readSaid 146 = .ok (.iload_n 2, 1) := by decide +kernel
theorem dX12_readSaid_147 : decode cX12_readSaid 147 = .ok (.bipush 17, 2) := by decide +kernel
theorem dX12_readSaid_149 : decode cX12_readSaid 149 = .ok (.if_icmp .ge 11, 3) := by decide +kernel
theorem dX12_readSaid_152 : decode cX12_readSaid 152 = .ok (.aload_n 0, 1) := by decide +kernel
theorem dX12_readSaid_153 : decode cX12_readSaid 153 = .ok (.iload_n 2, 1) := by decide +kernel
theorem dX12_readSaid_154 : decode cX12_readSaid 154 = .ok (.invokevirtual 408, 3) := by decide +kernel
theorem dX12_readSaid_157 : decode cX12_readSaid 157 = .ok (.goto 8, 3) := by decide +kernel
theorem dX12_readSaid_160 : decode cX12_readSaid 160 = .ok (.aload_n 0, 1) := by decide +kernel
theorem dX12_readSaid_161 : decode cX12_readSaid 161 = .ok (.iload_n 2, 1) := by decide +kernel
theorem dX12_readSaid_162 : decode cX12_readSaid 162 = .ok (.invokevirtual 411, 3) := by decide +kernel
theorem dX12_readSaid_165 : decode cX12_readSaid 165 = .ok (.istore_n 3, 1) := by decide +kernel
theorem dX12_readSaid_166 : decode cX12_readSaid 166 = .ok (.aload_n 0, 1) := by decide +kernel
theorem dX12_readSaid_167 : decode cX12_readSaid 167 = .ok (.dup, 1) := by decide +kernel
theorem dX12_readSaid_168 : decode cX12_readSaid 168 = .ok (.getfield 399, 3) := by decide +kernel
theorem dX12_readSaid_171 : decode cX12_readSaid 171 = .ok (.iconst 1, 1) := by decide +kernel
theorem dX12_readSaid_172 : decode cX12_readSaid 172 = .ok (.isub, 1) := by decide +kernel
theorem dX12_readSaid_173 : decode cX12_readSaid 173 = .ok (.putfield 399, 3) := by decide +kernel
theorem dX12_readSaid_176 : decode cX12_readSaid 176 = .ok (.iload_n 3, 1) := by decide +kernel
theorem dX12_readSaid_177 : decode cX12_readSaid 177 = .ok (.ireturn, 1) := by decide +kernel
theorem dX12_sentence_0 : decode cX12_sentence 0 = .ok (.aload_n 0, 1) := by decide +kernel
theorem dX12_sentence_1 : decode cX12_sentence 1 = .ok (.sipush 200, 3) := by decide +kernel
theorem dX12_sentence_4 : decode cX12_sentence 4 = .ok (.invokevirtual 194, 3) := by decide +kernel
theorem dX12_sentence_7 : decode cX12_sentence 7 = .ok (.aload_n 0, 1) := by decide +kernel
theorem dX12_sentence_8 : decode cX12_sentence 8 = .ok (.iconst 0, 1) := by decide +kernel
theorem dX12_sentence_9 : decode cX12_sentence 9 = .ok (.putfield 380, 3) := by decide +kernel
theorem dX12_sentence_12 : decode cX12_sentence 12 = .ok (.aload_n 0, 1) := by decide +kernel
theorem dX12_sentence_13 : decode cX12_sentence 13 = .ok (.iconst 0, 1) := by decide +kernel
theorem dX12_sentence_14 : decode cX12_sentence 14 = .ok (.putfield 396, 3) := by decide +kernel
theorem dX12_sentence_17 : decode cX12_sentence 17 = .ok (.aload_n 0, 1) := by decide +kernel
theorem dX12_sentence_18 : decode cX12_sentence 18 = .ok (.iconst 0, 1) := by decide +kernel
theorem dX12_sentence_19 : decode cX12_sentence 19 = .ok (.putfield 399, 3) := by decide +kernel
theorem dX12_sentence_22 : decode cX12_sentence 22 = .ok (.aload_n 0, 1) := by decide +kernel
theorem dX12_sentence_23 : decode cX12_sentence 23 = .ok (.invokevirtual 414, 3) := by decide +kernel
theorem dX12_sentence_26 : decode cX12_sentence 26 = .ok (.ifCond .ne 10, 3) := by decide +kernel
theorem dX12_sentence_29 : decode cX12_sentence 29 = .ok (.iconst (-1), 1) := by decide +kernel
theorem dX12_sentence_30 : decode cX12_sentence 30 = .ok (.aload_n 0, 1) := by decide +kernel
theorem dX12_sentence_31 : decode cX12_sentence 31 = .ok (.getfield 134, 3) := by decide +kernel
theorem dX12_sentence_34 : decode cX12_sentence 34 = .ok (.isub, 1) := by decide +kernel
theorem dX12_sentence_35 : decode cX12_sentence 35 = .ok (.ireturn, 1) := by decide +kernel
theorem dX12_sentence_36 : decode cX12_sentence 36 = .ok (.aload_n 0, 1) := by decide +kernel
theorem dX12_sentence_37 : decode cX12_sentence 37 = .ok (.getfield 95, 3) := by decide +kernel
theorem dX12_sentence_40 : decode cX12_sentence 40 = .ok (.ifCond .eq 16, 3) := by decide +kernel
theorem dX12_sentence_43 : decode cX12_sentence 43 = .ok (.aload_n 0, 1) := by decide +kernel
theorem dX12_sentence_44 : decode cX12_sentence 44 = .ok (.iconst 1, 1) := by decide +kernel
theorem dX12_sentence_45 : decode cX12_sentence 45 = .ok (.invokevirtual 137, 3) := by decide +kernel
theorem dX12_sentence_48 : decode cX12_sentence 48 = .ok (.pop, 1) := by decide +kernel
theorem dX12_sentence_49 : decode cX12_sentence 49 = .ok (.iconst (-1), 1) := by decide +kernel
theorem dX12_sentence_50 : decode cX12_sentence 50 = .ok (.aload_n 0, 1) := by decide +kernel
theorem dX12_sentence_51 : decode cX12_sentence 51 = .ok (.getfield 134, 3) := by decide +kernel
theorem dX12_sentence_54 : decode cX12_sentence 54 = .ok (.isub, 1) := by decide +kernel
theorem dX12_sentence_55 : decode cX12_sentence 55 = .ok (.ireturn, 1) := by decide +kernel
theorem dX12_sentence_56 : decode cX12_sentence 56 = .ok (.aload_n 0, 1) := by decide +kernel
theorem dX12_sentence_57 : decode cX12_sentence 57 = .ok (.getfield 13, 3) := by decide +kernel
theorem dX12_sentence_60 : decode cX12_sentence 60 = .ok (.sipush 137, 3) := by decide +kernel
theorem dX12_sentence_63 : decode cX12_sentence 63 = .ok (.iconst 1, 1) := by decide +kernel
theorem dX12_sentence_64 : decode cX12_sentence 64 = .ok (.iastore, 1) := by decide +kernel
theorem dX12_sentence_65 : decode cX12_sentence 65 = .ok (.aload_n 0, 1) := by decide +kernel
theorem dX12_sentence_66 : decode cX12_sentence 66 = .ok (.getfield 13, 3) := by decide +kernel
theorem dX12_sentence_69 : decode cX12_sentence 69 = .ok (.sipush 138, 3) := by decide +kernel
theorem dX12_sentence_72 : decode cX12_sentence 72 = .ok (.aload_n 0, 1) := by decide +kernel
theorem dX12_sentence_73 : decode cX12_sentence 73 = .ok (.getfield 386, 3) := by decide +kernel
theorem dX12_sentence_76 : decode cX12_sentence 76 = .ok (.iastore, 1) := by decide +kernel
theorem dX12_sentence_77 : decode cX12_sentence 77 = .ok (.iconst 0, 1) := by decide +kernel
theorem dX12_sentence_78 : decode cX12_sentence 78 = .ok (.istore_n 1, 1) := by decide +kernel
theorem dX12_sentence_79 : decode cX12_sentence 79 = .ok (.iload_n 1, 1) := by decide +kernel
theorem dX12_sentence_80 : decode cX12_sentence 80 = .ok (.sipush 240, 3) := by decide +kernel
theorem dX12_sentence_83 : decode cX12_sentence 83 = .ok (.if_icmp .ge 25, 3) := by decide +kernel
theorem dX12_sentence_86 : decode cX12_sentence 86 = .ok (.aload_n 0, 1) := by decide +kernel
theorem dX12_sentence_87 : decode cX12_sentence 87 = .ok (.getfield 13, 3) := by decide +kernel
theorem dX12_sentence_90 : decode cX12_sentence 90 = .ok (.sipush 139, 3) := by decide +kernel
theorem dX12_sentence_93 : decode cX12_sentence 93 = .ok (.iload_n 1, 1) := by decide +kernel
theorem dX12_sentence_94 : decode cX12_sentence 94 = .ok (.iadd, 1) := by decide +kernel
theorem dX12_sentence_95 : decode cX12_sentence 95 = .ok (.aload_n 0, 1) := by decide +kernel
theorem dX12_sentence_96 : decode cX12_sentence 96 = .ok (.getfield 70, 3) := by decide +kernel
theorem dX12_sentence_99 : decode cX12_sentence 99 = .ok (.iload_n 1, 1) := by decide +kernel
theorem dX12_sentence_100 : decode cX12_sentence 100 = .ok (.iaload, 1) := by decide +kernel
theorem dX12_sentence_101 : decode cX12_sentence 101 = .ok (.iastore, 1) := by decide +kernel
theorem dX12_sentence_102 : decode cX12_sentence 102 = .ok (.iinc 1 1, 3) := by decide +kernel
theorem dX12_sentence_105 : decode cX12_sentence 105 = .ok (.goto (-26), 3) := by decide +kernel
theorem dX12_sentence_108 : decode cX12_sentence 108 = .ok (.aload_n 0, 1) := by decide +kernel
theorem dX12_sentence_109 : decode cX12_sentence 109 = .ok (.getfield 396, 3) := by decide +kernel
theorem dX12_sentence_112 : decode cX12_sentence 112 = .ok (.ireturn, 1) := by decide +kernel
theorem dX12_said_0 : decode cX12_said 0 = .ok (.aload_n 0, 1) := by decide +kernel
theorem dX12_said_1 : decode cX12_said 1 = .ok (.iconst 0, 1) := by decide +kernel
theorem dX12_said_2 : decode cX12_said 2 = .ok (.putfield 73, 3) := by decide +kernel
theorem dX12_said_5 : decode cX12_said 5 = .ok (.aload_n 0, 1) := by decide +kernel
theorem dX12_said_6 : decode cX12_said 6 = .ok (.getfield 13, 3) := by decide +kernel
theorem dX12_said_9 : decode cX12_said 9 = .ok (.sipush 137, 3) := by decide +kernel
theorem dX12_said_12 : decode cX12_said 12 = .ok (.iaload, 1) := by decide +kernel
theorem dX12_said_13 : decode cX12_said 13 = .ok (.ifCond .ne 5, 3) := by decide +kernel
theorem dX12_said_16 : decode cX12_said 16 = .ok (.iconst (-1), 1) := by decide +kernel
theorem dX12_said_17 : decode cX12_said 17 = .ok (.ireturn, 1) := by decide +kernel
theorem dX12_said_18 : decode cX12_said 18 = .ok (.iconst 0, 1) := by decide +kernel
theorem dX12_said_19 : decode cX12_said 19 = .ok (.istore_n 2, 1) := by decide +kernel
theorem dX12_said_20 : decode cX12_said 20 = .ok (.iconst 0, 1) := by decide +kernel
theorem dX12_said_21 : decode cX12_said 21 = .ok (.istore_n 3, 1) := by decide +kernel
theorem dX12_said_22 : decode cX12_said 22 = .ok (.iload_n 3, 1) := by decide +kernel
theorem dX12_said_23 : decode cX12_said 23 = .ok (.aload_n 0, 1) := by decide +kernel
theorem dX12_said_24 : decode cX12_said 24 = .ok (.getfield 13, 3) := by decide +kernel
theorem dX12_said_27 : decode cX12_said 27 = .ok (.iconst 0, 1) := by decide +kernel
theorem dX12_said_28 : decode cX12_said 28 = .ok (.iaload, 1) := by decide +kernel
theorem dX12_said_29 : decode cX12_said 29 = .ok (.if_icmp .ge 38, 3) := by decide +kernel
theorem dX12_said_32 : decode cX12_said 32 = .ok (.aload_n 0, 1) := by decide +kernel
theorem dX12_said_33 : decode cX12_said 33 = .ok (.aload_n 0, 1) := by decide +kernel
theorem dX12_said_34 : decode cX12_said 34 = .ok (.getfield 13, 3) := by decide +kernel
theorem dX12_said_37 : decode cX12_said 37 = .ok (.sipush 138, 3) := by decide +kernel
theorem dX12_said_40 : decode cX12_said 40 = .ok (.iaload, 1) := by decide +kernel
theorem dX12_said_41 : decode cX12_said 41 = .ok (.iload_n 3, 1) := by decide +kernel
theorem dX12_said_42 : decode cX12_said 42 = .ok (.invokevirtual 417, 3) := by decide +kernel
theorem dX12_said_45 : decode cX12_said 45 = .ok (.ifCond .ne 6, 3) := by decide +kernel
theorem dX12_said_48 : decode cX12_said 48 = .ok (.goto 13, 3) := by decide +kernel
theorem dX12_said_51 : decode cX12_said 51 = .ok (.iload_n 2, 1) := by decide +kernel
theorem dX12_said_52 : decode cX12_said 52 = .ok (.iload_n 1, 1) := by decide +kernel
theorem dX12_said_53 : decode cX12_said 53 = .ok (.if_icmp .ne 5, 3) := by decide +kernel
theorem dX12_said_56 : decode cX12_said 56 = .ok (.iload_n 3, 1) := by decide +kernel
theorem dX12_said_57 : decode cX12_said 57 = .ok (.ireturn, 1) := by decide +kernel
theorem dX12_said_58 : decode cX12_said 58 = .ok (.iinc 2 1, 3) := by decide +kernel
theorem dX12_said_61 : decode cX12_said 61 = .ok (.iinc 3 1, 3) := by decide +kernel
theorem dX12_said_64 : decode cX12_said 64 = .ok (.goto (-42), 3) := by decide +kernel
theorem dX12_said_67 : decode cX12_said 67 = .ok (.iload_n 1, 1) := by decide +kernel
theorem dX12_said_68 : decode cX12_said 68 = .ok (.iconst (-1), 1) := by decide +kernel
theorem dX12_said_69 : decode cX12_said 69 = .ok (.if_icmp .ne 7, 3) := by decide +kernel
theorem dX12_said_72 : decode cX12_said 72 = .ok (.iload_n 2, 1) := by decide +kernel
theorem dX12_said_73 : decode cX12_said 73 = .ok (.goto 4, 3) := by decide +kernel
theorem dX12_said_76 : decode cX12_said 76 = .ok (.iconst (-1), 1) := by decide +kernel
theorem dX12_said_77 : decode cX12_said 77 = .ok (.ireturn, 1) := by decide +kernel
theorem dX12_image_0 : decode cX12_image 0 = .ok (.aload_n 0, 1) := by decide +kernel
theorem dX12_image_1 : decode cX12_image 1 = .ok (.iconst 0, 1) := by decide +kernel
theorem dX12_image_2 : decode cX12_image 2 = .ok (.putfield 73, 3) := by decide +kernel
theorem dX12_image_5 : decode cX12_image 5 = .ok (.iload_n 1, 1) := by decide +kernel
theorem dX12_image_6 : decode cX12_image 6 = .ok (.iconst 0, 1) := by decide +kernel
theorem dX12_image_7 : decode cX12_image 7 = .ok (.iconst 1, 1) := by decide +kernel
theorem dX12_image_8 : decode cX12_image 8 = .ok (.invokestatic 140, 3) := by decide +kernel
theorem dX12_image_11 : decode cX12_image 11 = .ok (.ifCond .ne 5, 3) := by decide +kernel
theorem dX12_image_14 : decode cX12_image 14 = .ok (.iconst 0, 1) := by decide +kernel
theorem dX12_image_15 : decode cX12_image 15 = .ok (.ireturn, 1) := by decide +kernel
theorem dX12_image_16 : decode cX12_image 16 = .ok (.iconst 0, 1) := by decide +kernel
theorem dX12_image_17 : decode cX12_image 17 = .ok (.istore_n 2, 1) := by decide +kernel
theorem dX12_image_18 : decode cX12_image 18 = .ok (.iload_n 2, 1) := by decide +kernel
theorem dX12_image_19 : decode cX12_image 19 = .ok (.sipush 379, 3) := by decide +kernel
theorem dX12_image_22 : decode cX12_image 22 = .ok (.if_icmp .ge 27, 3) := by decide +kernel
theorem dX12_image_25 : decode cX12_image 25 = .ok (.aload_n 0, 1) := by decide +kernel
theorem dX12_image_26 : decode cX12_image 26 = .ok (.getfield 19, 3) := by decide +kernel
theorem dX12_image_29 : decode cX12_image 29 = .ok (.sipush 379, 3) := by decide +kernel
theorem dX12_image_32 : decode cX12_image 32 = .ok (.iload_n 1, 1) := by decide +kernel
theorem dX12_image_33 : decode cX12_image 33 = .ok (.imul, 1) := by decide +kernel
theorem dX12_image_34 : decode cX12_image 34 = .ok (.iload_n 2, 1) := by decide +kernel
theorem dX12_image_35 : decode cX12_image 35 = .ok (.iadd, 1) := by decide +kernel
theorem dX12_image_36 : decode cX12_image 36 = .ok (.aload_n 0, 1) := by decide +kernel
theorem dX12_image_37 : decode cX12_image 37 = .ok (.getfield 13, 3) := by decide +kernel
theorem dX12_image_40 : decode cX12_image 40 = .ok (.iload_n 2, 1) := by decide +kernel
theorem dX12_image_41 : decode cX12_image 41 = .ok (.iaload, 1) := by decide +kernel
theorem dX12_image_42 : decode cX12_image 42 = .ok (.iastore, 1) := by decide +kernel
theorem dX12_image_43 : decode cX12_image 43 = .ok (.iinc 2 1, 3) := by decide +kernel
theorem dX12_image_46 : decode cX12_image 46 = .ok (.goto (-28), 3) := by decide +kernel
theorem dX12_image_49 : decode cX12_image 49 = .ok (.iconst 0, 1) := by decide +kernel
theorem dX12_image_50 : decode cX12_image 50 = .ok (.istore_n 2, 1) := by decide +kernel
theorem dX12_image_51 : decode cX12_image 51 = .ok (.iload_n 2, 1) := by decide +kernel
theorem dX12_image_52 : decode cX12_image 52 = .ok (.bipush 14, 2) := by decide +kernel
theorem dX12_image_54 : decode cX12_image 54 = .ok (.if_icmp .ge 26, 3) := by decide +kernel
theorem dX12_image_57 : decode cX12_image 57 = .ok (.aload_n 0, 1) := by decide +kernel
theorem dX12_image_58 : decode cX12_image 58 = .ok (.getfield 35, 3) := by decide +kernel
theorem dX12_image_61 : decode cX12_image 61 = .ok (.bipush 14, 2) := by decide +kernel
theorem dX12_image_63 : decode cX12_image 63 = .ok (.iload_n 1, 1) := by decide +kernel
theorem dX12_image_64 : decode cX12_image 64 = .ok (.imul, 1) := by decide +kernel
theorem dX12_image_65 : decode cX12_image 65 = .ok (.iload_n 2, 1) := by decide +kernel
theorem dX12_image_66 : decode cX12_image 66 = .ok (.iadd, 1) := by decide +kernel
theorem dX12_image_67 : decode cX12_image 67 = .ok (.aload_n 0, 1) := by decide +kernel
theorem dX12_image_68 : decode cX12_image 68 = .ok (.getfield 28, 3) := by decide +kernel
theorem dX12_image_71 : decode cX12_image 71 = .ok (.iload_n 2, 1) := by decide +kernel
theorem dX12_image_72 : decode cX12_image 72 = .ok (.laload, 1) := by decide +kernel
theorem dX12_image_73 : decode cX12_image 73 = .ok (.lastore, 1) := by decide +kernel
theorem dX12_image_74 : decode cX12_image 74 = .ok (.iinc 2 1, 3) := by decide +kernel
theorem dX12_image_77 : decode cX12_image 77 = .ok (.goto (-26), 3) := by decide +kernel
theorem dX12_image_80 : decode cX12_image 80 = .ok (.aload_n 0, 1) := by decide +kernel
theorem dX12_image_81 : decode cX12_image 81 = .ok (.getfield 38, 3) := by decide +kernel
theorem dX12_image_84 : decode cX12_image 84 = .ok (.iload_n 1, 1) := by decide +kernel
theorem dX12_image_85 : decode cX12_image 85 = .ok (.iconst 1, 1) := by decide +kernel
theorem dX12_image_86 : decode cX12_image 86 = .ok (.bastore, 1) := by decide +kernel
theorem dX12_image_87 : decode cX12_image 87 = .ok (.iconst 1, 1) := by decide +kernel
theorem dX12_image_88 : decode cX12_image 88 = .ok (.ireturn, 1) := by decide +kernel
theorem dX12_restore_0 : decode cX12_restore 0 = .ok (.aload_n 0, 1) := by decide +kernel
theorem dX12_restore_1 : decode cX12_restore 1 = .ok (.iconst 0, 1) := by decide +kernel
theorem dX12_restore_2 : decode cX12_restore 2 = .ok (.putfield 73, 3) := by decide +kernel
theorem dX12_restore_5 : decode cX12_restore 5 = .ok (.iload_n 1, 1) := by decide +kernel
theorem dX12_restore_6 : decode cX12_restore 6 = .ok (.iconst 0, 1) := by decide +kernel
theorem dX12_restore_7 : decode cX12_restore 7 = .ok (.iconst 1, 1) := by decide +kernel
theorem dX12_restore_8 : decode cX12_restore 8 = .ok (.invokestatic 140, 3) := by decide +kernel
theorem dX12_restore_11 : decode cX12_restore 11 = .ok (.ifCond .eq 12, 3) := by decide +kernel
theorem dX12_restore_14 : decode cX12_restore 14 = .ok (.aload_n 0, 1) := by decide +kernel
theorem dX12_restore_15 : decode cX12_restore 15 = .ok (.getfield 38, 3) := by decide +kernel
theorem dX12_restore_18 : decode cX12_restore 18 = .ok (.iload_n 1, 1) := by decide +kernel
theorem dX12_restore_19 : decode cX12_restore 19 = .ok (.baload, 1) := by decide +kernel
theorem dX12_restore_20 : decode cX12_restore 20 = .ok (.ifCond .ne 5, 3) := by decide +kernel
theorem dX12_restore_23 : decode cX12_restore 23 = .ok (.iconst 0, 1) := by decide +kernel
theorem dX12_restore_24 : decode cX12_restore 24 = .ok (.ireturn, 1) := by decide +kernel
theorem dX12_restore_25 : decode cX12_restore 25 = .ok (.iconst 0, 1) := by decide +kernel
theorem dX12_restore_26 : decode cX12_restore 26 = .ok (.istore_n 2, 1) := by decide +kernel
theorem dX12_restore_27 : decode cX12_restore 27 = .ok (.iload_n 2, 1) := by decide +kernel
theorem dX12_restore_28 : decode cX12_restore 28 = .ok (.sipush 379, 3) := by decide +kernel
theorem dX12_restore_31 : decode cX12_restore 31 = .ok (.if_icmp .ge 27, 3) := by decide +kernel
theorem dX12_restore_34 : decode cX12_restore 34 = .ok (.aload_n 0, 1) := by decide +kernel
theorem dX12_restore_35 : decode cX12_restore 35 = .ok (.getfield 13, 3) := by decide +kernel
theorem dX12_restore_38 : decode cX12_restore 38 = .ok (.iload_n 2, 1) := by decide +kernel
theorem dX12_restore_39 : decode cX12_restore 39 = .ok (.aload_n 0, 1) := by decide +kernel
theorem dX12_restore_40 : decode cX12_restore 40 = .ok (.getfield 19, 3) := by decide +kernel
theorem dX12_restore_43 : decode cX12_restore 43 = .ok (.sipush 379, 3) := by decide +kernel
theorem dX12_restore_46 : decode cX12_restore 46 = .ok (.iload_n 1, 1) := by decide +kernel
theorem dX12_restore_47 : decode cX12_restore 47 = .ok (.imul, 1) := by decide +kernel
theorem dX12_restore_48 : decode cX12_restore 48 = .ok (.iload_n 2, 1) := by decide +kernel
theorem dX12_restore_49 : decode cX12_restore 49 = .ok (.iadd, 1) := by decide +kernel
theorem dX12_restore_50 : decode cX12_restore 50 = .ok (.iaload, 1) := by decide +kernel
theorem dX12_restore_51 : decode cX12_restore 51 = .ok (.iastore, 1) := by decide +kernel
theorem dX12_restore_52 : decode cX12_restore 52 = .ok (.iinc 2 1, 3) := by decide +kernel
theorem dX12_restore_55 : decode cX12_restore 55 = .ok (.goto (-28), 3) := by decide +kernel
theorem dX12_restore_58 : decode cX12_restore 58 = .ok (.iconst 0, 1) := by decide +kernel
theorem dX12_restore_59 : decode cX12_restore 59 = .ok (.istore_n 2, 1) := by decide +kernel
theorem dX12_restore_60 : decode cX12_restore 60 = .ok (.iload_n 2, 1) := by decide +kernel
theorem dX12_restore_61 : decode cX12_restore 61 = .ok (.bipush 14, 2) := by decide +kernel
theorem dX12_restore_63 : decode cX12_restore 63 = .ok (.if_icmp .ge 26, 3) := by decide +kernel
theorem dX12_restore_66 : decode cX12_restore 66 = .ok (.aload_n 0, 1) := by decide +kernel
theorem dX12_restore_67 : decode cX12_restore 67 = .ok (.getfield 28, 3) := by decide +kernel
theorem dX12_restore_70 : decode cX12_restore 70 = .ok (.iload_n 2, 1) := by decide +kernel
theorem dX12_restore_71 : decode cX12_restore 71 = .ok (.aload_n 0, 1) := by decide +kernel
theorem dX12_restore_72 : decode cX12_restore 72 = .ok (.getfield 35, 3) := by decide +kernel
theorem dX12_restore_75 : decode cX12_restore 75 = .ok (.bipush 14, 2) := by decide +kernel
theorem dX12_restore_77 : decode cX12_restore 77 = .ok (.iload_n 1, 1) := by decide +kernel
theorem dX12_restore_78 : decode cX12_restore 78 = .ok (.imul, 1) := by decide +kernel
theorem dX12_restore_79 : decode cX12_restore 79 = .ok (.iload_n 2, 1) := by decide +kernel
theorem dX12_restore_80 : decode cX12_restore 80 = .ok (.iadd, 1) := by decide +kernel
theorem dX12_restore_81 : decode cX12_restore 81 = .ok (.laload, 1) := by decide +kernel
theorem dX12_restore_82 : decode cX12_restore 82 = .ok (.lastore, 1) := by decide +kernel
theorem dX12_restore_83 : decode cX12_restore 83 = .ok (.iinc 2 1, 3) := by decide +kernel
theorem dX12_restore_86 : decode cX12_restore 86 = .ok (.goto (-26), 3) := by decide +kernel
theorem dX12_restore_89 : decode cX12_restore 89 = .ok (.aload_n 0, 1) := by decide +kernel
theorem dX12_restore_90 : decode cX12_restore 90 = .ok (.iconst 0, 1) := by decide +kernel
theorem dX12_restore_91 : decode cX12_restore 91 = .ok (.putfield 206, 3) := by decide +kernel
theorem dX12_restore_94 : decode cX12_restore 94 = .ok (.iconst 1, 1) := by decide +kernel
theorem dX12_restore_95 : decode cX12_restore 95 = .ok (.ireturn, 1) := by decide +kernel
theorem dX12_count_0 : decode cX12_count 0 = .ok (.aload_n 0, 1) := by decide +kernel
theorem dX12_count_1 : decode cX12_count 1 = .ok (.iconst 0, 1) := by decide +kernel
theorem dX12_count_2 : decode cX12_count 2 = .ok (.putfield 73, 3) := by decide +kernel
theorem dX12_count_5 : decode cX12_count 5 = .ok (.iload_n 1, 1) := by decide +kernel
theorem dX12_count_6 : decode cX12_count 6 = .ok (.tableswitch 56 0 3 #[30, 37, 44, 51], 30) := by decide +kernel
theorem dX12_count_36 : decode cX12_count 36 = .ok (.aload_n 0, 1) := by decide +kernel
theorem dX12_count_37 : decode cX12_count 37 = .ok (.getfield 13, 3) := by decide +kernel
theorem dX12_count_40 : decode cX12_count 40 = .ok (.iconst 0, 1) := by decide +kernel
theorem dX12_count_41 : decode cX12_count 41 = .ok (.iaload, 1) := by decide +kernel
theorem dX12_count_42 : decode cX12_count 42 = .ok (.ireturn, 1) := by decide +kernel
theorem dX12_count_43 : decode cX12_count 43 = .ok (.aload_n 0, 1) := by decide +kernel
theorem dX12_count_44 : decode cX12_count 44 = .ok (.getfield 13, 3) := by decide +kernel
theorem dX12_count_47 : decode cX12_count 47 = .ok (.iconst 1, 1) := by decide +kernel
theorem dX12_count_48 : decode cX12_count 48 = .ok (.iaload, 1) := by decide +kernel
theorem dX12_count_49 : decode cX12_count 49 = .ok (.ireturn, 1) := by decide +kernel
theorem dX12_count_50 : decode cX12_count 50 = .ok (.aload_n 0, 1) := by decide +kernel
theorem dX12_count_51 : decode cX12_count 51 = .ok (.getfield 13, 3) := by decide +kernel
theorem dX12_count_54 : decode cX12_count 54 = .ok (.iconst 2, 1) := by decide +kernel
theorem dX12_count_55 : decode cX12_count 55 = .ok (.iaload, 1) := by decide +kernel
theorem dX12_count_56 : decode cX12_count 56 = .ok (.ireturn, 1) := by decide +kernel
theorem dX12_count_57 : decode cX12_count 57 = .ok (.aload_n 0, 1) := by decide +kernel
theorem dX12_count_58 : decode cX12_count 58 = .ok (.getfield 76, 3) := by decide +kernel
theorem dX12_count_61 : decode cX12_count 61 = .ok (.ireturn, 1) := by decide +kernel
theorem dX12_count_62 : decode cX12_count 62 = .ok (.iconst (-1), 1) := by decide +kernel
theorem dX12_count_63 : decode cX12_count 63 = .ok (.ireturn, 1) := by decide +kernel
theorem dL_thing_0 : decode cL_thing 0 = .ok (.aload_n 3, 1) := by decide +kernel
theorem dL_thing_1 : decode cL_thing 1 = .ok (.iconst 0, 1) := by decide +kernel
theorem dL_thing_2 : decode cL_thing 2 = .ok (.aload_n 0, 1) := by decide +kernel
theorem dL_thing_3 : decode cL_thing 3 = .ok (.iload_n 1, 1) := by decide +kernel
theorem dL_thing_4 : decode cL_thing 4 = .ok (.iload_n 2, 1) := by decide +kernel
theorem dL_thing_5 : decode cL_thing 5 = .ok (.invokevirtual 7, 3) := by decide +kernel
theorem dL_thing_8 : decode cL_thing 8 = .ok (.i2l, 1) := by decide +kernel
theorem dL_thing_9 : decode cL_thing 9 = .ok (.lastore, 1) := by decide +kernel
theorem dL_thing_10 : decode cL_thing 10 = .ok (.goto 7, 3) := by decide +kernel
theorem dL_thing_13 : decode cL_thing 13 = .ok (.astore 4, 2) := by decide +kernel
theorem dL_thing_15 : decode cL_thing 15 = .ok (.iconst 1, 1) := by decide +kernel
theorem dL_thing_16 : decode cL_thing 16 = .ok (.ireturn, 1) := by decide +kernel
theorem dL_thing_17 : decode cL_thing 17 = .ok (.iconst 0, 1) := by decide +kernel
theorem dL_thing_18 : decode cL_thing 18 = .ok (.ireturn, 1) := by decide +kernel
theorem dL_trouble_0 : decode cL_trouble 0 = .ok (.aload_n 3, 1) := by decide +kernel
theorem dL_trouble_1 : decode cL_trouble 1 = .ok (.iconst 0, 1) := by decide +kernel
theorem dL_trouble_2 : decode cL_trouble 2 = .ok (.aload_n 0, 1) := by decide +kernel
theorem dL_trouble_3 : decode cL_trouble 3 = .ok (.iload_n 1, 1) := by decide +kernel
theorem dL_trouble_4 : decode cL_trouble 4 = .ok (.iload_n 2, 1) := by decide +kernel
theorem dL_trouble_5 : decode cL_trouble 5 = .ok (.invokevirtual 15, 3) := by decide +kernel
theorem dL_trouble_8 : decode cL_trouble 8 = .ok (.i2l, 1) := by decide +kernel
theorem dL_trouble_9 : decode cL_trouble 9 = .ok (.lastore, 1) := by decide +kernel
theorem dL_trouble_10 : decode cL_trouble 10 = .ok (.goto 7, 3) := by decide +kernel
theorem dL_trouble_13 : decode cL_trouble 13 = .ok (.astore 4, 2) := by decide +kernel
theorem dL_trouble_15 : decode cL_trouble 15 = .ok (.iconst 1, 1) := by decide +kernel
theorem dL_trouble_16 : decode cL_trouble 16 = .ok (.ireturn, 1) := by decide +kernel
theorem dL_trouble_17 : decode cL_trouble 17 = .ok (.iconst 0, 1) := by decide +kernel
theorem dL_trouble_18 : decode cL_trouble 18 = .ok (.ireturn, 1) := by decide +kernel
theorem dL_likely_0 : decode cL_likely 0 = .ok (.aload_n 3, 1) := by decide +kernel
theorem dL_likely_1 : decode cL_likely 1 = .ok (.iconst 0, 1) := by decide +kernel
theorem dL_likely_2 : decode cL_likely 2 = .ok (.aload_n 0, 1) := by decide +kernel
theorem dL_likely_3 : decode cL_likely 3 = .ok (.iload_n 1, 1) := by decide +kernel
theorem dL_likely_4 : decode cL_likely 4 = .ok (.iload_n 2, 1) := by decide +kernel
theorem dL_likely_5 : decode cL_likely 5 = .ok (.invokevirtual 18, 3) := by decide +kernel
theorem dL_likely_8 : decode cL_likely 8 = .ok (.i2l, 1) := by decide +kernel
theorem dL_likely_9 : decode cL_likely 9 = .ok (.lastore, 1) := by decide +kernel
theorem dL_likely_10 : decode cL_likely 10 = .ok (.goto 7, 3) := by decide +kernel
theorem dL_likely_13 : decode cL_likely 13 = .ok (.astore 4, 2) := by decide +kernel
theorem dL_likely_15 : decode cL_likely 15 = .ok (.iconst 1, 1) := by decide +kernel
theorem dL_likely_16 : decode cL_likely 16 = .ok (.ireturn, 1) := by decide +kernel
theorem dL_likely_17 : decode cL_likely 17 = .ok (.iconst 0, 1) := by decide +kernel
theorem dL_likely_18 : decode cL_likely 18 = .ok (.ireturn, 1) := by decide +kernel
theorem dL_plan_0 : decode cL_plan 0 = .ok (.aload 4, 2) := by decide +kernel
theorem dL_plan_2 : decode cL_plan 2 = .ok (.iconst 0, 1) := by decide +kernel
theorem dL_plan_3 : decode cL_plan 3 = .ok (.aload_n 0, 1) := by decide +kernel
theorem dL_plan_4 : decode cL_plan 4 = .ok (.iload_n 1, 1) := by decide +kernel
theorem dL_plan_5 : decode cL_plan 5 = .ok (.iload_n 2, 1) := by decide +kernel
theorem dL_plan_6 : decode cL_plan 6 = .ok (.iload_n 3, 1) := by decide +kernel
