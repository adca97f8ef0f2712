theorem dX3_readThing_56 : decode cX3_readThing 56 = .ok (.iconst 1, 1) := by decide +kernel
theorem dX3_readThing_57 : decode cX3_readThing 57 = .ok (.bipush 30, 2) := by decide +kernel
theorem dX3_readThing_59 : decode cX3_readThing 59 = .ok (.invokevirtual 72, 3) := by decide +kernel
theorem dX3_readThing_62 : decode cX3_readThing 62 = .ok (.istore_n 3, 1) := by decide +kernel
theorem dX3_readThing_63 : decode cX3_readThing 63 = .ok (.iload_n 3, 1) := by decide +kernel
theorem dX3_readThing_64 : decode cX3_readThing 64 = .ok (.iconst (-1), 1) := by decide +kernel
theorem dX3_readThing_65 : decode cX3_readThing 65 = .ok (.if_icmp .ne 7, 3) := by decide +kernel
theorem dX3_readThing_68 : decode cX3_readThing 68 = .ok (.iconst (-1), 1) := by decide +kernel
theorem dX3_readThing_69 : decode cX3_readThing 69 = .ok (.goto 13, 3) := by decide +kernel
theorem dX3_readThing_72 : decode cX3_readThing 72 = .ok (.aload_n 0, 1) := by decide +kernel
theorem dX3_readThing_73 : decode cX3_readThing 73 = .ok (.getfield 12, 3) := by decide +kernel
theorem dX3_readThing_76 : decode cX3_readThing 76 = .ok (.iconst 0, 1) := by decide +kernel
theorem dX3_readThing_77 : decode cX3_readThing 77 = .ok (.bipush 20, 2) := by decide +kernel
theorem dX3_readThing_79 : decode cX3_readThing 79 = .ok (.invokevirtual 72, 3) := by decide +kernel
theorem dX3_readThing_82 : decode cX3_readThing 82 = .ok (.istore 4, 2) := by decide +kernel
theorem dX3_readThing_84 : decode cX3_readThing 84 = .ok (.iload 4, 2) := by decide +kernel
theorem dX3_readThing_86 : decode cX3_readThing 86 = .ok (.iconst (-1), 1) := by decide +kernel
theorem dX3_readThing_87 : decode cX3_readThing 87 = .ok (.if_icmp .ne 5, 3) := by decide +kernel
theorem dX3_readThing_90 : decode cX3_readThing 90 = .ok (.iconst 0, 1) := by decide +kernel
theorem dX3_readThing_91 : decode cX3_readThing 91 = .ok (.ireturn, 1) := by decide +kernel
theorem dX3_readThing_92 : decode cX3_readThing 92 = .ok (.iconst (-1), 1) := by decide +kernel
theorem dX3_readThing_93 : decode cX3_readThing 93 = .ok (.istore 5, 2) := by decide +kernel
theorem dX3_readThing_95 : decode cX3_readThing 95 = .ok (.aload_n 0, 1) := by decide +kernel
theorem dX3_readThing_96 : decode cX3_readThing 96 = .ok (.getfield 12, 3) := by decide +kernel
theorem dX3_readThing_99 : decode cX3_readThing 99 = .ok (.getfield 43, 3) := by decide +kernel
theorem dX3_readThing_102 : decode cX3_readThing 102 = .ok (.iconst 1, 1) := by decide +kernel
theorem dX3_readThing_103 : decode cX3_readThing 103 = .ok (.if_icmp .ne 31, 3) := by decide +kernel
theorem dX3_readThing_106 : decode cX3_readThing 106 = .ok (.aload_n 0, 1) := by decide +kernel
theorem dX3_readThing_107 : decode cX3_readThing 107 = .ok (.getfield 12, 3) := by decide +kernel
theorem dX3_readThing_110 : decode cX3_readThing 110 = .ok (.invokevirtual 62, 3) := by decide +kernel
theorem dX3_readThing_113 : decode cX3_readThing 113 = .ok (.aload_n 0, 1) := by decide +kernel
theorem dX3_readThing_114 : decode cX3_readThing 114 = .ok (.getfield 12, 3) := by decide +kernel
theorem dX3_readThing_117 : decode cX3_readThing 117 = .ok (.aload_n 0, 1) := by decide +kernel
theorem dX3_readThing_118 : decode cX3_readThing 118 = .ok (.getfield 21, 3) := by decide +kernel
theorem dX3_readThing_121 : decode cX3_readThing 121 = .ok (.invokevirtual 76, 3) := by decide +kernel
theorem dX3_readThing_124 : decode cX3_readThing 124 = .ok (.istore 5, 2) := by decide +kernel
theorem dX3_readThing_126 : decode cX3_readThing 126 = .ok (.iload 5, 2) := by decide +kernel
theorem dX3_readThing_128 : decode cX3_readThing 128 = .ok (.iconst (-1), 1) := by decide +kernel
theorem dX3_readThing_129 : decode cX3_readThing 129 = .ok (.if_icmp .ne 5, 3) := by decide +kernel
theorem dX3_readThing_132 : decode cX3_readThing 132 = .ok (.iconst 0, 1) := by decide +kernel
theorem dX3_readThing_133 : decode cX3_readThing 133 = .ok (.ireturn, 1) := by decide +kernel
theorem dX3_readThing_134 : decode cX3_readThing 134 = .ok (.aload_n 0, 1) := by decide +kernel
theorem dX3_readThing_135 : decode cX3_readThing 135 = .ok (.getfield 12, 3) := by decide +kernel
theorem dX3_readThing_138 : decode cX3_readThing 138 = .ok (.bipush 59, 2) := by decide +kernel
theorem dX3_readThing_140 : decode cX3_readThing 140 = .ok (.invokevirtual 80, 3) := by decide +kernel
theorem dX3_readThing_143 : decode cX3_readThing 143 = .ok (.ifCond .ne 5, 3) := by decide +kernel
theorem dX3_readThing_146 : decode cX3_readThing 146 = .ok (.iconst 0, 1) := by decide +kernel
theorem dX3_readThing_147 : decode cX3_readThing 147 = .ok (.ireturn, 1) := by decide +kernel
theorem dX3_readThing_148 : decode cX3_readThing 148 = .ok (.aload_n 0, 1) := by decide +kernel
theorem dX3_readThing_149 : decode cX3_readThing 149 = .ok (.getfield 21, 3) := by decide +kernel
theorem dX3_readThing_152 : decode cX3_readThing 152 = .ok (.lload_n 1, 1) := by decide +kernel
theorem dX3_readThing_153 : decode cX3_readThing 153 = .ok (.iload_n 3, 1) := by decide +kernel
theorem dX3_readThing_154 : decode cX3_readThing 154 = .ok (.iload 4, 2) := by decide +kernel
theorem dX3_readThing_156 : decode cX3_readThing 156 = .ok (.iload 5, 2) := by decide +kernel
theorem dX3_readThing_158 : decode cX3_readThing 158 = .ok (.invokevirtual 83, 3) := by decide +kernel
theorem dX3_readThing_161 : decode cX3_readThing 161 = .ok (.iconst 1, 1) := by decide +kernel
theorem dX3_readThing_162 : decode cX3_readThing 162 = .ok (.ireturn, 1) := by decide +kernel
theorem dX3_readFault_0 : decode cX3_readFault 0 = .ok (.aload_n 0, 1) := by decide +kernel
theorem dX3_readFault_1 : decode cX3_readFault 1 = .ok (.getfield 21, 3) := by decide +kernel
theorem dX3_readFault_4 : decode cX3_readFault 4 = .ok (.getfield 87, 3) := by decide +kernel
theorem dX3_readFault_7 : decode cX3_readFault 7 = .ok (.bipush 8, 2) := by decide +kernel
theorem dX3_readFault_9 : decode cX3_readFault 9 = .ok (.if_icmp .lt 12, 3) := by decide +kernel
theorem dX3_readFault_12 : decode cX3_readFault 12 = .ok (.aload_n 0, 1) := by decide +kernel
theorem dX3_readFault_13 : decode cX3_readFault 13 = .ok (.getfield 12, 3) := by decide +kernel
theorem dX3_readFault_16 : decode cX3_readFault 16 = .ok (.iconst 4, 1) := by decide +kernel
theorem dX3_readFault_17 : decode cX3_readFault 17 = .ok (.invokevirtual 55, 3) := by decide +kernel
theorem dX3_readFault_20 : decode cX3_readFault 20 = .ok (.ireturn, 1) := by decide +kernel
theorem dX3_readFault_21 : decode cX3_readFault 21 = .ok (.aload_n 0, 1) := by decide +kernel
theorem dX3_readFault_22 : decode cX3_readFault 22 = .ok (.getfield 12, 3) := by decide +kernel
theorem dX3_readFault_25 : decode cX3_readFault 25 = .ok (.invokevirtual 62, 3) := by decide +kernel
theorem dX3_readFault_28 : decode cX3_readFault 28 = .ok (.aload_n 0, 1) := by decide +kernel
theorem dX3_readFault_29 : decode cX3_readFault 29 = .ok (.invokevirtual 65, 3) := by decide +kernel
theorem dX3_readFault_32 : decode cX3_readFault 32 = .ok (.ifCond .ne 5, 3) := by decide +kernel
theorem dX3_readFault_35 : decode cX3_readFault 35 = .ok (.iconst 0, 1) := by decide +kernel
theorem dX3_readFault_36 : decode cX3_readFault 36 = .ok (.ireturn, 1) := by decide +kernel
theorem dX3_readFault_37 : decode cX3_readFault 37 = .ok (.aload_n 0, 1) := by decide +kernel
theorem dX3_readFault_38 : decode cX3_readFault 38 = .ok (.getfield 12, 3) := by decide +kernel
theorem dX3_readFault_41 : decode cX3_readFault 41 = .ok (.getfield 68, 3) := by decide +kernel
theorem dX3_readFault_44 : decode cX3_readFault 44 = .ok (.lstore_n 1, 1) := by decide +kernel
theorem dX3_readFault_45 : decode cX3_readFault 45 = .ok (.aload_n 0, 1) := by decide +kernel
theorem dX3_readFault_46 : decode cX3_readFault 46 = .ok (.getfield 12, 3) := by decide +kernel
theorem dX3_readFault_49 : decode cX3_readFault 49 = .ok (.invokevirtual 62, 3) := by decide +kernel
theorem dX3_readFault_52 : decode cX3_readFault 52 = .ok (.aload_n 0, 1) := by decide +kernel
theorem dX3_readFault_53 : decode cX3_readFault 53 = .ok (.getfield 12, 3) := by decide +kernel
theorem dX3_readFault_56 : decode cX3_readFault 56 = .ok (.aload_n 0, 1) := by decide +kernel
theorem dX3_readFault_57 : decode cX3_readFault 57 = .ok (.getfield 21, 3) := by decide +kernel
theorem dX3_readFault_60 : decode cX3_readFault 60 = .ok (.invokevirtual 76, 3) := by decide +kernel
theorem dX3_readFault_63 : decode cX3_readFault 63 = .ok (.istore_n 3, 1) := by decide +kernel
theorem dX3_readFault_64 : decode cX3_readFault 64 = .ok (.iload_n 3, 1) := by decide +kernel
theorem dX3_readFault_65 : decode cX3_readFault 65 = .ok (.iconst (-1), 1) := by decide +kernel
theorem dX3_readFault_66 : decode cX3_readFault 66 = .ok (.if_icmp .ne 7, 3) := by decide +kernel
theorem dX3_readFault_69 : decode cX3_readFault 69 = .ok (.iconst (-1), 1) := by decide +kernel
theorem dX3_readFault_70 : decode cX3_readFault 70 = .ok (.goto 14, 3) := by decide +kernel
theorem dX3_readFault_73 : decode cX3_readFault 73 = .ok (.aload_n 0, 1) := by decide +kernel
theorem dX3_readFault_74 : decode cX3_readFault 74 = .ok (.getfield 12, 3) := by decide +kernel
theorem dX3_readFault_77 : decode cX3_readFault 77 = .ok (.iconst 0, 1) := by decide +kernel
theorem dX3_readFault_78 : decode cX3_readFault 78 = .ok (.sipush 200, 3) := by decide +kernel
theorem dX3_readFault_81 : decode cX3_readFault 81 = .ok (.invokevirtual 72, 3) := by decide +kernel
theorem dX3_readFault_84 : decode cX3_readFault 84 = .ok (.istore 4, 2) := by decide +kernel
theorem dX3_readFault_86 : decode cX3_readFault 86 = .ok (.iload 4, 2) := by decide +kernel
theorem dX3_readFault_88 : decode cX3_readFault 88 = .ok (.iconst (-1), 1) := by decide +kernel
theorem dX3_readFault_89 : decode cX3_readFault 89 = .ok (.if_icmp .ne 7, 3) := by decide +kernel
theorem dX3_readFault_92 : decode cX3_readFault 92 = .ok (.iconst (-1), 1) := by decide +kernel
theorem dX3_readFault_93 : decode cX3_readFault 93 = .ok (.goto 13, 3) := by decide +kernel
theorem dX3_readFault_96 : decode cX3_readFault 96 = .ok (.aload_n 0, 1) := by decide +kernel
theorem dX3_readFault_97 : decode cX3_readFault 97 = .ok (.getfield 12, 3) := by decide +kernel
theorem dX3_readFault_100 : decode cX3_readFault 100 = .ok (.iconst 1, 1) := by decide +kernel
theorem dX3_readFault_101 : decode cX3_readFault 101 = .ok (.bipush 99, 2) := by decide +kernel
theorem dX3_readFault_103 : decode cX3_readFault 103 = .ok (.invokevirtual 72, 3) := by decide +kernel
theorem dX3_readFault_106 : decode cX3_readFault 106 = .ok (.istore 5, 2) := by decide +kernel
theorem dX3_readFault_108 : decode cX3_readFault 108 = .ok (.iload 5, 2) := by decide +kernel
theorem dX3_readFault_110 : decode cX3_readFault 110 = .ok (.iconst (-1), 1) := by decide +kernel
theorem dX3_readFault_111 : decode cX3_readFault 111 = .ok (.if_icmp .ne 7, 3) := by decide +kernel
theorem dX3_readFault_114 : decode cX3_readFault 114 = .ok (.iconst (-1), 1) := by decide +kernel
theorem dX3_readFault_115 : decode cX3_readFault 115 = .ok (.goto 13, 3) := by decide +kernel
theorem dX3_readFault_118 : decode cX3_readFault 118 = .ok (.aload_n 0, 1) := by decide +kernel
theorem dX3_readFault_119 : decode cX3_readFault 119 = .ok (.getfield 12, 3) := by decide +kernel
theorem dX3_readFault_122 : decode cX3_readFault 122 = .ok (.iconst 1, 1) := by decide +kernel
theorem dX3_readFault_123 : decode cX3_readFault 123 = .ok (.bipush 15, 2) := by decide +kernel
theorem dX3_readFault_125 : decode cX3_readFault 125 = .ok (.invokevirtual 72, 3) := by decide +kernel
theorem dX3_readFault_128 : decode cX3_readFault 128 = .ok (.istore 6, 2) := by decide +kernel
theorem dX3_readFault_130 : decode cX3_readFault 130 = .ok (.iload 6, 2) := by decide +kernel
theorem dX3_readFault_132 : decode cX3_readFault 132 = .ok (.iconst (-1), 1) := by decide +kernel
theorem dX3_readFault_133 : decode cX3_readFault 133 = .ok (.if_icmp .eq 15, 3) := by decide +kernel
theorem dX3_readFault_136 : decode cX3_readFault 136 = .ok (.aload_n 0, 1) := by decide +kernel
theorem dX3_readFault_137 : decode cX3_readFault 137 = .ok (.getfield 12, 3) := by decide +kernel
theorem dX3_readFault_140 : decode cX3_readFault 140 = .ok (.bipush 59, 2) := by decide +kernel
theorem dX3_readFault_142 : decode cX3_readFault 142 = .ok (.invokevirtual 80, 3) := by decide +kernel
theorem dX3_readFault_145 : decode cX3_readFault 145 = .ok (.ifCond .ne 5, 3) := by decide +kernel
theorem dX3_readFault_148 : decode cX3_readFault 148 = .ok (.iconst 0, 1) := by decide +kernel
theorem dX3_readFault_149 : decode cX3_readFault 149 = .ok (.ireturn, 1) := by decide +kernel
theorem dX3_readFault_150 : decode cX3_readFault 150 = .ok (.aload_n 0, 1) := by decide +kernel
theorem dX3_readFault_151 : decode cX3_readFault 151 = .ok (.getfield 21, 3) := by decide +kernel
theorem dX3_readFault_154 : decode cX3_readFault 154 = .ok (.lload_n 1, 1) := by decide +kernel
theorem dX3_readFault_155 : decode cX3_readFault 155 = .ok (.iload_n 3, 1) := by decide +kernel
theorem dX3_readFault_156 : decode cX3_readFault 156 = .ok (.iload 4, 2) := by decide +kernel
theorem dX3_readFault_158 : decode cX3_readFault 158 = .ok (.iload 5, 2) := by decide +kernel
theorem dX3_readFault_160 : decode cX3_readFault 160 = .ok (.iload 6, 2) := by decide +kernel
theorem dX3_readFault_162 : decode cX3_readFault 162 = .ok (.invokevirtual 90, 3) := by decide +kernel
theorem dX3_readFault_165 : decode cX3_readFault 165 = .ok (.iconst 1, 1) := by decide +kernel
theorem dX3_readFault_166 : decode cX3_readFault 166 = .ok (.ireturn, 1) := by decide +kernel
theorem dX3_readCure_0 : decode cX3_readCure 0 = .ok (.aload_n 0, 1) := by decide +kernel
theorem dX3_readCure_1 : decode cX3_readCure 1 = .ok (.getfield 21, 3) := by decide +kernel
theorem dX3_readCure_4 : decode cX3_readCure 4 = .ok (.getfield 94, 3) := by decide +kernel
theorem dX3_readCure_7 : decode cX3_readCure 7 = .ok (.bipush 16, 2) := by decide +kernel
theorem dX3_readCure_9 : decode cX3_readCure 9 = .ok (.if_icmp .lt 12, 3) := by decide +kernel
theorem dX3_readCure_12 : decode cX3_readCure 12 = .ok (.aload_n 0, 1) := by decide +kernel
theorem dX3_readCure_13 : decode cX3_readCure 13 = .ok (.getfield 12, 3) := by decide +kernel
theorem dX3_readCure_16 : decode cX3_readCure 16 = .ok (.iconst 4, 1) := by decide +kernel
theorem dX3_readCure_17 : decode cX3_readCure 17 = .ok (.invokevirtual 55, 3) := by decide +kernel
theorem dX3_readCure_20 : decode cX3_readCure 20 = .ok (.ireturn, 1) := by decide +kernel
theorem dX3_readCure_21 : decode cX3_readCure 21 = .ok (.aload_n 0, 1) := by decide +kernel
theorem dX3_readCure_22 : decode cX3_readCure 22 = .ok (.getfield 12, 3) := by decide +kernel
theorem dX3_readCure_25 : decode cX3_readCure 25 = .ok (.invokevirtual 62, 3) := by decide +kernel
theorem dX3_readCure_28 : decode cX3_readCure 28 = .ok (.aload_n 0, 1) := by decide +kernel
theorem dX3_readCure_29 : decode cX3_readCure 29 = .ok (.getfield 12, 3) := by decide +kernel
theorem dX3_readCure_32 : decode cX3_readCure 32 = .ok (.aload_n 0, 1) := by decide +kernel
theorem dX3_readCure_33 : decode cX3_readCure 33 = .ok (.getfield 21, 3) := by decide +kernel
theorem dX3_readCure_36 : decode cX3_readCure 36 = .ok (.invokevirtual 97, 3) := by decide +kernel
theorem dX3_readCure_39 : decode cX3_readCure 39 = .ok (.istore_n 1, 1) := by decide +kernel
theorem dX3_readCure_40 : decode cX3_readCure 40 = .ok (.iload_n 1, 1) := by decide +kernel
theorem dX3_readCure_41 : decode cX3_readCure 41 = .ok (.iconst (-1), 1) := by decide +kernel
theorem dX3_readCure_42 : decode cX3_readCure 42 = .ok (.if_icmp .ne 5, 3) := by decide +kernel
theorem dX3_readCure_45 : decode cX3_readCure 45 = .ok (.iconst 0, 1) := by decide +kernel
theorem dX3_readCure_46 : decode cX3_readCure 46 = .ok (.ireturn, 1) := by decide +kernel
theorem dX3_readCure_47 : decode cX3_readCure 47 = .ok (.aload_n 0, 1) := by decide +kernel
theorem dX3_readCure_48 : decode cX3_readCure 48 = .ok (.invokevirtual 100, 3) := by decide +kernel
theorem dX3_readCure_51 : decode cX3_readCure 51 = .ok (.istore_n 2, 1) := by decide +kernel
theorem dX3_readCure_52 : decode cX3_readCure 52 = .ok (.iload_n 2, 1) := by decide +kernel
theorem dX3_readCure_53 : decode cX3_readCure 53 = .ok (.iconst (-1), 1) := by decide +kernel
theorem dX3_readCure_54 : decode cX3_readCure 54 = .ok (.if_icmp .ne 12, 3) := by decide +kernel
theorem dX3_readCure_57 : decode cX3_readCure 57 = .ok (.aload_n 0, 1) := by decide +kernel
theorem dX3_readCure_58 : decode cX3_readCure 58 = .ok (.getfield 12, 3) := by decide +kernel
theorem dX3_readCure_61 : decode cX3_readCure 61 = .ok (.iconst 1, 1) := by decide +kernel
theorem dX3_readCure_62 : decode cX3_readCure 62 = .ok (.invokevirtual 55, 3) := by decide +kernel
theorem dX3_readCure_65 : decode cX3_readCure 65 = .ok (.ireturn, 1) := by decide +kernel
theorem dX3_readCure_66 : decode cX3_readCure 66 = .ok (.aload_n 0, 1) := by decide +kernel
theorem dX3_readCure_67 : decode cX3_readCure 67 = .ok (.getfield 21, 3) := by decide +kernel
theorem dX3_readCure_70 : decode cX3_readCure 70 = .ok (.iload_n 1, 1) := by decide +kernel
theorem dX3_readCure_71 : decode cX3_readCure 71 = .ok (.iload_n 2, 1) := by decide +kernel
theorem dX3_readCure_72 : decode cX3_readCure 72 = .ok (.invokevirtual 104, 3) := by decide +kernel
theorem dX3_readCure_75 : decode cX3_readCure 75 = .ok (.ifCond .eq 12, 3) := by decide +kernel
theorem dX3_readCure_78 : decode cX3_readCure 78 = .ok (.aload_n 0, 1) := by decide +kernel
theorem dX3_readCure_79 : decode cX3_readCure 79 = .ok (.getfield 12, 3) := by decide +kernel
theorem dX3_readCure_82 : decode cX3_readCure 82 = .ok (.iconst 3, 1) := by decide +kernel
theorem dX3_readCure_83 : decode cX3_readCure 83 = .ok (.invokevirtual 55, 3) := by decide +kernel
theorem dX3_readCure_86 : decode cX3_readCure 86 = .ok (.ireturn, 1) := by decide +kernel
theorem dX3_readCure_87 : decode cX3_readCure 87 = .ok (.aload_n 0, 1) := by decide +kernel
theorem dX3_readCure_88 : decode cX3_readCure 88 = .ok (.getfield 12, 3) := by decide +kernel
theorem dX3_readCure_91 : decode cX3_readCure 91 = .ok (.invokevirtual 62, 3) := by decide +kernel
theorem dX3_readCure_94 : decode cX3_readCure 94 = .ok (.aload_n 0, 1) := by decide +kernel
theorem dX3_readCure_95 : decode cX3_readCure 95 = .ok (.getfield 12, 3) := by decide +kernel
theorem dX3_readCure_98 : decode cX3_readCure 98 = .ok (.iconst 1, 1) := by decide +kernel
theorem dX3_readCure_99 : decode cX3_readCure 99 = .ok (.bipush 12, 2) := by decide +kernel
theorem dX3_readCure_101 : decode cX3_readCure 101 = .ok (.invokevirtual 72, 3) := by decide +kernel
theorem dX3_readCure_104 : decode cX3_readCure 104 = .ok (.istore_n 3, 1) := by decide +kernel
theorem dX3_readCure_105 : decode cX3_readCure 105 = .ok (.iload_n 3, 1) := by decide +kernel
theorem dX3_readCure_106 : decode cX3_readCure 106 = .ok (.iconst (-1), 1) := by decide +kernel
theorem dX3_readCure_107 : decode cX3_readCure 107 = .ok (.if_icmp .eq 15, 3) := by decide +kernel
theorem dX3_readCure_110 : decode cX3_readCure 110 = .ok (.aload_n 0, 1) := by decide +kernel
theorem dX3_readCure_111 : decode cX3_readCure 111 = .ok (.getfield 12, 3) := by decide +kernel
theorem dX3_readCure_114 : decode cX3_readCure 114 = .ok (.bipush 59, 2) := by decide +kernel
theorem dX3_readCure_116 : decode cX3_readCure 116 = .ok (.invokevirtual 80, 3) := by decide +kernel
theorem dX3_readCure_119 : decode cX3_readCure 119 = .ok (.ifCond .ne 5, 3) := by decide +kernel
theorem dX3_readCure_122 : decode cX3_readCure 122 = .ok (.iconst 0, 1) := by decide +kernel
theorem dX3_readCure_123 : decode cX3_readCure 123 = .ok (.ireturn, 1) := by decide +kernel
theorem dX3_readCure_124 : decode cX3_readCure 124 = .ok (.aload_n 0, 1) := by decide +kernel
theorem dX3_readCure_125 : decode cX3_readCure 125 = .ok (.getfield 21, 3) := by decide +kernel
theorem dX3_readCure_128 : decode cX3_readCure 128 = .ok (.iload_n 1, 1) := by decide +kernel
theorem dX3_readCure_129 : decode cX3_readCure 129 = .ok (.iload_n 2, 1) := by decide +kernel
theorem dX3_readCure_130 : decode cX3_readCure 130 = .ok (.iload_n 3, 1) := by decide +kernel
theorem dX3_readCure_131 : decode cX3_readCure 131 = .ok (.invokevirtual 107, 3) := by decide +kernel
theorem dX3_readCure_134 : decode cX3_readCure 134 = .ok (.iconst 1, 1) := by decide +kernel
theorem dX3_readCure_135 : decode cX3_readCure 135 = .ok (.ireturn, 1) := by decide +kernel
theorem dX3_deedHere_0 : decode cX3_deedHere 0 = .ok (.aload_n 0, 1) := by decide +kernel
theorem dX3_deedHere_1 : decode cX3_deedHere 1 = .ok (.getfield 12, 3) := by decide +kernel
theorem dX3_deedHere_4 : decode cX3_deedHere 4 = .ok (.getfield 43, 3) := by decide +kernel
theorem dX3_deedHere_7 : decode cX3_deedHere 7 = .ok (.tableswitch 31 4 6 #[25, 27, 29], 25) := by decide +kernel
theorem dX3_deedHere_32 : decode cX3_deedHere 32 = .ok (.iconst 0, 1) := by decide +kernel
theorem dX3_deedHere_33 : decode cX3_deedHere 33 = .ok (.ireturn, 1) := by decide +kernel
theorem dX3_deedHere_34 : decode cX3_deedHere 34 = .ok (.iconst 1, 1) := by decide +kernel
theorem dX3_deedHere_35 : decode cX3_deedHere 35 = .ok (.ireturn, 1) := by decide +kernel
theorem dX3_deedHere_36 : decode cX3_deedHere 36 = .ok (.iconst 2, 1) := by decide +kernel
theorem dX3_deedHere_37 : decode cX3_deedHere 37 = .ok (.ireturn, 1) := by decide +kernel
theorem dX3_deedHere_38 : decode cX3_deedHere 38 = .ok (.iconst (-1), 1) := by decide +kernel
theorem dX3_deedHere_39 : decode cX3_deedHere 39 = .ok (.ireturn, 1) := by decide +kernel
theorem dX3_isNewName_0 : decode cX3_isNewName 0 = .ok (.aload_n 0, 1) := by decide +kernel
theorem dX3_isNewName_1 : decode cX3_isNewName 1 = .ok (.getfield 12, 3) := by decide +kernel
theorem dX3_isNewName_4 : decode cX3_isNewName 4 = .ok (.invokevirtual 111, 3) := by decide +kernel
theorem dX3_isNewName_7 : decode cX3_isNewName 7 = .ok (.ifCond .ne 5, 3) := by decide +kernel
theorem dX3_isNewName_10 : decode cX3_isNewName 10 = .ok (.iconst 0, 1) := by decide +kernel
theorem dX3_isNewName_11 : decode cX3_isNewName 11 = .ok (.ireturn, 1) := by decide +kernel
theorem dX3_isNewName_12 : decode cX3_isNewName 12 = .ok (.aload_n 0, 1) := by decide +kernel
theorem dX3_isNewName_13 : decode cX3_isNewName 13 = .ok (.getfield 21, 3) := by decide +kernel
theorem dX3_isNewName_16 : decode cX3_isNewName 16 = .ok (.aload_n 0, 1) := by decide +kernel
theorem dX3_isNewName_17 : decode cX3_isNewName 17 = .ok (.getfield 12, 3) := by decide +kernel
theorem dX3_isNewName_20 : decode cX3_isNewName 20 = .ok (.getfield 68, 3) := by decide +kernel
theorem dX3_isNewName_23 : decode cX3_isNewName 23 = .ok (.invokevirtual 114, 3) := by decide +kernel
theorem dX3_isNewName_26 : decode cX3_isNewName 26 = .ok (.iconst (-1), 1) := by decide +kernel
theorem dX3_isNewName_27 : decode cX3_isNewName 27 = .ok (.if_icmp .ne 21, 3) := by decide +kernel
theorem dX3_isNewName_30 : decode cX3_isNewName 30 = .ok (.aload_n 0, 1) := by decide +kernel
theorem dX3_isNewName_31 : decode cX3_isNewName 31 = .ok (.getfield 21, 3) := by decide +kernel
theorem dX3_isNewName_34 : decode cX3_isNewName 34 = .ok (.aload_n 0, 1) := by decide +kernel
theorem dX3_isNewName_35 : decode cX3_isNewName 35 = .ok (.getfield 12, 3) := by decide +kernel
theorem dX3_isNewName_38 : decode cX3_isNewName 38 = .ok (.getfield 68, 3) := by decide +kernel
theorem dX3_isNewName_41 : decode cX3_isNewName 41 = .ok (.invokevirtual 118, 3) := by decide +kernel
theorem dX3_isNewName_44 : decode cX3_isNewName 44 = .ok (.iconst (-1), 1) := by decide +kernel
theorem dX3_isNewName_45 : decode cX3_isNewName 45 = .ok (.if_icmp .eq 12, 3) := by decide +kernel
theorem dX3_isNewName_48 : decode cX3_isNewName 48 = .ok (.aload_n 0, 1) := by decide +kernel
theorem dX3_isNewName_49 : decode cX3_isNewName 49 = .ok (.getfield 12, 3) := by decide +kernel
theorem dX3_isNewName_52 : decode cX3_isNewName 52 = .ok (.iconst 3, 1) := by decide +kernel
theorem dX3_isNewName_53 : decode cX3_isNewName 53 = .ok (.invokevirtual 55, 3) := by decide +kernel
theorem dX3_isNewName_56 : decode cX3_isNewName 56 = .ok (.ireturn, 1) := by decide +kernel
theorem dX3_isNewName_57 : decode cX3_isNewName 57 = .ok (.iconst 1, 1) := by decide +kernel
theorem dX3_isNewName_58 : decode cX3_isNewName 58 = .ok (.ireturn, 1) := by decide +kernel
theorem dX4_init_0 : decode cX4_init 0 = .ok (.aload_n 0, 1) := by decide +kernel
theorem dX4_init_1 : decode cX4_init 1 = .ok (.invokespecial 3, 3) := by decide +kernel
theorem dX4_init_4 : decode cX4_init 4 = .ok (.aload_n 0, 1) := by decide +kernel
theorem dX4_init_5 : decode cX4_init 5 = .ok (.new 9, 3) := by decide +kernel
theorem dX4_init_8 : decode cX4_init 8 = .ok (.dup, 1) := by decide +kernel
theorem dX4_init_9 : decode cX4_init 9 = .ok (.invokespecial 11, 3) := by decide +kernel
theorem dX4_init_12 : decode cX4_init 12 = .ok (.putfield 12, 3) := by decide +kernel
theorem dX4_init_15 : decode cX4_init 15 = .ok (.aload_n 0, 1) := by decide +kernel
theorem dX4_init_16 : decode cX4_init 16 = .ok (.bipush 40, 2) := by decide +kernel
theorem dX4_init_18 : decode cX4_init 18 = .ok (.newarray .int, 2) := by decide +kernel
theorem dX4_init_20 : decode cX4_init 20 = .ok (.putfield 18, 3) := by decide +kernel
theorem dX4_init_23 : decode cX4_init 23 = .ok (.aload_n 0, 1) := by decide +kernel
theorem dX4_init_24 : decode cX4_init 24 = .ok (.bipush 40, 2) := by decide +kernel
theorem dX4_init_26 : decode cX4_init 26 = .ok (.newarray .int, 2) := by decide +kernel
theorem dX4_init_28 : decode cX4_init 28 = .ok (.putfield 22, 3) := by decide +kernel
theorem dX4_init_31 : decode cX4_init 31 = .ok (.aload_n 0, 1) := by decide +kernel
theorem dX4_init_32 : decode cX4_init 32 = .ok (.bipush 40, 2) := by decide +kernel
theorem dX4_init_34 : decode cX4_init 34 = .ok (.newarray .int, 2) := by decide +kernel
theorem dX4_init_36 : decode cX4_init 36 = .ok (.putfield 25, 3) := by decide +kernel
theorem dX4_init_39 : decode cX4_init 39 = .ok (.return_, 1) := by decide +kernel
theorem dX4_readLog_0 : decode cX4_readLog 0 = .ok (.aload_n 0, 1) := by decide +kernel
theorem dX4_readLog_1 : decode cX4_readLog 1 = .ok (.getfield 12, 3) := by decide +kernel
theorem dX4_readLog_4 : decode cX4_readLog 4 = .ok (.aload_n 1, 1) := by decide +kernel
theorem dX4_readLog_5 : decode cX4_readLog 5 = .ok (.sipush 400, 3) := by decide +kernel
theorem dX4_readLog_8 : decode cX4_readLog 8 = .ok (.invokevirtual 28, 3) := by decide +kernel
theorem dX4_readLog_11 : decode cX4_readLog 11 = .ok (.aload_n 0, 1) := by decide +kernel
theorem dX4_readLog_12 : decode cX4_readLog 12 = .ok (.iconst 0, 1) := by decide +kernel
theorem dX4_readLog_13 : decode cX4_readLog 13 = .ok (.putfield 32, 3) := by decide +kernel
theorem dX4_readLog_16 : decode cX4_readLog 16 = .ok (.aload_n 0, 1) := by decide +kernel
theorem dX4_readLog_17 : decode cX4_readLog 17 = .ok (.getfield 32, 3) := by decide +kernel
theorem dX4_readLog_20 : decode cX4_readLog 20 = .ok (.bipush 40, 2) := by decide +kernel
theorem dX4_readLog_22 : decode cX4_readLog 22 = .ok (.if_icmp .gt 36, 3) := by decide +kernel
theorem dX4_readLog_25 : decode cX4_readLog 25 = .ok (.aload_n 0, 1) := by decide +kernel
theorem dX4_readLog_26 : decode cX4_readLog 26 = .ok (.getfield 12, 3) := by decide +kernel
theorem dX4_readLog_29 : decode cX4_readLog 29 = .ok (.getfield 36, 3) := by decide +kernel
theorem dX4_readLog_32 : decode cX4_readLog 32 = .ok (.ifCond .eq 26, 3) := by decide +kernel
theorem dX4_readLog_35 : decode cX4_readLog 35 = .ok (.aload_n 0, 1) := by decide +kernel
theorem dX4_readLog_36 : decode cX4_readLog 36 = .ok (.aload_n 2, 1) := by decide +kernel
theorem dX4_readLog_37 : decode cX4_readLog 37 = .ok (.invokevirtual 39, 3) := by decide +kernel
theorem dX4_readLog_40 : decode cX4_readLog 40 = .ok (.ifCond .ne 5, 3) := by decide +kernel
theorem dX4_readLog_43 : decode cX4_readLog 43 = .ok (.iconst 0, 1) := by decide +kernel
theorem dX4_readLog_44 : decode cX4_readLog 44 = .ok (.ireturn, 1) := by decide +kernel
theorem dX4_readLog_45 : decode cX4_readLog 45 = .ok (.aload_n 0, 1) := by decide +kernel
theorem dX4_readLog_46 : decode cX4_readLog 46 = .ok (.dup, 1) := by decide +kernel
theorem dX4_readLog_47 : decode cX4_readLog 47 = .ok (.getfield 32, 3) := by decide +kernel
theorem dX4_readLog_50 : decode cX4_readLog 50 = .ok (.iconst 1, 1) := by decide +kernel
theorem dX4_readLog_51 : decode cX4_readLog 51 = .ok (.iadd, 1) := by decide +kernel
theorem dX4_readLog_52 : decode cX4_readLog 52 = .ok (.putfield 32, 3) := by decide +kernel
theorem dX4_readLog_55 : decode cX4_readLog 55 = .ok (.goto (-39), 3) := by decide +kernel
theorem dX4_readLog_58 : decode cX4_readLog 58 = .ok (.iconst 1, 1) := by decide +kernel
theorem dX4_readLog_59 : decode cX4_readLog 59 = .ok (.ireturn, 1) := by decide +kernel
theorem dX4_readLine_0 : decode cX4_readLine 0 = .ok (.aload_n 0, 1) := by decide +kernel
theorem dX4_readLine_1 : decode cX4_readLine 1 = .ok (.getfield 12, 3) := by decide +kernel
theorem dX4_readLine_4 : decode cX4_readLine 4 = .ok (.getfield 43, 3) := by decide +kernel
theorem dX4_readLine_7 : decode cX4_readLine 7 = .ok (.bipush 8, 2) := by decide +kernel
theorem dX4_readLine_9 : decode cX4_readLine 9 = .ok (.if_icmp .eq 19, 3) := by decide +kernel
theorem dX4_readLine_12 : decode cX4_readLine 12 = .ok (.aload_n 0, 1) := by decide +kernel
theorem dX4_readLine_13 : decode cX4_readLine 13 = .ok (.getfield 12, 3) := by decide +kernel
theorem dX4_readLine_16 : decode cX4_readLine 16 = .ok (.getfield 43, 3) := by decide +kernel
theorem dX4_readLine_19 : decode cX4_readLine 19 = .ok (.bipush 9, 2) := by decide +kernel
theorem dX4_readLine_21 : decode cX4_readLine 21 = .ok (.if_icmp .eq 7, 3) := by decide +kernel
theorem dX4_readLine_24 : decode cX4_readLine 24 = .ok (.iconst 1, 1) := by decide +kernel
theorem dX4_readLine_25 : decode cX4_readLine 25 = .ok (.goto 4, 3) := by decide +kernel
theorem dX4_readLine_28 : decode cX4_readLine 28 = .ok (.iconst 0, 1) := by decide +kernel
theorem dX4_readLine_29 : decode cX4_readLine 29 = .ok (.istore_n 2, 1) := by decide +kernel
theorem dX4_readLine_30 : decode cX4_readLine 30 = .ok (.iload_n 2, 1) := by decide +kernel
theorem dX4_readLine_31 : decode cX4_readLine 31 = .ok (.ifCond .eq 37, 3) := by decide +kernel
theorem dX4_readLine_34 : decode cX4_readLine 34 = .ok (.aload_n 0, 1) := by decide +kernel
theorem dX4_readLine_35 : decode cX4_readLine 35 = .ok (.getfield 12, 3) := by decide +kernel
theorem dX4_readLine_38 : decode cX4_readLine 38 = .ok (.invokevirtual 46, 3) := by decide +kernel
theorem dX4_readLine_41 : decode cX4_readLine 41 = .ok (.ifCond .eq 18, 3) := by decide +kernel
theorem dX4_readLine_44 : decode cX4_readLine 44 = .ok (.aload_n 1, 1) := by decide +kernel
theorem dX4_readLine_45 : decode cX4_readLine 45 = .ok (.aload_n 0, 1) := by decide +kernel
theorem dX4_readLine_46 : decode cX4_readLine 46 = .ok (.getfield 12, 3) := by decide +kernel
theorem dX4_readLine_49 : decode cX4_readLine 49 = .ok (.getfield 50, 3) := by decide +kernel
theorem dX4_readLine_52 : decode cX4_readLine 52 = .ok (.invokevirtual 54, 3) := by decide +kernel
theorem dX4_readLine_55 : decode cX4_readLine 55 = .ok (.iconst (-1), 1) := by decide +kernel
theorem dX4_readLine_56 : decode cX4_readLine 56 = .ok (.if_icmp .ne 12, 3) := by decide +kernel
theorem dX4_readLine_59 : decode cX4_readLine 59 = .ok (.aload_n 0, 1) := by decide +kernel
theorem dX4_readLine_60 : decode cX4_readLine 60 = .ok (.getfield 12, 3) := by decide +kernel
theorem dX4_readLine_63 : decode cX4_readLine 63 = .ok (.iconst 3, 1) := by decide +kernel
theorem dX4_readLine_64 : decode cX4_readLine 64 = .ok (.invokevirtual 60, 3) := by decide +kernel
theorem dX4_readLine_67 : decode cX4_readLine 67 = .ok (.ireturn, 1) := by decide +kernel
theorem dX4_readLine_68 : decode cX4_readLine 68 = .ok (.aload_n 0, 1) := by decide +kernel
theorem dX4_readLine_69 : decode cX4_readLine 69 = .ok (.getfield 32, 3) := by decide +kernel
theorem dX4_readLine_72 : decode cX4_readLine 72 = .ok (.bipush 40, 2) := by decide +kernel
theorem dX4_readLine_74 : decode cX4_readLine 74 = .ok (.if_icmp .lt 12, 3) := by decide +kernel
theorem dX4_readLine_77 : decode cX4_readLine 77 = .ok (.aload_n 0, 1) := by decide +kernel
theorem dX4_readLine_78 : decode cX4_readLine 78 = .ok (.getfield 12, 3) := by decide +kernel
theorem dX4_readLine_81 : decode cX4_readLine 81 = .ok (.iconst 4, 1) := by decide +kernel
theorem dX4_readLine_82 : decode cX4_readLine 82 = .ok (.invokevirtual 60, 3) := by decide +kernel
theorem dX4_readLine_85 : decode cX4_readLine 85 = .ok (.ireturn, 1) := by decide +kernel
theorem dX4_readLine_86 : decode cX4_readLine 86 = .ok (.iload_n 2, 1) := by decide +kernel
theorem dX4_readLine_87 : decode cX4_readLine 87 = .ok (.ifCond .eq 11, 3) := by decide +kernel
theorem dX4_readLine_90 : decode cX4_readLine 90 = .ok (.aload_n 0, 1) := by decide +kernel
theorem dX4_readLine_91 : decode cX4_readLine 91 = .ok (.aload_n 1, 1) := by decide +kernel
theorem dX4_readLine_92 : decode cX4_readLine 92 = .ok (.invokevirtual 64, 3) := by decide +kernel
theorem dX4_readLine_95 : decode cX4_readLine 95 = .ok (.goto 8, 3) := by decide +kernel
theorem dX4_readLine_98 : decode cX4_readLine 98 = .ok (.aload_n 0, 1) := by decide +kernel
theorem dX4_readLine_99 : decode cX4_readLine 99 = .ok (.aload_n 1, 1) := by decide +kernel
theorem dX4_readLine_100 : decode cX4_readLine 100 = .ok (.invokevirtual 67, 3) := by decide +kernel
theorem dX4_readLine_103 : decode cX4_readLine 103 = .ok (.istore_n 3, 1) := by decide +kernel
theorem dX4_readLine_104 : decode cX4_readLine 104 = .ok (.iload_n 3, 1) := by decide +kernel
theorem dX4_readLine_105 : decode cX4_readLine 105 = .ok (.ifCond .eq 19, 3) := by decide +kernel
theorem dX4_readLine_108 : decode cX4_readLine 108 = .ok (.aload_n 0, 1) := by decide +kernel
theorem dX4_readLine_109 : decode cX4_readLine 109 = .ok (.getfield 12, 3) := by decide +kernel
theorem dX4_readLine_112 : decode cX4_readLine 112 = .ok (.bipush 59, 2) := by decide +kernel
theorem dX4_readLine_114 : decode cX4_readLine 114 = .ok (.invokevirtual 70, 3) := by decide +kernel
theorem dX4_readLine_117 : decode cX4_readLine 117 = .ok (.ifCond .eq 7, 3) := by decide +kernel
theorem dX4_readLine_120 : decode cX4_readLine 120 = .ok (.iconst 1, 1) := by decide +kernel
theorem dX4_readLine_121 : decode cX4_readLine 121 = .ok (.goto 4, 3) := by decide +kernel
theorem dX4_readLine_124 : decode cX4_readLine 124 = .ok (.iconst 0, 1) := by decide +kernel
theorem dX4_readLine_125 : decode cX4_readLine 125 = .ok (.ireturn, 1) := by decide +kernel
theorem dX4_readAct_0 : decode cX4_readAct 0 = .ok (.aload_n 0, 1) := by decide +kernel
theorem dX4_readAct_1 : decode cX4_readAct 1 = .ok (.getfield 12, 3) := by decide +kernel
theorem dX4_readAct_4 : decode cX4_readAct 4 = .ok (.aload_n 1, 1) := by decide +kernel
theorem dX4_readAct_5 : decode cX4_readAct 5 = .ok (.invokevirtual 73, 3) := by decide +kernel
theorem dX4_readAct_8 : decode cX4_readAct 8 = .ok (.istore_n 2, 1) := by decide +kernel
theorem dX4_readAct_9 : decode cX4_readAct 9 = .ok (.aload_n 0, 1) := by decide +kernel
theorem dX4_readAct_10 : decode cX4_readAct 10 = .ok (.getfield 12, 3) := by decide +kernel
theorem dX4_readAct_13 : decode cX4_readAct 13 = .ok (.getfield 43, 3) := by decide +kernel
theorem dX4_readAct_16 : decode cX4_readAct 16 = .ok (.istore_n 3, 1) := by decide +kernel
theorem dX4_readAct_17 : decode cX4_readAct 17 = .ok (.iload_n 3, 1) := by decide +kernel
theorem dX4_readAct_18 : decode cX4_readAct 18 = .ok (.iconst 4, 1) := by decide +kernel
theorem dX4_readAct_19 : decode cX4_readAct 19 = .ok (.if_icmp .eq 29, 3) := by decide +kernel
theorem dX4_readAct_22 : decode cX4_readAct 22 = .ok (.iload_n 3, 1) := by decide +kernel
theorem dX4_readAct_23 : decode cX4_readAct 23 = .ok (.bipush 7, 2) := by decide +kernel
theorem dX4_readAct_25 : decode cX4_readAct 25 = .ok (.if_icmp .eq 23, 3) := by decide +kernel
theorem dX4_readAct_28 : decode cX4_readAct 28 = .ok (.iload_n 3, 1) := by decide +kernel
theorem dX4_readAct_29 : decode cX4_readAct 29 = .ok (.iconst 5, 1) := by decide +kernel
theorem dX4_readAct_30 : decode cX4_readAct 30 = .ok (.if_icmp .eq 18, 3) := by decide +kernel
theorem dX4_readAct_33 : decode cX4_readAct 33 = .ok (.iload_n 3, 1) := by decide +kernel
theorem dX4_readAct_34 : decode cX4_readAct 34 = .ok (.bipush 6, 2) := by decide +kernel
theorem dX4_readAct_36 : decode cX4_readAct 36 = .ok (.if_icmp .eq 12, 3) := by decide +kernel
theorem dX4_readAct_39 : decode cX4_readAct 39 = .ok (.aload_n 0, 1) := by decide +kernel
theorem dX4_readAct_40 : decode cX4_readAct 40 = .ok (.getfield 12, 3) := by decide +kernel
theorem dX4_readAct_43 : decode cX4_readAct 43 = .ok (.iconst 1, 1) := by decide +kernel
theorem dX4_readAct_44 : decode cX4_readAct 44 = .ok (.invokevirtual 60, 3) := by decide +kernel
theorem dX4_readAct_47 : decode cX4_readAct 47 = .ok (.ireturn, 1) := by decide +kernel
theorem dX4_readAct_48 : decode cX4_readAct 48 = .ok (.aload_n 0, 1) := by decide +kernel
theorem dX4_readAct_49 : decode cX4_readAct 49 = .ok (.getfield 12, 3) := by decide +kernel
theorem dX4_readAct_52 : decode cX4_readAct 52 = .ok (.invokevirtual 77, 3) := by decide +kernel
theorem dX4_readAct_55 : decode cX4_readAct 55 = .ok (.aload_n 0, 1) := by decide +kernel
theorem dX4_readAct_56 : decode cX4_readAct 56 = .ok (.iload_n 3, 1) := by decide +kernel
theorem dX4_readAct_57 : decode cX4_readAct 57 = .ok (.iload_n 2, 1) := by decide +kernel
