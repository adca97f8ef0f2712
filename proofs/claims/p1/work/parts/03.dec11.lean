theorem dX12_helped_61 : decode cX12_helped 61 = .ok (.ireturn, 1) := by decide +kernel
theorem dX12_helped_62 : decode cX12_helped 62 = .ok (.iload_n 2, 1) := by decide +kernel
theorem dX12_helped_63 : decode cX12_helped 63 = .ok (.aload_n 0, 1) := by decide +kernel
theorem dX12_helped_64 : decode cX12_helped 64 = .ok (.getfield 7, 3) := by decide +kernel
theorem dX12_helped_67 : decode cX12_helped 67 = .ok (.iload 4, 2) := by decide +kernel
theorem dX12_helped_69 : decode cX12_helped 69 = .ok (.iaload, 1) := by decide +kernel
theorem dX12_helped_70 : decode cX12_helped 70 = .ok (.iadd, 1) := by decide +kernel
theorem dX12_helped_71 : decode cX12_helped 71 = .ok (.istore_n 2, 1) := by decide +kernel
theorem dX12_helped_72 : decode cX12_helped 72 = .ok (.iload_n 3, 1) := by decide +kernel
theorem dX12_helped_73 : decode cX12_helped 73 = .ok (.aload_n 0, 1) := by decide +kernel
theorem dX12_helped_74 : decode cX12_helped 74 = .ok (.getfield 7, 3) := by decide +kernel
theorem dX12_helped_77 : decode cX12_helped 77 = .ok (.iload 4, 2) := by decide +kernel
theorem dX12_helped_79 : decode cX12_helped 79 = .ok (.iaload, 1) := by decide +kernel
theorem dX12_helped_80 : decode cX12_helped 80 = .ok (.aload_n 0, 1) := by decide +kernel
theorem dX12_helped_81 : decode cX12_helped 81 = .ok (.getfield 7, 3) := by decide +kernel
theorem dX12_helped_84 : decode cX12_helped 84 = .ok (.iload 4, 2) := by decide +kernel
theorem dX12_helped_86 : decode cX12_helped 86 = .ok (.iconst 1, 1) := by decide +kernel
theorem dX12_helped_87 : decode cX12_helped 87 = .ok (.iadd, 1) := by decide +kernel
theorem dX12_helped_88 : decode cX12_helped 88 = .ok (.iaload, 1) := by decide +kernel
theorem dX12_helped_89 : decode cX12_helped 89 = .ok (.imul, 1) := by decide +kernel
theorem dX12_helped_90 : decode cX12_helped 90 = .ok (.iadd, 1) := by decide +kernel
theorem dX12_helped_91 : decode cX12_helped 91 = .ok (.istore_n 3, 1) := by decide +kernel
theorem dX12_helped_92 : decode cX12_helped 92 = .ok (.iinc 4 2, 3) := by decide +kernel
theorem dX12_helped_95 : decode cX12_helped 95 = .ok (.goto (-55), 3) := by decide +kernel
theorem dX12_helped_98 : decode cX12_helped 98 = .ok (.iload_n 1, 1) := by decide +kernel
theorem dX12_helped_99 : decode cX12_helped 99 = .ok (.iconst 2, 1) := by decide +kernel
theorem dX12_helped_100 : decode cX12_helped 100 = .ok (.idiv, 1) := by decide +kernel
theorem dX12_helped_101 : decode cX12_helped 101 = .ok (.istore_n 1, 1) := by decide +kernel
theorem dX12_helped_102 : decode cX12_helped 102 = .ok (.iload_n 2, 1) := by decide +kernel
theorem dX12_helped_103 : decode cX12_helped 103 = .ok (.ifCond .eq 8, 3) := by decide +kernel
theorem dX12_helped_106 : decode cX12_helped 106 = .ok (.iload_n 2, 1) := by decide +kernel
theorem dX12_helped_107 : decode cX12_helped 107 = .ok (.iload_n 1, 1) := by decide +kernel
theorem dX12_helped_108 : decode cX12_helped 108 = .ok (.if_icmp .ne 8, 3) := by decide +kernel
theorem dX12_helped_111 : decode cX12_helped 111 = .ok (.aload_n 0, 1) := by decide +kernel
theorem dX12_helped_112 : decode cX12_helped 112 = .ok (.invokevirtual 224, 3) := by decide +kernel
theorem dX12_helped_115 : decode cX12_helped 115 = .ok (.ireturn, 1) := by decide +kernel
theorem dX12_helped_116 : decode cX12_helped 116 = .ok (.iconst 0, 1) := by decide +kernel
theorem dX12_helped_117 : decode cX12_helped 117 = .ok (.istore 4, 2) := by decide +kernel
theorem dX12_helped_119 : decode cX12_helped 119 = .ok (.aload_n 0, 1) := by decide +kernel
theorem dX12_helped_120 : decode cX12_helped 120 = .ok (.iconst 0, 1) := by decide +kernel
theorem dX12_helped_121 : decode cX12_helped 121 = .ok (.putfield 54, 3) := by decide +kernel
theorem dX12_helped_124 : decode cX12_helped 124 = .ok (.iconst 0, 1) := by decide +kernel
theorem dX12_helped_125 : decode cX12_helped 125 = .ok (.istore 5, 2) := by decide +kernel
theorem dX12_helped_127 : decode cX12_helped 127 = .ok (.iload 5, 2) := by decide +kernel
theorem dX12_helped_129 : decode cX12_helped 129 = .ok (.iconst 1, 1) := by decide +kernel
theorem dX12_helped_130 : decode cX12_helped 130 = .ok (.iload_n 1, 1) := by decide +kernel
theorem dX12_helped_131 : decode cX12_helped 131 = .ok (.ishl, 1) := by decide +kernel
theorem dX12_helped_132 : decode cX12_helped 132 = .ok (.if_icmp .ge 84, 3) := by decide +kernel
theorem dX12_helped_135 : decode cX12_helped 135 = .ok (.iload 5, 2) := by decide +kernel
theorem dX12_helped_137 : decode cX12_helped 137 = .ok (.invokestatic 317, 3) := by decide +kernel
theorem dX12_helped_140 : decode cX12_helped 140 = .ok (.iload_n 2, 1) := by decide +kernel
theorem dX12_helped_141 : decode cX12_helped 141 = .ok (.if_icmp .eq 6, 3) := by decide +kernel
theorem dX12_helped_144 : decode cX12_helped 144 = .ok (.goto 66, 3) := by decide +kernel
theorem dX12_helped_147 : decode cX12_helped 147 = .ok (.aload_n 0, 1) := by decide +kernel
theorem dX12_helped_148 : decode cX12_helped 148 = .ok (.dup, 1) := by decide +kernel
theorem dX12_helped_149 : decode cX12_helped 149 = .ok (.getfield 54, 3) := by decide +kernel
theorem dX12_helped_152 : decode cX12_helped 152 = .ok (.iconst 1, 1) := by decide +kernel
theorem dX12_helped_153 : decode cX12_helped 153 = .ok (.iadd, 1) := by decide +kernel
theorem dX12_helped_154 : decode cX12_helped 154 = .ok (.putfield 54, 3) := by decide +kernel
theorem dX12_helped_157 : decode cX12_helped 157 = .ok (.iconst 0, 1) := by decide +kernel
theorem dX12_helped_158 : decode cX12_helped 158 = .ok (.istore 6, 2) := by decide +kernel
theorem dX12_helped_160 : decode cX12_helped 160 = .ok (.iconst 0, 1) := by decide +kernel
theorem dX12_helped_161 : decode cX12_helped 161 = .ok (.istore 7, 2) := by decide +kernel
theorem dX12_helped_163 : decode cX12_helped 163 = .ok (.iload 7, 2) := by decide +kernel
theorem dX12_helped_165 : decode cX12_helped 165 = .ok (.iload_n 1, 1) := by decide +kernel
theorem dX12_helped_166 : decode cX12_helped 166 = .ok (.if_icmp .ge 35, 3) := by decide +kernel
theorem dX12_helped_169 : decode cX12_helped 169 = .ok (.iload 5, 2) := by decide +kernel
theorem dX12_helped_171 : decode cX12_helped 171 = .ok (.iload 7, 2) := by decide +kernel
theorem dX12_helped_173 : decode cX12_helped 173 = .ok (.invokestatic 288, 3) := by decide +kernel
theorem dX12_helped_176 : decode cX12_helped 176 = .ok (.ifCond .eq 19, 3) := by decide +kernel
theorem dX12_helped_179 : decode cX12_helped 179 = .ok (.iload 6, 2) := by decide +kernel
theorem dX12_helped_181 : decode cX12_helped 181 = .ok (.aload_n 0, 1) := by decide +kernel
theorem dX12_helped_182 : decode cX12_helped 182 = .ok (.getfield 7, 3) := by decide +kernel
theorem dX12_helped_185 : decode cX12_helped 185 = .ok (.iconst 2, 1) := by decide +kernel
theorem dX12_helped_186 : decode cX12_helped 186 = .ok (.iload 7, 2) := by decide +kernel
theorem dX12_helped_188 : decode cX12_helped 188 = .ok (.imul, 1) := by decide +kernel
theorem dX12_helped_189 : decode cX12_helped 189 = .ok (.iconst 1, 1) := by decide +kernel
theorem dX12_helped_190 : decode cX12_helped 190 = .ok (.iadd, 1) := by decide +kernel
theorem dX12_helped_191 : decode cX12_helped 191 = .ok (.iaload, 1) := by decide +kernel
theorem dX12_helped_192 : decode cX12_helped 192 = .ok (.iadd, 1) := by decide +kernel
theorem dX12_helped_193 : decode cX12_helped 193 = .ok (.istore 6, 2) := by decide +kernel
theorem dX12_helped_195 : decode cX12_helped 195 = .ok (.iinc 7 1, 3) := by decide +kernel
theorem dX12_helped_198 : decode cX12_helped 198 = .ok (.goto (-35), 3) := by decide +kernel
theorem dX12_helped_201 : decode cX12_helped 201 = .ok (.iload 6, 2) := by decide +kernel
theorem dX12_helped_203 : decode cX12_helped 203 = .ok (.iload_n 3, 1) := by decide +kernel
theorem dX12_helped_204 : decode cX12_helped 204 = .ok (.if_icmp .gt 6, 3) := by decide +kernel
theorem dX12_helped_207 : decode cX12_helped 207 = .ok (.iinc 4 1, 3) := by decide +kernel
theorem dX12_helped_210 : decode cX12_helped 210 = .ok (.iinc 5 1, 3) := by decide +kernel
theorem dX12_helped_213 : decode cX12_helped 213 = .ok (.goto (-86), 3) := by decide +kernel
theorem dX12_helped_216 : decode cX12_helped 216 = .ok (.iload 4, 2) := by decide +kernel
theorem dX12_helped_218 : decode cX12_helped 218 = .ok (.ireturn, 1) := by decide +kernel
theorem dX12_lots_0 : decode cX12_lots 0 = .ok (.aload_n 0, 1) := by decide +kernel
theorem dX12_lots_1 : decode cX12_lots 1 = .ok (.iconst 0, 1) := by decide +kernel
theorem dX12_lots_2 : decode cX12_lots 2 = .ok (.putfield 73, 3) := by decide +kernel
theorem dX12_lots_5 : decode cX12_lots 5 = .ok (.aload_n 0, 1) := by decide +kernel
theorem dX12_lots_6 : decode cX12_lots 6 = .ok (.getfield 54, 3) := by decide +kernel
theorem dX12_lots_9 : decode cX12_lots 9 = .ok (.ireturn, 1) := by decide +kernel
theorem dX12_alike_0 : decode cX12_alike 0 = .ok (.aload_n 0, 1) := by decide +kernel
theorem dX12_alike_1 : decode cX12_alike 1 = .ok (.iconst 0, 1) := by decide +kernel
theorem dX12_alike_2 : decode cX12_alike 2 = .ok (.putfield 73, 3) := by decide +kernel
theorem dX12_alike_5 : decode cX12_alike 5 = .ok (.aload_n 0, 1) := by decide +kernel
theorem dX12_alike_6 : decode cX12_alike 6 = .ok (.iload_n 1, 1) := by decide +kernel
theorem dX12_alike_7 : decode cX12_alike 7 = .ok (.invokevirtual 230, 3) := by decide +kernel
theorem dX12_alike_10 : decode cX12_alike 10 = .ok (.ifCond .ne 5, 3) := by decide +kernel
theorem dX12_alike_13 : decode cX12_alike 13 = .ok (.iconst (-1), 1) := by decide +kernel
theorem dX12_alike_14 : decode cX12_alike 14 = .ok (.ireturn, 1) := by decide +kernel
theorem dX12_alike_15 : decode cX12_alike 15 = .ok (.iconst 0, 1) := by decide +kernel
theorem dX12_alike_16 : decode cX12_alike 16 = .ok (.istore_n 2, 1) := by decide +kernel
theorem dX12_alike_17 : decode cX12_alike 17 = .ok (.iconst 0, 1) := by decide +kernel
theorem dX12_alike_18 : decode cX12_alike 18 = .ok (.istore_n 3, 1) := by decide +kernel
theorem dX12_alike_19 : decode cX12_alike 19 = .ok (.iload_n 3, 1) := by decide +kernel
theorem dX12_alike_20 : decode cX12_alike 20 = .ok (.aload_n 0, 1) := by decide +kernel
theorem dX12_alike_21 : decode cX12_alike 21 = .ok (.getfield 13, 3) := by decide +kernel
theorem dX12_alike_24 : decode cX12_alike 24 = .ok (.iconst 1, 1) := by decide +kernel
theorem dX12_alike_25 : decode cX12_alike 25 = .ok (.iaload, 1) := by decide +kernel
theorem dX12_alike_26 : decode cX12_alike 26 = .ok (.if_icmp .ge 29, 3) := by decide +kernel
theorem dX12_alike_29 : decode cX12_alike 29 = .ok (.iload_n 3, 1) := by decide +kernel
theorem dX12_alike_30 : decode cX12_alike 30 = .ok (.iload_n 1, 1) := by decide +kernel
theorem dX12_alike_31 : decode cX12_alike 31 = .ok (.if_icmp .eq 18, 3) := by decide +kernel
theorem dX12_alike_34 : decode cX12_alike 34 = .ok (.aload_n 0, 1) := by decide +kernel
theorem dX12_alike_35 : decode cX12_alike 35 = .ok (.iload_n 1, 1) := by decide +kernel
theorem dX12_alike_36 : decode cX12_alike 36 = .ok (.iload_n 3, 1) := by decide +kernel
theorem dX12_alike_37 : decode cX12_alike 37 = .ok (.invokevirtual 320, 3) := by decide +kernel
theorem dX12_alike_40 : decode cX12_alike 40 = .ok (.ifCond .eq 9, 3) := by decide +kernel
theorem dX12_alike_43 : decode cX12_alike 43 = .ok (.iload_n 2, 1) := by decide +kernel
theorem dX12_alike_44 : decode cX12_alike 44 = .ok (.iconst 1, 1) := by decide +kernel
theorem dX12_alike_45 : decode cX12_alike 45 = .ok (.iload_n 3, 1) := by decide +kernel
theorem dX12_alike_46 : decode cX12_alike 46 = .ok (.ishl, 1) := by decide +kernel
theorem dX12_alike_47 : decode cX12_alike 47 = .ok (.ior, 1) := by decide +kernel
theorem dX12_alike_48 : decode cX12_alike 48 = .ok (.istore_n 2, 1) := by decide +kernel
theorem dX12_alike_49 : decode cX12_alike 49 = .ok (.iinc 3 1, 3) := by decide +kernel
theorem dX12_alike_52 : decode cX12_alike 52 = .ok (.goto (-33), 3) := by decide +kernel
theorem dX12_alike_55 : decode cX12_alike 55 = .ok (.iload_n 2, 1) := by decide +kernel
theorem dX12_alike_56 : decode cX12_alike 56 = .ok (.ireturn, 1) := by decide +kernel
theorem dX12_kinds_0 : decode cX12_kinds 0 = .ok (.aload_n 0, 1) := by decide +kernel
theorem dX12_kinds_1 : decode cX12_kinds 1 = .ok (.iconst 0, 1) := by decide +kernel
theorem dX12_kinds_2 : decode cX12_kinds 2 = .ok (.putfield 73, 3) := by decide +kernel
theorem dX12_kinds_5 : decode cX12_kinds 5 = .ok (.iconst 0, 1) := by decide +kernel
theorem dX12_kinds_6 : decode cX12_kinds 6 = .ok (.istore_n 1, 1) := by decide +kernel
theorem dX12_kinds_7 : decode cX12_kinds 7 = .ok (.iconst 0, 1) := by decide +kernel
theorem dX12_kinds_8 : decode cX12_kinds 8 = .ok (.istore_n 2, 1) := by decide +kernel
theorem dX12_kinds_9 : decode cX12_kinds 9 = .ok (.iload_n 2, 1) := by decide +kernel
theorem dX12_kinds_10 : decode cX12_kinds 10 = .ok (.aload_n 0, 1) := by decide +kernel
theorem dX12_kinds_11 : decode cX12_kinds 11 = .ok (.getfield 13, 3) := by decide +kernel
theorem dX12_kinds_14 : decode cX12_kinds 14 = .ok (.iconst 1, 1) := by decide +kernel
theorem dX12_kinds_15 : decode cX12_kinds 15 = .ok (.iaload, 1) := by decide +kernel
theorem dX12_kinds_16 : decode cX12_kinds 16 = .ok (.if_icmp .ge 34, 3) := by decide +kernel
theorem dX12_kinds_19 : decode cX12_kinds 19 = .ok (.iconst 0, 1) := by decide +kernel
theorem dX12_kinds_20 : decode cX12_kinds 20 = .ok (.istore_n 3, 1) := by decide +kernel
theorem dX12_kinds_21 : decode cX12_kinds 21 = .ok (.aload_n 0, 1) := by decide +kernel
theorem dX12_kinds_22 : decode cX12_kinds 22 = .ok (.iload_n 2, 1) := by decide +kernel
theorem dX12_kinds_23 : decode cX12_kinds 23 = .ok (.iload_n 3, 1) := by decide +kernel
theorem dX12_kinds_24 : decode cX12_kinds 24 = .ok (.invokevirtual 320, 3) := by decide +kernel
theorem dX12_kinds_27 : decode cX12_kinds 27 = .ok (.ifCond .ne 9, 3) := by decide +kernel
theorem dX12_kinds_30 : decode cX12_kinds 30 = .ok (.iinc 3 1, 3) := by decide +kernel
theorem dX12_kinds_33 : decode cX12_kinds 33 = .ok (.goto (-12), 3) := by decide +kernel
theorem dX12_kinds_36 : decode cX12_kinds 36 = .ok (.iload_n 3, 1) := by decide +kernel
theorem dX12_kinds_37 : decode cX12_kinds 37 = .ok (.iload_n 2, 1) := by decide +kernel
theorem dX12_kinds_38 : decode cX12_kinds 38 = .ok (.if_icmp .ne 6, 3) := by decide +kernel
theorem dX12_kinds_41 : decode cX12_kinds 41 = .ok (.iinc 1 1, 3) := by decide +kernel
theorem dX12_kinds_44 : decode cX12_kinds 44 = .ok (.iinc 2 1, 3) := by decide +kernel
theorem dX12_kinds_47 : decode cX12_kinds 47 = .ok (.goto (-38), 3) := by decide +kernel
theorem dX12_kinds_50 : decode cX12_kinds 50 = .ok (.iload_n 1, 1) := by decide +kernel
theorem dX12_kinds_51 : decode cX12_kinds 51 = .ok (.ireturn, 1) := by decide +kernel
theorem dX12_look_0 : decode cX12_look 0 = .ok (.aload_n 0, 1) := by decide +kernel
theorem dX12_look_1 : decode cX12_look 1 = .ok (.iconst 0, 1) := by decide +kernel
theorem dX12_look_2 : decode cX12_look 2 = .ok (.putfield 73, 3) := by decide +kernel
theorem dX12_look_5 : decode cX12_look 5 = .ok (.iload_n 1, 1) := by decide +kernel
theorem dX12_look_6 : decode cX12_look 6 = .ok (.iconst 1, 1) := by decide +kernel
theorem dX12_look_7 : decode cX12_look 7 = .ok (.if_icmp .lt 15, 3) := by decide +kernel
theorem dX12_look_10 : decode cX12_look 10 = .ok (.iload_n 1, 1) := by decide +kernel
theorem dX12_look_11 : decode cX12_look 11 = .ok (.iconst 1, 1) := by decide +kernel
theorem dX12_look_12 : decode cX12_look 12 = .ok (.aload_n 0, 1) := by decide +kernel
theorem dX12_look_13 : decode cX12_look 13 = .ok (.getfield 13, 3) := by decide +kernel
theorem dX12_look_16 : decode cX12_look 16 = .ok (.iconst 1, 1) := by decide +kernel
theorem dX12_look_17 : decode cX12_look 17 = .ok (.iaload, 1) := by decide +kernel
theorem dX12_look_18 : decode cX12_look 18 = .ok (.ishl, 1) := by decide +kernel
theorem dX12_look_19 : decode cX12_look 19 = .ok (.if_icmp .lt 5, 3) := by decide +kernel
theorem dX12_look_22 : decode cX12_look 22 = .ok (.iconst (-1), 1) := by decide +kernel
theorem dX12_look_23 : decode cX12_look 23 = .ok (.ireturn, 1) := by decide +kernel
theorem dX12_look_24 : decode cX12_look 24 = .ok (.iconst (-1), 1) := by decide +kernel
theorem dX12_look_25 : decode cX12_look 25 = .ok (.istore_n 2, 1) := by decide +kernel
theorem dX12_look_26 : decode cX12_look 26 = .ok (.iconst 0, 1) := by decide +kernel
theorem dX12_look_27 : decode cX12_look 27 = .ok (.istore_n 3, 1) := by decide +kernel
theorem dX12_look_28 : decode cX12_look 28 = .ok (.iload_n 3, 1) := by decide +kernel
theorem dX12_look_29 : decode cX12_look 29 = .ok (.aload_n 0, 1) := by decide +kernel
theorem dX12_look_30 : decode cX12_look 30 = .ok (.getfield 13, 3) := by decide +kernel
theorem dX12_look_33 : decode cX12_look 33 = .ok (.iconst 0, 1) := by decide +kernel
theorem dX12_look_34 : decode cX12_look 34 = .ok (.iaload, 1) := by decide +kernel
theorem dX12_look_35 : decode cX12_look 35 = .ok (.if_icmp .ge 31, 3) := by decide +kernel
theorem dX12_look_38 : decode cX12_look 38 = .ok (.iload_n 2, 1) := by decide +kernel
theorem dX12_look_39 : decode cX12_look 39 = .ok (.iconst (-1), 1) := by decide +kernel
theorem dX12_look_40 : decode cX12_look 40 = .ok (.if_icmp .eq 18, 3) := by decide +kernel
theorem dX12_look_43 : decode cX12_look 43 = .ok (.aload_n 0, 1) := by decide +kernel
theorem dX12_look_44 : decode cX12_look 44 = .ok (.iload_n 3, 1) := by decide +kernel
theorem dX12_look_45 : decode cX12_look 45 = .ok (.iload_n 1, 1) := by decide +kernel
theorem dX12_look_46 : decode cX12_look 46 = .ok (.invokevirtual 323, 3) := by decide +kernel
theorem dX12_look_49 : decode cX12_look 49 = .ok (.aload_n 0, 1) := by decide +kernel
theorem dX12_look_50 : decode cX12_look 50 = .ok (.iload_n 2, 1) := by decide +kernel
theorem dX12_look_51 : decode cX12_look 51 = .ok (.iload_n 1, 1) := by decide +kernel
theorem dX12_look_52 : decode cX12_look 52 = .ok (.invokevirtual 323, 3) := by decide +kernel
theorem dX12_look_55 : decode cX12_look 55 = .ok (.if_icmp .ge 5, 3) := by decide +kernel
theorem dX12_look_58 : decode cX12_look 58 = .ok (.iload_n 3, 1) := by decide +kernel
theorem dX12_look_59 : decode cX12_look 59 = .ok (.istore_n 2, 1) := by decide +kernel
theorem dX12_look_60 : decode cX12_look 60 = .ok (.iinc 3 1, 3) := by decide +kernel
theorem dX12_look_63 : decode cX12_look 63 = .ok (.goto (-35), 3) := by decide +kernel
theorem dX12_look_66 : decode cX12_look 66 = .ok (.aload_n 0, 1) := by decide +kernel
theorem dX12_look_67 : decode cX12_look 67 = .ok (.aload_n 0, 1) := by decide +kernel
theorem dX12_look_68 : decode cX12_look 68 = .ok (.iload_n 2, 1) := by decide +kernel
theorem dX12_look_69 : decode cX12_look 69 = .ok (.iload_n 1, 1) := by decide +kernel
theorem dX12_look_70 : decode cX12_look 70 = .ok (.invokevirtual 323, 3) := by decide +kernel
theorem dX12_look_73 : decode cX12_look 73 = .ok (.putfield 58, 3) := by decide +kernel
theorem dX12_look_76 : decode cX12_look 76 = .ok (.iload_n 2, 1) := by decide +kernel
theorem dX12_look_77 : decode cX12_look 77 = .ok (.ireturn, 1) := by decide +kernel
theorem dX12_left_0 : decode cX12_left 0 = .ok (.aload_n 0, 1) := by decide +kernel
theorem dX12_left_1 : decode cX12_left 1 = .ok (.iconst 0, 1) := by decide +kernel
theorem dX12_left_2 : decode cX12_left 2 = .ok (.putfield 73, 3) := by decide +kernel
theorem dX12_left_5 : decode cX12_left 5 = .ok (.aload_n 0, 1) := by decide +kernel
theorem dX12_left_6 : decode cX12_left 6 = .ok (.getfield 58, 3) := by decide +kernel
theorem dX12_left_9 : decode cX12_left 9 = .ok (.ireturn, 1) := by decide +kernel
theorem dX12_layAside_0 : decode cX12_layAside 0 = .ok (.iconst 0, 1) := by decide +kernel
theorem dX12_layAside_1 : decode cX12_layAside 1 = .ok (.istore_n 1, 1) := by decide +kernel
theorem dX12_layAside_2 : decode cX12_layAside 2 = .ok (.iload_n 1, 1) := by decide +kernel
theorem dX12_layAside_3 : decode cX12_layAside 3 = .ok (.bipush 60, 2) := by decide +kernel
theorem dX12_layAside_5 : decode cX12_layAside 5 = .ok (.if_icmp .ge 24, 3) := by decide +kernel
theorem dX12_layAside_8 : decode cX12_layAside 8 = .ok (.aload_n 0, 1) := by decide +kernel
theorem dX12_layAside_9 : decode cX12_layAside 9 = .ok (.getfield 25, 3) := by decide +kernel
theorem dX12_layAside_12 : decode cX12_layAside 12 = .ok (.iload_n 1, 1) := by decide +kernel
theorem dX12_layAside_13 : decode cX12_layAside 13 = .ok (.aload_n 0, 1) := by decide +kernel
theorem dX12_layAside_14 : decode cX12_layAside 14 = .ok (.getfield 13, 3) := by decide +kernel
theorem dX12_layAside_17 : decode cX12_layAside 17 = .ok (.bipush 77, 2) := by decide +kernel
theorem dX12_layAside_19 : decode cX12_layAside 19 = .ok (.iload_n 1, 1) := by decide +kernel
theorem dX12_layAside_20 : decode cX12_layAside 20 = .ok (.iadd, 1) := by decide +kernel
theorem dX12_layAside_21 : decode cX12_layAside 21 = .ok (.iaload, 1) := by decide +kernel
theorem dX12_layAside_22 : decode cX12_layAside 22 = .ok (.iastore, 1) := by decide +kernel
theorem dX12_layAside_23 : decode cX12_layAside 23 = .ok (.iinc 1 1, 3) := by decide +kernel
theorem dX12_layAside_26 : decode cX12_layAside 26 = .ok (.goto (-24), 3) := by decide +kernel
theorem dX12_layAside_29 : decode cX12_layAside 29 = .ok (.return_, 1) := by decide +kernel
theorem dX12_fits_0 : decode cX12_fits 0 = .ok (.aload_n 0, 1) := by decide +kernel
theorem dX12_fits_1 : decode cX12_fits 1 = .ok (.iconst 0, 1) := by decide +kernel
theorem dX12_fits_2 : decode cX12_fits 2 = .ok (.putfield 73, 3) := by decide +kernel
theorem dX12_fits_5 : decode cX12_fits 5 = .ok (.aload_n 0, 1) := by decide +kernel
theorem dX12_fits_6 : decode cX12_fits 6 = .ok (.invokevirtual 153, 3) := by decide +kernel
theorem dX12_fits_9 : decode cX12_fits 9 = .ok (.istore_n 2, 1) := by decide +kernel
theorem dX12_fits_10 : decode cX12_fits 10 = .ok (.aload_n 0, 1) := by decide +kernel
theorem dX12_fits_11 : decode cX12_fits 11 = .ok (.iload_n 1, 1) := by decide +kernel
theorem dX12_fits_12 : decode cX12_fits 12 = .ok (.invokevirtual 221, 3) := by decide +kernel
theorem dX12_fits_15 : decode cX12_fits 15 = .ok (.ifCond .eq 13, 3) := by decide +kernel
theorem dX12_fits_18 : decode cX12_fits 18 = .ok (.iload_n 2, 1) := by decide +kernel
theorem dX12_fits_19 : decode cX12_fits 19 = .ok (.iconst 1, 1) := by decide +kernel
theorem dX12_fits_20 : decode cX12_fits 20 = .ok (.bipush 60, 2) := by decide +kernel
theorem dX12_fits_22 : decode cX12_fits 22 = .ok (.invokestatic 140, 3) := by decide +kernel
theorem dX12_fits_25 : decode cX12_fits 25 = .ok (.ifCond .ne 5, 3) := by decide +kernel
theorem dX12_fits_28 : decode cX12_fits 28 = .ok (.iconst (-1), 1) := by decide +kernel
theorem dX12_fits_29 : decode cX12_fits 29 = .ok (.ireturn, 1) := by decide +kernel
theorem dX12_fits_30 : decode cX12_fits 30 = .ok (.aload_n 0, 1) := by decide +kernel
theorem dX12_fits_31 : decode cX12_fits 31 = .ok (.invokevirtual 329, 3) := by decide +kernel
theorem dX12_fits_34 : decode cX12_fits 34 = .ok (.aload_n 0, 1) := by decide +kernel
theorem dX12_fits_35 : decode cX12_fits 35 = .ok (.iload_n 1, 1) := by decide +kernel
theorem dX12_fits_36 : decode cX12_fits 36 = .ok (.iload_n 2, 1) := by decide +kernel
theorem dX12_fits_37 : decode cX12_fits 37 = .ok (.iconst (-1), 1) := by decide +kernel
theorem dX12_fits_38 : decode cX12_fits 38 = .ok (.invokevirtual 332, 3) := by decide +kernel
theorem dX12_fits_41 : decode cX12_fits 41 = .ok (.ifCond .eq 9, 3) := by decide +kernel
theorem dX12_fits_44 : decode cX12_fits 44 = .ok (.sipush 256, 3) := by decide +kernel
theorem dX12_fits_47 : decode cX12_fits 47 = .ok (.goto 4, 3) := by decide +kernel
theorem dX12_fits_50 : decode cX12_fits 50 = .ok (.iconst 0, 1) := by decide +kernel
theorem dX12_fits_51 : decode cX12_fits 51 = .ok (.istore_n 3, 1) := by decide +kernel
theorem dX12_fits_52 : decode cX12_fits 52 = .ok (.iconst 0, 1) := by decide +kernel
theorem dX12_fits_53 : decode cX12_fits 53 = .ok (.istore 4, 2) := by decide +kernel
theorem dX12_fits_55 : decode cX12_fits 55 = .ok (.iload 4, 2) := by decide +kernel
theorem dX12_fits_57 : decode cX12_fits 57 = .ok (.aload_n 0, 1) := by decide +kernel
theorem dX12_fits_58 : decode cX12_fits 58 = .ok (.getfield 13, 3) := by decide +kernel
theorem dX12_fits_61 : decode cX12_fits 61 = .ok (.iconst 1, 1) := by decide +kernel
theorem dX12_fits_62 : decode cX12_fits 62 = .ok (.iaload, 1) := by decide +kernel
theorem dX12_fits_63 : decode cX12_fits 63 = .ok (.if_icmp .ge 41, 3) := by decide +kernel
theorem dX12_fits_66 : decode cX12_fits 66 = .ok (.aload_n 0, 1) := by decide +kernel
theorem dX12_fits_67 : decode cX12_fits 67 = .ok (.getfield 13, 3) := by decide +kernel
theorem dX12_fits_70 : decode cX12_fits 70 = .ok (.bipush 21, 2) := by decide +kernel
theorem dX12_fits_72 : decode cX12_fits 72 = .ok (.iload 4, 2) := by decide +kernel
theorem dX12_fits_74 : decode cX12_fits 74 = .ok (.iadd, 1) := by decide +kernel
theorem dX12_fits_75 : decode cX12_fits 75 = .ok (.iaload, 1) := by decide +kernel
theorem dX12_fits_76 : decode cX12_fits 76 = .ok (.iload_n 1, 1) := by decide +kernel
theorem dX12_fits_77 : decode cX12_fits 77 = .ok (.if_icmp .ne 21, 3) := by decide +kernel
theorem dX12_fits_80 : decode cX12_fits 80 = .ok (.aload_n 0, 1) := by decide +kernel
theorem dX12_fits_81 : decode cX12_fits 81 = .ok (.iload_n 1, 1) := by decide +kernel
theorem dX12_fits_82 : decode cX12_fits 82 = .ok (.iload_n 2, 1) := by decide +kernel
theorem dX12_fits_83 : decode cX12_fits 83 = .ok (.iload 4, 2) := by decide +kernel
theorem dX12_fits_85 : decode cX12_fits 85 = .ok (.invokevirtual 332, 3) := by decide +kernel
theorem dX12_fits_88 : decode cX12_fits 88 = .ok (.ifCond .eq 10, 3) := by decide +kernel
theorem dX12_fits_91 : decode cX12_fits 91 = .ok (.iload_n 3, 1) := by decide +kernel
theorem dX12_fits_92 : decode cX12_fits 92 = .ok (.iconst 1, 1) := by decide +kernel
theorem dX12_fits_93 : decode cX12_fits 93 = .ok (.iload 4, 2) := by decide +kernel
theorem dX12_fits_95 : decode cX12_fits 95 = .ok (.ishl, 1) := by decide +kernel
theorem dX12_fits_96 : decode cX12_fits 96 = .ok (.ior, 1) := by decide +kernel
theorem dX12_fits_97 : decode cX12_fits 97 = .ok (.istore_n 3, 1) := by decide +kernel
theorem dX12_fits_98 : decode cX12_fits 98 = .ok (.iinc 4 1, 3) := by decide +kernel
theorem dX12_fits_101 : decode cX12_fits 101 = .ok (.goto (-46), 3) := by decide +kernel
theorem dX12_fits_104 : decode cX12_fits 104 = .ok (.iload_n 3, 1) := by decide +kernel
theorem dX12_fits_105 : decode cX12_fits 105 = .ok (.ireturn, 1) := by decide +kernel
theorem dX12_heals_0 : decode cX12_heals 0 = .ok (.aload_n 0, 1) := by decide +kernel
theorem dX12_heals_1 : decode cX12_heals 1 = .ok (.iconst 0, 1) := by decide +kernel
theorem dX12_heals_2 : decode cX12_heals 2 = .ok (.putfield 73, 3) := by decide +kernel
theorem dX12_heals_5 : decode cX12_heals 5 = .ok (.aload_n 0, 1) := by decide +kernel
theorem dX12_heals_6 : decode cX12_heals 6 = .ok (.iload_n 1, 1) := by decide +kernel
theorem dX12_heals_7 : decode cX12_heals 7 = .ok (.invokevirtual 230, 3) := by decide +kernel
theorem dX12_heals_10 : decode cX12_heals 10 = .ok (.ifCond .eq 45, 3) := by decide +kernel
theorem dX12_heals_13 : decode cX12_heals 13 = .ok (.aload_n 0, 1) := by decide +kernel
theorem dX12_heals_14 : decode cX12_heals 14 = .ok (.iload_n 1, 1) := by decide +kernel
theorem dX12_heals_15 : decode cX12_heals 15 = .ok (.invokevirtual 209, 3) := by decide +kernel
theorem dX12_heals_18 : decode cX12_heals 18 = .ok (.ifCond .eq 37, 3) := by decide +kernel
theorem dX12_heals_21 : decode cX12_heals 21 = .ok (.aload_n 0, 1) := by decide +kernel
theorem dX12_heals_22 : decode cX12_heals 22 = .ok (.getfield 13, 3) := by decide +kernel
theorem dX12_heals_25 : decode cX12_heals 25 = .ok (.bipush 29, 2) := by decide +kernel
theorem dX12_heals_27 : decode cX12_heals 27 = .ok (.iload_n 1, 1) := by decide +kernel
theorem dX12_heals_28 : decode cX12_heals 28 = .ok (.iadd, 1) := by decide +kernel
theorem dX12_heals_29 : decode cX12_heals 29 = .ok (.iaload, 1) := by decide +kernel
theorem dX12_heals_30 : decode cX12_heals 30 = .ok (.ifCond .le 25, 3) := by decide +kernel
theorem dX12_heals_33 : decode cX12_heals 33 = .ok (.aload_n 0, 1) := by decide +kernel
theorem dX12_heals_34 : decode cX12_heals 34 = .ok (.getfield 13, 3) := by decide +kernel
theorem dX12_heals_37 : decode cX12_heals 37 = .ok (.bipush 29, 2) := by decide +kernel
theorem dX12_heals_39 : decode cX12_heals 39 = .ok (.iload_n 1, 1) := by decide +kernel
theorem dX12_heals_40 : decode cX12_heals 40 = .ok (.iadd, 1) := by decide +kernel
theorem dX12_heals_41 : decode cX12_heals 41 = .ok (.iaload, 1) := by decide +kernel
theorem dX12_heals_42 : decode cX12_heals 42 = .ok (.aload_n 0, 1) := by decide +kernel
theorem dX12_heals_43 : decode cX12_heals 43 = .ok (.getfield 13, 3) := by decide +kernel
theorem dX12_heals_46 : decode cX12_heals 46 = .ok (.bipush 113, 2) := by decide +kernel
theorem dX12_heals_48 : decode cX12_heals 48 = .ok (.iload_n 1, 1) := by decide +kernel
theorem dX12_heals_49 : decode cX12_heals 49 = .ok (.iadd, 1) := by decide +kernel
theorem dX12_heals_50 : decode cX12_heals 50 = .ok (.iaload, 1) := by decide +kernel
theorem dX12_heals_51 : decode cX12_heals 51 = .ok (.isub, 1) := by decide +kernel
theorem dX12_heals_52 : decode cX12_heals 52 = .ok (.goto 4, 3) := by decide +kernel
theorem dX12_heals_55 : decode cX12_heals 55 = .ok (.iconst (-1), 1) := by decide +kernel
theorem dX12_heals_56 : decode cX12_heals 56 = .ok (.ireturn, 1) := by decide +kernel
theorem dX12_worksIn_0 : decode cX12_worksIn 0 = .ok (.aload_n 0, 1) := by decide +kernel
theorem dX12_worksIn_1 : decode cX12_worksIn 1 = .ok (.iconst 0, 1) := by decide +kernel
theorem dX12_worksIn_2 : decode cX12_worksIn 2 = .ok (.putfield 73, 3) := by decide +kernel
theorem dX12_worksIn_5 : decode cX12_worksIn 5 = .ok (.aload_n 0, 1) := by decide +kernel
theorem dX12_worksIn_6 : decode cX12_worksIn 6 = .ok (.iload_n 1, 1) := by decide +kernel
theorem dX12_worksIn_7 : decode cX12_worksIn 7 = .ok (.invokevirtual 221, 3) := by decide +kernel
theorem dX12_worksIn_10 : decode cX12_worksIn 10 = .ok (.ifCond .ne 5, 3) := by decide +kernel
theorem dX12_worksIn_13 : decode cX12_worksIn 13 = .ok (.iconst (-1), 1) := by decide +kernel
theorem dX12_worksIn_14 : decode cX12_worksIn 14 = .ok (.ireturn, 1) := by decide +kernel
theorem dX12_worksIn_15 : decode cX12_worksIn 15 = .ok (.aload_n 0, 1) := by decide +kernel
theorem dX12_worksIn_16 : decode cX12_worksIn 16 = .ok (.invokevirtual 329, 3) := by decide +kernel
theorem dX12_worksIn_19 : decode cX12_worksIn 19 = .ok (.iconst (-1), 1) := by decide +kernel
theorem dX12_worksIn_20 : decode cX12_worksIn 20 = .ok (.istore_n 2, 1) := by decide +kernel
theorem dX12_worksIn_21 : decode cX12_worksIn 21 = .ok (.iconst 0, 1) := by decide +kernel
theorem dX12_worksIn_22 : decode cX12_worksIn 22 = .ok (.istore_n 3, 1) := by decide +kernel
theorem dX12_worksIn_23 : decode cX12_worksIn 23 = .ok (.iload_n 3, 1) := by decide +kernel
theorem dX12_worksIn_24 : decode cX12_worksIn 24 = .ok (.sipush 240, 3) := by decide +kernel
theorem dX12_worksIn_27 : decode cX12_worksIn 27 = .ok (.sipush 1000, 3) := by decide +kernel
theorem dX12_worksIn_30 : decode cX12_worksIn 30 = .ok (.aload_n 0, 1) := by decide +kernel
theorem dX12_worksIn_31 : decode cX12_worksIn 31 = .ok (.getfield 25, 3) := by decide +kernel
theorem dX12_worksIn_34 : decode cX12_worksIn 34 = .ok (.iconst 0, 1) := by decide +kernel
theorem dX12_worksIn_35 : decode cX12_worksIn 35 = .ok (.iaload, 1) := by decide +kernel
theorem dX12_worksIn_36 : decode cX12_worksIn 36 = .ok (.isub, 1) := by decide +kernel
theorem dX12_worksIn_37 : decode cX12_worksIn 37 = .ok (.invokestatic 273, 3) := by decide +kernel
theorem dX12_worksIn_40 : decode cX12_worksIn 40 = .ok (.if_icmp .gt 44, 3) := by decide +kernel
theorem dX12_worksIn_43 : decode cX12_worksIn 43 = .ok (.iload_n 2, 1) := by decide +kernel
theorem dX12_worksIn_44 : decode cX12_worksIn 44 = .ok (.iconst (-1), 1) := by decide +kernel
theorem dX12_worksIn_45 : decode cX12_worksIn 45 = .ok (.if_icmp .ne 39, 3) := by decide +kernel
theorem dX12_worksIn_48 : decode cX12_worksIn 48 = .ok (.aload_n 0, 1) := by decide +kernel
theorem dX12_worksIn_49 : decode cX12_worksIn 49 = .ok (.iload_n 1, 1) := by decide +kernel
theorem dX12_worksIn_50 : decode cX12_worksIn 50 = .ok (.invokevirtual 218, 3) := by decide +kernel
theorem dX12_worksIn_53 : decode cX12_worksIn 53 = .ok (.ifCond .eq 8, 3) := by decide +kernel
theorem dX12_worksIn_56 : decode cX12_worksIn 56 = .ok (.iload_n 3, 1) := by decide +kernel
theorem dX12_worksIn_57 : decode cX12_worksIn 57 = .ok (.istore_n 2, 1) := by decide +kernel
theorem dX12_worksIn_58 : decode cX12_worksIn 58 = .ok (.goto 20, 3) := by decide +kernel
theorem dX12_worksIn_61 : decode cX12_worksIn 61 = .ok (.aload_n 0, 1) := by decide +kernel
theorem dX12_worksIn_62 : decode cX12_worksIn 62 = .ok (.getfield 13, 3) := by decide +kernel
theorem dX12_worksIn_65 : decode cX12_worksIn 65 = .ok (.bipush 77, 2) := by decide +kernel
theorem dX12_worksIn_67 : decode cX12_worksIn 67 = .ok (.iaload, 1) := by decide +kernel
theorem dX12_worksIn_68 : decode cX12_worksIn 68 = .ok (.sipush 1000, 3) := by decide +kernel
theorem dX12_worksIn_71 : decode cX12_worksIn 71 = .ok (.if_icmp .ge 7, 3) := by decide +kernel
theorem dX12_worksIn_74 : decode cX12_worksIn 74 = .ok (.aload_n 0, 1) := by decide +kernel
theorem dX12_worksIn_75 : decode cX12_worksIn 75 = .ok (.invokevirtual 276, 3) := by decide +kernel
theorem dX12_worksIn_78 : decode cX12_worksIn 78 = .ok (.iinc 3 1, 3) := by decide +kernel
theorem dX12_worksIn_81 : decode cX12_worksIn 81 = .ok (.goto (-58), 3) := by decide +kernel
theorem dX12_worksIn_84 : decode cX12_worksIn 84 = .ok (.aload_n 0, 1) := by decide +kernel
theorem dX12_worksIn_85 : decode cX12_worksIn 85 = .ok (.invokevirtual 326, 3) := by decide +kernel
theorem dX12_worksIn_88 : decode cX12_worksIn 88 = .ok (.iload_n 2, 1) := by decide +kernel
theorem dX12_worksIn_89 : decode cX12_worksIn 89 = .ok (.ireturn, 1) := by decide +kernel
theorem dX12_tell_0 : decode cX12_tell 0 = .ok (.aload_n 0, 1) := by decide +kernel
theorem dX12_tell_1 : decode cX12_tell 1 = .ok (.iconst 0, 1) := by decide +kernel
theorem dX12_tell_2 : decode cX12_tell 2 = .ok (.putfield 73, 3) := by decide +kernel
theorem dX12_tell_5 : decode cX12_tell 5 = .ok (.aload_n 0, 1) := by decide +kernel
theorem dX12_tell_6 : decode cX12_tell 6 = .ok (.iload_n 1, 1) := by decide +kernel
theorem dX12_tell_7 : decode cX12_tell 7 = .ok (.invokevirtual 221, 3) := by decide +kernel
theorem dX12_tell_10 : decode cX12_tell 10 = .ok (.ifCond .ne 5, 3) := by decide +kernel
theorem dX12_tell_13 : decode cX12_tell 13 = .ok (.iconst (-1), 1) := by decide +kernel
theorem dX12_tell_14 : decode cX12_tell 14 = .ok (.ireturn, 1) := by decide +kernel
theorem dX12_tell_15 : decode cX12_tell 15 = .ok (.aload_n 0, 1) := by decide +kernel
theorem dX12_tell_16 : decode cX12_tell 16 = .ok (.iconst 0, 1) := by decide +kernel
theorem dX12_tell_17 : decode cX12_tell 17 = .ok (.putfield 335, 3) := by decide +kernel
theorem dX12_tell_20 : decode cX12_tell 20 = .ok (.aload_n 0, 1) := by decide +kernel
theorem dX12_tell_21 : decode cX12_tell 21 = .ok (.aload_n 0, 1) := by decide +kernel
theorem dX12_tell_22 : decode cX12_tell 22 = .ok (.getfield 28, 3) := by decide +kernel
theorem dX12_tell_25 : decode cX12_tell 25 = .ok (.iload_n 1, 1) := by decide +kernel
theorem dX12_tell_26 : decode cX12_tell 26 = .ok (.laload, 1) := by decide +kernel
theorem dX12_tell_27 : decode cX12_tell 27 = .ok (.invokevirtual 338, 3) := by decide +kernel
