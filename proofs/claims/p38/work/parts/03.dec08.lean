theorem dX9_passMinute_34 : decode cX9_passMinute 34 = .ok (.dup2, 1) := by decide +kernel
theorem dX9_passMinute_35 : decode cX9_passMinute 35 = .ok (.iaload, 1) := by decide +kernel
theorem dX9_passMinute_36 : decode cX9_passMinute 36 = .ok (.iconst 1, 1) := by decide +kernel
theorem dX9_passMinute_37 : decode cX9_passMinute 37 = .ok (.iadd, 1) := by decide +kernel
theorem dX9_passMinute_38 : decode cX9_passMinute 38 = .ok (.iastore, 1) := by decide +kernel
theorem dX9_passMinute_39 : decode cX9_passMinute 39 = .ok (.goto 38, 3) := by decide +kernel
theorem dX9_passMinute_42 : decode cX9_passMinute 42 = .ok (.aload_n 0, 1) := by decide +kernel
theorem dX9_passMinute_43 : decode cX9_passMinute 43 = .ok (.getfield 9, 3) := by decide +kernel
theorem dX9_passMinute_46 : decode cX9_passMinute 46 = .ok (.iload_n 2, 1) := by decide +kernel
theorem dX9_passMinute_47 : decode cX9_passMinute 47 = .ok (.iaload, 1) := by decide +kernel
theorem dX9_passMinute_48 : decode cX9_passMinute 48 = .ok (.iconst 1, 1) := by decide +kernel
theorem dX9_passMinute_49 : decode cX9_passMinute 49 = .ok (.if_icmp .ne 28, 3) := by decide +kernel
theorem dX9_passMinute_52 : decode cX9_passMinute 52 = .ok (.aload_n 0, 1) := by decide +kernel
theorem dX9_passMinute_53 : decode cX9_passMinute 53 = .ok (.getfield 15, 3) := by decide +kernel
theorem dX9_passMinute_56 : decode cX9_passMinute 56 = .ok (.iload_n 2, 1) := by decide +kernel
theorem dX9_passMinute_57 : decode cX9_passMinute 57 = .ok (.dup2, 1) := by decide +kernel
theorem dX9_passMinute_58 : decode cX9_passMinute 58 = .ok (.iaload, 1) := by decide +kernel
theorem dX9_passMinute_59 : decode cX9_passMinute 59 = .ok (.iconst 1, 1) := by decide +kernel
theorem dX9_passMinute_60 : decode cX9_passMinute 60 = .ok (.isub, 1) := by decide +kernel
theorem dX9_passMinute_61 : decode cX9_passMinute 61 = .ok (.iastore, 1) := by decide +kernel
theorem dX9_passMinute_62 : decode cX9_passMinute 62 = .ok (.aload_n 0, 1) := by decide +kernel
theorem dX9_passMinute_63 : decode cX9_passMinute 63 = .ok (.getfield 15, 3) := by decide +kernel
theorem dX9_passMinute_66 : decode cX9_passMinute 66 = .ok (.iload_n 2, 1) := by decide +kernel
theorem dX9_passMinute_67 : decode cX9_passMinute 67 = .ok (.iaload, 1) := by decide +kernel
theorem dX9_passMinute_68 : decode cX9_passMinute 68 = .ok (.ifCond .ne 9, 3) := by decide +kernel
theorem dX9_passMinute_71 : decode cX9_passMinute 71 = .ok (.aload_n 0, 1) := by decide +kernel
theorem dX9_passMinute_72 : decode cX9_passMinute 72 = .ok (.aload_n 1, 1) := by decide +kernel
theorem dX9_passMinute_73 : decode cX9_passMinute 73 = .ok (.iload_n 2, 1) := by decide +kernel
theorem dX9_passMinute_74 : decode cX9_passMinute 74 = .ok (.invokevirtual 120, 3) := by decide +kernel
theorem dX9_passMinute_77 : decode cX9_passMinute 77 = .ok (.iinc 2 1, 3) := by decide +kernel
theorem dX9_passMinute_80 : decode cX9_passMinute 80 = .ok (.goto (-78), 3) := by decide +kernel
theorem dX9_passMinute_83 : decode cX9_passMinute 83 = .ok (.iconst 0, 1) := by decide +kernel
theorem dX9_passMinute_84 : decode cX9_passMinute 84 = .ok (.istore_n 2, 1) := by decide +kernel
theorem dX9_passMinute_85 : decode cX9_passMinute 85 = .ok (.iload_n 2, 1) := by decide +kernel
theorem dX9_passMinute_86 : decode cX9_passMinute 86 = .ok (.aload_n 1, 1) := by decide +kernel
theorem dX9_passMinute_87 : decode cX9_passMinute 87 = .ok (.getfield 55, 3) := by decide +kernel
theorem dX9_passMinute_90 : decode cX9_passMinute 90 = .ok (.if_icmp .ge 80, 3) := by decide +kernel
theorem dX9_passMinute_93 : decode cX9_passMinute 93 = .ok (.aload_n 0, 1) := by decide +kernel
theorem dX9_passMinute_94 : decode cX9_passMinute 94 = .ok (.getfield 34, 3) := by decide +kernel
theorem dX9_passMinute_97 : decode cX9_passMinute 97 = .ok (.iload_n 2, 1) := by decide +kernel
theorem dX9_passMinute_98 : decode cX9_passMinute 98 = .ok (.ishr, 1) := by decide +kernel
theorem dX9_passMinute_99 : decode cX9_passMinute 99 = .ok (.ifCond .eq 71, 3) := by decide +kernel
theorem dX9_passMinute_102 : decode cX9_passMinute 102 = .ok (.aload_n 0, 1) := by decide +kernel
theorem dX9_passMinute_103 : decode cX9_passMinute 103 = .ok (.getfield 34, 3) := by decide +kernel
theorem dX9_passMinute_106 : decode cX9_passMinute 106 = .ok (.iload_n 2, 1) := by decide +kernel
theorem dX9_passMinute_107 : decode cX9_passMinute 107 = .ok (.invokestatic 63, 3) := by decide +kernel
theorem dX9_passMinute_110 : decode cX9_passMinute 110 = .ok (.iconst 1, 1) := by decide +kernel
theorem dX9_passMinute_111 : decode cX9_passMinute 111 = .ok (.if_icmp .ne 53, 3) := by decide +kernel
theorem dX9_passMinute_114 : decode cX9_passMinute 114 = .ok (.aload_n 0, 1) := by decide +kernel
theorem dX9_passMinute_115 : decode cX9_passMinute 115 = .ok (.getfield 21, 3) := by decide +kernel
theorem dX9_passMinute_118 : decode cX9_passMinute 118 = .ok (.iload_n 2, 1) := by decide +kernel
theorem dX9_passMinute_119 : decode cX9_passMinute 119 = .ok (.dup2, 1) := by decide +kernel
theorem dX9_passMinute_120 : decode cX9_passMinute 120 = .ok (.iaload, 1) := by decide +kernel
theorem dX9_passMinute_121 : decode cX9_passMinute 121 = .ok (.iconst 1, 1) := by decide +kernel
theorem dX9_passMinute_122 : decode cX9_passMinute 122 = .ok (.iadd, 1) := by decide +kernel
theorem dX9_passMinute_123 : decode cX9_passMinute 123 = .ok (.iastore, 1) := by decide +kernel
theorem dX9_passMinute_124 : decode cX9_passMinute 124 = .ok (.aload_n 0, 1) := by decide +kernel
theorem dX9_passMinute_125 : decode cX9_passMinute 125 = .ok (.getfield 21, 3) := by decide +kernel
theorem dX9_passMinute_128 : decode cX9_passMinute 128 = .ok (.iload_n 2, 1) := by decide +kernel
theorem dX9_passMinute_129 : decode cX9_passMinute 129 = .ok (.iaload, 1) := by decide +kernel
theorem dX9_passMinute_130 : decode cX9_passMinute 130 = .ok (.aload_n 1, 1) := by decide +kernel
theorem dX9_passMinute_131 : decode cX9_passMinute 131 = .ok (.getfield 123, 3) := by decide +kernel
theorem dX9_passMinute_134 : decode cX9_passMinute 134 = .ok (.iload_n 2, 1) := by decide +kernel
theorem dX9_passMinute_135 : decode cX9_passMinute 135 = .ok (.iaload, 1) := by decide +kernel
theorem dX9_passMinute_136 : decode cX9_passMinute 136 = .ok (.if_icmp .ne 28, 3) := by decide +kernel
theorem dX9_passMinute_139 : decode cX9_passMinute 139 = .ok (.aload_n 0, 1) := by decide +kernel
theorem dX9_passMinute_140 : decode cX9_passMinute 140 = .ok (.iload_n 2, 1) := by decide +kernel
theorem dX9_passMinute_141 : decode cX9_passMinute 141 = .ok (.invokevirtual 108, 3) := by decide +kernel
theorem dX9_passMinute_144 : decode cX9_passMinute 144 = .ok (.aload_n 0, 1) := by decide +kernel
theorem dX9_passMinute_145 : decode cX9_passMinute 145 = .ok (.getfield 27, 3) := by decide +kernel
theorem dX9_passMinute_148 : decode cX9_passMinute 148 = .ok (.iload_n 2, 1) := by decide +kernel
theorem dX9_passMinute_149 : decode cX9_passMinute 149 = .ok (.dup2, 1) := by decide +kernel
theorem dX9_passMinute_150 : decode cX9_passMinute 150 = .ok (.iaload, 1) := by decide +kernel
theorem dX9_passMinute_151 : decode cX9_passMinute 151 = .ok (.iconst 1, 1) := by decide +kernel
theorem dX9_passMinute_152 : decode cX9_passMinute 152 = .ok (.iadd, 1) := by decide +kernel
theorem dX9_passMinute_153 : decode cX9_passMinute 153 = .ok (.iastore, 1) := by decide +kernel
theorem dX9_passMinute_154 : decode cX9_passMinute 154 = .ok (.aload_n 0, 1) := by decide +kernel
theorem dX9_passMinute_155 : decode cX9_passMinute 155 = .ok (.dup, 1) := by decide +kernel
theorem dX9_passMinute_156 : decode cX9_passMinute 156 = .ok (.getfield 46, 3) := by decide +kernel
theorem dX9_passMinute_159 : decode cX9_passMinute 159 = .ok (.iconst 1, 1) := by decide +kernel
theorem dX9_passMinute_160 : decode cX9_passMinute 160 = .ok (.iadd, 1) := by decide +kernel
theorem dX9_passMinute_161 : decode cX9_passMinute 161 = .ok (.putfield 46, 3) := by decide +kernel
theorem dX9_passMinute_164 : decode cX9_passMinute 164 = .ok (.iinc 2 1, 3) := by decide +kernel
theorem dX9_passMinute_167 : decode cX9_passMinute 167 = .ok (.goto (-82), 3) := by decide +kernel
theorem dX9_passMinute_170 : decode cX9_passMinute 170 = .ok (.aload_n 0, 1) := by decide +kernel
theorem dX9_passMinute_171 : decode cX9_passMinute 171 = .ok (.dup, 1) := by decide +kernel
theorem dX9_passMinute_172 : decode cX9_passMinute 172 = .ok (.getfield 37, 3) := by decide +kernel
theorem dX9_passMinute_175 : decode cX9_passMinute 175 = .ok (.iconst 1, 1) := by decide +kernel
theorem dX9_passMinute_176 : decode cX9_passMinute 176 = .ok (.iadd, 1) := by decide +kernel
theorem dX9_passMinute_177 : decode cX9_passMinute 177 = .ok (.putfield 37, 3) := by decide +kernel
theorem dX9_passMinute_180 : decode cX9_passMinute 180 = .ok (.return_, 1) := by decide +kernel
theorem dX9_comeUp_0 : decode cX9_comeUp 0 = .ok (.aload_n 0, 1) := by decide +kernel
theorem dX9_comeUp_1 : decode cX9_comeUp 1 = .ok (.getfield 9, 3) := by decide +kernel
theorem dX9_comeUp_4 : decode cX9_comeUp 4 = .ok (.iload_n 2, 1) := by decide +kernel
theorem dX9_comeUp_5 : decode cX9_comeUp 5 = .ok (.iconst 2, 1) := by decide +kernel
theorem dX9_comeUp_6 : decode cX9_comeUp 6 = .ok (.iastore, 1) := by decide +kernel
theorem dX9_comeUp_7 : decode cX9_comeUp 7 = .ok (.aload_n 1, 1) := by decide +kernel
theorem dX9_comeUp_8 : decode cX9_comeUp 8 = .ok (.getfield 78, 3) := by decide +kernel
theorem dX9_comeUp_11 : decode cX9_comeUp 11 = .ok (.iload_n 2, 1) := by decide +kernel
theorem dX9_comeUp_12 : decode cX9_comeUp 12 = .ok (.iaload, 1) := by decide +kernel
theorem dX9_comeUp_13 : decode cX9_comeUp 13 = .ok (.istore_n 3, 1) := by decide +kernel
theorem dX9_comeUp_14 : decode cX9_comeUp 14 = .ok (.iload_n 3, 1) := by decide +kernel
theorem dX9_comeUp_15 : decode cX9_comeUp 15 = .ok (.iconst (-1), 1) := by decide +kernel
theorem dX9_comeUp_16 : decode cX9_comeUp 16 = .ok (.if_icmp .eq 25, 3) := by decide +kernel
theorem dX9_comeUp_19 : decode cX9_comeUp 19 = .ok (.aload_n 0, 1) := by decide +kernel
theorem dX9_comeUp_20 : decode cX9_comeUp 20 = .ok (.getfield 9, 3) := by decide +kernel
theorem dX9_comeUp_23 : decode cX9_comeUp 23 = .ok (.iload_n 3, 1) := by decide +kernel
theorem dX9_comeUp_24 : decode cX9_comeUp 24 = .ok (.iaload, 1) := by decide +kernel
theorem dX9_comeUp_25 : decode cX9_comeUp 25 = .ok (.iconst 2, 1) := by decide +kernel
theorem dX9_comeUp_26 : decode cX9_comeUp 26 = .ok (.if_icmp .ne 27, 3) := by decide +kernel
theorem dX9_comeUp_29 : decode cX9_comeUp 29 = .ok (.aload_n 0, 1) := by decide +kernel
theorem dX9_comeUp_30 : decode cX9_comeUp 30 = .ok (.getfield 30, 3) := by decide +kernel
theorem dX9_comeUp_33 : decode cX9_comeUp 33 = .ok (.iload_n 3, 1) := by decide +kernel
theorem dX9_comeUp_34 : decode cX9_comeUp 34 = .ok (.invokestatic 63, 3) := by decide +kernel
theorem dX9_comeUp_37 : decode cX9_comeUp 37 = .ok (.iconst 1, 1) := by decide +kernel
theorem dX9_comeUp_38 : decode cX9_comeUp 38 = .ok (.if_icmp .ne 15, 3) := by decide +kernel
theorem dX9_comeUp_41 : decode cX9_comeUp 41 = .ok (.aload_n 0, 1) := by decide +kernel
theorem dX9_comeUp_42 : decode cX9_comeUp 42 = .ok (.dup, 1) := by decide +kernel
theorem dX9_comeUp_43 : decode cX9_comeUp 43 = .ok (.getfield 30, 3) := by decide +kernel
theorem dX9_comeUp_46 : decode cX9_comeUp 46 = .ok (.iconst 1, 1) := by decide +kernel
theorem dX9_comeUp_47 : decode cX9_comeUp 47 = .ok (.iload_n 2, 1) := by decide +kernel
theorem dX9_comeUp_48 : decode cX9_comeUp 48 = .ok (.ishl, 1) := by decide +kernel
theorem dX9_comeUp_49 : decode cX9_comeUp 49 = .ok (.ior, 1) := by decide +kernel
theorem dX9_comeUp_50 : decode cX9_comeUp 50 = .ok (.putfield 30, 3) := by decide +kernel
theorem dX9_comeUp_53 : decode cX9_comeUp 53 = .ok (.return_, 1) := by decide +kernel
theorem dX9_drawMinutes_0 : decode cX9_drawMinutes 0 = .ok (.iconst 0, 1) := by decide +kernel
theorem dX9_drawMinutes_1 : decode cX9_drawMinutes 1 = .ok (.istore_n 3, 1) := by decide +kernel
theorem dX9_drawMinutes_2 : decode cX9_drawMinutes 2 = .ok (.iload_n 3, 1) := by decide +kernel
theorem dX9_drawMinutes_3 : decode cX9_drawMinutes 3 = .ok (.iload_n 2, 1) := by decide +kernel
theorem dX9_drawMinutes_4 : decode cX9_drawMinutes 4 = .ok (.if_icmp .ge 109, 3) := by decide +kernel
theorem dX9_drawMinutes_7 : decode cX9_drawMinutes 7 = .ok (.aload_n 0, 1) := by decide +kernel
theorem dX9_drawMinutes_8 : decode cX9_drawMinutes 8 = .ok (.getfield 37, 3) := by decide +kernel
theorem dX9_drawMinutes_11 : decode cX9_drawMinutes 11 = .ok (.sipush 1000, 3) := by decide +kernel
theorem dX9_drawMinutes_14 : decode cX9_drawMinutes 14 = .ok (.if_icmp .ge 99, 3) := by decide +kernel
theorem dX9_drawMinutes_17 : decode cX9_drawMinutes 17 = .ok (.aload_n 0, 1) := by decide +kernel
theorem dX9_drawMinutes_18 : decode cX9_drawMinutes 18 = .ok (.bipush 30, 2) := by decide +kernel
theorem dX9_drawMinutes_20 : decode cX9_drawMinutes 20 = .ok (.invokevirtual 104, 3) := by decide +kernel
theorem dX9_drawMinutes_23 : decode cX9_drawMinutes 23 = .ok (.ifCond .ne 23, 3) := by decide +kernel
theorem dX9_drawMinutes_26 : decode cX9_drawMinutes 26 = .ok (.aload_n 1, 1) := by decide +kernel
theorem dX9_drawMinutes_27 : decode cX9_drawMinutes 27 = .ok (.getfield 55, 3) := by decide +kernel
theorem dX9_drawMinutes_30 : decode cX9_drawMinutes 30 = .ok (.ifCond .le 16, 3) := by decide +kernel
theorem dX9_drawMinutes_33 : decode cX9_drawMinutes 33 = .ok (.aload_n 0, 1) := by decide +kernel
theorem dX9_drawMinutes_34 : decode cX9_drawMinutes 34 = .ok (.aload_n 0, 1) := by decide +kernel
theorem dX9_drawMinutes_35 : decode cX9_drawMinutes 35 = .ok (.aload_n 1, 1) := by decide +kernel
theorem dX9_drawMinutes_36 : decode cX9_drawMinutes 36 = .ok (.getfield 55, 3) := by decide +kernel
theorem dX9_drawMinutes_39 : decode cX9_drawMinutes 39 = .ok (.invokevirtual 104, 3) := by decide +kernel
theorem dX9_drawMinutes_42 : decode cX9_drawMinutes 42 = .ok (.invokevirtual 126, 3) := by decide +kernel
theorem dX9_drawMinutes_45 : decode cX9_drawMinutes 45 = .ok (.pop, 1) := by decide +kernel
theorem dX9_drawMinutes_46 : decode cX9_drawMinutes 46 = .ok (.iconst 0, 1) := by decide +kernel
theorem dX9_drawMinutes_47 : decode cX9_drawMinutes 47 = .ok (.istore 4, 2) := by decide +kernel
theorem dX9_drawMinutes_49 : decode cX9_drawMinutes 49 = .ok (.iload 4, 2) := by decide +kernel
theorem dX9_drawMinutes_51 : decode cX9_drawMinutes 51 = .ok (.aload_n 1, 1) := by decide +kernel
theorem dX9_drawMinutes_52 : decode cX9_drawMinutes 52 = .ok (.getfield 75, 3) := by decide +kernel
theorem dX9_drawMinutes_55 : decode cX9_drawMinutes 55 = .ok (.if_icmp .ge 47, 3) := by decide +kernel
theorem dX9_drawMinutes_58 : decode cX9_drawMinutes 58 = .ok (.aload_n 0, 1) := by decide +kernel
theorem dX9_drawMinutes_59 : decode cX9_drawMinutes 59 = .ok (.bipush 20, 2) := by decide +kernel
theorem dX9_drawMinutes_61 : decode cX9_drawMinutes 61 = .ok (.invokevirtual 104, 3) := by decide +kernel
theorem dX9_drawMinutes_64 : decode cX9_drawMinutes 64 = .ok (.istore 5, 2) := by decide +kernel
theorem dX9_drawMinutes_66 : decode cX9_drawMinutes 66 = .ok (.iload 5, 2) := by decide +kernel
theorem dX9_drawMinutes_68 : decode cX9_drawMinutes 68 = .ok (.ifCond .ne 14, 3) := by decide +kernel
theorem dX9_drawMinutes_71 : decode cX9_drawMinutes 71 = .ok (.aload_n 0, 1) := by decide +kernel
theorem dX9_drawMinutes_72 : decode cX9_drawMinutes 72 = .ok (.aload_n 1, 1) := by decide +kernel
theorem dX9_drawMinutes_73 : decode cX9_drawMinutes 73 = .ok (.iload 4, 2) := by decide +kernel
theorem dX9_drawMinutes_75 : decode cX9_drawMinutes 75 = .ok (.invokevirtual 129, 3) := by decide +kernel
theorem dX9_drawMinutes_78 : decode cX9_drawMinutes 78 = .ok (.pop, 1) := by decide +kernel
theorem dX9_drawMinutes_79 : decode cX9_drawMinutes 79 = .ok (.goto 17, 3) := by decide +kernel
theorem dX9_drawMinutes_82 : decode cX9_drawMinutes 82 = .ok (.iload 5, 2) := by decide +kernel
theorem dX9_drawMinutes_84 : decode cX9_drawMinutes 84 = .ok (.iconst 3, 1) := by decide +kernel
theorem dX9_drawMinutes_85 : decode cX9_drawMinutes 85 = .ok (.if_icmp .gt 11, 3) := by decide +kernel
theorem dX9_drawMinutes_88 : decode cX9_drawMinutes 88 = .ok (.aload_n 0, 1) := by decide +kernel
theorem dX9_drawMinutes_89 : decode cX9_drawMinutes 89 = .ok (.aload_n 1, 1) := by decide +kernel
theorem dX9_drawMinutes_90 : decode cX9_drawMinutes 90 = .ok (.iload 4, 2) := by decide +kernel
theorem dX9_drawMinutes_92 : decode cX9_drawMinutes 92 = .ok (.invokevirtual 133, 3) := by decide +kernel
theorem dX9_drawMinutes_95 : decode cX9_drawMinutes 95 = .ok (.pop, 1) := by decide +kernel
theorem dX9_drawMinutes_96 : decode cX9_drawMinutes 96 = .ok (.iinc 4 1, 3) := by decide +kernel
theorem dX9_drawMinutes_99 : decode cX9_drawMinutes 99 = .ok (.goto (-50), 3) := by decide +kernel
theorem dX9_drawMinutes_102 : decode cX9_drawMinutes 102 = .ok (.aload_n 0, 1) := by decide +kernel
theorem dX9_drawMinutes_103 : decode cX9_drawMinutes 103 = .ok (.aload_n 1, 1) := by decide +kernel
theorem dX9_drawMinutes_104 : decode cX9_drawMinutes 104 = .ok (.invokevirtual 116, 3) := by decide +kernel
theorem dX9_drawMinutes_107 : decode cX9_drawMinutes 107 = .ok (.iinc 3 1, 3) := by decide +kernel
theorem dX9_drawMinutes_110 : decode cX9_drawMinutes 110 = .ok (.goto (-108), 3) := by decide +kernel
theorem dX9_drawMinutes_113 : decode cX9_drawMinutes 113 = .ok (.iload_n 3, 1) := by decide +kernel
theorem dX9_drawMinutes_114 : decode cX9_drawMinutes 114 = .ok (.ireturn, 1) := by decide +kernel
theorem dX10_init_0 : decode cX10_init 0 = .ok (.aload_n 0, 1) := by decide +kernel
theorem dX10_init_1 : decode cX10_init 1 = .ok (.invokespecial 1, 3) := by decide +kernel
theorem dX10_init_4 : decode cX10_init 4 = .ok (.aload_n 0, 1) := by decide +kernel
theorem dX10_init_5 : decode cX10_init 5 = .ok (.new 7, 3) := by decide +kernel
theorem dX10_init_8 : decode cX10_init 8 = .ok (.dup, 1) := by decide +kernel
theorem dX10_init_9 : decode cX10_init 9 = .ok (.invokespecial 9, 3) := by decide +kernel
theorem dX10_init_12 : decode cX10_init 12 = .ok (.putfield 10, 3) := by decide +kernel
theorem dX10_init_15 : decode cX10_init 15 = .ok (.aload_n 0, 1) := by decide +kernel
theorem dX10_init_16 : decode cX10_init 16 = .ok (.new 16, 3) := by decide +kernel
theorem dX10_init_19 : decode cX10_init 19 = .ok (.dup, 1) := by decide +kernel
theorem dX10_init_20 : decode cX10_init 20 = .ok (.invokespecial 18, 3) := by decide +kernel
theorem dX10_init_23 : decode cX10_init 23 = .ok (.putfield 19, 3) := by decide +kernel
theorem dX10_init_26 : decode cX10_init 26 = .ok (.aload_n 0, 1) := by decide +kernel
theorem dX10_init_27 : decode cX10_init 27 = .ok (.new 23, 3) := by decide +kernel
theorem dX10_init_30 : decode cX10_init 30 = .ok (.dup, 1) := by decide +kernel
theorem dX10_init_31 : decode cX10_init 31 = .ok (.invokespecial 25, 3) := by decide +kernel
theorem dX10_init_34 : decode cX10_init 34 = .ok (.putfield 26, 3) := by decide +kernel
theorem dX10_init_37 : decode cX10_init 37 = .ok (.return_, 1) := by decide +kernel
theorem dX10_copyFrom_0 : decode cX10_copyFrom 0 = .ok (.aload_n 0, 1) := by decide +kernel
theorem dX10_copyFrom_1 : decode cX10_copyFrom 1 = .ok (.getfield 10, 3) := by decide +kernel
theorem dX10_copyFrom_4 : decode cX10_copyFrom 4 = .ok (.aload_n 1, 1) := by decide +kernel
theorem dX10_copyFrom_5 : decode cX10_copyFrom 5 = .ok (.getfield 10, 3) := by decide +kernel
theorem dX10_copyFrom_8 : decode cX10_copyFrom 8 = .ok (.invokevirtual 30, 3) := by decide +kernel
theorem dX10_copyFrom_11 : decode cX10_copyFrom 11 = .ok (.aload_n 0, 1) := by decide +kernel
theorem dX10_copyFrom_12 : decode cX10_copyFrom 12 = .ok (.getfield 19, 3) := by decide +kernel
theorem dX10_copyFrom_15 : decode cX10_copyFrom 15 = .ok (.aload_n 1, 1) := by decide +kernel
theorem dX10_copyFrom_16 : decode cX10_copyFrom 16 = .ok (.getfield 19, 3) := by decide +kernel
theorem dX10_copyFrom_19 : decode cX10_copyFrom 19 = .ok (.invokevirtual 34, 3) := by decide +kernel
theorem dX10_copyFrom_22 : decode cX10_copyFrom 22 = .ok (.aload_n 0, 1) := by decide +kernel
theorem dX10_copyFrom_23 : decode cX10_copyFrom 23 = .ok (.getfield 26, 3) := by decide +kernel
theorem dX10_copyFrom_26 : decode cX10_copyFrom 26 = .ok (.aload_n 1, 1) := by decide +kernel
theorem dX10_copyFrom_27 : decode cX10_copyFrom 27 = .ok (.getfield 26, 3) := by decide +kernel
theorem dX10_copyFrom_30 : decode cX10_copyFrom 30 = .ok (.invokevirtual 37, 3) := by decide +kernel
theorem dX10_copyFrom_33 : decode cX10_copyFrom 33 = .ok (.return_, 1) := by decide +kernel
theorem dX11_init_0 : decode cX11_init 0 = .ok (.aload_n 0, 1) := by decide +kernel
theorem dX11_init_1 : decode cX11_init 1 = .ok (.invokespecial 1, 3) := by decide +kernel
theorem dX11_init_4 : decode cX11_init 4 = .ok (.aload_n 0, 1) := by decide +kernel
theorem dX11_init_5 : decode cX11_init 5 = .ok (.new 7, 3) := by decide +kernel
theorem dX11_init_8 : decode cX11_init 8 = .ok (.dup, 1) := by decide +kernel
theorem dX11_init_9 : decode cX11_init 9 = .ok (.sipush 940, 3) := by decide +kernel
theorem dX11_init_12 : decode cX11_init 12 = .ok (.invokespecial 11, 3) := by decide +kernel
theorem dX11_init_15 : decode cX11_init 15 = .ok (.putfield 14, 3) := by decide +kernel
theorem dX11_init_18 : decode cX11_init 18 = .ok (.aload_n 0, 1) := by decide +kernel
theorem dX11_init_19 : decode cX11_init 19 = .ok (.new 18, 3) := by decide +kernel
theorem dX11_init_22 : decode cX11_init 22 = .ok (.dup, 1) := by decide +kernel
theorem dX11_init_23 : decode cX11_init 23 = .ok (.invokespecial 20, 3) := by decide +kernel
theorem dX11_init_26 : decode cX11_init 26 = .ok (.putfield 21, 3) := by decide +kernel
theorem dX11_init_29 : decode cX11_init 29 = .ok (.aload_n 0, 1) := by decide +kernel
theorem dX11_init_30 : decode cX11_init 30 = .ok (.iconst 2, 1) := by decide +kernel
theorem dX11_init_31 : decode cX11_init 31 = .ok (.anewarray 18, 3) := by decide +kernel
theorem dX11_init_34 : decode cX11_init 34 = .ok (.putfield 25, 3) := by decide +kernel
theorem dX11_init_37 : decode cX11_init 37 = .ok (.aload_n 0, 1) := by decide +kernel
theorem dX11_init_38 : decode cX11_init 38 = .ok (.new 29, 3) := by decide +kernel
theorem dX11_init_41 : decode cX11_init 41 = .ok (.dup, 1) := by decide +kernel
theorem dX11_init_42 : decode cX11_init 42 = .ok (.invokespecial 31, 3) := by decide +kernel
theorem dX11_init_45 : decode cX11_init 45 = .ok (.putfield 32, 3) := by decide +kernel
theorem dX11_init_48 : decode cX11_init 48 = .ok (.aload_n 0, 1) := by decide +kernel
theorem dX11_init_49 : decode cX11_init 49 = .ok (.new 36, 3) := by decide +kernel
theorem dX11_init_52 : decode cX11_init 52 = .ok (.dup, 1) := by decide +kernel
theorem dX11_init_53 : decode cX11_init 53 = .ok (.invokespecial 38, 3) := by decide +kernel
theorem dX11_init_56 : decode cX11_init 56 = .ok (.putfield 39, 3) := by decide +kernel
theorem dX11_init_59 : decode cX11_init 59 = .ok (.aload_n 0, 1) := by decide +kernel
theorem dX11_init_60 : decode cX11_init 60 = .ok (.new 43, 3) := by decide +kernel
theorem dX11_init_63 : decode cX11_init 63 = .ok (.dup, 1) := by decide +kernel
theorem dX11_init_64 : decode cX11_init 64 = .ok (.invokespecial 45, 3) := by decide +kernel
theorem dX11_init_67 : decode cX11_init 67 = .ok (.putfield 46, 3) := by decide +kernel
theorem dX11_init_70 : decode cX11_init 70 = .ok (.aload_n 0, 1) := by decide +kernel
theorem dX11_init_71 : decode cX11_init 71 = .ok (.new 50, 3) := by decide +kernel
theorem dX11_init_74 : decode cX11_init 74 = .ok (.dup, 1) := by decide +kernel
theorem dX11_init_75 : decode cX11_init 75 = .ok (.invokespecial 52, 3) := by decide +kernel
theorem dX11_init_78 : decode cX11_init 78 = .ok (.putfield 53, 3) := by decide +kernel
theorem dX11_init_81 : decode cX11_init 81 = .ok (.aload_n 0, 1) := by decide +kernel
theorem dX11_init_82 : decode cX11_init 82 = .ok (.new 57, 3) := by decide +kernel
theorem dX11_init_85 : decode cX11_init 85 = .ok (.dup, 1) := by decide +kernel
theorem dX11_init_86 : decode cX11_init 86 = .ok (.invokespecial 59, 3) := by decide +kernel
theorem dX11_init_89 : decode cX11_init 89 = .ok (.putfield 60, 3) := by decide +kernel
theorem dX11_init_92 : decode cX11_init 92 = .ok (.aload_n 0, 1) := by decide +kernel
theorem dX11_init_93 : decode cX11_init 93 = .ok (.new 64, 3) := by decide +kernel
theorem dX11_init_96 : decode cX11_init 96 = .ok (.dup, 1) := by decide +kernel
theorem dX11_init_97 : decode cX11_init 97 = .ok (.invokespecial 66, 3) := by decide +kernel
theorem dX11_init_100 : decode cX11_init 100 = .ok (.putfield 67, 3) := by decide +kernel
theorem dX11_init_103 : decode cX11_init 103 = .ok (.aload_n 0, 1) := by decide +kernel
theorem dX11_init_104 : decode cX11_init 104 = .ok (.new 7, 3) := by decide +kernel
theorem dX11_init_107 : decode cX11_init 107 = .ok (.dup, 1) := by decide +kernel
theorem dX11_init_108 : decode cX11_init 108 = .ok (.bipush 32, 2) := by decide +kernel
theorem dX11_init_110 : decode cX11_init 110 = .ok (.invokespecial 11, 3) := by decide +kernel
theorem dX11_init_113 : decode cX11_init 113 = .ok (.putfield 71, 3) := by decide +kernel
theorem dX11_init_116 : decode cX11_init 116 = .ok (.aload_n 0, 1) := by decide +kernel
theorem dX11_init_117 : decode cX11_init 117 = .ok (.bipush 8, 2) := by decide +kernel
theorem dX11_init_119 : decode cX11_init 119 = .ok (.newarray .int, 2) := by decide +kernel
theorem dX11_init_121 : decode cX11_init 121 = .ok (.putfield 74, 3) := by decide +kernel
theorem dX11_init_124 : decode cX11_init 124 = .ok (.aload_n 0, 1) := by decide +kernel
theorem dX11_init_125 : decode cX11_init 125 = .ok (.iconst 4, 1) := by decide +kernel
theorem dX11_init_126 : decode cX11_init 126 = .ok (.newarray .int, 2) := by decide +kernel
theorem dX11_init_128 : decode cX11_init 128 = .ok (.putfield 78, 3) := by decide +kernel
theorem dX11_init_131 : decode cX11_init 131 = .ok (.aload_n 0, 1) := by decide +kernel
theorem dX11_init_132 : decode cX11_init 132 = .ok (.iconst (-1), 1) := by decide +kernel
theorem dX11_init_133 : decode cX11_init 133 = .ok (.putfield 81, 3) := by decide +kernel
theorem dX11_init_136 : decode cX11_init 136 = .ok (.aload_n 0, 1) := by decide +kernel
theorem dX11_init_137 : decode cX11_init 137 = .ok (.iconst (-1), 1) := by decide +kernel
theorem dX11_init_138 : decode cX11_init 138 = .ok (.putfield 85, 3) := by decide +kernel
theorem dX11_init_141 : decode cX11_init 141 = .ok (.iconst 0, 1) := by decide +kernel
theorem dX11_init_142 : decode cX11_init 142 = .ok (.istore_n 1, 1) := by decide +kernel
theorem dX11_init_143 : decode cX11_init 143 = .ok (.iload_n 1, 1) := by decide +kernel
theorem dX11_init_144 : decode cX11_init 144 = .ok (.iconst 2, 1) := by decide +kernel
theorem dX11_init_145 : decode cX11_init 145 = .ok (.if_icmp .ge 22, 3) := by decide +kernel
theorem dX11_init_148 : decode cX11_init 148 = .ok (.aload_n 0, 1) := by decide +kernel
theorem dX11_init_149 : decode cX11_init 149 = .ok (.getfield 25, 3) := by decide +kernel
theorem dX11_init_152 : decode cX11_init 152 = .ok (.iload_n 1, 1) := by decide +kernel
theorem dX11_init_153 : decode cX11_init 153 = .ok (.new 18, 3) := by decide +kernel
theorem dX11_init_156 : decode cX11_init 156 = .ok (.dup, 1) := by decide +kernel
theorem dX11_init_157 : decode cX11_init 157 = .ok (.invokespecial 20, 3) := by decide +kernel
theorem dX11_init_160 : decode cX11_init 160 = .ok (.aastore, 1) := by decide +kernel
theorem dX11_init_161 : decode cX11_init 161 = .ok (.iinc 1 1, 3) := by decide +kernel
theorem dX11_init_164 : decode cX11_init 164 = .ok (.goto (-21), 3) := by decide +kernel
theorem dX11_init_167 : decode cX11_init 167 = .ok (.return_, 1) := by decide +kernel
theorem dX11_feed_0 : decode cX11_feed 0 = .ok (.aload_n 0, 1) := by decide +kernel
theorem dX11_feed_1 : decode cX11_feed 1 = .ok (.getfield 14, 3) := by decide +kernel
theorem dX11_feed_4 : decode cX11_feed 4 = .ok (.getfield 88, 3) := by decide +kernel
theorem dX11_feed_7 : decode cX11_feed 7 = .ok (.bipush 20, 2) := by decide +kernel
theorem dX11_feed_9 : decode cX11_feed 9 = .ok (.iadd, 1) := by decide +kernel
theorem dX11_feed_10 : decode cX11_feed 10 = .ok (.sipush 940, 3) := by decide +kernel
theorem dX11_feed_13 : decode cX11_feed 13 = .ok (.if_icmp .le 5, 3) := by decide +kernel
theorem dX11_feed_16 : decode cX11_feed 16 = .ok (.iconst (-1), 1) := by decide +kernel
theorem dX11_feed_17 : decode cX11_feed 17 = .ok (.ireturn, 1) := by decide +kernel
theorem dX11_feed_18 : decode cX11_feed 18 = .ok (.aload_n 0, 1) := by decide +kernel
theorem dX11_feed_19 : decode cX11_feed 19 = .ok (.getfield 14, 3) := by decide +kernel
theorem dX11_feed_22 : decode cX11_feed 22 = .ok (.iload_n 1, 1) := by decide +kernel
theorem dX11_feed_23 : decode cX11_feed 23 = .ok (.invokevirtual 91, 3) := by decide +kernel
theorem dX11_feed_26 : decode cX11_feed 26 = .ok (.aload_n 0, 1) := by decide +kernel
theorem dX11_feed_27 : decode cX11_feed 27 = .ok (.getfield 14, 3) := by decide +kernel
theorem dX11_feed_30 : decode cX11_feed 30 = .ok (.iload_n 2, 1) := by decide +kernel
theorem dX11_feed_31 : decode cX11_feed 31 = .ok (.invokevirtual 91, 3) := by decide +kernel
theorem dX11_feed_34 : decode cX11_feed 34 = .ok (.aload_n 0, 1) := by decide +kernel
theorem dX11_feed_35 : decode cX11_feed 35 = .ok (.getfield 14, 3) := by decide +kernel
theorem dX11_feed_38 : decode cX11_feed 38 = .ok (.iload_n 3, 1) := by decide +kernel
theorem dX11_feed_39 : decode cX11_feed 39 = .ok (.invokevirtual 91, 3) := by decide +kernel
theorem dX11_feed_42 : decode cX11_feed 42 = .ok (.aload_n 0, 1) := by decide +kernel
theorem dX11_feed_43 : decode cX11_feed 43 = .ok (.getfield 14, 3) := by decide +kernel
theorem dX11_feed_46 : decode cX11_feed 46 = .ok (.iload 4, 2) := by decide +kernel
theorem dX11_feed_48 : decode cX11_feed 48 = .ok (.invokevirtual 91, 3) := by decide +kernel
theorem dX11_feed_51 : decode cX11_feed 51 = .ok (.aload_n 0, 1) := by decide +kernel
theorem dX11_feed_52 : decode cX11_feed 52 = .ok (.getfield 14, 3) := by decide +kernel
theorem dX11_feed_55 : decode cX11_feed 55 = .ok (.iload 5, 2) := by decide +kernel
theorem dX11_feed_57 : decode cX11_feed 57 = .ok (.invokevirtual 91, 3) := by decide +kernel
theorem dX11_feed_60 : decode cX11_feed 60 = .ok (.aload_n 0, 1) := by decide +kernel
theorem dX11_feed_61 : decode cX11_feed 61 = .ok (.getfield 14, 3) := by decide +kernel
theorem dX11_feed_64 : decode cX11_feed 64 = .ok (.getfield 88, 3) := by decide +kernel
theorem dX11_feed_67 : decode cX11_feed 67 = .ok (.ireturn, 1) := by decide +kernel
theorem dX11_end_0 : decode cX11_end 0 = .ok (.iload_n 1, 1) := by decide +kernel
theorem dX11_end_1 : decode cX11_end 1 = .ok (.ifCond .lt 14, 3) := by decide +kernel
theorem dX11_end_4 : decode cX11_end 4 = .ok (.iload_n 1, 1) := by decide +kernel
theorem dX11_end_5 : decode cX11_end 5 = .ok (.aload_n 0, 1) := by decide +kernel
theorem dX11_end_6 : decode cX11_end 6 = .ok (.getfield 14, 3) := by decide +kernel
theorem dX11_end_9 : decode cX11_end 9 = .ok (.getfield 88, 3) := by decide +kernel
theorem dX11_end_12 : decode cX11_end 12 = .ok (.if_icmp .le 5, 3) := by decide +kernel
theorem dX11_end_15 : decode cX11_end 15 = .ok (.iconst 0, 1) := by decide +kernel
theorem dX11_end_16 : decode cX11_end 16 = .ok (.ireturn, 1) := by decide +kernel
theorem dX11_end_17 : decode cX11_end 17 = .ok (.aload_n 0, 1) := by decide +kernel
theorem dX11_end_18 : decode cX11_end 18 = .ok (.getfield 14, 3) := by decide +kernel
theorem dX11_end_21 : decode cX11_end 21 = .ok (.iload_n 1, 1) := by decide +kernel
theorem dX11_end_22 : decode cX11_end 22 = .ok (.putfield 88, 3) := by decide +kernel
theorem dX11_end_25 : decode cX11_end 25 = .ok (.iconst 1, 1) := by decide +kernel
theorem dX11_end_26 : decode cX11_end 26 = .ok (.ireturn, 1) := by decide +kernel
theorem dX11_house_0 : decode cX11_house 0 = .ok (.aload_n 0, 1) := by decide +kernel
theorem dX11_house_1 : decode cX11_house 1 = .ok (.getfield 46, 3) := by decide +kernel
theorem dX11_house_4 : decode cX11_house 4 = .ok (.aload_n 0, 1) := by decide +kernel
theorem dX11_house_5 : decode cX11_house 5 = .ok (.getfield 14, 3) := by decide +kernel
theorem dX11_house_8 : decode cX11_house 8 = .ok (.invokevirtual 94, 3) := by decide +kernel
theorem dX11_house_11 : decode cX11_house 11 = .ok (.istore_n 1, 1) := by decide +kernel
theorem dX11_house_12 : decode cX11_house 12 = .ok (.aload_n 0, 1) := by decide +kernel
theorem dX11_house_13 : decode cX11_house 13 = .ok (.aload_n 0, 1) := by decide +kernel
theorem dX11_house_14 : decode cX11_house 14 = .ok (.getfield 46, 3) := by decide +kernel
theorem dX11_house_17 : decode cX11_house 17 = .ok (.getfield 98, 3) := by decide +kernel
theorem dX11_house_20 : decode cX11_house 20 = .ok (.invokevirtual 102, 3) := by decide +kernel
theorem dX11_house_23 : decode cX11_house 23 = .ok (.iload_n 1, 1) := by decide +kernel
theorem dX11_house_24 : decode cX11_house 24 = .ok (.ifCond .ne 16, 3) := by decide +kernel
theorem dX11_house_27 : decode cX11_house 27 = .ok (.iconst (-1), 1) := by decide +kernel
theorem dX11_house_28 : decode cX11_house 28 = .ok (.aload_n 0, 1) := by decide +kernel
theorem dX11_house_29 : decode cX11_house 29 = .ok (.getfield 46, 3) := by decide +kernel
theorem dX11_house_32 : decode cX11_house 32 = .ok (.getfield 98, 3) := by decide +kernel
theorem dX11_house_35 : decode cX11_house 35 = .ok (.getfield 106, 3) := by decide +kernel
theorem dX11_house_38 : decode cX11_house 38 = .ok (.isub, 1) := by decide +kernel
theorem dX11_house_39 : decode cX11_house 39 = .ok (.ireturn, 1) := by decide +kernel
theorem dX11_house_40 : decode cX11_house 40 = .ok (.aload_n 0, 1) := by decide +kernel
theorem dX11_house_41 : decode cX11_house 41 = .ok (.getfield 21, 3) := by decide +kernel
theorem dX11_house_44 : decode cX11_house 44 = .ok (.getfield 111, 3) := by decide +kernel
theorem dX11_house_47 : decode cX11_house 47 = .ok (.aload_n 0, 1) := by decide +kernel
theorem dX11_house_48 : decode cX11_house 48 = .ok (.getfield 46, 3) := by decide +kernel
theorem dX11_house_51 : decode cX11_house 51 = .ok (.getfield 115, 3) := by decide +kernel
theorem dX11_house_54 : decode cX11_house 54 = .ok (.invokevirtual 118, 3) := by decide +kernel
theorem dX11_house_57 : decode cX11_house 57 = .ok (.aload_n 0, 1) := by decide +kernel
theorem dX11_house_58 : decode cX11_house 58 = .ok (.getfield 21, 3) := by decide +kernel
theorem dX11_house_61 : decode cX11_house 61 = .ok (.getfield 124, 3) := by decide +kernel
theorem dX11_house_64 : decode cX11_house 64 = .ok (.invokevirtual 127, 3) := by decide +kernel
theorem dX11_house_67 : decode cX11_house 67 = .ok (.aload_n 0, 1) := by decide +kernel
theorem dX11_house_68 : decode cX11_house 68 = .ok (.getfield 21, 3) := by decide +kernel
theorem dX11_house_71 : decode cX11_house 71 = .ok (.getfield 130, 3) := by decide +kernel
theorem dX11_house_74 : decode cX11_house 74 = .ok (.invokevirtual 134, 3) := by decide +kernel
theorem dX11_house_77 : decode cX11_house 77 = .ok (.aload_n 0, 1) := by decide +kernel
theorem dX11_house_78 : decode cX11_house 78 = .ok (.getfield 32, 3) := by decide +kernel
theorem dX11_house_81 : decode cX11_house 81 = .ok (.invokevirtual 139, 3) := by decide +kernel
theorem dX11_house_84 : decode cX11_house 84 = .ok (.aload_n 0, 1) := by decide +kernel
theorem dX11_house_85 : decode cX11_house 85 = .ok (.getfield 46, 3) := by decide +kernel
theorem dX11_house_88 : decode cX11_house 88 = .ok (.getfield 140, 3) := by decide +kernel
theorem dX11_house_91 : decode cX11_house 91 = .ok (.ireturn, 1) := by decide +kernel
theorem dX11_fault_0 : decode cX11_fault 0 = .ok (.aload_n 0, 1) := by decide +kernel
theorem dX11_fault_1 : decode cX11_fault 1 = .ok (.getfield 143, 3) := by decide +kernel
theorem dX11_fault_4 : decode cX11_fault 4 = .ok (.ireturn, 1) := by decide +kernel
theorem dX11_thing_0 : decode cX11_thing 0 = .ok (.aload_n 0, 1) := by decide +kernel
theorem dX11_thing_1 : decode cX11_thing 1 = .ok (.iload_n 1, 1) := by decide +kernel
theorem dX11_thing_2 : decode cX11_thing 2 = .ok (.invokevirtual 146, 3) := by decide +kernel
theorem dX11_thing_5 : decode cX11_thing 5 = .ok (.ifCond .eq 13, 3) := by decide +kernel
theorem dX11_thing_8 : decode cX11_thing 8 = .ok (.iload_n 2, 1) := by decide +kernel
theorem dX11_thing_9 : decode cX11_thing 9 = .ok (.ifCond .lt 9, 3) := by decide +kernel
theorem dX11_thing_12 : decode cX11_thing 12 = .ok (.iload_n 2, 1) := by decide +kernel
theorem dX11_thing_13 : decode cX11_thing 13 = .ok (.bipush 8, 2) := by decide +kernel
