theorem dX12_planFrom_162 : decode cX12_planFrom 162 = .ok (.iload_n 1, 1) := by decide +kernel
theorem dX12_planFrom_163 : decode cX12_planFrom 163 = .ok (.iconst 3, 1) := by decide +kernel
theorem dX12_planFrom_164 : decode cX12_planFrom 164 = .ok (.invokevirtual 306, 3) := by decide +kernel
theorem dX12_planFrom_167 : decode cX12_planFrom 167 = .ok (.imul, 1) := by decide +kernel
theorem dX12_planFrom_168 : decode cX12_planFrom 168 = .ok (.iadd, 1) := by decide +kernel
theorem dX12_planFrom_169 : decode cX12_planFrom 169 = .ok (.invokevirtual 303, 3) := by decide +kernel
theorem dX12_planFrom_172 : decode cX12_planFrom 172 = .ok (.return_, 1) := by decide +kernel
theorem dX12_plan_0 : decode cX12_plan 0 = .ok (.aload_n 0, 1) := by decide +kernel
theorem dX12_plan_1 : decode cX12_plan 1 = .ok (.iconst 0, 1) := by decide +kernel
theorem dX12_plan_2 : decode cX12_plan 2 = .ok (.putfield 73, 3) := by decide +kernel
theorem dX12_plan_5 : decode cX12_plan 5 = .ok (.aload_n 0, 1) := by decide +kernel
theorem dX12_plan_6 : decode cX12_plan 6 = .ok (.iload_n 1, 1) := by decide +kernel
theorem dX12_plan_7 : decode cX12_plan 7 = .ok (.invokevirtual 221, 3) := by decide +kernel
theorem dX12_plan_10 : decode cX12_plan 10 = .ok (.ifCond .eq 29, 3) := by decide +kernel
theorem dX12_plan_13 : decode cX12_plan 13 = .ok (.iload_n 2, 1) := by decide +kernel
theorem dX12_plan_14 : decode cX12_plan 14 = .ok (.iconst 1, 1) := by decide +kernel
theorem dX12_plan_15 : decode cX12_plan 15 = .ok (.if_icmp .lt 24, 3) := by decide +kernel
theorem dX12_plan_18 : decode cX12_plan 18 = .ok (.iload_n 2, 1) := by decide +kernel
theorem dX12_plan_19 : decode cX12_plan 19 = .ok (.iconst 1, 1) := by decide +kernel
theorem dX12_plan_20 : decode cX12_plan 20 = .ok (.aload_n 0, 1) := by decide +kernel
theorem dX12_plan_21 : decode cX12_plan 21 = .ok (.getfield 13, 3) := by decide +kernel
theorem dX12_plan_24 : decode cX12_plan 24 = .ok (.iconst 1, 1) := by decide +kernel
theorem dX12_plan_25 : decode cX12_plan 25 = .ok (.iaload, 1) := by decide +kernel
theorem dX12_plan_26 : decode cX12_plan 26 = .ok (.ishl, 1) := by decide +kernel
theorem dX12_plan_27 : decode cX12_plan 27 = .ok (.if_icmp .ge 12, 3) := by decide +kernel
theorem dX12_plan_30 : decode cX12_plan 30 = .ok (.iload_n 3, 1) := by decide +kernel
theorem dX12_plan_31 : decode cX12_plan 31 = .ok (.iconst 0, 1) := by decide +kernel
theorem dX12_plan_32 : decode cX12_plan 32 = .ok (.iconst 1, 1) := by decide +kernel
theorem dX12_plan_33 : decode cX12_plan 33 = .ok (.invokestatic 140, 3) := by decide +kernel
theorem dX12_plan_36 : decode cX12_plan 36 = .ok (.ifCond .ne 8, 3) := by decide +kernel
theorem dX12_plan_39 : decode cX12_plan 39 = .ok (.aload_n 0, 1) := by decide +kernel
theorem dX12_plan_40 : decode cX12_plan 40 = .ok (.invokevirtual 224, 3) := by decide +kernel
theorem dX12_plan_43 : decode cX12_plan 43 = .ok (.ireturn, 1) := by decide +kernel
theorem dX12_plan_44 : decode cX12_plan 44 = .ok (.iconst 0, 1) := by decide +kernel
theorem dX12_plan_45 : decode cX12_plan 45 = .ok (.istore 4, 2) := by decide +kernel
theorem dX12_plan_47 : decode cX12_plan 47 = .ok (.iload 4, 2) := by decide +kernel
theorem dX12_plan_49 : decode cX12_plan 49 = .ok (.bipush 8, 2) := by decide +kernel
theorem dX12_plan_51 : decode cX12_plan 51 = .ok (.if_icmp .ge 71, 3) := by decide +kernel
theorem dX12_plan_54 : decode cX12_plan 54 = .ok (.iload_n 2, 1) := by decide +kernel
theorem dX12_plan_55 : decode cX12_plan 55 = .ok (.iload 4, 2) := by decide +kernel
theorem dX12_plan_57 : decode cX12_plan 57 = .ok (.invokestatic 288, 3) := by decide +kernel
theorem dX12_plan_60 : decode cX12_plan 60 = .ok (.ifCond .eq 22, 3) := by decide +kernel
theorem dX12_plan_63 : decode cX12_plan 63 = .ok (.aload_n 0, 1) := by decide +kernel
theorem dX12_plan_64 : decode cX12_plan 64 = .ok (.getfield 13, 3) := by decide +kernel
theorem dX12_plan_67 : decode cX12_plan 67 = .ok (.bipush 21, 2) := by decide +kernel
theorem dX12_plan_69 : decode cX12_plan 69 = .ok (.iload 4, 2) := by decide +kernel
theorem dX12_plan_71 : decode cX12_plan 71 = .ok (.iadd, 1) := by decide +kernel
theorem dX12_plan_72 : decode cX12_plan 72 = .ok (.iaload, 1) := by decide +kernel
theorem dX12_plan_73 : decode cX12_plan 73 = .ok (.iload_n 1, 1) := by decide +kernel
theorem dX12_plan_74 : decode cX12_plan 74 = .ok (.if_icmp .eq 8, 3) := by decide +kernel
theorem dX12_plan_77 : decode cX12_plan 77 = .ok (.aload_n 0, 1) := by decide +kernel
theorem dX12_plan_78 : decode cX12_plan 78 = .ok (.invokevirtual 224, 3) := by decide +kernel
theorem dX12_plan_81 : decode cX12_plan 81 = .ok (.ireturn, 1) := by decide +kernel
theorem dX12_plan_82 : decode cX12_plan 82 = .ok (.aload_n 0, 1) := by decide +kernel
theorem dX12_plan_83 : decode cX12_plan 83 = .ok (.getfield 45, 3) := by decide +kernel
theorem dX12_plan_86 : decode cX12_plan 86 = .ok (.iload 4, 2) := by decide +kernel
theorem dX12_plan_88 : decode cX12_plan 88 = .ok (.iload_n 2, 1) := by decide +kernel
theorem dX12_plan_89 : decode cX12_plan 89 = .ok (.iload 4, 2) := by decide +kernel
theorem dX12_plan_91 : decode cX12_plan 91 = .ok (.invokestatic 288, 3) := by decide +kernel
theorem dX12_plan_94 : decode cX12_plan 94 = .ok (.ifCond .eq 20, 3) := by decide +kernel
theorem dX12_plan_97 : decode cX12_plan 97 = .ok (.sipush 1728, 3) := by decide +kernel
theorem dX12_plan_100 : decode cX12_plan 100 = .ok (.aload_n 0, 1) := by decide +kernel
theorem dX12_plan_101 : decode cX12_plan 101 = .ok (.getfield 13, 3) := by decide +kernel
theorem dX12_plan_104 : decode cX12_plan 104 = .ok (.bipush 37, 2) := by decide +kernel
theorem dX12_plan_106 : decode cX12_plan 106 = .ok (.iload 4, 2) := by decide +kernel
theorem dX12_plan_108 : decode cX12_plan 108 = .ok (.iadd, 1) := by decide +kernel
theorem dX12_plan_109 : decode cX12_plan 109 = .ok (.iaload, 1) := by decide +kernel
theorem dX12_plan_110 : decode cX12_plan 110 = .ok (.imul, 1) := by decide +kernel
theorem dX12_plan_111 : decode cX12_plan 111 = .ok (.goto 4, 3) := by decide +kernel
theorem dX12_plan_114 : decode cX12_plan 114 = .ok (.iconst 0, 1) := by decide +kernel
theorem dX12_plan_115 : decode cX12_plan 115 = .ok (.iastore, 1) := by decide +kernel
theorem dX12_plan_116 : decode cX12_plan 116 = .ok (.iinc 4 1, 3) := by decide +kernel
theorem dX12_plan_119 : decode cX12_plan 119 = .ok (.goto (-72), 3) := by decide +kernel
theorem dX12_plan_122 : decode cX12_plan 122 = .ok (.aload_n 0, 1) := by decide +kernel
theorem dX12_plan_123 : decode cX12_plan 123 = .ok (.iconst 0, 1) := by decide +kernel
theorem dX12_plan_124 : decode cX12_plan 124 = .ok (.invokevirtual 300, 3) := by decide +kernel
theorem dX12_plan_127 : decode cX12_plan 127 = .ok (.istore 4, 2) := by decide +kernel
theorem dX12_plan_129 : decode cX12_plan 129 = .ok (.aload_n 0, 1) := by decide +kernel
theorem dX12_plan_130 : decode cX12_plan 130 = .ok (.ldc_w 313, 3) := by decide +kernel
theorem dX12_plan_133 : decode cX12_plan 133 = .ok (.putfield 294, 3) := by decide +kernel
theorem dX12_plan_136 : decode cX12_plan 136 = .ok (.aload_n 0, 1) := by decide +kernel
theorem dX12_plan_137 : decode cX12_plan 137 = .ok (.iload_n 1, 1) := by decide +kernel
theorem dX12_plan_138 : decode cX12_plan 138 = .ok (.iconst 0, 1) := by decide +kernel
theorem dX12_plan_139 : decode cX12_plan 139 = .ok (.iconst 0, 1) := by decide +kernel
theorem dX12_plan_140 : decode cX12_plan 140 = .ok (.iconst 0, 1) := by decide +kernel
theorem dX12_plan_141 : decode cX12_plan 141 = .ok (.invokevirtual 309, 3) := by decide +kernel
theorem dX12_plan_144 : decode cX12_plan 144 = .ok (.iload_n 3, 1) := by decide +kernel
theorem dX12_plan_145 : decode cX12_plan 145 = .ok (.ifCond .ne 10, 3) := by decide +kernel
theorem dX12_plan_148 : decode cX12_plan 148 = .ok (.aload_n 0, 1) := by decide +kernel
theorem dX12_plan_149 : decode cX12_plan 149 = .ok (.getfield 294, 3) := by decide +kernel
theorem dX12_plan_152 : decode cX12_plan 152 = .ok (.goto 5, 3) := by decide +kernel
theorem dX12_plan_155 : decode cX12_plan 155 = .ok (.iload 4, 2) := by decide +kernel
theorem dX12_plan_157 : decode cX12_plan 157 = .ok (.iload 4, 2) := by decide +kernel
theorem dX12_plan_159 : decode cX12_plan 159 = .ok (.aload_n 0, 1) := by decide +kernel
theorem dX12_plan_160 : decode cX12_plan 160 = .ok (.getfield 294, 3) := by decide +kernel
theorem dX12_plan_163 : decode cX12_plan 163 = .ok (.invokestatic 291, 3) := by decide +kernel
theorem dX12_plan_166 : decode cX12_plan 166 = .ok (.idiv, 1) := by decide +kernel
theorem dX12_plan_167 : decode cX12_plan 167 = .ok (.ireturn, 1) := by decide +kernel
theorem dX12_planAt_0 : decode cX12_planAt 0 = .ok (.aload_n 0, 1) := by decide +kernel
theorem dX12_planAt_1 : decode cX12_planAt 1 = .ok (.iconst 0, 1) := by decide +kernel
theorem dX12_planAt_2 : decode cX12_planAt 2 = .ok (.putfield 73, 3) := by decide +kernel
theorem dX12_planAt_5 : decode cX12_planAt 5 = .ok (.iload_n 1, 1) := by decide +kernel
theorem dX12_planAt_6 : decode cX12_planAt 6 = .ok (.iconst 0, 1) := by decide +kernel
theorem dX12_planAt_7 : decode cX12_planAt 7 = .ok (.aload_n 0, 1) := by decide +kernel
theorem dX12_planAt_8 : decode cX12_planAt 8 = .ok (.getfield 297, 3) := by decide +kernel
theorem dX12_planAt_11 : decode cX12_planAt 11 = .ok (.iconst 1, 1) := by decide +kernel
theorem dX12_planAt_12 : decode cX12_planAt 12 = .ok (.isub, 1) := by decide +kernel
theorem dX12_planAt_13 : decode cX12_planAt 13 = .ok (.invokestatic 140, 3) := by decide +kernel
theorem dX12_planAt_16 : decode cX12_planAt 16 = .ok (.ifCond .eq 12, 3) := by decide +kernel
theorem dX12_planAt_19 : decode cX12_planAt 19 = .ok (.aload_n 0, 1) := by decide +kernel
theorem dX12_planAt_20 : decode cX12_planAt 20 = .ok (.getfield 51, 3) := by decide +kernel
theorem dX12_planAt_23 : decode cX12_planAt 23 = .ok (.iload_n 1, 1) := by decide +kernel
theorem dX12_planAt_24 : decode cX12_planAt 24 = .ok (.iaload, 1) := by decide +kernel
theorem dX12_planAt_25 : decode cX12_planAt 25 = .ok (.goto 4, 3) := by decide +kernel
theorem dX12_planAt_28 : decode cX12_planAt 28 = .ok (.iconst (-1), 1) := by decide +kernel
theorem dX12_planAt_29 : decode cX12_planAt 29 = .ok (.ireturn, 1) := by decide +kernel
theorem dX12_startOf_0 : decode cX12_startOf 0 = .ok (.aload_n 0, 1) := by decide +kernel
theorem dX12_startOf_1 : decode cX12_startOf 1 = .ok (.getfield 13, 3) := by decide +kernel
theorem dX12_startOf_4 : decode cX12_startOf 4 = .ok (.bipush 15, 2) := by decide +kernel
theorem dX12_startOf_6 : decode cX12_startOf 6 = .ok (.iload_n 1, 1) := by decide +kernel
theorem dX12_startOf_7 : decode cX12_startOf 7 = .ok (.iadd, 1) := by decide +kernel
theorem dX12_startOf_8 : decode cX12_startOf 8 = .ok (.iaload, 1) := by decide +kernel
theorem dX12_startOf_9 : decode cX12_startOf 9 = .ok (.istore_n 2, 1) := by decide +kernel
theorem dX12_startOf_10 : decode cX12_startOf 10 = .ok (.aload_n 0, 1) := by decide +kernel
theorem dX12_startOf_11 : decode cX12_startOf 11 = .ok (.getfield 13, 3) := by decide +kernel
theorem dX12_startOf_14 : decode cX12_startOf 14 = .ok (.bipush 9, 2) := by decide +kernel
theorem dX12_startOf_16 : decode cX12_startOf 16 = .ok (.iload_n 1, 1) := by decide +kernel
theorem dX12_startOf_17 : decode cX12_startOf 17 = .ok (.iadd, 1) := by decide +kernel
theorem dX12_startOf_18 : decode cX12_startOf 18 = .ok (.iaload, 1) := by decide +kernel
theorem dX12_startOf_19 : decode cX12_startOf 19 = .ok (.istore_n 3, 1) := by decide +kernel
theorem dX12_startOf_20 : decode cX12_startOf 20 = .ok (.iload_n 2, 1) := by decide +kernel
theorem dX12_startOf_21 : decode cX12_startOf 21 = .ok (.iconst (-1), 1) := by decide +kernel
theorem dX12_startOf_22 : decode cX12_startOf 22 = .ok (.if_icmp .ne 5, 3) := by decide +kernel
theorem dX12_startOf_25 : decode cX12_startOf 25 = .ok (.iload_n 3, 1) := by decide +kernel
theorem dX12_startOf_26 : decode cX12_startOf 26 = .ok (.ireturn, 1) := by decide +kernel
theorem dX12_startOf_27 : decode cX12_startOf 27 = .ok (.aload_n 0, 1) := by decide +kernel
theorem dX12_startOf_28 : decode cX12_startOf 28 = .ok (.iload_n 2, 1) := by decide +kernel
theorem dX12_startOf_29 : decode cX12_startOf 29 = .ok (.invokevirtual 314, 3) := by decide +kernel
theorem dX12_startOf_32 : decode cX12_startOf 32 = .ok (.aload_n 0, 1) := by decide +kernel
theorem dX12_startOf_33 : decode cX12_startOf 33 = .ok (.getfield 13, 3) := by decide +kernel
theorem dX12_startOf_36 : decode cX12_startOf 36 = .ok (.iconst 3, 1) := by decide +kernel
theorem dX12_startOf_37 : decode cX12_startOf 37 = .ok (.iload_n 2, 1) := by decide +kernel
theorem dX12_startOf_38 : decode cX12_startOf 38 = .ok (.iadd, 1) := by decide +kernel
theorem dX12_startOf_39 : decode cX12_startOf 39 = .ok (.iaload, 1) := by decide +kernel
theorem dX12_startOf_40 : decode cX12_startOf 40 = .ok (.iadd, 1) := by decide +kernel
theorem dX12_startOf_41 : decode cX12_startOf 41 = .ok (.aload_n 0, 1) := by decide +kernel
theorem dX12_startOf_42 : decode cX12_startOf 42 = .ok (.getfield 13, 3) := by decide +kernel
theorem dX12_startOf_45 : decode cX12_startOf 45 = .ok (.iconst 3, 1) := by decide +kernel
theorem dX12_startOf_46 : decode cX12_startOf 46 = .ok (.iload_n 1, 1) := by decide +kernel
theorem dX12_startOf_47 : decode cX12_startOf 47 = .ok (.iadd, 1) := by decide +kernel
theorem dX12_startOf_48 : decode cX12_startOf 48 = .ok (.iaload, 1) := by decide +kernel
theorem dX12_startOf_49 : decode cX12_startOf 49 = .ok (.isub, 1) := by decide +kernel
theorem dX12_startOf_50 : decode cX12_startOf 50 = .ok (.istore 4, 2) := by decide +kernel
theorem dX12_startOf_52 : decode cX12_startOf 52 = .ok (.iload_n 3, 1) := by decide +kernel
theorem dX12_startOf_53 : decode cX12_startOf 53 = .ok (.iload 4, 2) := by decide +kernel
theorem dX12_startOf_55 : decode cX12_startOf 55 = .ok (.if_icmp .le 7, 3) := by decide +kernel
theorem dX12_startOf_58 : decode cX12_startOf 58 = .ok (.iload_n 3, 1) := by decide +kernel
theorem dX12_startOf_59 : decode cX12_startOf 59 = .ok (.goto 5, 3) := by decide +kernel
theorem dX12_startOf_62 : decode cX12_startOf 62 = .ok (.iload 4, 2) := by decide +kernel
theorem dX12_startOf_64 : decode cX12_startOf 64 = .ok (.ireturn, 1) := by decide +kernel
theorem dX12_ready_0 : decode cX12_ready 0 = .ok (.aload_n 0, 1) := by decide +kernel
theorem dX12_ready_1 : decode cX12_ready 1 = .ok (.iconst 0, 1) := by decide +kernel
theorem dX12_ready_2 : decode cX12_ready 2 = .ok (.putfield 73, 3) := by decide +kernel
theorem dX12_ready_5 : decode cX12_ready 5 = .ok (.aload_n 0, 1) := by decide +kernel
theorem dX12_ready_6 : decode cX12_ready 6 = .ok (.iload_n 1, 1) := by decide +kernel
theorem dX12_ready_7 : decode cX12_ready 7 = .ok (.invokevirtual 221, 3) := by decide +kernel
theorem dX12_ready_10 : decode cX12_ready 10 = .ok (.ifCond .eq 20, 3) := by decide +kernel
theorem dX12_ready_13 : decode cX12_ready 13 = .ok (.aload_n 0, 1) := by decide +kernel
theorem dX12_ready_14 : decode cX12_ready 14 = .ok (.iload_n 1, 1) := by decide +kernel
theorem dX12_ready_15 : decode cX12_ready 15 = .ok (.invokevirtual 314, 3) := by decide +kernel
theorem dX12_ready_18 : decode cX12_ready 18 = .ok (.aload_n 0, 1) := by decide +kernel
theorem dX12_ready_19 : decode cX12_ready 19 = .ok (.getfield 13, 3) := by decide +kernel
theorem dX12_ready_22 : decode cX12_ready 22 = .ok (.iconst 3, 1) := by decide +kernel
theorem dX12_ready_23 : decode cX12_ready 23 = .ok (.iload_n 1, 1) := by decide +kernel
theorem dX12_ready_24 : decode cX12_ready 24 = .ok (.iadd, 1) := by decide +kernel
theorem dX12_ready_25 : decode cX12_ready 25 = .ok (.iaload, 1) := by decide +kernel
theorem dX12_ready_26 : decode cX12_ready 26 = .ok (.iadd, 1) := by decide +kernel
theorem dX12_ready_27 : decode cX12_ready 27 = .ok (.goto 4, 3) := by decide +kernel
theorem dX12_ready_30 : decode cX12_ready 30 = .ok (.iconst (-1), 1) := by decide +kernel
theorem dX12_ready_31 : decode cX12_ready 31 = .ok (.ireturn, 1) := by decide +kernel
theorem dX12_starts_0 : decode cX12_starts 0 = .ok (.aload_n 0, 1) := by decide +kernel
theorem dX12_starts_1 : decode cX12_starts 1 = .ok (.iconst 0, 1) := by decide +kernel
theorem dX12_starts_2 : decode cX12_starts 2 = .ok (.putfield 73, 3) := by decide +kernel
theorem dX12_starts_5 : decode cX12_starts 5 = .ok (.aload_n 0, 1) := by decide +kernel
theorem dX12_starts_6 : decode cX12_starts 6 = .ok (.iload_n 1, 1) := by decide +kernel
theorem dX12_starts_7 : decode cX12_starts 7 = .ok (.invokevirtual 221, 3) := by decide +kernel
theorem dX12_starts_10 : decode cX12_starts 10 = .ok (.ifCond .eq 11, 3) := by decide +kernel
theorem dX12_starts_13 : decode cX12_starts 13 = .ok (.aload_n 0, 1) := by decide +kernel
theorem dX12_starts_14 : decode cX12_starts 14 = .ok (.iload_n 1, 1) := by decide +kernel
theorem dX12_starts_15 : decode cX12_starts 15 = .ok (.invokevirtual 314, 3) := by decide +kernel
theorem dX12_starts_18 : decode cX12_starts 18 = .ok (.goto 4, 3) := by decide +kernel
theorem dX12_starts_21 : decode cX12_starts 21 = .ok (.iconst (-1), 1) := by decide +kernel
theorem dX12_starts_22 : decode cX12_starts 22 = .ok (.ireturn, 1) := by decide +kernel
theorem dX12_helped_0 : decode cX12_helped 0 = .ok (.aload_n 0, 1) := by decide +kernel
theorem dX12_helped_1 : decode cX12_helped 1 = .ok (.iconst 0, 1) := by decide +kernel
theorem dX12_helped_2 : decode cX12_helped 2 = .ok (.putfield 73, 3) := by decide +kernel
theorem dX12_helped_5 : decode cX12_helped 5 = .ok (.aload_n 0, 1) := by decide +kernel
theorem dX12_helped_6 : decode cX12_helped 6 = .ok (.invokevirtual 153, 3) := by decide +kernel
theorem dX12_helped_9 : decode cX12_helped 9 = .ok (.istore_n 1, 1) := by decide +kernel
theorem dX12_helped_10 : decode cX12_helped 10 = .ok (.iload_n 1, 1) := by decide +kernel
theorem dX12_helped_11 : decode cX12_helped 11 = .ok (.iconst 2, 1) := by decide +kernel
theorem dX12_helped_12 : decode cX12_helped 12 = .ok (.irem, 1) := by decide +kernel
theorem dX12_helped_13 : decode cX12_helped 13 = .ok (.ifCond .ne 15, 3) := by decide +kernel
theorem dX12_helped_16 : decode cX12_helped 16 = .ok (.iload_n 1, 1) := by decide +kernel
theorem dX12_helped_17 : decode cX12_helped 17 = .ok (.iconst 2, 1) := by decide +kernel
theorem dX12_helped_18 : decode cX12_helped 18 = .ok (.idiv, 1) := by decide +kernel
theorem dX12_helped_19 : decode cX12_helped 19 = .ok (.iconst 2, 1) := by decide +kernel
theorem dX12_helped_20 : decode cX12_helped 20 = .ok (.bipush 10, 2) := by decide +kernel
theorem dX12_helped_22 : decode cX12_helped 22 = .ok (.invokestatic 140, 3) := by decide +kernel
theorem dX12_helped_25 : decode cX12_helped 25 = .ok (.ifCond .ne 8, 3) := by decide +kernel
theorem dX12_helped_28 : decode cX12_helped 28 = .ok (.aload_n 0, 1) := by decide +kernel
theorem dX12_helped_29 : decode cX12_helped 29 = .ok (.invokevirtual 224, 3) := by decide +kernel
theorem dX12_helped_32 : decode cX12_helped 32 = .ok (.ireturn, 1) := by decide +kernel
theorem dX12_helped_33 : decode cX12_helped 33 = .ok (.iconst 0, 1) := by decide +kernel
theorem dX12_helped_34 : decode cX12_helped 34 = .ok (.istore_n 2, 1) := by decide +kernel
theorem dX12_helped_35 : decode cX12_helped 35 = .ok (.iconst 0, 1) := by decide +kernel
theorem dX12_helped_36 : decode cX12_helped 36 = .ok (.istore_n 3, 1) := by decide +kernel
theorem dX12_helped_37 : decode cX12_helped 37 = .ok (.iconst 0, 1) := by decide +kernel
theorem dX12_helped_38 : decode cX12_helped 38 = .ok (.istore 4, 2) := by decide +kernel
theorem dX12_helped_40 : decode cX12_helped 40 = .ok (.iload 4, 2) := by decide +kernel
theorem dX12_helped_42 : decode cX12_helped 42 = .ok (.iload_n 1, 1) := by decide +kernel
theorem dX12_helped_43 : decode cX12_helped 43 = .ok (.if_icmp .ge 55, 3) := by decide +kernel
theorem dX12_helped_46 : decode cX12_helped 46 = .ok (.aload_n 0, 1) := by decide +kernel
theorem dX12_helped_47 : decode cX12_helped 47 = .ok (.getfield 7, 3) := by decide +kernel
theorem dX12_helped_50 : decode cX12_helped 50 = .ok (.iload 4, 2) := by decide +kernel
theorem dX12_helped_52 : decode cX12_helped 52 = .ok (.iaload, 1) := by decide +kernel
theorem dX12_helped_53 : decode cX12_helped 53 = .ok (.iconst 1, 1) := by decide +kernel
theorem dX12_helped_54 : decode cX12_helped 54 = .ok (.if_icmp .le 8, 3) := by decide +kernel
theorem dX12_helped_57 : decode cX12_helped 57 = .ok (.aload_n 0, 1) := by decide +kernel
theorem dX12_helped_58 : decode cX12_helped 58 = .ok (.invokevirtual 224, 3) := by decide +kernel
theorem dX12_helped_61 : decode cX12_helped 61 = .ok (.ireturn, 1) := by decide +kernel
theorem dX12_helped_62 : decode cX12_helped 62 = .ok (.iload_n 2, 1) := by decide +kernel
theorem dX12_helped_63 : decode cX12_helped 63 = .ok (.aload_n 0, 1) := by decide +kernel
theorem dX12_helped_64 : decode cX12_helped 64 = .ok (.getfield 7, 3) := by decide +kernel
theorem dX12_helped_67 : decode cX12_helped 67 = .ok (.iload 4, 2) := by decide +kernel
theorem dX12_helped_69 : decode cX12_helped 69 = .ok (.iaload, 1) := by decide +kernel
theorem dX12_helped_70 : decode cX12_helped 70 = .ok (.iadd, 1) := by decide +kernel
theorem dX12_helped_71 : decode cX12_helped 71 = .ok (.istore_n 2, 1) := by decide +kernel
theorem dX12_helped_72 : decode cX12_helped 72 = .ok (.iload_n 3, 1) := by decide +kernel
theorem dX12_helped_73 : decode cX12_helped 73 = .ok (.aload_n 0, 1) := by decide +kernel
theorem dX12_helped_74 : decode cX12_helped 74 = .ok (.getfield 7, 3) := by decide +kernel
theorem dX12_helped_77 : decode cX12_helped 77 = .ok (.iload 4, 2) := by decide +kernel
theorem dX12_helped_79 : decode cX12_helped 79 = .ok (.iaload, 1) := by decide +kernel
theorem dX12_helped_80 : decode cX12_helped 80 = .ok (.aload_n 0, 1) := by decide +kernel
theorem dX12_helped_81 : decode cX12_helped 81 = .ok (.getfield 7, 3) := by decide +kernel
theorem dX12_helped_84 : decode cX12_helped 84 = .ok (.iload 4, 2) := by decide +kernel
theorem dX12_helped_86 : decode cX12_helped 86 = .ok (.iconst 1, 1) := by decide +kernel
theorem dX12_helped_87 : decode cX12_helped 87 = .ok (.iadd, 1) := by decide +kernel
theorem dX12_helped_88 : decode cX12_helped 88 = .ok (.iaload, 1) := by decide +kernel
theorem dX12_helped_89 : decode cX12_helped 89 = .ok (.imul, 1) := by decide +kernel
theorem dX12_helped_90 : decode cX12_helped 90 = .ok (.iadd, 1) := by decide +kernel
theorem dX12_helped_91 : decode cX12_helped 91 = .ok (.istore_n 3, 1) := by decide +kernel
theorem dX12_helped_92 : decode cX12_helped 92 = .ok (.iinc 4 2, 3) := by decide +kernel
theorem dX12_helped_95 : decode cX12_helped 95 = .ok (.goto (-55), 3) := by decide +kernel
theorem dX12_helped_98 : decode cX12_helped 98 = .ok (.iload_n 1, 1) := by decide +kernel
theorem dX12_helped_99 : decode cX12_helped 99 = .ok (.iconst 2, 1) := by decide +kernel
theorem dX12_helped_100 : decode cX12_helped 100 = .ok (.idiv, 1) := by decide +kernel
theorem dX12_helped_101 : decode cX12_helped 101 = .ok (.istore_n 1, 1) := by decide +kernel
theorem dX12_helped_102 : decode cX12_helped 102 = .ok (.iload_n 2, 1) := by decide +kernel
theorem dX12_helped_103 : decode cX12_helped 103 = .ok (.ifCond .eq 8, 3) := by decide +kernel
theorem dX12_helped_106 : decode cX12_helped 106 = .ok (.iload_n 2, 1) := by decide +kernel
theorem dX12_helped_107 : decode cX12_helped 107 = .ok (.iload_n 1, 1) := by decide +kernel
theorem dX12_helped_108 : decode cX12_helped 108 = .ok (.if_icmp .ne 8, 3) := by decide +kernel
theorem dX12_helped_111 : decode cX12_helped 111 = .ok (.aload_n 0, 1) := by decide +kernel
theorem dX12_helped_112 : decode cX12_helped 112 = .ok (.invokevirtual 224, 3) := by decide +kernel
theorem dX12_helped_115 : decode cX12_helped 115 = .ok (.ireturn, 1) := by decide +kernel
theorem dX12_helped_116 : decode cX12_helped 116 = .ok (.iconst 0, 1) := by decide +kernel
theorem dX12_helped_117 : decode cX12_helped 117 = .ok (.istore 4, 2) := by decide +kernel
theorem dX12_helped_119 : decode cX12_helped 119 = .ok (.aload_n 0, 1) := by decide +kernel
theorem dX12_helped_120 : decode cX12_helped 120 = .ok (.iconst 0, 1) := by decide +kernel
theorem dX12_helped_121 : decode cX12_helped 121 = .ok (.putfield 54, 3) := by decide +kernel
theorem dX12_helped_124 : decode cX12_helped 124 = .ok (.iconst 0, 1) := by decide +kernel
theorem dX12_helped_125 : decode cX12_helped 125 = .ok (.istore 5, 2) := by decide +kernel
theorem dX12_helped_127 : decode cX12_helped 127 = .ok (.iload 5, 2) := by decide +kernel
theorem dX12_helped_129 : decode cX12_helped 129 = .ok (.iconst 1, 1) := by decide +kernel
theorem dX12_helped_130 : decode cX12_helped 130 = .ok (.iload_n 1, 1) := by decide +kernel
theorem dX12_helped_131 : decode cX12_helped 131 = .ok (.ishl, 1) := by decide +kernel
theorem dX12_helped_132 : decode cX12_helped 132 = .ok (.if_icmp .ge 84, 3) := by decide +kernel
theorem dX12_helped_135 : decode cX12_helped 135 = .ok (.iload 5, 2) := by decide +kernel
theorem dX12_helped_137 : decode cX12_helped 137 = .ok (.invokestatic 317, 3) := by decide +kernel
theorem dX12_helped_140 : decode cX12_helped 140 = .ok (.iload_n 2, 1) := by decide +kernel
theorem dX12_helped_141 : decode cX12_helped 141 = .ok (.if_icmp .eq 6, 3) := by decide +kernel
theorem dX12_helped_144 : decode cX12_helped 144 = .ok (.goto 66, 3) := by decide +kernel
theorem dX12_helped_147 : decode cX12_helped 147 = .ok (.aload_n 0, 1) := by decide +kernel
theorem dX12_helped_148 : decode cX12_helped 148 = .ok (.dup, 1) := by decide +kernel
theorem dX12_helped_149 : decode cX12_helped 149 = .ok (.getfield 54, 3) := by decide +kernel
theorem dX12_helped_152 : decode cX12_helped 152 = .ok (.iconst 1, 1) := by decide +kernel
theorem dX12_helped_153 : decode cX12_helped 153 = .ok (.iadd, 1) := by decide +kernel
theorem dX12_helped_154 : decode cX12_helped 154 = .ok (.putfield 54, 3) := by decide +kernel
theorem dX12_helped_157 : decode cX12_helped 157 = .ok (.iconst 0, 1) := by decide +kernel
theorem dX12_helped_158 : decode cX12_helped 158 = .ok (.istore 6, 2) := by decide +kernel
theorem dX12_helped_160 : decode cX12_helped 160 = .ok (.iconst 0, 1) := by decide +kernel
theorem dX12_helped_161 : decode cX12_helped 161 = .ok (.istore 7, 2) := by decide +kernel
theorem dX12_helped_163 : decode cX12_helped 163 = .ok (.iload 7, 2) := by decide +kernel
theorem dX12_helped_165 : decode cX12_helped 165 = .ok (.iload_n 1, 1) := by decide +kernel
theorem dX12_helped_166 : decode cX12_helped 166 = .ok (.if_icmp .ge 35, 3) := by decide +kernel
theorem dX12_helped_169 : decode cX12_helped 169 = .ok (.iload 5, 2) := by decide +kernel
theorem dX12_helped_171 : decode cX12_helped 171 = .ok (.iload 7, 2) := by decide +kernel
theorem dX12_helped_173 : decode cX12_helped 173 = .ok (.invokestatic 288, 3) := by decide +kernel
theorem dX12_helped_176 : decode cX12_helped 176 = .ok (.ifCond .eq 19, 3) := by decide +kernel
theorem dX12_helped_179 : decode cX12_helped 179 = .ok (.iload 6, 2) := by decide +kernel
theorem dX12_helped_181 : decode cX12_helped 181 = .ok (.aload_n 0, 1) := by decide +kernel
theorem dX12_helped_182 : decode cX12_helped 182 = .ok (.getfield 7, 3) := by decide +kernel
theorem dX12_helped_185 : decode cX12_helped 185 = .ok (.iconst 2, 1) := by decide +kernel
theorem dX12_helped_186 : decode cX12_helped 186 = .ok (.iload 7, 2) := by decide +kernel
theorem dX12_helped_188 : decode cX12_helped 188 = .ok (.imul, 1) := by decide +kernel
theorem dX12_helped_189 : decode cX12_helped 189 = .ok (.iconst 1, 1) := by decide +kernel
theorem dX12_helped_190 : decode cX12_helped 190 = .ok (.iadd, 1) := by decide +kernel
theorem dX12_helped_191 : decode cX12_helped 191 = .ok (.iaload, 1) := by decide +kernel
theorem dX12_helped_192 : decode cX12_helped 192 = .ok (.iadd, 1) := by decide +kernel
theorem dX12_helped_193 : decode cX12_helped 193 = .ok (.istore 6, 2) := by decide +kernel
theorem dX12_helped_195 : decode cX12_helped 195 = .ok (.iinc 7 1, 3) := by decide +kernel
theorem dX12_helped_198 : decode cX12_helped 198 = .ok (.goto (-35), 3) := by decide +kernel
theorem dX12_helped_201 : decode cX12_helped 201 = .ok (.iload 6, 2) := by decide +kernel
theorem dX12_helped_203 : decode cX12_helped 203 = .ok (.iload_n 3, 1) := by decide +kernel
theorem dX12_helped_204 : decode cX12_helped 204 = .ok (.if_icmp .gt 6, 3) := by decide +kernel
theorem dX12_helped_207 : decode cX12_helped 207 = .ok (.iinc 4 1, 3) := by decide +kernel
theorem dX12_helped_210 : decode cX12_helped 210 = .ok (.iinc 5 1, 3) := by decide +kernel
theorem dX12_helped_213 : decode cX12_helped 213 = .ok (.goto (-86), 3) := by decide +kernel
theorem dX12_helped_216 : decode cX12_helped 216 = .ok (.iload 4, 2) := by decide +kernel
theorem dX12_helped_218 : decode cX12_helped 218 = .ok (.ireturn, 1) := by decide +kernel
theorem dX12_lots_0 : decode cX12_lots 0 = .ok (.aload_n 0, 1) := by decide +kernel
theorem dX12_lots_1 : decode cX12_lots 1 = .ok (.iconst 0, 1) := by decide +kernel
theorem dX12_lots_2 : decode cX12_lots 2 = .ok (.putfield 73, 3) := by decide +kernel
theorem dX12_lots_5 : decode cX12_lots 5 = .ok (.aload_n 0, 1) := by decide +kernel
theorem dX12_lots_6 : decode cX12_lots 6 = .ok (.getfield 54, 3) := by decide +kernel
theorem dX12_lots_9 : decode cX12_lots 9 = .ok (.ireturn, 1) := by decide +kernel
theorem dX12_areAlike_0 : decode cX12_areAlike 0 = .ok (.aload_n 0, 1) := by decide +kernel
theorem dX12_areAlike_1 : decode cX12_areAlike 1 = .ok (.getfield 13, 3) := by decide +kernel
theorem dX12_areAlike_4 : decode cX12_areAlike 4 = .ok (.bipush 21, 2) := by decide +kernel
theorem dX12_areAlike_6 : decode cX12_areAlike 6 = .ok (.iload_n 1, 1) := by decide +kernel
theorem dX12_areAlike_7 : decode cX12_areAlike 7 = .ok (.iadd, 1) := by decide +kernel
theorem dX12_areAlike_8 : decode cX12_areAlike 8 = .ok (.iaload, 1) := by decide +kernel
theorem dX12_areAlike_9 : decode cX12_areAlike 9 = .ok (.aload_n 0, 1) := by decide +kernel
theorem dX12_areAlike_10 : decode cX12_areAlike 10 = .ok (.getfield 13, 3) := by decide +kernel
theorem dX12_areAlike_13 : decode cX12_areAlike 13 = .ok (.bipush 21, 2) := by decide +kernel
theorem dX12_areAlike_15 : decode cX12_areAlike 15 = .ok (.iload_n 2, 1) := by decide +kernel
theorem dX12_areAlike_16 : decode cX12_areAlike 16 = .ok (.iadd, 1) := by decide +kernel
theorem dX12_areAlike_17 : decode cX12_areAlike 17 = .ok (.iaload, 1) := by decide +kernel
theorem dX12_areAlike_18 : decode cX12_areAlike 18 = .ok (.if_icmp .ne 28, 3) := by decide +kernel
theorem dX12_areAlike_21 : decode cX12_areAlike 21 = .ok (.aload_n 0, 1) := by decide +kernel
theorem dX12_areAlike_22 : decode cX12_areAlike 22 = .ok (.getfield 13, 3) := by decide +kernel
theorem dX12_areAlike_25 : decode cX12_areAlike 25 = .ok (.bipush 45, 2) := by decide +kernel
theorem dX12_areAlike_27 : decode cX12_areAlike 27 = .ok (.iload_n 1, 1) := by decide +kernel
theorem dX12_areAlike_28 : decode cX12_areAlike 28 = .ok (.iadd, 1) := by decide +kernel
theorem dX12_areAlike_29 : decode cX12_areAlike 29 = .ok (.iaload, 1) := by decide +kernel
theorem dX12_areAlike_30 : decode cX12_areAlike 30 = .ok (.aload_n 0, 1) := by decide +kernel
theorem dX12_areAlike_31 : decode cX12_areAlike 31 = .ok (.getfield 13, 3) := by decide +kernel
theorem dX12_areAlike_34 : decode cX12_areAlike 34 = .ok (.bipush 45, 2) := by decide +kernel
theorem dX12_areAlike_36 : decode cX12_areAlike 36 = .ok (.iload_n 2, 1) := by decide +kernel
theorem dX12_areAlike_37 : decode cX12_areAlike 37 = .ok (.iadd, 1) := by decide +kernel
theorem dX12_areAlike_38 : decode cX12_areAlike 38 = .ok (.iaload, 1) := by decide +kernel
theorem dX12_areAlike_39 : decode cX12_areAlike 39 = .ok (.if_icmp .ne 7, 3) := by decide +kernel
theorem dX12_areAlike_42 : decode cX12_areAlike 42 = .ok (.iconst 1, 1) := by decide +kernel
theorem dX12_areAlike_43 : decode cX12_areAlike 43 = .ok (.goto 4, 3) := by decide +kernel
theorem dX12_areAlike_46 : decode cX12_areAlike 46 = .ok (.iconst 0, 1) := by decide +kernel
theorem dX12_areAlike_47 : decode cX12_areAlike 47 = .ok (.ireturn, 1) := by decide +kernel
theorem dX12_alike_0 : decode cX12_alike 0 = .ok (.aload_n 0, 1) := by decide +kernel
theorem dX12_alike_1 : decode cX12_alike 1 = .ok (.iconst 0, 1) := by decide +kernel
theorem dX12_alike_2 : decode cX12_alike 2 = .ok (.putfield 73, 3) := by decide +kernel
theorem dX12_alike_5 : decode cX12_alike 5 = .ok (.aload_n 0, 1) := by decide +kernel
theorem dX12_alike_6 : decode cX12_alike 6 = .ok (.iload_n 1, 1) := by decide +kernel
theorem dX12_alike_7 : decode cX12_alike 7 = .ok (.invokevirtual 230, 3) := by decide +kernel
theorem dX12_alike_10 : decode cX12_alike 10 = .ok (.ifCond .ne 5, 3) := by decide +kernel
theorem dX12_alike_13 : decode cX12_alike 13 = .ok (.iconst (-1), 1) := by decide +kernel
theorem dX12_alike_14 : decode cX12_alike 14 = .ok (.ireturn, 1) := by decide +kernel
theorem dX12_alike_15 : decode cX12_alike 15 = .ok (.iconst 0, 1) := by decide +kernel
theorem dX12_alike_16 : decode cX12_alike 16 = .ok (.istore_n 2, 1) := by decide +kernel
theorem dX12_alike_17 : decode cX12_alike 17 = .ok (.iconst 0, 1) := by decide +kernel
theorem dX12_alike_18 : decode cX12_alike 18 = .ok (.istore_n 3, 1) := by decide +kernel
theorem dX12_alike_19 : decode cX12_alike 19 = .ok (.iload_n 3, 1) := by decide +kernel
theorem dX12_alike_20 : decode cX12_alike 20 = .ok (.aload_n 0, 1) := by decide +kernel
theorem dX12_alike_21 : decode cX12_alike 21 = .ok (.getfield 13, 3) := by decide +kernel
theorem dX12_alike_24 : decode cX12_alike 24 = .ok (.iconst 1, 1) := by decide +kernel
theorem dX12_alike_25 : decode cX12_alike 25 = .ok (.iaload, 1) := by decide +kernel
theorem dX12_alike_26 : decode cX12_alike 26 = .ok (.if_icmp .ge 29, 3) := by decide +kernel
theorem dX12_alike_29 : decode cX12_alike 29 = .ok (.iload_n 3, 1) := by decide +kernel
theorem dX12_alike_30 : decode cX12_alike 30 = .ok (.iload_n 1, 1) := by decide +kernel
theorem dX12_alike_31 : decode cX12_alike 31 = .ok (.if_icmp .eq 18, 3) := by decide +kernel
theorem dX12_alike_34 : decode cX12_alike 34 = .ok (.aload_n 0, 1) := by decide +kernel
theorem dX12_alike_35 : decode cX12_alike 35 = .ok (.iload_n 1, 1) := by decide +kernel
theorem dX12_alike_36 : decode cX12_alike 36 = .ok (.iload_n 3, 1) := by decide +kernel
theorem dX12_alike_37 : decode cX12_alike 37 = .ok (.invokevirtual 320, 3) := by decide +kernel
theorem dX12_alike_40 : decode cX12_alike 40 = .ok (.ifCond .eq 9, 3) := by decide +kernel
theorem dX12_alike_43 : decode cX12_alike 43 = .ok (.iload_n 2, 1) := by decide +kernel
theorem dX12_alike_44 : decode cX12_alike 44 = .ok (.iconst 1, 1) := by decide +kernel
theorem dX12_alike_45 : decode cX12_alike 45 = .ok (.iload_n 3, 1) := by decide +kernel
theorem dX12_alike_46 : decode cX12_alike 46 = .ok (.ishl, 1) := by decide +kernel
theorem dX12_alike_47 : decode cX12_alike 47 = .ok (.ior, 1) := by decide +kernel
theorem dX12_alike_48 : decode cX12_alike 48 = .ok (.istore_n 2, 1) := by decide +kernel
theorem dX12_alike_49 : decode cX12_alike 49 = .ok (.iinc 3 1, 3) := by decide +kernel
theorem dX12_alike_52 : decode cX12_alike 52 = .ok (.goto (-33), 3) := by decide +kernel
theorem dX12_alike_55 : decode cX12_alike 55 = .ok (.iload_n 2, 1) := by decide +kernel
theorem dX12_alike_56 : decode cX12_alike 56 = .ok (.ireturn, 1) := by decide +kernel
theorem dX12_kinds_0 : decode cX12_kinds 0 = .ok (.aload_n 0, 1) := by decide +kernel
theorem dX12_kinds_1 : decode cX12_kinds 1 = .ok (.iconst 0, 1) := by decide +kernel
theorem dX12_kinds_2 : decode cX12_kinds 2 = .ok (.putfield 73, 3) := by decide +kernel
theorem dX12_kinds_5 : decode cX12_kinds 5 = .ok (.iconst 0, 1) := by decide +kernel
theorem dX12_kinds_6 : decode cX12_kinds 6 = .ok (.istore_n 1, 1) := by decide +kernel
theorem dX12_kinds_7 : decode cX12_kinds 7 = .ok (.iconst 0, 1) := by decide +kernel
