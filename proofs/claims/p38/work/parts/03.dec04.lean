theorem dX5_weighDeed_50 : decode cX5_weighDeed 50 = .ok (.iinc 4 1, 3) := by decide +kernel
theorem dX5_weighDeed_53 : decode cX5_weighDeed 53 = .ok (.goto (-50), 3) := by decide +kernel
theorem dX5_weighDeed_56 : decode cX5_weighDeed 56 = .ok (.return_, 1) := by decide +kernel
theorem dX5_keepBetter_0 : decode cX5_keepBetter 0 = .ok (.aload_n 0, 1) := by decide +kernel
theorem dX5_keepBetter_1 : decode cX5_keepBetter 1 = .ok (.getfield 47, 3) := by decide +kernel
theorem dX5_keepBetter_4 : decode cX5_keepBetter 4 = .ok (.iconst (-1), 1) := by decide +kernel
theorem dX5_keepBetter_5 : decode cX5_keepBetter 5 = .ok (.if_icmp .eq 11, 3) := by decide +kernel
theorem dX5_keepBetter_8 : decode cX5_keepBetter 8 = .ok (.iload_n 2, 1) := by decide +kernel
theorem dX5_keepBetter_9 : decode cX5_keepBetter 9 = .ok (.aload_n 0, 1) := by decide +kernel
theorem dX5_keepBetter_10 : decode cX5_keepBetter 10 = .ok (.getfield 47, 3) := by decide +kernel
theorem dX5_keepBetter_13 : decode cX5_keepBetter 13 = .ok (.if_icmp .ge 27, 3) := by decide +kernel
theorem dX5_keepBetter_16 : decode cX5_keepBetter 16 = .ok (.aload_n 0, 1) := by decide +kernel
theorem dX5_keepBetter_17 : decode cX5_keepBetter 17 = .ok (.iload_n 2, 1) := by decide +kernel
theorem dX5_keepBetter_18 : decode cX5_keepBetter 18 = .ok (.putfield 47, 3) := by decide +kernel
theorem dX5_keepBetter_21 : decode cX5_keepBetter 21 = .ok (.aload_n 0, 1) := by decide +kernel
theorem dX5_keepBetter_22 : decode cX5_keepBetter 22 = .ok (.iload_n 1, 1) := by decide +kernel
theorem dX5_keepBetter_23 : decode cX5_keepBetter 23 = .ok (.putfield 69, 3) := by decide +kernel
theorem dX5_keepBetter_26 : decode cX5_keepBetter 26 = .ok (.aload_n 0, 1) := by decide +kernel
theorem dX5_keepBetter_27 : decode cX5_keepBetter 27 = .ok (.getfield 15, 3) := by decide +kernel
theorem dX5_keepBetter_30 : decode cX5_keepBetter 30 = .ok (.iconst 0, 1) := by decide +kernel
theorem dX5_keepBetter_31 : decode cX5_keepBetter 31 = .ok (.aload_n 0, 1) := by decide +kernel
theorem dX5_keepBetter_32 : decode cX5_keepBetter 32 = .ok (.getfield 9, 3) := by decide +kernel
theorem dX5_keepBetter_35 : decode cX5_keepBetter 35 = .ok (.iconst 0, 1) := by decide +kernel
theorem dX5_keepBetter_36 : decode cX5_keepBetter 36 = .ok (.iload_n 1, 1) := by decide +kernel
theorem dX5_keepBetter_37 : decode cX5_keepBetter 37 = .ok (.invokestatic 72, 3) := by decide +kernel
theorem dX5_keepBetter_40 : decode cX5_keepBetter 40 = .ok (.return_, 1) := by decide +kernel
theorem dX6_init_0 : decode cX6_init 0 = .ok (.aload_n 0, 1) := by decide +kernel
theorem dX6_init_1 : decode cX6_init 1 = .ok (.invokespecial 3, 3) := by decide +kernel
theorem dX6_init_4 : decode cX6_init 4 = .ok (.aload_n 0, 1) := by decide +kernel
theorem dX6_init_5 : decode cX6_init 5 = .ok (.new 9, 3) := by decide +kernel
theorem dX6_init_8 : decode cX6_init 8 = .ok (.dup, 1) := by decide +kernel
theorem dX6_init_9 : decode cX6_init 9 = .ok (.iconst 0, 1) := by decide +kernel
theorem dX6_init_10 : decode cX6_init 10 = .ok (.invokespecial 11, 3) := by decide +kernel
theorem dX6_init_13 : decode cX6_init 13 = .ok (.putfield 14, 3) := by decide +kernel
theorem dX6_init_16 : decode cX6_init 16 = .ok (.return_, 1) := by decide +kernel
theorem dX6_start_0 : decode cX6_start 0 = .ok (.aload_n 0, 1) := by decide +kernel
theorem dX6_start_1 : decode cX6_start 1 = .ok (.aload_n 1, 1) := by decide +kernel
theorem dX6_start_2 : decode cX6_start 2 = .ok (.putfield 14, 3) := by decide +kernel
theorem dX6_start_5 : decode cX6_start 5 = .ok (.aload_n 0, 1) := by decide +kernel
theorem dX6_start_6 : decode cX6_start 6 = .ok (.iload_n 2, 1) := by decide +kernel
theorem dX6_start_7 : decode cX6_start 7 = .ok (.putfield 20, 3) := by decide +kernel
theorem dX6_start_10 : decode cX6_start 10 = .ok (.aload_n 0, 1) := by decide +kernel
theorem dX6_start_11 : decode cX6_start 11 = .ok (.iconst 0, 1) := by decide +kernel
theorem dX6_start_12 : decode cX6_start 12 = .ok (.putfield 24, 3) := by decide +kernel
theorem dX6_start_15 : decode cX6_start 15 = .ok (.aload_n 0, 1) := by decide +kernel
theorem dX6_start_16 : decode cX6_start 16 = .ok (.iconst 0, 1) := by decide +kernel
theorem dX6_start_17 : decode cX6_start 17 = .ok (.putfield 27, 3) := by decide +kernel
theorem dX6_start_20 : decode cX6_start 20 = .ok (.aload_n 0, 1) := by decide +kernel
theorem dX6_start_21 : decode cX6_start 21 = .ok (.iconst 0, 1) := by decide +kernel
theorem dX6_start_22 : decode cX6_start 22 = .ok (.putfield 30, 3) := by decide +kernel
theorem dX6_start_25 : decode cX6_start 25 = .ok (.aload_n 0, 1) := by decide +kernel
theorem dX6_start_26 : decode cX6_start 26 = .ok (.invokevirtual 33, 3) := by decide +kernel
theorem dX6_start_29 : decode cX6_start 29 = .ok (.return_, 1) := by decide +kernel
theorem dX6_step_0 : decode cX6_step 0 = .ok (.aload_n 0, 1) := by decide +kernel
theorem dX6_step_1 : decode cX6_step 1 = .ok (.getfield 24, 3) := by decide +kernel
theorem dX6_step_4 : decode cX6_step 4 = .ok (.istore_n 1, 1) := by decide +kernel
theorem dX6_step_5 : decode cX6_step 5 = .ok (.iload_n 1, 1) := by decide +kernel
theorem dX6_step_6 : decode cX6_step 6 = .ok (.aload_n 0, 1) := by decide +kernel
theorem dX6_step_7 : decode cX6_step 7 = .ok (.getfield 14, 3) := by decide +kernel
theorem dX6_step_10 : decode cX6_step 10 = .ok (.getfield 36, 3) := by decide +kernel
theorem dX6_step_13 : decode cX6_step 13 = .ok (.if_icmp .ge 23, 3) := by decide +kernel
theorem dX6_step_16 : decode cX6_step 16 = .ok (.aload_n 0, 1) := by decide +kernel
theorem dX6_step_17 : decode cX6_step 17 = .ok (.getfield 14, 3) := by decide +kernel
theorem dX6_step_20 : decode cX6_step 20 = .ok (.iload_n 1, 1) := by decide +kernel
theorem dX6_step_21 : decode cX6_step 21 = .ok (.invokevirtual 39, 3) := by decide +kernel
theorem dX6_step_24 : decode cX6_step 24 = .ok (.invokestatic 43, 3) := by decide +kernel
theorem dX6_step_27 : decode cX6_step 27 = .ok (.ifCond .eq 9, 3) := by decide +kernel
theorem dX6_step_30 : decode cX6_step 30 = .ok (.iinc 1 1, 3) := by decide +kernel
theorem dX6_step_33 : decode cX6_step 33 = .ok (.goto (-28), 3) := by decide +kernel
theorem dX6_step_36 : decode cX6_step 36 = .ok (.aload_n 0, 1) := by decide +kernel
theorem dX6_step_37 : decode cX6_step 37 = .ok (.iload_n 1, 1) := by decide +kernel
theorem dX6_step_38 : decode cX6_step 38 = .ok (.putfield 47, 3) := by decide +kernel
theorem dX6_step_41 : decode cX6_step 41 = .ok (.aload_n 0, 1) := by decide +kernel
theorem dX6_step_42 : decode cX6_step 42 = .ok (.iload_n 1, 1) := by decide +kernel
theorem dX6_step_43 : decode cX6_step 43 = .ok (.iconst 1, 1) := by decide +kernel
theorem dX6_step_44 : decode cX6_step 44 = .ok (.iadd, 1) := by decide +kernel
theorem dX6_step_45 : decode cX6_step 45 = .ok (.putfield 24, 3) := by decide +kernel
theorem dX6_step_48 : decode cX6_step 48 = .ok (.aload_n 0, 1) := by decide +kernel
theorem dX6_step_49 : decode cX6_step 49 = .ok (.iconst (-1), 1) := by decide +kernel
theorem dX6_step_50 : decode cX6_step 50 = .ok (.putfield 50, 3) := by decide +kernel
theorem dX6_step_53 : decode cX6_step 53 = .ok (.aload_n 0, 1) := by decide +kernel
theorem dX6_step_54 : decode cX6_step 54 = .ok (.aload_n 0, 1) := by decide +kernel
theorem dX6_step_55 : decode cX6_step 55 = .ok (.getfield 14, 3) := by decide +kernel
theorem dX6_step_58 : decode cX6_step 58 = .ok (.iload_n 1, 1) := by decide +kernel
theorem dX6_step_59 : decode cX6_step 59 = .ok (.invokevirtual 39, 3) := by decide +kernel
theorem dX6_step_62 : decode cX6_step 62 = .ok (.putfield 53, 3) := by decide +kernel
theorem dX6_step_65 : decode cX6_step 65 = .ok (.iload_n 1, 1) := by decide +kernel
theorem dX6_step_66 : decode cX6_step 66 = .ok (.aload_n 0, 1) := by decide +kernel
theorem dX6_step_67 : decode cX6_step 67 = .ok (.getfield 20, 3) := by decide +kernel
theorem dX6_step_70 : decode cX6_step 70 = .ok (.if_icmp .lt 33, 3) := by decide +kernel
theorem dX6_step_73 : decode cX6_step 73 = .ok (.aload_n 0, 1) := by decide +kernel
theorem dX6_step_74 : decode cX6_step 74 = .ok (.getfield 14, 3) := by decide +kernel
theorem dX6_step_77 : decode cX6_step 77 = .ok (.getfield 36, 3) := by decide +kernel
theorem dX6_step_80 : decode cX6_step 80 = .ok (.aload_n 0, 1) := by decide +kernel
theorem dX6_step_81 : decode cX6_step 81 = .ok (.getfield 20, 3) := by decide +kernel
theorem dX6_step_84 : decode cX6_step 84 = .ok (.if_icmp .le 19, 3) := by decide +kernel
theorem dX6_step_87 : decode cX6_step 87 = .ok (.aload_n 0, 1) := by decide +kernel
theorem dX6_step_88 : decode cX6_step 88 = .ok (.aload_n 0, 1) := by decide +kernel
theorem dX6_step_89 : decode cX6_step 89 = .ok (.getfield 20, 3) := by decide +kernel
theorem dX6_step_92 : decode cX6_step 92 = .ok (.putfield 47, 3) := by decide +kernel
theorem dX6_step_95 : decode cX6_step 95 = .ok (.aload_n 0, 1) := by decide +kernel
theorem dX6_step_96 : decode cX6_step 96 = .ok (.iconst 1, 1) := by decide +kernel
theorem dX6_step_97 : decode cX6_step 97 = .ok (.putfield 56, 3) := by decide +kernel
theorem dX6_step_100 : decode cX6_step 100 = .ok (.goto 80, 3) := by decide +kernel
theorem dX6_step_103 : decode cX6_step 103 = .ok (.iload_n 1, 1) := by decide +kernel
theorem dX6_step_104 : decode cX6_step 104 = .ok (.aload_n 0, 1) := by decide +kernel
theorem dX6_step_105 : decode cX6_step 105 = .ok (.getfield 14, 3) := by decide +kernel
theorem dX6_step_108 : decode cX6_step 108 = .ok (.getfield 36, 3) := by decide +kernel
theorem dX6_step_111 : decode cX6_step 111 = .ok (.if_icmp .lt 22, 3) := by decide +kernel
theorem dX6_step_114 : decode cX6_step 114 = .ok (.aload_n 0, 1) := by decide +kernel
theorem dX6_step_115 : decode cX6_step 115 = .ok (.aload_n 0, 1) := by decide +kernel
theorem dX6_step_116 : decode cX6_step 116 = .ok (.getfield 14, 3) := by decide +kernel
theorem dX6_step_119 : decode cX6_step 119 = .ok (.getfield 36, 3) := by decide +kernel
theorem dX6_step_122 : decode cX6_step 122 = .ok (.putfield 47, 3) := by decide +kernel
theorem dX6_step_125 : decode cX6_step 125 = .ok (.aload_n 0, 1) := by decide +kernel
theorem dX6_step_126 : decode cX6_step 126 = .ok (.iconst 0, 1) := by decide +kernel
theorem dX6_step_127 : decode cX6_step 127 = .ok (.putfield 56, 3) := by decide +kernel
theorem dX6_step_130 : decode cX6_step 130 = .ok (.goto 50, 3) := by decide +kernel
theorem dX6_step_133 : decode cX6_step 133 = .ok (.aload_n 0, 1) := by decide +kernel
theorem dX6_step_134 : decode cX6_step 134 = .ok (.getfield 53, 3) := by decide +kernel
theorem dX6_step_137 : decode cX6_step 137 = .ok (.invokestatic 59, 3) := by decide +kernel
theorem dX6_step_140 : decode cX6_step 140 = .ok (.ifCond .ne 13, 3) := by decide +kernel
theorem dX6_step_143 : decode cX6_step 143 = .ok (.aload_n 0, 1) := by decide +kernel
theorem dX6_step_144 : decode cX6_step 144 = .ok (.getfield 53, 3) := by decide +kernel
theorem dX6_step_147 : decode cX6_step 147 = .ok (.invokestatic 62, 3) := by decide +kernel
theorem dX6_step_150 : decode cX6_step 150 = .ok (.ifCond .eq 11, 3) := by decide +kernel
theorem dX6_step_153 : decode cX6_step 153 = .ok (.aload_n 0, 1) := by decide +kernel
theorem dX6_step_154 : decode cX6_step 154 = .ok (.iload_n 1, 1) := by decide +kernel
theorem dX6_step_155 : decode cX6_step 155 = .ok (.invokevirtual 65, 3) := by decide +kernel
theorem dX6_step_158 : decode cX6_step 158 = .ok (.goto 22, 3) := by decide +kernel
theorem dX6_step_161 : decode cX6_step 161 = .ok (.aload_n 0, 1) := by decide +kernel
theorem dX6_step_162 : decode cX6_step 162 = .ok (.aload_n 0, 1) := by decide +kernel
theorem dX6_step_163 : decode cX6_step 163 = .ok (.getfield 53, 3) := by decide +kernel
theorem dX6_step_166 : decode cX6_step 166 = .ok (.invokestatic 68, 3) := by decide +kernel
theorem dX6_step_169 : decode cX6_step 169 = .ok (.ifCond .eq 7, 3) := by decide +kernel
theorem dX6_step_172 : decode cX6_step 172 = .ok (.iconst 4, 1) := by decide +kernel
theorem dX6_step_173 : decode cX6_step 173 = .ok (.goto 4, 3) := by decide +kernel
theorem dX6_step_176 : decode cX6_step 176 = .ok (.iconst 1, 1) := by decide +kernel
theorem dX6_step_177 : decode cX6_step 177 = .ok (.putfield 56, 3) := by decide +kernel
theorem dX6_step_180 : decode cX6_step 180 = .ok (.return_, 1) := by decide +kernel
theorem dX6_readRun_0 : decode cX6_readRun 0 = .ok (.iload_n 1, 1) := by decide +kernel
theorem dX6_readRun_1 : decode cX6_readRun 1 = .ok (.istore_n 2, 1) := by decide +kernel
theorem dX6_readRun_2 : decode cX6_readRun 2 = .ok (.iconst 0, 1) := by decide +kernel
theorem dX6_readRun_3 : decode cX6_readRun 3 = .ok (.istore_n 3, 1) := by decide +kernel
theorem dX6_readRun_4 : decode cX6_readRun 4 = .ok (.aload_n 0, 1) := by decide +kernel
theorem dX6_readRun_5 : decode cX6_readRun 5 = .ok (.lconst 0, 1) := by decide +kernel
theorem dX6_readRun_6 : decode cX6_readRun 6 = .ok (.putfield 71, 3) := by decide +kernel
theorem dX6_readRun_9 : decode cX6_readRun 9 = .ok (.aload_n 0, 1) := by decide +kernel
theorem dX6_readRun_10 : decode cX6_readRun 10 = .ok (.iconst 0, 1) := by decide +kernel
theorem dX6_readRun_11 : decode cX6_readRun 11 = .ok (.putfield 53, 3) := by decide +kernel
theorem dX6_readRun_14 : decode cX6_readRun 14 = .ok (.iload_n 2, 1) := by decide +kernel
theorem dX6_readRun_15 : decode cX6_readRun 15 = .ok (.aload_n 0, 1) := by decide +kernel
theorem dX6_readRun_16 : decode cX6_readRun 16 = .ok (.getfield 14, 3) := by decide +kernel
theorem dX6_readRun_19 : decode cX6_readRun 19 = .ok (.getfield 36, 3) := by decide +kernel
theorem dX6_readRun_22 : decode cX6_readRun 22 = .ok (.if_icmp .ge 90, 3) := by decide +kernel
theorem dX6_readRun_25 : decode cX6_readRun 25 = .ok (.aload_n 0, 1) := by decide +kernel
theorem dX6_readRun_26 : decode cX6_readRun 26 = .ok (.getfield 14, 3) := by decide +kernel
theorem dX6_readRun_29 : decode cX6_readRun 29 = .ok (.iload_n 2, 1) := by decide +kernel
theorem dX6_readRun_30 : decode cX6_readRun 30 = .ok (.invokevirtual 39, 3) := by decide +kernel
theorem dX6_readRun_33 : decode cX6_readRun 33 = .ok (.invokestatic 59, 3) := by decide +kernel
theorem dX6_readRun_36 : decode cX6_readRun 36 = .ok (.ifCond .ne 17, 3) := by decide +kernel
theorem dX6_readRun_39 : decode cX6_readRun 39 = .ok (.aload_n 0, 1) := by decide +kernel
theorem dX6_readRun_40 : decode cX6_readRun 40 = .ok (.getfield 14, 3) := by decide +kernel
theorem dX6_readRun_43 : decode cX6_readRun 43 = .ok (.iload_n 2, 1) := by decide +kernel
theorem dX6_readRun_44 : decode cX6_readRun 44 = .ok (.invokevirtual 39, 3) := by decide +kernel
theorem dX6_readRun_47 : decode cX6_readRun 47 = .ok (.invokestatic 62, 3) := by decide +kernel
theorem dX6_readRun_50 : decode cX6_readRun 50 = .ok (.ifCond .eq 62, 3) := by decide +kernel
theorem dX6_readRun_53 : decode cX6_readRun 53 = .ok (.aload_n 0, 1) := by decide +kernel
theorem dX6_readRun_54 : decode cX6_readRun 54 = .ok (.getfield 14, 3) := by decide +kernel
theorem dX6_readRun_57 : decode cX6_readRun 57 = .ok (.iload_n 2, 1) := by decide +kernel
theorem dX6_readRun_58 : decode cX6_readRun 58 = .ok (.invokevirtual 39, 3) := by decide +kernel
theorem dX6_readRun_61 : decode cX6_readRun 61 = .ok (.istore 4, 2) := by decide +kernel
theorem dX6_readRun_63 : decode cX6_readRun 63 = .ok (.aload_n 0, 1) := by decide +kernel
theorem dX6_readRun_64 : decode cX6_readRun 64 = .ok (.aload_n 0, 1) := by decide +kernel
theorem dX6_readRun_65 : decode cX6_readRun 65 = .ok (.getfield 71, 3) := by decide +kernel
theorem dX6_readRun_68 : decode cX6_readRun 68 = .ok (.bipush 8, 2) := by decide +kernel
theorem dX6_readRun_70 : decode cX6_readRun 70 = .ok (.lshl, 1) := by decide +kernel
theorem dX6_readRun_71 : decode cX6_readRun 71 = .ok (.iload 4, 2) := by decide +kernel
theorem dX6_readRun_73 : decode cX6_readRun 73 = .ok (.i2l, 1) := by decide +kernel
theorem dX6_readRun_74 : decode cX6_readRun 74 = .ok (.lor, 1) := by decide +kernel
theorem dX6_readRun_75 : decode cX6_readRun 75 = .ok (.putfield 71, 3) := by decide +kernel
theorem dX6_readRun_78 : decode cX6_readRun 78 = .ok (.iload 4, 2) := by decide +kernel
theorem dX6_readRun_80 : decode cX6_readRun 80 = .ok (.invokestatic 62, 3) := by decide +kernel
theorem dX6_readRun_83 : decode cX6_readRun 83 = .ok (.ifCond .eq 23, 3) := by decide +kernel
theorem dX6_readRun_86 : decode cX6_readRun 86 = .ok (.iinc 3 1, 3) := by decide +kernel
theorem dX6_readRun_89 : decode cX6_readRun 89 = .ok (.aload_n 0, 1) := by decide +kernel
theorem dX6_readRun_90 : decode cX6_readRun 90 = .ok (.aload_n 0, 1) := by decide +kernel
theorem dX6_readRun_91 : decode cX6_readRun 91 = .ok (.getfield 53, 3) := by decide +kernel
theorem dX6_readRun_94 : decode cX6_readRun 94 = .ok (.bipush 10, 2) := by decide +kernel
theorem dX6_readRun_96 : decode cX6_readRun 96 = .ok (.imul, 1) := by decide +kernel
theorem dX6_readRun_97 : decode cX6_readRun 97 = .ok (.iload 4, 2) := by decide +kernel
theorem dX6_readRun_99 : decode cX6_readRun 99 = .ok (.iadd, 1) := by decide +kernel
theorem dX6_readRun_100 : decode cX6_readRun 100 = .ok (.bipush 48, 2) := by decide +kernel
theorem dX6_readRun_102 : decode cX6_readRun 102 = .ok (.isub, 1) := by decide +kernel
theorem dX6_readRun_103 : decode cX6_readRun 103 = .ok (.putfield 53, 3) := by decide +kernel
theorem dX6_readRun_106 : decode cX6_readRun 106 = .ok (.iinc 2 1, 3) := by decide +kernel
theorem dX6_readRun_109 : decode cX6_readRun 109 = .ok (.goto (-95), 3) := by decide +kernel
theorem dX6_readRun_112 : decode cX6_readRun 112 = .ok (.aload_n 0, 1) := by decide +kernel
theorem dX6_readRun_113 : decode cX6_readRun 113 = .ok (.iload_n 2, 1) := by decide +kernel
theorem dX6_readRun_114 : decode cX6_readRun 114 = .ok (.putfield 24, 3) := by decide +kernel
theorem dX6_readRun_117 : decode cX6_readRun 117 = .ok (.iload_n 2, 1) := by decide +kernel
theorem dX6_readRun_118 : decode cX6_readRun 118 = .ok (.iload_n 1, 1) := by decide +kernel
theorem dX6_readRun_119 : decode cX6_readRun 119 = .ok (.isub, 1) := by decide +kernel
theorem dX6_readRun_120 : decode cX6_readRun 120 = .ok (.istore 4, 2) := by decide +kernel
theorem dX6_readRun_122 : decode cX6_readRun 122 = .ok (.aload_n 0, 1) := by decide +kernel
theorem dX6_readRun_123 : decode cX6_readRun 123 = .ok (.iconst 1, 1) := by decide +kernel
theorem dX6_readRun_124 : decode cX6_readRun 124 = .ok (.putfield 56, 3) := by decide +kernel
theorem dX6_readRun_127 : decode cX6_readRun 127 = .ok (.iload_n 3, 1) := by decide +kernel
theorem dX6_readRun_128 : decode cX6_readRun 128 = .ok (.iload 4, 2) := by decide +kernel
theorem dX6_readRun_130 : decode cX6_readRun 130 = .ok (.if_icmp .ne 17, 3) := by decide +kernel
theorem dX6_readRun_133 : decode cX6_readRun 133 = .ok (.iload 4, 2) := by decide +kernel
theorem dX6_readRun_135 : decode cX6_readRun 135 = .ok (.iconst 3, 1) := by decide +kernel
theorem dX6_readRun_136 : decode cX6_readRun 136 = .ok (.if_icmp .gt 11, 3) := by decide +kernel
theorem dX6_readRun_139 : decode cX6_readRun 139 = .ok (.aload_n 0, 1) := by decide +kernel
theorem dX6_readRun_140 : decode cX6_readRun 140 = .ok (.iconst 3, 1) := by decide +kernel
theorem dX6_readRun_141 : decode cX6_readRun 141 = .ok (.putfield 56, 3) := by decide +kernel
theorem dX6_readRun_144 : decode cX6_readRun 144 = .ok (.goto 30, 3) := by decide +kernel
theorem dX6_readRun_147 : decode cX6_readRun 147 = .ok (.iload_n 3, 1) := by decide +kernel
theorem dX6_readRun_148 : decode cX6_readRun 148 = .ok (.ifCond .ne 26, 3) := by decide +kernel
theorem dX6_readRun_151 : decode cX6_readRun 151 = .ok (.iload 4, 2) := by decide +kernel
theorem dX6_readRun_153 : decode cX6_readRun 153 = .ok (.bipush 7, 2) := by decide +kernel
theorem dX6_readRun_155 : decode cX6_readRun 155 = .ok (.if_icmp .gt 19, 3) := by decide +kernel
theorem dX6_readRun_158 : decode cX6_readRun 158 = .ok (.aload_n 0, 1) := by decide +kernel
theorem dX6_readRun_159 : decode cX6_readRun 159 = .ok (.iconst 2, 1) := by decide +kernel
theorem dX6_readRun_160 : decode cX6_readRun 160 = .ok (.putfield 56, 3) := by decide +kernel
theorem dX6_readRun_163 : decode cX6_readRun 163 = .ok (.aload_n 0, 1) := by decide +kernel
theorem dX6_readRun_164 : decode cX6_readRun 164 = .ok (.aload_n 0, 1) := by decide +kernel
theorem dX6_readRun_165 : decode cX6_readRun 165 = .ok (.getfield 71, 3) := by decide +kernel
theorem dX6_readRun_168 : decode cX6_readRun 168 = .ok (.invokestatic 75, 3) := by decide +kernel
theorem dX6_readRun_171 : decode cX6_readRun 171 = .ok (.putfield 50, 3) := by decide +kernel
theorem dX6_readRun_174 : decode cX6_readRun 174 = .ok (.return_, 1) := by decide +kernel
theorem dX6_keywordOf_0 : decode cX6_keywordOf 0 = .ok (.iconst 0, 1) := by decide +kernel
theorem dX6_keywordOf_1 : decode cX6_keywordOf 1 = .ok (.istore_n 2, 1) := by decide +kernel
theorem dX6_keywordOf_2 : decode cX6_keywordOf 2 = .ok (.iload_n 2, 1) := by decide +kernel
theorem dX6_keywordOf_3 : decode cX6_keywordOf 3 = .ok (.getstatic 79, 3) := by decide +kernel
theorem dX6_keywordOf_6 : decode cX6_keywordOf 6 = .ok (.arraylength, 1) := by decide +kernel
theorem dX6_keywordOf_7 : decode cX6_keywordOf 7 = .ok (.if_icmp .ge 21, 3) := by decide +kernel
theorem dX6_keywordOf_10 : decode cX6_keywordOf 10 = .ok (.getstatic 79, 3) := by decide +kernel
theorem dX6_keywordOf_13 : decode cX6_keywordOf 13 = .ok (.iload_n 2, 1) := by decide +kernel
theorem dX6_keywordOf_14 : decode cX6_keywordOf 14 = .ok (.laload, 1) := by decide +kernel
theorem dX6_keywordOf_15 : decode cX6_keywordOf 15 = .ok (.lload_n 0, 1) := by decide +kernel
theorem dX6_keywordOf_16 : decode cX6_keywordOf 16 = .ok (.lcmp, 1) := by decide +kernel
theorem dX6_keywordOf_17 : decode cX6_keywordOf 17 = .ok (.ifCond .ne 5, 3) := by decide +kernel
theorem dX6_keywordOf_20 : decode cX6_keywordOf 20 = .ok (.iload_n 2, 1) := by decide +kernel
theorem dX6_keywordOf_21 : decode cX6_keywordOf 21 = .ok (.ireturn, 1) := by decide +kernel
theorem dX6_keywordOf_22 : decode cX6_keywordOf 22 = .ok (.iinc 2 1, 3) := by decide +kernel
theorem dX6_keywordOf_25 : decode cX6_keywordOf 25 = .ok (.goto (-23), 3) := by decide +kernel
theorem dX6_keywordOf_28 : decode cX6_keywordOf 28 = .ok (.iconst (-1), 1) := by decide +kernel
theorem dX6_keywordOf_29 : decode cX6_keywordOf 29 = .ok (.ireturn, 1) := by decide +kernel
theorem dX6_isBlank_0 : decode cX6_isBlank 0 = .ok (.iload_n 0, 1) := by decide +kernel
theorem dX6_isBlank_1 : decode cX6_isBlank 1 = .ok (.bipush 32, 2) := by decide +kernel
theorem dX6_isBlank_3 : decode cX6_isBlank 3 = .ok (.if_icmp .eq 9, 3) := by decide +kernel
theorem dX6_isBlank_6 : decode cX6_isBlank 6 = .ok (.iload_n 0, 1) := by decide +kernel
theorem dX6_isBlank_7 : decode cX6_isBlank 7 = .ok (.bipush 10, 2) := by decide +kernel
theorem dX6_isBlank_9 : decode cX6_isBlank 9 = .ok (.if_icmp .ne 7, 3) := by decide +kernel
theorem dX6_isBlank_12 : decode cX6_isBlank 12 = .ok (.iconst 1, 1) := by decide +kernel
theorem dX6_isBlank_13 : decode cX6_isBlank 13 = .ok (.goto 4, 3) := by decide +kernel
theorem dX6_isBlank_16 : decode cX6_isBlank 16 = .ok (.iconst 0, 1) := by decide +kernel
theorem dX6_isBlank_17 : decode cX6_isBlank 17 = .ok (.ireturn, 1) := by decide +kernel
theorem dX6_isLetter_0 : decode cX6_isLetter 0 = .ok (.iload_n 0, 1) := by decide +kernel
theorem dX6_isLetter_1 : decode cX6_isLetter 1 = .ok (.bipush 97, 2) := by decide +kernel
theorem dX6_isLetter_3 : decode cX6_isLetter 3 = .ok (.if_icmp .lt 13, 3) := by decide +kernel
theorem dX6_isLetter_6 : decode cX6_isLetter 6 = .ok (.iload_n 0, 1) := by decide +kernel
theorem dX6_isLetter_7 : decode cX6_isLetter 7 = .ok (.bipush 122, 2) := by decide +kernel
theorem dX6_isLetter_9 : decode cX6_isLetter 9 = .ok (.if_icmp .gt 7, 3) := by decide +kernel
theorem dX6_isLetter_12 : decode cX6_isLetter 12 = .ok (.iconst 1, 1) := by decide +kernel
theorem dX6_isLetter_13 : decode cX6_isLetter 13 = .ok (.goto 4, 3) := by decide +kernel
theorem dX6_isLetter_16 : decode cX6_isLetter 16 = .ok (.iconst 0, 1) := by decide +kernel
theorem dX6_isLetter_17 : decode cX6_isLetter 17 = .ok (.ireturn, 1) := by decide +kernel
theorem dX6_isDigit_0 : decode cX6_isDigit 0 = .ok (.iload_n 0, 1) := by decide +kernel
theorem dX6_isDigit_1 : decode cX6_isDigit 1 = .ok (.bipush 48, 2) := by decide +kernel
theorem dX6_isDigit_3 : decode cX6_isDigit 3 = .ok (.if_icmp .lt 13, 3) := by decide +kernel
theorem dX6_isDigit_6 : decode cX6_isDigit 6 = .ok (.iload_n 0, 1) := by decide +kernel
theorem dX6_isDigit_7 : decode cX6_isDigit 7 = .ok (.bipush 57, 2) := by decide +kernel
theorem dX6_isDigit_9 : decode cX6_isDigit 9 = .ok (.if_icmp .gt 7, 3) := by decide +kernel
theorem dX6_isDigit_12 : decode cX6_isDigit 12 = .ok (.iconst 1, 1) := by decide +kernel
theorem dX6_isDigit_13 : decode cX6_isDigit 13 = .ok (.goto 4, 3) := by decide +kernel
theorem dX6_isDigit_16 : decode cX6_isDigit 16 = .ok (.iconst 0, 1) := by decide +kernel
theorem dX6_isDigit_17 : decode cX6_isDigit 17 = .ok (.ireturn, 1) := by decide +kernel
theorem dX6_isSign_0 : decode cX6_isSign 0 = .ok (.iload_n 0, 1) := by decide +kernel
theorem dX6_isSign_1 : decode cX6_isSign 1 = .ok (.bipush 59, 2) := by decide +kernel
theorem dX6_isSign_3 : decode cX6_isSign 3 = .ok (.if_icmp .eq 33, 3) := by decide +kernel
theorem dX6_isSign_6 : decode cX6_isSign 6 = .ok (.iload_n 0, 1) := by decide +kernel
theorem dX6_isSign_7 : decode cX6_isSign 7 = .ok (.bipush 60, 2) := by decide +kernel
theorem dX6_isSign_9 : decode cX6_isSign 9 = .ok (.if_icmp .eq 27, 3) := by decide +kernel
theorem dX6_isSign_12 : decode cX6_isSign 12 = .ok (.iload_n 0, 1) := by decide +kernel
theorem dX6_isSign_13 : decode cX6_isSign 13 = .ok (.bipush 61, 2) := by decide +kernel
theorem dX6_isSign_15 : decode cX6_isSign 15 = .ok (.if_icmp .eq 21, 3) := by decide +kernel
theorem dX6_isSign_18 : decode cX6_isSign 18 = .ok (.iload_n 0, 1) := by decide +kernel
theorem dX6_isSign_19 : decode cX6_isSign 19 = .ok (.bipush 62, 2) := by decide +kernel
theorem dX6_isSign_21 : decode cX6_isSign 21 = .ok (.if_icmp .eq 15, 3) := by decide +kernel
theorem dX6_isSign_24 : decode cX6_isSign 24 = .ok (.iload_n 0, 1) := by decide +kernel
theorem dX6_isSign_25 : decode cX6_isSign 25 = .ok (.bipush 40, 2) := by decide +kernel
theorem dX6_isSign_27 : decode cX6_isSign 27 = .ok (.if_icmp .eq 9, 3) := by decide +kernel
theorem dX6_isSign_30 : decode cX6_isSign 30 = .ok (.iload_n 0, 1) := by decide +kernel
theorem dX6_isSign_31 : decode cX6_isSign 31 = .ok (.bipush 41, 2) := by decide +kernel
theorem dX6_isSign_33 : decode cX6_isSign 33 = .ok (.if_icmp .ne 7, 3) := by decide +kernel
theorem dX6_isSign_36 : decode cX6_isSign 36 = .ok (.iconst 1, 1) := by decide +kernel
theorem dX6_isSign_37 : decode cX6_isSign 37 = .ok (.goto 4, 3) := by decide +kernel
theorem dX6_isSign_40 : decode cX6_isSign 40 = .ok (.iconst 0, 1) := by decide +kernel
theorem dX6_isSign_41 : decode cX6_isSign 41 = .ok (.ireturn, 1) := by decide +kernel
theorem dX6_isSignNow_0 : decode cX6_isSignNow 0 = .ok (.aload_n 0, 1) := by decide +kernel
theorem dX6_isSignNow_1 : decode cX6_isSignNow 1 = .ok (.getfield 56, 3) := by decide +kernel
theorem dX6_isSignNow_4 : decode cX6_isSignNow 4 = .ok (.iconst 4, 1) := by decide +kernel
theorem dX6_isSignNow_5 : decode cX6_isSignNow 5 = .ok (.if_icmp .ne 15, 3) := by decide +kernel
theorem dX6_isSignNow_8 : decode cX6_isSignNow 8 = .ok (.aload_n 0, 1) := by decide +kernel
theorem dX6_isSignNow_9 : decode cX6_isSignNow 9 = .ok (.getfield 53, 3) := by decide +kernel
theorem dX6_isSignNow_12 : decode cX6_isSignNow 12 = .ok (.iload_n 1, 1) := by decide +kernel
theorem dX6_isSignNow_13 : decode cX6_isSignNow 13 = .ok (.if_icmp .ne 7, 3) := by decide +kernel
theorem dX6_isSignNow_16 : decode cX6_isSignNow 16 = .ok (.iconst 1, 1) := by decide +kernel
theorem dX6_isSignNow_17 : decode cX6_isSignNow 17 = .ok (.goto 4, 3) := by decide +kernel
theorem dX6_isSignNow_20 : decode cX6_isSignNow 20 = .ok (.iconst 0, 1) := by decide +kernel
theorem dX6_isSignNow_21 : decode cX6_isSignNow 21 = .ok (.ireturn, 1) := by decide +kernel
theorem dX6_refuse_0 : decode cX6_refuse 0 = .ok (.aload_n 0, 1) := by decide +kernel
theorem dX6_refuse_1 : decode cX6_refuse 1 = .ok (.getfield 27, 3) := by decide +kernel
theorem dX6_refuse_4 : decode cX6_refuse 4 = .ok (.ifCond .ne 16, 3) := by decide +kernel
theorem dX6_refuse_7 : decode cX6_refuse 7 = .ok (.aload_n 0, 1) := by decide +kernel
theorem dX6_refuse_8 : decode cX6_refuse 8 = .ok (.iload_n 1, 1) := by decide +kernel
theorem dX6_refuse_9 : decode cX6_refuse 9 = .ok (.putfield 27, 3) := by decide +kernel
theorem dX6_refuse_12 : decode cX6_refuse 12 = .ok (.aload_n 0, 1) := by decide +kernel
theorem dX6_refuse_13 : decode cX6_refuse 13 = .ok (.aload_n 0, 1) := by decide +kernel
theorem dX6_refuse_14 : decode cX6_refuse 14 = .ok (.getfield 47, 3) := by decide +kernel
theorem dX6_refuse_17 : decode cX6_refuse 17 = .ok (.putfield 30, 3) := by decide +kernel
theorem dX6_refuse_20 : decode cX6_refuse 20 = .ok (.iconst 0, 1) := by decide +kernel
theorem dX6_refuse_21 : decode cX6_refuse 21 = .ok (.ireturn, 1) := by decide +kernel
theorem dX6_takeSign_0 : decode cX6_takeSign 0 = .ok (.aload_n 0, 1) := by decide +kernel
theorem dX6_takeSign_1 : decode cX6_takeSign 1 = .ok (.iload_n 1, 1) := by decide +kernel
theorem dX6_takeSign_2 : decode cX6_takeSign 2 = .ok (.invokevirtual 83, 3) := by decide +kernel
theorem dX6_takeSign_5 : decode cX6_takeSign 5 = .ok (.ifCond .ne 9, 3) := by decide +kernel
theorem dX6_takeSign_8 : decode cX6_takeSign 8 = .ok (.aload_n 0, 1) := by decide +kernel
theorem dX6_takeSign_9 : decode cX6_takeSign 9 = .ok (.iconst 1, 1) := by decide +kernel
theorem dX6_takeSign_10 : decode cX6_takeSign 10 = .ok (.invokevirtual 86, 3) := by decide +kernel
theorem dX6_takeSign_13 : decode cX6_takeSign 13 = .ok (.ireturn, 1) := by decide +kernel
theorem dX6_takeSign_14 : decode cX6_takeSign 14 = .ok (.aload_n 0, 1) := by decide +kernel
theorem dX6_takeSign_15 : decode cX6_takeSign 15 = .ok (.invokevirtual 33, 3) := by decide +kernel
theorem dX6_takeSign_18 : decode cX6_takeSign 18 = .ok (.iconst 1, 1) := by decide +kernel
theorem dX6_takeSign_19 : decode cX6_takeSign 19 = .ok (.ireturn, 1) := by decide +kernel
theorem dX6_takeNumber_0 : decode cX6_takeNumber 0 = .ok (.aload_n 0, 1) := by decide +kernel
theorem dX6_takeNumber_1 : decode cX6_takeNumber 1 = .ok (.getfield 56, 3) := by decide +kernel
theorem dX6_takeNumber_4 : decode cX6_takeNumber 4 = .ok (.iconst 3, 1) := by decide +kernel
theorem dX6_takeNumber_5 : decode cX6_takeNumber 5 = .ok (.if_icmp .eq 11, 3) := by decide +kernel
theorem dX6_takeNumber_8 : decode cX6_takeNumber 8 = .ok (.aload_n 0, 1) := by decide +kernel
theorem dX6_takeNumber_9 : decode cX6_takeNumber 9 = .ok (.iconst 1, 1) := by decide +kernel
theorem dX6_takeNumber_10 : decode cX6_takeNumber 10 = .ok (.invokevirtual 86, 3) := by decide +kernel
theorem dX6_takeNumber_13 : decode cX6_takeNumber 13 = .ok (.pop, 1) := by decide +kernel
theorem dX6_takeNumber_14 : decode cX6_takeNumber 14 = .ok (.iconst (-1), 1) := by decide +kernel
theorem dX6_takeNumber_15 : decode cX6_takeNumber 15 = .ok (.ireturn, 1) := by decide +kernel
theorem dX6_takeNumber_16 : decode cX6_takeNumber 16 = .ok (.aload_n 0, 1) := by decide +kernel
theorem dX6_takeNumber_17 : decode cX6_takeNumber 17 = .ok (.getfield 53, 3) := by decide +kernel
theorem dX6_takeNumber_20 : decode cX6_takeNumber 20 = .ok (.iload_n 1, 1) := by decide +kernel
theorem dX6_takeNumber_21 : decode cX6_takeNumber 21 = .ok (.if_icmp .lt 11, 3) := by decide +kernel
theorem dX6_takeNumber_24 : decode cX6_takeNumber 24 = .ok (.aload_n 0, 1) := by decide +kernel
theorem dX6_takeNumber_25 : decode cX6_takeNumber 25 = .ok (.getfield 53, 3) := by decide +kernel
theorem dX6_takeNumber_28 : decode cX6_takeNumber 28 = .ok (.iload_n 2, 1) := by decide +kernel
theorem dX6_takeNumber_29 : decode cX6_takeNumber 29 = .ok (.if_icmp .le 11, 3) := by decide +kernel
theorem dX6_takeNumber_32 : decode cX6_takeNumber 32 = .ok (.aload_n 0, 1) := by decide +kernel
theorem dX6_takeNumber_33 : decode cX6_takeNumber 33 = .ok (.iconst 2, 1) := by decide +kernel
theorem dX6_takeNumber_34 : decode cX6_takeNumber 34 = .ok (.invokevirtual 86, 3) := by decide +kernel
theorem dX6_takeNumber_37 : decode cX6_takeNumber 37 = .ok (.pop, 1) := by decide +kernel
theorem dX6_takeNumber_38 : decode cX6_takeNumber 38 = .ok (.iconst (-1), 1) := by decide +kernel
theorem dX6_takeNumber_39 : decode cX6_takeNumber 39 = .ok (.ireturn, 1) := by decide +kernel
theorem dX6_takeNumber_40 : decode cX6_takeNumber 40 = .ok (.aload_n 0, 1) := by decide +kernel
theorem dX6_takeNumber_41 : decode cX6_takeNumber 41 = .ok (.getfield 53, 3) := by decide +kernel
theorem dX6_takeNumber_44 : decode cX6_takeNumber 44 = .ok (.istore_n 3, 1) := by decide +kernel
theorem dX6_takeNumber_45 : decode cX6_takeNumber 45 = .ok (.aload_n 0, 1) := by decide +kernel
theorem dX6_takeNumber_46 : decode cX6_takeNumber 46 = .ok (.invokevirtual 33, 3) := by decide +kernel
theorem dX6_takeNumber_49 : decode cX6_takeNumber 49 = .ok (.iload_n 3, 1) := by decide +kernel
theorem dX6_takeNumber_50 : decode cX6_takeNumber 50 = .ok (.ireturn, 1) := by decide +kernel
theorem dX6_isName_0 : decode cX6_isName 0 = .ok (.aload_n 0, 1) := by decide +kernel
theorem dX6_isName_1 : decode cX6_isName 1 = .ok (.getfield 56, 3) := by decide +kernel
theorem dX6_isName_4 : decode cX6_isName 4 = .ok (.iconst 2, 1) := by decide +kernel
theorem dX6_isName_5 : decode cX6_isName 5 = .ok (.if_icmp .ne 11, 3) := by decide +kernel
theorem dX6_isName_8 : decode cX6_isName 8 = .ok (.aload_n 0, 1) := by decide +kernel
theorem dX6_isName_9 : decode cX6_isName 9 = .ok (.getfield 50, 3) := by decide +kernel
theorem dX6_isName_12 : decode cX6_isName 12 = .ok (.iconst (-1), 1) := by decide +kernel
theorem dX6_isName_13 : decode cX6_isName 13 = .ok (.if_icmp .eq 11, 3) := by decide +kernel
theorem dX6_isName_16 : decode cX6_isName 16 = .ok (.aload_n 0, 1) := by decide +kernel
theorem dX6_isName_17 : decode cX6_isName 17 = .ok (.iconst 1, 1) := by decide +kernel
theorem dX6_isName_18 : decode cX6_isName 18 = .ok (.invokevirtual 86, 3) := by decide +kernel
theorem dX6_isName_21 : decode cX6_isName 21 = .ok (.ifCond .eq 7, 3) := by decide +kernel
theorem dX6_isName_24 : decode cX6_isName 24 = .ok (.iconst 1, 1) := by decide +kernel
theorem dX6_isName_25 : decode cX6_isName 25 = .ok (.goto 4, 3) := by decide +kernel
theorem dX6_isName_28 : decode cX6_isName 28 = .ok (.iconst 0, 1) := by decide +kernel
theorem dX6_isName_29 : decode cX6_isName 29 = .ok (.ireturn, 1) := by decide +kernel
theorem dX6_takeThing_0 : decode cX6_takeThing 0 = .ok (.aload_n 0, 1) := by decide +kernel
theorem dX6_takeThing_1 : decode cX6_takeThing 1 = .ok (.invokevirtual 89, 3) := by decide +kernel
theorem dX6_takeThing_4 : decode cX6_takeThing 4 = .ok (.ifCond .eq 14, 3) := by decide +kernel
theorem dX6_takeThing_7 : decode cX6_takeThing 7 = .ok (.aload_n 1, 1) := by decide +kernel
theorem dX6_takeThing_8 : decode cX6_takeThing 8 = .ok (.aload_n 0, 1) := by decide +kernel
theorem dX6_takeThing_9 : decode cX6_takeThing 9 = .ok (.getfield 71, 3) := by decide +kernel
theorem dX6_takeThing_12 : decode cX6_takeThing 12 = .ok (.invokevirtual 93, 3) := by decide +kernel
theorem dX6_takeThing_15 : decode cX6_takeThing 15 = .ok (.goto 4, 3) := by decide +kernel
theorem dX6_takeThing_18 : decode cX6_takeThing 18 = .ok (.iconst (-1), 1) := by decide +kernel
theorem dX6_takeThing_19 : decode cX6_takeThing 19 = .ok (.istore_n 2, 1) := by decide +kernel
theorem dX6_takeThing_20 : decode cX6_takeThing 20 = .ok (.iload_n 2, 1) := by decide +kernel
theorem dX6_takeThing_21 : decode cX6_takeThing 21 = .ok (.iconst (-1), 1) := by decide +kernel
theorem dX6_takeThing_22 : decode cX6_takeThing 22 = .ok (.if_icmp .ne 12, 3) := by decide +kernel
theorem dX6_takeThing_25 : decode cX6_takeThing 25 = .ok (.aload_n 0, 1) := by decide +kernel
theorem dX6_takeThing_26 : decode cX6_takeThing 26 = .ok (.iconst 3, 1) := by decide +kernel
theorem dX6_takeThing_27 : decode cX6_takeThing 27 = .ok (.invokevirtual 86, 3) := by decide +kernel
