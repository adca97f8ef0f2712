theorem dX9_passMinute_66 : decode cX9_passMinute 66 = .ok (.iload_n 2, 1) := by decide +kernel
theorem dX9_passMinute_67 : decode cX9_passMinute 67 = .ok (.iaload, 1) := by decide +kernel
theorem dX9_passMinute_68 : decode cX9_passMinute 68 = .ok (.ifCond .ne 9, 3) := by decide +kernel
theorem dX9_passMinute_71 : decode cX9_passMinute 71 = .ok (.aload_n 0, 1) := by decide +kernel
theorem dX9_passMinute_72 : decode cX9_passMinute 72 = .ok (.aload_n 1, 1) := by decide +kernel
theorem dX9_passMinute_73 : decode cX9_passMinute 73 = .ok (.iload_n 2, 1) := by decide +kernel
theorem dX9_passMinute_74 : decode cX9_passMinute 74 = .ok (.invokevirtual 120, 3) := by decide +kernel
theorem dX9_passMinute_77 : decode cX9_passMinute 77 = .ok (.iinc 2 1, 3) := by decide +kernel
theorem dX9_passMinute_80 : decode cX9_passMinute 80 = .ok (.goto (-78), 3) := by decide +kernel
theorem dX9_passMinute_83 : decode cX9_passMinute 83 = .ok (.iconst 0, 1) := by decide +kernel
theorem dX9_passMinute_84 : decode cX9_passMinute 84 = .ok (.istore_n 2, 1) := by decide +kernel
theorem dX9_passMinute_85 : decode cX9_passMinute 85 = .ok (.iload_n 2, 1) := by decide +kernel
theorem dX9_passMinute_86 : decode cX9_passMinute 86 = .ok (.aload_n 1, 1) := by decide +kernel
theorem dX9_passMinute_87 : decode cX9_passMinute 87 = .ok (.getfield 55, 3) := by decide +kernel
theorem dX9_passMinute_90 : decode cX9_passMinute 90 = .ok (.if_icmp .ge 80, 3) := by decide +kernel
theorem dX9_passMinute_93 : decode cX9_passMinute 93 = .ok (.aload_n 0, 1) := by decide +kernel
theorem dX9_passMinute_94 : decode cX9_passMinute 94 = .ok (.getfield 34, 3) := by decide +kernel
theorem dX9_passMinute_97 : decode cX9_passMinute 97 = .ok (.iload_n 2, 1) := by decide +kernel
theorem dX9_passMinute_98 : decode cX9_passMinute 98 = .ok (.ishr, 1) := by decide +kernel
theorem dX9_passMinute_99 : decode cX9_passMinute 99 = .ok (.ifCond .eq 71, 3) := by decide +kernel
theorem dX9_passMinute_102 : decode cX9_passMinute 102 = .ok (.aload_n 0, 1) := by decide +kernel
theorem dX9_passMinute_103 : decode cX9_passMinute 103 = .ok (.getfield 34, 3) := by decide +kernel
theorem dX9_passMinute_106 : decode cX9_passMinute 106 = .ok (.iload_n 2, 1) := by decide +kernel
theorem dX9_passMinute_107 : decode cX9_passMinute 107 = .ok (.invokestatic 63, 3) := by decide +kernel
theorem dX9_passMinute_110 : decode cX9_passMinute 110 = .ok (.iconst 1, 1) := by decide +kernel
theorem dX9_passMinute_111 : decode cX9_passMinute 111 = .ok (.if_icmp .ne 53, 3) := by decide +kernel
theorem dX9_passMinute_114 : decode cX9_passMinute 114 = .ok (.aload_n 0, 1) := by decide +kernel
theorem dX9_passMinute_115 : decode cX9_passMinute 115 = .ok (.getfield 21, 3) := by decide +kernel
theorem dX9_passMinute_118 : decode cX9_passMinute 118 = .ok (.iload_n 2, 1) := by decide +kernel
theorem dX9_passMinute_119 : decode cX9_passMinute 119 = .ok (.dup2, 1) := by decide +kernel
theorem dX9_passMinute_120 : decode cX9_passMinute 120 = .ok (.iaload, 1) := by decide +kernel
theorem dX9_passMinute_121 : decode cX9_passMinute 121 = .ok (.iconst 1, 1) := by decide +kernel
theorem dX9_passMinute_122 : decode cX9_passMinute 122 = .ok (.iadd, 1) := by decide +kernel
theorem dX9_passMinute_123 : decode cX9_passMinute 123 = .ok (.iastore, 1) := by decide +kernel
theorem dX9_passMinute_124 : decode cX9_passMinute 124 = .ok (.aload_n 0, 1) := by decide +kernel
theorem dX9_passMinute_125 : decode cX9_passMinute 125 = .ok (.getfield 21, 3) := by decide +kernel
theorem dX9_passMinute_128 : decode cX9_passMinute 128 = .ok (.iload_n 2, 1) := by decide +kernel
theorem dX9_passMinute_129 : decode cX9_passMinute 129 = .ok (.iaload, 1) := by decide +kernel
theorem dX9_passMinute_130 : decode cX9_passMinute 130 = .ok (.aload_n 1, 1) := by decide +kernel
theorem dX9_passMinute_131 : decode cX9_passMinute 131 = .ok (.getfield 123, 3) := by decide +kernel
theorem dX9_passMinute_134 : decode cX9_passMinute 134 = .ok (.iload_n 2, 1) := by decide +kernel
theorem dX9_passMinute_135 : decode cX9_passMinute 135 = .ok (.iaload, 1) := by decide +kernel
theorem dX9_passMinute_136 : decode cX9_passMinute 136 = .ok (.if_icmp .ne 28, 3) := by decide +kernel
theorem dX9_passMinute_139 : decode cX9_passMinute 139 = .ok (.aload_n 0, 1) := by decide +kernel
theorem dX9_passMinute_140 : decode cX9_passMinute 140 = .ok (.iload_n 2, 1) := by decide +kernel
theorem dX9_passMinute_141 : decode cX9_passMinute 141 = .ok (.invokevirtual 108, 3) := by decide +kernel
theorem dX9_passMinute_144 : decode cX9_passMinute 144 = .ok (.aload_n 0, 1) := by decide +kernel
theorem dX9_passMinute_145 : decode cX9_passMinute 145 = .ok (.getfield 27, 3) := by decide +kernel
theorem dX9_passMinute_148 : decode cX9_passMinute 148 = .ok (.iload_n 2, 1) := by decide +kernel
theorem dX9_passMinute_149 : decode cX9_passMinute 149 = .ok (.dup2, 1) := by decide +kernel
theorem dX9_passMinute_150 : decode cX9_passMinute 150 = .ok (.iaload, 1) := by decide +kernel
theorem dX9_passMinute_151 : decode cX9_passMinute 151 = .ok (.iconst 1, 1) := by decide +kernel
theorem dX9_passMinute_152 : decode cX9_passMinute 152 = .ok (.iadd, 1) := by decide +kernel
theorem dX9_passMinute_153 : decode cX9_passMinute 153 = .ok (.iastore, 1) := by decide +kernel
theorem dX9_passMinute_154 : decode cX9_passMinute 154 = .ok (.aload_n 0, 1) := by decide +kernel
theorem dX9_passMinute_155 : decode cX9_passMinute 155 = .ok (.dup, 1) := by decide +kernel
theorem dX9_passMinute_156 : decode cX9_passMinute 156 = .ok (.getfield 46, 3) := by decide +kernel
theorem dX9_passMinute_159 : decode cX9_passMinute 159 = .ok (.iconst 1, 1) := by decide +kernel
theorem dX9_passMinute_160 : decode cX9_passMinute 160 = .ok (.iadd, 1) := by decide +kernel
theorem dX9_passMinute_161 : decode cX9_passMinute 161 = .ok (.putfield 46, 3) := by decide +kernel
theorem dX9_passMinute_164 : decode cX9_passMinute 164 = .ok (.iinc 2 1, 3) := by decide +kernel
theorem dX9_passMinute_167 : decode cX9_passMinute 167 = .ok (.goto (-82), 3) := by decide +kernel
theorem dX9_passMinute_170 : decode cX9_passMinute 170 = .ok (.aload_n 0, 1) := by decide +kernel
theorem dX9_passMinute_171 : decode cX9_passMinute 171 = .ok (.dup, 1) := by decide +kernel
theorem dX9_passMinute_172 : decode cX9_passMinute 172 = .ok (.getfield 37, 3) := by decide +kernel
theorem dX9_passMinute_175 : decode cX9_passMinute 175 = .ok (.iconst 1, 1) := by decide +kernel
theorem dX9_passMinute_176 : decode cX9_passMinute 176 = .ok (.iadd, 1) := by decide +kernel
theorem dX9_passMinute_177 : decode cX9_passMinute 177 = .ok (.putfield 37, 3) := by decide +kernel
theorem dX9_passMinute_180 : decode cX9_passMinute 180 = .ok (.return_, 1) := by decide +kernel
theorem dX10_init_0 : decode cX10_init 0 = .ok (.aload_n 0, 1) := by decide +kernel
theorem dX10_init_1 : decode cX10_init 1 = .ok (.invokespecial 1, 3) := by decide +kernel
theorem dX10_init_4 : decode cX10_init 4 = .ok (.aload_n 0, 1) := by decide +kernel
theorem dX10_init_5 : decode cX10_init 5 = .ok (.new 7, 3) := by decide +kernel
theorem dX10_init_8 : decode cX10_init 8 = .ok (.dup, 1) := by decide +kernel
theorem dX10_init_9 : decode cX10_init 9 = .ok (.invokespecial 9, 3) := by decide +kernel
theorem dX10_init_12 : decode cX10_init 12 = .ok (.putfield 10, 3) := by decide +kernel
theorem dX10_init_15 : decode cX10_init 15 = .ok (.aload_n 0, 1) := by decide +kernel
theorem dX10_init_16 : decode cX10_init 16 = .ok (.new 16, 3) := by decide +kernel
theorem dX10_init_19 : decode cX10_init 19 = .ok (.dup, 1) := by decide +kernel
theorem dX10_init_20 : decode cX10_init 20 = .ok (.invokespecial 18, 3) := by decide +kernel
theorem dX10_init_23 : decode cX10_init 23 = .ok (.putfield 19, 3) := by decide +kernel
theorem dX10_init_26 : decode cX10_init 26 = .ok (.aload_n 0, 1) := by decide +kernel
theorem dX10_init_27 : decode cX10_init 27 = .ok (.new 23, 3) := by decide +kernel
theorem dX10_init_30 : decode cX10_init 30 = .ok (.dup, 1) := by decide +kernel
theorem dX10_init_31 : decode cX10_init 31 = .ok (.invokespecial 25, 3) := by decide +kernel
theorem dX10_init_34 : decode cX10_init 34 = .ok (.putfield 26, 3) := by decide +kernel
theorem dX10_init_37 : decode cX10_init 37 = .ok (.return_, 1) := by decide +kernel
theorem dX10_copyFrom_0 : decode cX10_copyFrom 0 = .ok (.aload_n 0, 1) := by decide +kernel
theorem dX10_copyFrom_1 : decode cX10_copyFrom 1 = .ok (.getfield 10, 3) := by decide +kernel
theorem dX10_copyFrom_4 : decode cX10_copyFrom 4 = .ok (.aload_n 1, 1) := by decide +kernel
theorem dX10_copyFrom_5 : decode cX10_copyFrom 5 = .ok (.getfield 10, 3) := by decide +kernel
theorem dX10_copyFrom_8 : decode cX10_copyFrom 8 = .ok (.invokevirtual 30, 3) := by decide +kernel
theorem dX10_copyFrom_11 : decode cX10_copyFrom 11 = .ok (.aload_n 0, 1) := by decide +kernel
theorem dX10_copyFrom_12 : decode cX10_copyFrom 12 = .ok (.getfield 19, 3) := by decide +kernel
theorem dX10_copyFrom_15 : decode cX10_copyFrom 15 = .ok (.aload_n 1, 1) := by decide +kernel
theorem dX10_copyFrom_16 : decode cX10_copyFrom 16 = .ok (.getfield 19, 3) := by decide +kernel
theorem dX10_copyFrom_19 : decode cX10_copyFrom 19 = .ok (.invokevirtual 34, 3) := by decide +kernel
theorem dX10_copyFrom_22 : decode cX10_copyFrom 22 = .ok (.aload_n 0, 1) := by decide +kernel
theorem dX10_copyFrom_23 : decode cX10_copyFrom 23 = .ok (.getfield 26, 3) := by decide +kernel
theorem dX10_copyFrom_26 : decode cX10_copyFrom 26 = .ok (.aload_n 1, 1) := by decide +kernel
theorem dX10_copyFrom_27 : decode cX10_copyFrom 27 = .ok (.getfield 26, 3) := by decide +kernel
theorem dX10_copyFrom_30 : decode cX10_copyFrom 30 = .ok (.invokevirtual 37, 3) := by decide +kernel
theorem dX10_copyFrom_33 : decode cX10_copyFrom 33 = .ok (.return_, 1) := by decide +kernel
theorem dX11_init_0 : decode cX11_init 0 = .ok (.aload_n 0, 1) := by decide +kernel
theorem dX11_init_1 : decode cX11_init 1 = .ok (.invokespecial 1, 3) := by decide +kernel
theorem dX11_init_4 : decode cX11_init 4 = .ok (.aload_n 0, 1) := by decide +kernel
theorem dX11_init_5 : decode cX11_init 5 = .ok (.new 7, 3) := by decide +kernel
theorem dX11_init_8 : decode cX11_init 8 = .ok (.dup, 1) := by decide +kernel
theorem dX11_init_9 : decode cX11_init 9 = .ok (.sipush 940, 3) := by decide +kernel
theorem dX11_init_12 : decode cX11_init 12 = .ok (.invokespecial 11, 3) := by decide +kernel
theorem dX11_init_15 : decode cX11_init 15 = .ok (.putfield 14, 3) := by decide +kernel
theorem dX11_init_18 : decode cX11_init 18 = .ok (.aload_n 0, 1) := by decide +kernel
theorem dX11_init_19 : decode cX11_init 19 = .ok (.new 18, 3) := by decide +kernel
theorem dX11_init_22 : decode cX11_init 22 = .ok (.dup, 1) := by decide +kernel
theorem dX11_init_23 : decode cX11_init 23 = .ok (.invokespecial 20, 3) := by decide +kernel
theorem dX11_init_26 : decode cX11_init 26 = .ok (.putfield 21, 3) := by decide +kernel
theorem dX11_init_29 : decode cX11_init 29 = .ok (.aload_n 0, 1) := by decide +kernel
theorem dX11_init_30 : decode cX11_init 30 = .ok (.iconst 2, 1) := by decide +kernel
theorem dX11_init_31 : decode cX11_init 31 = .ok (.anewarray 18, 3) := by decide +kernel
theorem dX11_init_34 : decode cX11_init 34 = .ok (.putfield 25, 3) := by decide +kernel
theorem dX11_init_37 : decode cX11_init 37 = .ok (.aload_n 0, 1) := by decide +kernel
theorem dX11_init_38 : decode cX11_init 38 = .ok (.new 29, 3) := by decide +kernel
theorem dX11_init_41 : decode cX11_init 41 = .ok (.dup, 1) := by decide +kernel
theorem dX11_init_42 : decode cX11_init 42 = .ok (.invokespecial 31, 3) := by decide +kernel
theorem dX11_init_45 : decode cX11_init 45 = .ok (.putfield 32, 3) := by decide +kernel
theorem dX11_init_48 : decode cX11_init 48 = .ok (.aload_n 0, 1) := by decide +kernel
theorem dX11_init_49 : decode cX11_init 49 = .ok (.new 36, 3) := by decide +kernel
theorem dX11_init_52 : decode cX11_init 52 = .ok (.dup, 1) := by decide +kernel
theorem dX11_init_53 : decode cX11_init 53 = .ok (.invokespecial 38, 3) := by decide +kernel
theorem dX11_init_56 : decode cX11_init 56 = .ok (.putfield 39, 3) := by decide +kernel
theorem dX11_init_59 : decode cX11_init 59 = .ok (.aload_n 0, 1) := by decide +kernel
theorem dX11_init_60 : decode cX11_init 60 = .ok (.new 43, 3) := by decide +kernel
theorem dX11_init_63 : decode cX11_init 63 = .ok (.dup, 1) := by decide +kernel
theorem dX11_init_64 : decode cX11_init 64 = .ok (.invokespecial 45, 3) := by decide +kernel
theorem dX11_init_67 : decode cX11_init 67 = .ok (.putfield 46, 3) := by decide +kernel
theorem dX11_init_70 : decode cX11_init 70 = .ok (.aload_n 0, 1) := by decide +kernel
theorem dX11_init_71 : decode cX11_init 71 = .ok (.new 50, 3) := by decide +kernel
theorem dX11_init_74 : decode cX11_init 74 = .ok (.dup, 1) := by decide +kernel
theorem dX11_init_75 : decode cX11_init 75 = .ok (.invokespecial 52, 3) := by decide +kernel
theorem dX11_init_78 : decode cX11_init 78 = .ok (.putfield 53, 3) := by decide +kernel
theorem dX11_init_81 : decode cX11_init 81 = .ok (.aload_n 0, 1) := by decide +kernel
theorem dX11_init_82 : decode cX11_init 82 = .ok (.new 57, 3) := by decide +kernel
theorem dX11_init_85 : decode cX11_init 85 = .ok (.dup, 1) := by decide +kernel
theorem dX11_init_86 : decode cX11_init 86 = .ok (.invokespecial 59, 3) := by decide +kernel
theorem dX11_init_89 : decode cX11_init 89 = .ok (.putfield 60, 3) := by decide +kernel
theorem dX11_init_92 : decode cX11_init 92 = .ok (.aload_n 0, 1) := by decide +kernel
theorem dX11_init_93 : decode cX11_init 93 = .ok (.new 64, 3) := by decide +kernel
theorem dX11_init_96 : decode cX11_init 96 = .ok (.dup, 1) := by decide +kernel
theorem dX11_init_97 : decode cX11_init 97 = .ok (.invokespecial 66, 3) := by decide +kernel
theorem dX11_init_100 : decode cX11_init 100 = .ok (.putfield 67, 3) := by decide +kernel
theorem dX11_init_103 : decode cX11_init 103 = .ok (.aload_n 0, 1) := by decide +kernel
theorem dX11_init_104 : decode cX11_init 104 = .ok (.new 7, 3) := by decide +kernel
theorem dX11_init_107 : decode cX11_init 107 = .ok (.dup, 1) := by decide +kernel
theorem dX11_init_108 : decode cX11_init 108 = .ok (.bipush 32, 2) := by decide +kernel
theorem dX11_init_110 : decode cX11_init 110 = .ok (.invokespecial 11, 3) := by decide +kernel
theorem dX11_init_113 : decode cX11_init 113 = .ok (.putfield 71, 3) := by decide +kernel
theorem dX11_init_116 : decode cX11_init 116 = .ok (.aload_n 0, 1) := by decide +kernel
theorem dX11_init_117 : decode cX11_init 117 = .ok (.bipush 8, 2) := by decide +kernel
theorem dX11_init_119 : decode cX11_init 119 = .ok (.newarray .int, 2) := by decide +kernel
theorem dX11_init_121 : decode cX11_init 121 = .ok (.putfield 74, 3) := by decide +kernel
theorem dX11_init_124 : decode cX11_init 124 = .ok (.aload_n 0, 1) := by decide +kernel
theorem dX11_init_125 : decode cX11_init 125 = .ok (.iconst 4, 1) := by decide +kernel
theorem dX11_init_126 : decode cX11_init 126 = .ok (.newarray .int, 2) := by decide +kernel
theorem dX11_init_128 : decode cX11_init 128 = .ok (.putfield 78, 3) := by decide +kernel
theorem dX11_init_131 : decode cX11_init 131 = .ok (.aload_n 0, 1) := by decide +kernel
theorem dX11_init_132 : decode cX11_init 132 = .ok (.iconst (-1), 1) := by decide +kernel
theorem dX11_init_133 : decode cX11_init 133 = .ok (.putfield 81, 3) := by decide +kernel
theorem dX11_init_136 : decode cX11_init 136 = .ok (.aload_n 0, 1) := by decide +kernel
theorem dX11_init_137 : decode cX11_init 137 = .ok (.iconst (-1), 1) := by decide +kernel
theorem dX11_init_138 : decode cX11_init 138 = .ok (.putfield 85, 3) := by decide +kernel
theorem dX11_init_141 : decode cX11_init 141 = .ok (.iconst 0, 1) := by decide +kernel
theorem dX11_init_142 : decode cX11_init 142 = .ok (.istore_n 1, 1) := by decide +kernel
theorem dX11_init_143 : decode cX11_init 143 = .ok (.iload_n 1, 1) := by decide +kernel
theorem dX11_init_144 : decode cX11_init 144 = .ok (.iconst 2, 1) := by decide +kernel
theorem dX11_init_145 : decode cX11_init 145 = .ok (.if_icmp .ge 22, 3) := by decide +kernel
theorem dX11_init_148 : decode cX11_init 148 = .ok (.aload_n 0, 1) := by decide +kernel
theorem dX11_init_149 : decode cX11_init 149 = .ok (.getfield 25, 3) := by decide +kernel
theorem dX11_init_152 : decode cX11_init 152 = .ok (.iload_n 1, 1) := by decide +kernel
theorem dX11_init_153 : decode cX11_init 153 = .ok (.new 18, 3) := by decide +kernel
theorem dX11_init_156 : decode cX11_init 156 = .ok (.dup, 1) := by decide +kernel
theorem dX11_init_157 : decode cX11_init 157 = .ok (.invokespecial 20, 3) := by decide +kernel
theorem dX11_init_160 : decode cX11_init 160 = .ok (.aastore, 1) := by decide +kernel
theorem dX11_init_161 : decode cX11_init 161 = .ok (.iinc 1 1, 3) := by decide +kernel
theorem dX11_init_164 : decode cX11_init 164 = .ok (.goto (-21), 3) := by decide +kernel
theorem dX11_init_167 : decode cX11_init 167 = .ok (.return_, 1) := by decide +kernel
theorem dX11_feed_0 : decode cX11_feed 0 = .ok (.aload_n 0, 1) := by decide +kernel
theorem dX11_feed_1 : decode cX11_feed 1 = .ok (.getfield 14, 3) := by decide +kernel
theorem dX11_feed_4 : decode cX11_feed 4 = .ok (.getfield 88, 3) := by decide +kernel
theorem dX11_feed_7 : decode cX11_feed 7 = .ok (.bipush 20, 2) := by decide +kernel
theorem dX11_feed_9 : decode cX11_feed 9 = .ok (.iadd, 1) := by decide +kernel
theorem dX11_feed_10 : decode cX11_feed 10 = .ok (.sipush 940, 3) := by decide +kernel
theorem dX11_feed_13 : decode cX11_feed 13 = .ok (.if_icmp .le 5, 3) := by decide +kernel
theorem dX11_feed_16 : decode cX11_feed 16 = .ok (.iconst (-1), 1) := by decide +kernel
theorem dX11_feed_17 : decode cX11_feed 17 = .ok (.ireturn, 1) := by decide +kernel
theorem dX11_feed_18 : decode cX11_feed 18 = .ok (.aload_n 0, 1) := by decide +kernel
theorem dX11_feed_19 : decode cX11_feed 19 = .ok (.getfield 14, 3) := by decide +kernel
theorem dX11_feed_22 : decode cX11_feed 22 = .ok (.iload_n 1, 1) := by decide +kernel
theorem dX11_feed_23 : decode cX11_feed 23 = .ok (.invokevirtual 91, 3) := by decide +kernel
theorem dX11_feed_26 : decode cX11_feed 26 = .ok (.aload_n 0, 1) := by decide +kernel
theorem dX11_feed_27 : decode cX11_feed 27 = .ok (.getfield 14, 3) := by decide +kernel
theorem dX11_feed_30 : decode cX11_feed 30 = .ok (.iload_n 2, 1) := by decide +kernel
theorem dX11_feed_31 : decode cX11_feed 31 = .ok (.invokevirtual 91, 3) := by decide +kernel
theorem dX11_feed_34 : decode cX11_feed 34 = .ok (.aload_n 0, 1) := by decide +kernel
theorem dX11_feed_35 : decode cX11_feed 35 = .ok (.getfield 14, 3) := by decide +kernel
theorem dX11_feed_38 : decode cX11_feed 38 = .ok (.iload_n 3, 1) := by decide +kernel
theorem dX11_feed_39 : decode cX11_feed 39 = .ok (.invokevirtual 91, 3) := by decide +kernel
theorem dX11_feed_42 : decode cX11_feed 42 = .ok (.aload_n 0, 1) := by decide +kernel
theorem dX11_feed_43 : decode cX11_feed 43 = .ok (.getfield 14, 3) := by decide +kernel
theorem dX11_feed_46 : decode cX11_feed 46 = .ok (.iload 4, 2) := by decide +kernel
theorem dX11_feed_48 : decode cX11_feed 48 = .ok (.invokevirtual 91, 3) := by decide +kernel
theorem dX11_feed_51 : decode cX11_feed 51 = .ok (.aload_n 0, 1) := by decide +kernel
theorem dX11_feed_52 : decode cX11_feed 52 = .ok (.getfield 14, 3) := by decide +kernel
theorem dX11_feed_55 : decode cX11_feed 55 = .ok (.iload 5, 2) := by decide +kernel
theorem dX11_feed_57 : decode cX11_feed 57 = .ok (.invokevirtual 91, 3) := by decide +kernel
theorem dX11_feed_60 : decode cX11_feed 60 = .ok (.aload_n 0, 1) := by decide +kernel
theorem dX11_feed_61 : decode cX11_feed 61 = .ok (.getfield 14, 3) := by decide +kernel
theorem dX11_feed_64 : decode cX11_feed 64 = .ok (.getfield 88, 3) := by decide +kernel
theorem dX11_feed_67 : decode cX11_feed 67 = .ok (.ireturn, 1) := by decide +kernel
theorem dX11_end_0 : decode cX11_end 0 = .ok (.iload_n 1, 1) := by decide +kernel
theorem dX11_end_1 : decode cX11_end 1 = .ok (.ifCond .lt 14, 3) := by decide +kernel
theorem dX11_end_4 : decode cX11_end 4 = .ok (.iload_n 1, 1) := by decide +kernel
theorem dX11_end_5 : decode cX11_end 5 = .ok (.aload_n 0, 1) := by decide +kernel
theorem dX11_end_6 : decode cX11_end 6 = .ok (.getfield 14, 3) := by decide +kernel
theorem dX11_end_9 : decode cX11_end 9 = .ok (.getfield 88, 3) := by decide +kernel
theorem dX11_end_12 : decode cX11_end 12 = .ok (.if_icmp .le 5, 3) := by decide +kernel
theorem dX11_end_15 : decode cX11_end 15 = .ok (.iconst 0, 1) := by decide +kernel
theorem dX11_end_16 : decode cX11_end 16 = .ok (.ireturn, 1) := by decide +kernel
theorem dX11_end_17 : decode cX11_end 17 = .ok (.aload_n 0, 1) := by decide +kernel
theorem dX11_end_18 : decode cX11_end 18 = .ok (.getfield 14, 3) := by decide +kernel
theorem dX11_end_21 : decode cX11_end 21 = .ok (.iload_n 1, 1) := by decide +kernel
theorem dX11_end_22 : decode cX11_end 22 = .ok (.putfield 88, 3) := by decide +kernel
theorem dX11_end_25 : decode cX11_end 25 = .ok (.iconst 1, 1) := by decide +kernel
theorem dX11_end_26 : decode cX11_end 26 = .ok (.ireturn, 1) := by decide +kernel
theorem dX11_house_0 : decode cX11_house 0 = .ok (.aload_n 0, 1) := by decide +kernel
theorem dX11_house_1 : decode cX11_house 1 = .ok (.getfield 46, 3) := by decide +kernel
theorem dX11_house_4 : decode cX11_house 4 = .ok (.aload_n 0, 1) := by decide +kernel
theorem dX11_house_5 : decode cX11_house 5 = .ok (.getfield 14, 3) := by decide +kernel
theorem dX11_house_8 : decode cX11_house 8 = .ok (.invokevirtual 94, 3) := by decide +kernel
theorem dX11_house_11 : decode cX11_house 11 = .ok (.istore_n 1, 1) := by decide +kernel
theorem dX11_house_12 : decode cX11_house 12 = .ok (.aload_n 0, 1) := by decide +kernel
theorem dX11_house_13 : decode cX11_house 13 = .ok (.aload_n 0, 1) := by decide +kernel
theorem dX11_house_14 : decode cX11_house 14 = .ok (.getfield 46, 3) := by decide +kernel
theorem dX11_house_17 : decode cX11_house 17 = .ok (.getfield 98, 3) := by decide +kernel
theorem dX11_house_20 : decode cX11_house 20 = .ok (.invokevirtual 102, 3) := by decide +kernel
theorem dX11_house_23 : decode cX11_house 23 = .ok (.iload_n 1, 1) := by decide +kernel
theorem dX11_house_24 : decode cX11_house 24 = .ok (.ifCond .ne 16, 3) := by decide +kernel
theorem dX11_house_27 : decode cX11_house 27 = .ok (.iconst (-1), 1) := by decide +kernel
theorem dX11_house_28 : decode cX11_house 28 = .ok (.aload_n 0, 1) := by decide +kernel
theorem dX11_house_29 : decode cX11_house 29 = .ok (.getfield 46, 3) := by decide +kernel
theorem dX11_house_32 : decode cX11_house 32 = .ok (.getfield 98, 3) := by decide +kernel
theorem dX11_house_35 : decode cX11_house 35 = .ok (.getfield 106, 3) := by decide +kernel
theorem dX11_house_38 : decode cX11_house 38 = .ok (.isub, 1) := by decide +kernel
theorem dX11_house_39 : decode cX11_house 39 = .ok (.ireturn, 1) := by decide +kernel
theorem dX11_house_40 : decode cX11_house 40 = .ok (.aload_n 0, 1) := by decide +kernel
theorem dX11_house_41 : decode cX11_house 41 = .ok (.getfield 21, 3) := by decide +kernel
theorem dX11_house_44 : decode cX11_house 44 = .ok (.getfield 111, 3) := by decide +kernel
theorem dX11_house_47 : decode cX11_house 47 = .ok (.aload_n 0, 1) := by decide +kernel
theorem dX11_house_48 : decode cX11_house 48 = .ok (.getfield 46, 3) := by decide +kernel
theorem dX11_house_51 : decode cX11_house 51 = .ok (.getfield 115, 3) := by decide +kernel
theorem dX11_house_54 : decode cX11_house 54 = .ok (.invokevirtual 118, 3) := by decide +kernel
theorem dX11_house_57 : decode cX11_house 57 = .ok (.aload_n 0, 1) := by decide +kernel
theorem dX11_house_58 : decode cX11_house 58 = .ok (.getfield 21, 3) := by decide +kernel
theorem dX11_house_61 : decode cX11_house 61 = .ok (.getfield 124, 3) := by decide +kernel
theorem dX11_house_64 : decode cX11_house 64 = .ok (.invokevirtual 127, 3) := by decide +kernel
theorem dX11_house_67 : decode cX11_house 67 = .ok (.aload_n 0, 1) := by decide +kernel
theorem dX11_house_68 : decode cX11_house 68 = .ok (.getfield 21, 3) := by decide +kernel
theorem dX11_house_71 : decode cX11_house 71 = .ok (.getfield 130, 3) := by decide +kernel
theorem dX11_house_74 : decode cX11_house 74 = .ok (.invokevirtual 134, 3) := by decide +kernel
theorem dX11_house_77 : decode cX11_house 77 = .ok (.aload_n 0, 1) := by decide +kernel
theorem dX11_house_78 : decode cX11_house 78 = .ok (.getfield 32, 3) := by decide +kernel
theorem dX11_house_81 : decode cX11_house 81 = .ok (.invokevirtual 139, 3) := by decide +kernel
theorem dX11_house_84 : decode cX11_house 84 = .ok (.aload_n 0, 1) := by decide +kernel
theorem dX11_house_85 : decode cX11_house 85 = .ok (.getfield 46, 3) := by decide +kernel
theorem dX11_house_88 : decode cX11_house 88 = .ok (.getfield 140, 3) := by decide +kernel
theorem dX11_house_91 : decode cX11_house 91 = .ok (.ireturn, 1) := by decide +kernel
theorem dX11_fault_0 : decode cX11_fault 0 = .ok (.aload_n 0, 1) := by decide +kernel
theorem dX11_fault_1 : decode cX11_fault 1 = .ok (.getfield 143, 3) := by decide +kernel
theorem dX11_fault_4 : decode cX11_fault 4 = .ok (.ireturn, 1) := by decide +kernel
theorem dX11_thing_0 : decode cX11_thing 0 = .ok (.aload_n 0, 1) := by decide +kernel
theorem dX11_thing_1 : decode cX11_thing 1 = .ok (.iload_n 1, 1) := by decide +kernel
theorem dX11_thing_2 : decode cX11_thing 2 = .ok (.invokevirtual 146, 3) := by decide +kernel
theorem dX11_thing_5 : decode cX11_thing 5 = .ok (.ifCond .eq 13, 3) := by decide +kernel
theorem dX11_thing_8 : decode cX11_thing 8 = .ok (.iload_n 2, 1) := by decide +kernel
theorem dX11_thing_9 : decode cX11_thing 9 = .ok (.ifCond .lt 9, 3) := by decide +kernel
theorem dX11_thing_12 : decode cX11_thing 12 = .ok (.iload_n 2, 1) := by decide +kernel
theorem dX11_thing_13 : decode cX11_thing 13 = .ok (.bipush 8, 2) := by decide +kernel
theorem dX11_thing_15 : decode cX11_thing 15 = .ok (.if_icmp .le 11, 3) := by decide +kernel
theorem dX11_thing_18 : decode cX11_thing 18 = .ok (.new 150, 3) := by decide +kernel
theorem dX11_thing_21 : decode cX11_thing 21 = .ok (.dup, 1) := by decide +kernel
theorem dX11_thing_22 : decode cX11_thing 22 = .ok (.invokespecial 152, 3) := by decide +kernel
theorem dX11_thing_25 : decode cX11_thing 25 = .ok (.athrow, 1) := by decide +kernel
theorem dX11_thing_26 : decode cX11_thing 26 = .ok (.aload_n 0, 1) := by decide +kernel
theorem dX11_thing_27 : decode cX11_thing 27 = .ok (.getfield 21, 3) := by decide +kernel
theorem dX11_thing_30 : decode cX11_thing 30 = .ok (.getfield 111, 3) := by decide +kernel
theorem dX11_thing_33 : decode cX11_thing 33 = .ok (.astore_n 3, 1) := by decide +kernel
theorem dX11_thing_34 : decode cX11_thing 34 = .ok (.aload_n 0, 1) := by decide +kernel
theorem dX11_thing_35 : decode cX11_thing 35 = .ok (.getfield 21, 3) := by decide +kernel
theorem dX11_thing_38 : decode cX11_thing 38 = .ok (.getfield 124, 3) := by decide +kernel
theorem dX11_thing_41 : decode cX11_thing 41 = .ok (.astore 4, 2) := by decide +kernel
theorem dX11_thing_43 : decode cX11_thing 43 = .ok (.iload_n 2, 1) := by decide +kernel
theorem dX11_thing_44 : decode cX11_thing 44 = .ok (.tableswitch 119 0 7 #[48, 55, 62, 69, 77, 85, 95, 108], 48) := by decide +kernel
theorem dX11_thing_92 : decode cX11_thing 92 = .ok (.aload_n 3, 1) := by decide +kernel
theorem dX11_thing_93 : decode cX11_thing 93 = .ok (.getfield 153, 3) := by decide +kernel
theorem dX11_thing_96 : decode cX11_thing 96 = .ok (.iload_n 1, 1) := by decide +kernel
theorem dX11_thing_97 : decode cX11_thing 97 = .ok (.iaload, 1) := by decide +kernel
theorem dX11_thing_98 : decode cX11_thing 98 = .ok (.ireturn, 1) := by decide +kernel
theorem dX11_thing_99 : decode cX11_thing 99 = .ok (.aload_n 3, 1) := by decide +kernel
theorem dX11_thing_100 : decode cX11_thing 100 = .ok (.getfield 156, 3) := by decide +kernel
theorem dX11_thing_103 : decode cX11_thing 103 = .ok (.iload_n 1, 1) := by decide +kernel
theorem dX11_thing_104 : decode cX11_thing 104 = .ok (.iaload, 1) := by decide +kernel
theorem dX11_thing_105 : decode cX11_thing 105 = .ok (.ireturn, 1) := by decide +kernel
theorem dX11_thing_106 : decode cX11_thing 106 = .ok (.aload_n 3, 1) := by decide +kernel
theorem dX11_thing_107 : decode cX11_thing 107 = .ok (.getfield 159, 3) := by decide +kernel
theorem dX11_thing_110 : decode cX11_thing 110 = .ok (.iload_n 1, 1) := by decide +kernel
theorem dX11_thing_111 : decode cX11_thing 111 = .ok (.iaload, 1) := by decide +kernel
theorem dX11_thing_112 : decode cX11_thing 112 = .ok (.ireturn, 1) := by decide +kernel
theorem dX11_thing_113 : decode cX11_thing 113 = .ok (.aload 4, 2) := by decide +kernel
theorem dX11_thing_115 : decode cX11_thing 115 = .ok (.getfield 162, 3) := by decide +kernel
theorem dX11_thing_118 : decode cX11_thing 118 = .ok (.iload_n 1, 1) := by decide +kernel
theorem dX11_thing_119 : decode cX11_thing 119 = .ok (.iaload, 1) := by decide +kernel
theorem dX11_thing_120 : decode cX11_thing 120 = .ok (.ireturn, 1) := by decide +kernel
theorem dX11_thing_121 : decode cX11_thing 121 = .ok (.aload 4, 2) := by decide +kernel
theorem dX11_thing_123 : decode cX11_thing 123 = .ok (.getfield 165, 3) := by decide +kernel
theorem dX11_thing_126 : decode cX11_thing 126 = .ok (.iload_n 1, 1) := by decide +kernel
theorem dX11_thing_127 : decode cX11_thing 127 = .ok (.iaload, 1) := by decide +kernel
theorem dX11_thing_128 : decode cX11_thing 128 = .ok (.ireturn, 1) := by decide +kernel
theorem dX11_thing_129 : decode cX11_thing 129 = .ok (.aload 4, 2) := by decide +kernel
theorem dX11_thing_131 : decode cX11_thing 131 = .ok (.getfield 168, 3) := by decide +kernel
theorem dX11_thing_134 : decode cX11_thing 134 = .ok (.iload_n 1, 1) := by decide +kernel
theorem dX11_thing_135 : decode cX11_thing 135 = .ok (.invokestatic 171, 3) := by decide +kernel
theorem dX11_thing_138 : decode cX11_thing 138 = .ok (.ireturn, 1) := by decide +kernel
theorem dX11_thing_139 : decode cX11_thing 139 = .ok (.aload 4, 2) := by decide +kernel
theorem dX11_thing_141 : decode cX11_thing 141 = .ok (.aload_n 3, 1) := by decide +kernel
theorem dX11_thing_142 : decode cX11_thing 142 = .ok (.iload_n 1, 1) := by decide +kernel
theorem dX11_thing_143 : decode cX11_thing 143 = .ok (.aload 4, 2) := by decide +kernel
theorem dX11_thing_145 : decode cX11_thing 145 = .ok (.getfield 175, 3) := by decide +kernel
theorem dX11_thing_148 : decode cX11_thing 148 = .ok (.invokevirtual 178, 3) := by decide +kernel
theorem dX11_thing_151 : decode cX11_thing 151 = .ok (.ireturn, 1) := by decide +kernel
theorem dX11_thing_152 : decode cX11_thing 152 = .ok (.aload 4, 2) := by decide +kernel
theorem dX11_thing_154 : decode cX11_thing 154 = .ok (.aload_n 3, 1) := by decide +kernel
theorem dX11_thing_155 : decode cX11_thing 155 = .ok (.invokevirtual 182, 3) := by decide +kernel
theorem dX11_thing_158 : decode cX11_thing 158 = .ok (.iload_n 1, 1) := by decide +kernel
theorem dX11_thing_159 : decode cX11_thing 159 = .ok (.invokestatic 171, 3) := by decide +kernel
theorem dX11_thing_162 : decode cX11_thing 162 = .ok (.ireturn, 1) := by decide +kernel
theorem dX11_thing_163 : decode cX11_thing 163 = .ok (.aload 4, 2) := by decide +kernel
theorem dX11_thing_165 : decode cX11_thing 165 = .ok (.getfield 186, 3) := by decide +kernel
theorem dX11_thing_168 : decode cX11_thing 168 = .ok (.iload_n 1, 1) := by decide +kernel
theorem dX11_thing_169 : decode cX11_thing 169 = .ok (.iaload, 1) := by decide +kernel
theorem dX11_thing_170 : decode cX11_thing 170 = .ok (.ireturn, 1) := by decide +kernel
theorem dX11_trouble_0 : decode cX11_trouble 0 = .ok (.aload_n 0, 1) := by decide +kernel
theorem dX11_trouble_1 : decode cX11_trouble 1 = .ok (.iload_n 1, 1) := by decide +kernel
theorem dX11_trouble_2 : decode cX11_trouble 2 = .ok (.invokevirtual 189, 3) := by decide +kernel
theorem dX11_trouble_5 : decode cX11_trouble 5 = .ok (.ifCond .eq 13, 3) := by decide +kernel
theorem dX11_trouble_8 : decode cX11_trouble 8 = .ok (.iload_n 2, 1) := by decide +kernel
theorem dX11_trouble_9 : decode cX11_trouble 9 = .ok (.ifCond .lt 9, 3) := by decide +kernel
theorem dX11_trouble_12 : decode cX11_trouble 12 = .ok (.iload_n 2, 1) := by decide +kernel
theorem dX11_trouble_13 : decode cX11_trouble 13 = .ok (.bipush 7, 2) := by decide +kernel
theorem dX11_trouble_15 : decode cX11_trouble 15 = .ok (.if_icmp .le 11, 3) := by decide +kernel
theorem dX11_trouble_18 : decode cX11_trouble 18 = .ok (.new 150, 3) := by decide +kernel
theorem dX11_trouble_21 : decode cX11_trouble 21 = .ok (.dup, 1) := by decide +kernel
theorem dX11_trouble_22 : decode cX11_trouble 22 = .ok (.invokespecial 152, 3) := by decide +kernel
theorem dX11_trouble_25 : decode cX11_trouble 25 = .ok (.athrow, 1) := by decide +kernel
theorem dX11_trouble_26 : decode cX11_trouble 26 = .ok (.aload_n 0, 1) := by decide +kernel
theorem dX11_trouble_27 : decode cX11_trouble 27 = .ok (.getfield 21, 3) := by decide +kernel
theorem dX11_trouble_30 : decode cX11_trouble 30 = .ok (.getfield 111, 3) := by decide +kernel
theorem dX11_trouble_33 : decode cX11_trouble 33 = .ok (.astore_n 3, 1) := by decide +kernel
theorem dX11_trouble_34 : decode cX11_trouble 34 = .ok (.aload_n 0, 1) := by decide +kernel
theorem dX11_trouble_35 : decode cX11_trouble 35 = .ok (.getfield 21, 3) := by decide +kernel
theorem dX11_trouble_38 : decode cX11_trouble 38 = .ok (.getfield 124, 3) := by decide +kernel
theorem dX11_trouble_41 : decode cX11_trouble 41 = .ok (.astore 4, 2) := by decide +kernel
theorem dX11_trouble_43 : decode cX11_trouble 43 = .ok (.iload_n 2, 1) := by decide +kernel
theorem dX11_trouble_44 : decode cX11_trouble 44 = .ok (.tableswitch 98 0 6 #[44, 51, 58, 65, 72, 82, 90], 44) := by decide +kernel
theorem dX11_trouble_88 : decode cX11_trouble 88 = .ok (.aload_n 3, 1) := by decide +kernel
theorem dX11_trouble_89 : decode cX11_trouble 89 = .ok (.getfield 192, 3) := by decide +kernel
theorem dX11_trouble_92 : decode cX11_trouble 92 = .ok (.iload_n 1, 1) := by decide +kernel
theorem dX11_trouble_93 : decode cX11_trouble 93 = .ok (.iaload, 1) := by decide +kernel
theorem dX11_trouble_94 : decode cX11_trouble 94 = .ok (.ireturn, 1) := by decide +kernel
theorem dX11_trouble_95 : decode cX11_trouble 95 = .ok (.aload_n 3, 1) := by decide +kernel
theorem dX11_trouble_96 : decode cX11_trouble 96 = .ok (.getfield 195, 3) := by decide +kernel
theorem dX11_trouble_99 : decode cX11_trouble 99 = .ok (.iload_n 1, 1) := by decide +kernel
theorem dX11_trouble_100 : decode cX11_trouble 100 = .ok (.iaload, 1) := by decide +kernel
theorem dX11_trouble_101 : decode cX11_trouble 101 = .ok (.ireturn, 1) := by decide +kernel
theorem dX11_trouble_102 : decode cX11_trouble 102 = .ok (.aload_n 3, 1) := by decide +kernel
theorem dX11_trouble_103 : decode cX11_trouble 103 = .ok (.getfield 198, 3) := by decide +kernel
theorem dX11_trouble_106 : decode cX11_trouble 106 = .ok (.iload_n 1, 1) := by decide +kernel
theorem dX11_trouble_107 : decode cX11_trouble 107 = .ok (.iaload, 1) := by decide +kernel
theorem dX11_trouble_108 : decode cX11_trouble 108 = .ok (.ireturn, 1) := by decide +kernel
theorem dX11_trouble_109 : decode cX11_trouble 109 = .ok (.aload_n 3, 1) := by decide +kernel
theorem dX11_trouble_110 : decode cX11_trouble 110 = .ok (.getfield 201, 3) := by decide +kernel
theorem dX11_trouble_113 : decode cX11_trouble 113 = .ok (.iload_n 1, 1) := by decide +kernel
theorem dX11_trouble_114 : decode cX11_trouble 114 = .ok (.iaload, 1) := by decide +kernel
theorem dX11_trouble_115 : decode cX11_trouble 115 = .ok (.ireturn, 1) := by decide +kernel
theorem dX11_trouble_116 : decode cX11_trouble 116 = .ok (.aload 4, 2) := by decide +kernel
theorem dX11_trouble_118 : decode cX11_trouble 118 = .ok (.getfield 175, 3) := by decide +kernel
theorem dX11_trouble_121 : decode cX11_trouble 121 = .ok (.iload_n 1, 1) := by decide +kernel
theorem dX11_trouble_122 : decode cX11_trouble 122 = .ok (.invokestatic 171, 3) := by decide +kernel
theorem dX11_trouble_125 : decode cX11_trouble 125 = .ok (.ireturn, 1) := by decide +kernel
theorem dX11_trouble_126 : decode cX11_trouble 126 = .ok (.aload 4, 2) := by decide +kernel
theorem dX11_trouble_128 : decode cX11_trouble 128 = .ok (.getfield 204, 3) := by decide +kernel
theorem dX11_trouble_131 : decode cX11_trouble 131 = .ok (.iload_n 1, 1) := by decide +kernel
