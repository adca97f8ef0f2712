theorem dX11_thing_15 : decode cX11_thing 15 = .ok (.if_icmp .le 11, 3) := by decide +kernel
theorem dX11_thing_18 : decode cX11_thing 18 = .ok (.new 150, 3) := by decide +kernel
theorem dX11_thing_21 : decode cX11_thing 21 = .ok (.dup, 1) := by decide +kernel
theorem dX11_thing_22 : decode cX11_thing 22 = .ok (.invokespecial 152, 3) := by decide +kernel
theorem dX11_thing_25 : decode cX11_thing 25 = .ok (.athrow, 1) := by decide +kernel
theorem dX11_thing_26 : decode cX11_thing 26 = .ok (.aload_n 0, 1) := by decide +kernel
theorem dX11_thing_27 : decode cX11_thing 27 = .ok (.getfield 21, 3) := by decide +kernel
theorem dX11_thing_30 : decode cX11_thing 30 = .ok (.getfield 111, 3) := by decide +kernel
theorem dX11_thing_33 : decode cX11_thing 33 = .ok (.astore_n 3, 1) := by decide +kernel
theorem dX11_thing_34 : decode cX11_thing 34 = .ok (.aload_n 0, 1) := by decide +kernel
theorem dX11_thing_35 : decode cX11_thing 35 = .ok (.getfield 21, 3) := by decide +kernel
theorem dX11_thing_38 : decode cX11_thing 38 = .ok (.getfield 124, 3) := by decide +kernel
theorem dX11_thing_41 : decode cX11_thing 41 = .ok (.astore 4, 2) := by decide +kernel
theorem dX11_thing_43 : decode cX11_thing 43 = .ok (.iload_n 2, 1) := by decide +kernel
theorem dX11_thing_44 : decode cX11_thing 44 = .ok (.tableswitch 119 0 7 #[48, 55, 62, 69, 77, 85, 95, 108], 48) := by decide +kernel
theorem dX11_thing_92 : decode cX11_thing 92 = .ok (.aload_n 3, 1) := by decide +kernel
theorem dX11_thing_93 : decode cX11_thing 93 = .ok (.getfield 153, 3) := by decide +kernel
theorem dX11_thing_96 : decode cX11_thing 96 = .ok (.iload_n 1, 1) := by decide +kernel
theorem dX11_thing_97 : decode cX11_thing 97 = .ok (.iaload, 1) := by decide +kernel
theorem dX11_thing_98 : decode cX11_thing 98 = .ok (.ireturn, 1) := by decide +kernel
theorem dX11_thing_99 : decode cX11_thing 99 = .ok (.aload_n 3, 1) := by decide +kernel
theorem dX11_thing_100 : decode cX11_thing 100 = .ok (.getfield 156, 3) := by decide +kernel
theorem dX11_thing_103 : decode cX11_thing 103 = .ok (.iload_n 1, 1) := by decide +kernel
theorem dX11_thing_104 : decode cX11_thing 104 = .ok (.iaload, 1) := by decide +kernel
theorem dX11_thing_105 : decode cX11_thing 105 = .ok (.ireturn, 1) := by decide +kernel
theorem dX11_thing_106 : decode cX11_thing 106 = .ok (.aload_n 3, 1) := by decide +kernel
theorem dX11_thing_107 : decode cX11_thing 107 = .ok (.getfield 159, 3) := by decide +kernel
theorem dX11_thing_110 : decode cX11_thing 110 = .ok (.iload_n 1, 1) := by decide +kernel
theorem dX11_thing_111 : decode cX11_thing 111 = .ok (.iaload, 1) := by decide +kernel
theorem dX11_thing_112 : decode cX11_thing 112 = .ok (.ireturn, 1) := by decide +kernel
theorem dX11_thing_113 : decode cX11_thing 113 = .ok (.aload 4, 2) := by decide +kernel
theorem dX11_thing_115 : decode cX11_thing 115 = .ok (.getfield 162, 3) := by decide +kernel
theorem dX11_thing_118 : decode cX11_thing 118 = .ok (.iload_n 1, 1) := by decide +kernel
theorem dX11_thing_119 : decode cX11_thing 119 = .ok (.iaload, 1) := by decide +kernel
theorem dX11_thing_120 : decode cX11_thing 120 = .ok (.ireturn, 1) := by decide +kernel
theorem dX11_thing_121 : decode cX11_thing 121 = .ok (.aload 4, 2) := by decide +kernel
theorem dX11_thing_123 : decode cX11_thing 123 = .ok (.getfield 165, 3) := by decide +kernel
theorem dX11_thing_126 : decode cX11_thing 126 = .ok (.iload_n 1, 1) := by decide +kernel
theorem dX11_thing_127 : decode cX11_thing 127 = .ok (.iaload, 1) := by decide +kernel
theorem dX11_thing_128 : decode cX11_thing 128 = .ok (.ireturn, 1) := by decide +kernel
theorem dX11_thing_129 : decode cX11_thing 129 = .ok (.aload 4, 2) := by decide +kernel
theorem dX11_thing_131 : decode cX11_thing 131 = .ok (.getfield 168, 3) := by decide +kernel
theorem dX11_thing_134 : decode cX11_thing 134 = .ok (.iload_n 1, 1) := by decide +kernel
theorem dX11_thing_135 : decode cX11_thing 135 = .ok (.invokestatic 171, 3) := by decide +kernel
theorem dX11_thing_138 : decode cX11_thing 138 = .ok (.ireturn, 1) := by decide +kernel
theorem dX11_thing_139 : decode cX11_thing 139 = .ok (.aload 4, 2) := by decide +kernel
theorem dX11_thing_141 : decode cX11_thing 141 = .ok (.aload_n 3, 1) := by decide +kernel
theorem dX11_thing_142 : decode cX11_thing 142 = .ok (.iload_n 1, 1) := by decide +kernel
theorem dX11_thing_143 : decode cX11_thing 143 = .ok (.aload 4, 2) := by decide +kernel
theorem dX11_thing_145 : decode cX11_thing 145 = .ok (.getfield 175, 3) := by decide +kernel
theorem dX11_thing_148 : decode cX11_thing 148 = .ok (.invokevirtual 178, 3) := by decide +kernel
theorem dX11_thing_151 : decode cX11_thing 151 = .ok (.ireturn, 1) := by decide +kernel
theorem dX11_thing_152 : decode cX11_thing 152 = .ok (.aload 4, 2) := by decide +kernel
theorem dX11_thing_154 : decode cX11_thing 154 = .ok (.aload_n 3, 1) := by decide +kernel
theorem dX11_thing_155 : decode cX11_thing 155 = .ok (.invokevirtual 182, 3) := by decide +kernel
theorem dX11_thing_158 : decode cX11_thing 158 = .ok (.iload_n 1, 1) := by decide +kernel
theorem dX11_thing_159 : decode cX11_thing 159 = .ok (.invokestatic 171, 3) := by decide +kernel
theorem dX11_thing_162 : decode cX11_thing 162 = .ok (.ireturn, 1) := by decide +kernel
theorem dX11_thing_163 : decode cX11_thing 163 = .ok (.aload 4, 2) := by decide +kernel
theorem dX11_thing_165 : decode cX11_thing 165 = .ok (.getfield 186, 3) := by decide +kernel
theorem dX11_thing_168 : decode cX11_thing 168 = .ok (.iload_n 1, 1) := by decide +kernel
theorem dX11_thing_169 : decode cX11_thing 169 = .ok (.iaload, 1) := by decide +kernel
theorem dX11_thing_170 : decode cX11_thing 170 = .ok (.ireturn, 1) := by decide +kernel
theorem dX11_trouble_0 : decode cX11_trouble 0 = .ok (.aload_n 0, 1) := by decide +kernel
theorem dX11_trouble_1 : decode cX11_trouble 1 = .ok (.iload_n 1, 1) := by decide +kernel
theorem dX11_trouble_2 : decode cX11_trouble 2 = .ok (.invokevirtual 189, 3) := by decide +kernel
theorem dX11_trouble_5 : decode cX11_trouble 5 = .ok (.ifCond .eq 13, 3) := by decide +kernel
theorem dX11_trouble_8 : decode cX11_trouble 8 = .ok (.iload_n 2, 1) := by decide +kernel
theorem dX11_trouble_9 : decode cX11_trouble 9 = .ok (.ifCond .lt 9, 3) := by decide +kernel
theorem dX11_trouble_12 : decode cX11_trouble 12 = .ok (.iload_n 2, 1) := by decide +kernel
theorem dX11_trouble_13 : decode cX11_trouble 13 = .ok (.bipush 7, 2) := by decide +kernel
theorem dX11_trouble_15 : decode cX11_trouble 15 = .ok (.if_icmp .le 11, 3) := by decide +kernel
theorem dX11_trouble_18 : decode cX11_trouble 18 = .ok (.new 150, 3) := by decide +kernel
theorem dX11_trouble_21 : decode cX11_trouble 21 = .ok (.dup, 1) := by decide +kernel
theorem dX11_trouble_22 : decode cX11_trouble 22 = .ok (.invokespecial 152, 3) := by decide +kernel
theorem dX11_trouble_25 : decode cX11_trouble 25 = .ok (.athrow, 1) := by decide +kernel
theorem dX11_trouble_26 : decode cX11_trouble 26 = .ok (.aload_n 0, 1) := by decide +kernel
theorem dX11_trouble_27 : decode cX11_trouble 27 = .ok (.getfield 21, 3) := by decide +kernel
theorem dX11_trouble_30 : decode cX11_trouble 30 = .ok (.getfield 111, 3) := by decide +kernel
theorem dX11_trouble_33 : decode cX11_trouble 33 = .ok (.astore_n 3, 1) := by decide +kernel
theorem dX11_trouble_34 : decode cX11_trouble 34 = .ok (.aload_n 0, 1) := by decide +kernel
theorem dX11_trouble_35 : decode cX11_trouble 35 = .ok (.getfield 21, 3) := by decide +kernel
theorem dX11_trouble_38 : decode cX11_trouble 38 = .ok (.getfield 124, 3) := by decide +kernel
theorem dX11_trouble_41 : decode cX11_trouble 41 = .ok (.astore 4, 2) := by decide +kernel
theorem dX11_trouble_43 : decode cX11_trouble 43 = .ok (.iload_n 2, 1) := by decide +kernel
theorem dX11_trouble_44 : decode cX11_trouble 44 = .ok (.tableswitch 98 0 6 #[44, 51, 58, 65, 72, 82, 90], 44) := by decide +kernel
theorem dX11_trouble_88 : decode cX11_trouble 88 = .ok (.aload_n 3, 1) := by decide +kernel
theorem dX11_trouble_89 : decode cX11_trouble 89 = .ok (.getfield 192, 3) := by decide +kernel
theorem dX11_trouble_92 : decode cX11_trouble 92 = .ok (.iload_n 1, 1) := by decide +kernel
theorem dX11_trouble_93 : decode cX11_trouble 93 = .ok (.iaload, 1) := by decide +kernel
theorem dX11_trouble_94 : decode cX11_trouble 94 = .ok (.ireturn, 1) := by decide +kernel
theorem dX11_trouble_95 : decode cX11_trouble 95 = .ok (.aload_n 3, 1) := by decide +kernel
theorem dX11_trouble_96 : decode cX11_trouble 96 = .ok (.getfield 195, 3) := by decide +kernel
theorem dX11_trouble_99 : decode cX11_trouble 99 = .ok (.iload_n 1, 1) := by decide +kernel
theorem dX11_trouble_100 : decode cX11_trouble 100 = .ok (.iaload, 1) := by decide +kernel
theorem dX11_trouble_101 : decode cX11_trouble 101 = .ok (.ireturn, 1) := by decide +kernel
theorem dX11_trouble_102 : decode cX11_trouble 102 = .ok (.aload_n 3, 1) := by decide +kernel
theorem dX11_trouble_103 : decode cX11_trouble 103 = .ok (.getfield 198, 3) := by decide +kernel
theorem dX11_trouble_106 : decode cX11_trouble 106 = .ok (.iload_n 1, 1) := by decide +kernel
theorem dX11_trouble_107 : decode cX11_trouble 107 = .ok (.iaload, 1) := by decide +kernel
theorem dX11_trouble_108 : decode cX11_trouble 108 = .ok (.ireturn, 1) := by decide +kernel
theorem dX11_trouble_109 : decode cX11_trouble 109 = .ok (.aload_n 3, 1) := by decide +kernel
theorem dX11_trouble_110 : decode cX11_trouble 110 = .ok (.getfield 201, 3) := by decide +kernel
theorem dX11_trouble_113 : decode cX11_trouble 113 = .ok (.iload_n 1, 1) := by decide +kernel
theorem dX11_trouble_114 : decode cX11_trouble 114 = .ok (.iaload, 1) := by decide +kernel
theorem dX11_trouble_115 : decode cX11_trouble 115 = .ok (.ireturn, 1) := by decide +kernel
theorem dX11_trouble_116 : decode cX11_trouble 116 = .ok (.aload 4, 2) := by decide +kernel
theorem dX11_trouble_118 : decode cX11_trouble 118 = .ok (.getfield 175, 3) := by decide +kernel
theorem dX11_trouble_121 : decode cX11_trouble 121 = .ok (.iload_n 1, 1) := by decide +kernel
theorem dX11_trouble_122 : decode cX11_trouble 122 = .ok (.invokestatic 171, 3) := by decide +kernel
theorem dX11_trouble_125 : decode cX11_trouble 125 = .ok (.ireturn, 1) := by decide +kernel
theorem dX11_trouble_126 : decode cX11_trouble 126 = .ok (.aload 4, 2) := by decide +kernel
theorem dX11_trouble_128 : decode cX11_trouble 128 = .ok (.getfield 204, 3) := by decide +kernel
theorem dX11_trouble_131 : decode cX11_trouble 131 = .ok (.iload_n 1, 1) := by decide +kernel
theorem dX11_trouble_132 : decode cX11_trouble 132 = .ok (.iaload, 1) := by decide +kernel
theorem dX11_trouble_133 : decode cX11_trouble 133 = .ok (.ireturn, 1) := by decide +kernel
theorem dX11_trouble_134 : decode cX11_trouble 134 = .ok (.aload 4, 2) := by decide +kernel
theorem dX11_trouble_136 : decode cX11_trouble 136 = .ok (.getfield 207, 3) := by decide +kernel
theorem dX11_trouble_139 : decode cX11_trouble 139 = .ok (.iload_n 1, 1) := by decide +kernel
theorem dX11_trouble_140 : decode cX11_trouble 140 = .ok (.iaload, 1) := by decide +kernel
theorem dX11_trouble_141 : decode cX11_trouble 141 = .ok (.ireturn, 1) := by decide +kernel
theorem dX11_trouble_142 : decode cX11_trouble 142 = .ok (.aload 4, 2) := by decide +kernel
theorem dX11_trouble_144 : decode cX11_trouble 144 = .ok (.getfield 210, 3) := by decide +kernel
theorem dX11_trouble_147 : decode cX11_trouble 147 = .ok (.iload_n 1, 1) := by decide +kernel
theorem dX11_trouble_148 : decode cX11_trouble 148 = .ok (.iaload, 1) := by decide +kernel
theorem dX11_trouble_149 : decode cX11_trouble 149 = .ok (.ireturn, 1) := by decide +kernel
theorem dX11_cures_0 : decode cX11_cures 0 = .ok (.aload_n 0, 1) := by decide +kernel
theorem dX11_cures_1 : decode cX11_cures 1 = .ok (.iload_n 1, 1) := by decide +kernel
theorem dX11_cures_2 : decode cX11_cures 2 = .ok (.invokevirtual 189, 3) := by decide +kernel
theorem dX11_cures_5 : decode cX11_cures 5 = .ok (.ifCond .eq 12, 3) := by decide +kernel
theorem dX11_cures_8 : decode cX11_cures 8 = .ok (.iload_n 2, 1) := by decide +kernel
theorem dX11_cures_9 : decode cX11_cures 9 = .ok (.ifCond .lt 8, 3) := by decide +kernel
theorem dX11_cures_12 : decode cX11_cures 12 = .ok (.iload_n 2, 1) := by decide +kernel
theorem dX11_cures_13 : decode cX11_cures 13 = .ok (.iconst 3, 1) := by decide +kernel
theorem dX11_cures_14 : decode cX11_cures 14 = .ok (.if_icmp .lt 5, 3) := by decide +kernel
theorem dX11_cures_17 : decode cX11_cures 17 = .ok (.iconst (-1), 1) := by decide +kernel
theorem dX11_cures_18 : decode cX11_cures 18 = .ok (.ireturn, 1) := by decide +kernel
theorem dX11_cures_19 : decode cX11_cures 19 = .ok (.aload_n 0, 1) := by decide +kernel
theorem dX11_cures_20 : decode cX11_cures 20 = .ok (.getfield 21, 3) := by decide +kernel
theorem dX11_cures_23 : decode cX11_cures 23 = .ok (.getfield 111, 3) := by decide +kernel
theorem dX11_cures_26 : decode cX11_cures 26 = .ok (.iload_n 1, 1) := by decide +kernel
theorem dX11_cures_27 : decode cX11_cures 27 = .ok (.iload_n 2, 1) := by decide +kernel
theorem dX11_cures_28 : decode cX11_cures 28 = .ok (.invokevirtual 213, 3) := by decide +kernel
theorem dX11_cures_31 : decode cX11_cures 31 = .ok (.ireturn, 1) := by decide +kernel
theorem dX11_now_0 : decode cX11_now 0 = .ok (.aload_n 0, 1) := by decide +kernel
theorem dX11_now_1 : decode cX11_now 1 = .ok (.getfield 21, 3) := by decide +kernel
theorem dX11_now_4 : decode cX11_now 4 = .ok (.getfield 124, 3) := by decide +kernel
theorem dX11_now_7 : decode cX11_now 7 = .ok (.astore_n 2, 1) := by decide +kernel
theorem dX11_now_8 : decode cX11_now 8 = .ok (.iload_n 1, 1) := by decide +kernel
theorem dX11_now_9 : decode cX11_now 9 = .ok (.tableswitch 93 0 6 #[43, 48, 60, 73, 78, 83, 88], 43) := by decide +kernel
theorem dX11_now_52 : decode cX11_now 52 = .ok (.aload_n 2, 1) := by decide +kernel
theorem dX11_now_53 : decode cX11_now 53 = .ok (.getfield 216, 3) := by decide +kernel
theorem dX11_now_56 : decode cX11_now 56 = .ok (.ireturn, 1) := by decide +kernel
theorem dX11_now_57 : decode cX11_now 57 = .ok (.aload_n 2, 1) := by decide +kernel
theorem dX11_now_58 : decode cX11_now 58 = .ok (.aload_n 0, 1) := by decide +kernel
theorem dX11_now_59 : decode cX11_now 59 = .ok (.getfield 21, 3) := by decide +kernel
theorem dX11_now_62 : decode cX11_now 62 = .ok (.getfield 111, 3) := by decide +kernel
theorem dX11_now_65 : decode cX11_now 65 = .ok (.invokevirtual 182, 3) := by decide +kernel
theorem dX11_now_68 : decode cX11_now 68 = .ok (.ireturn, 1) := by decide +kernel
theorem dX11_now_69 : decode cX11_now 69 = .ok (.aload_n 2, 1) := by decide +kernel
theorem dX11_now_70 : decode cX11_now 70 = .ok (.aload_n 0, 1) := by decide +kernel
theorem dX11_now_71 : decode cX11_now 71 = .ok (.getfield 21, 3) := by decide +kernel
theorem dX11_now_74 : decode cX11_now 74 = .ok (.getfield 111, 3) := by decide +kernel
theorem dX11_now_77 : decode cX11_now 77 = .ok (.iconst 2, 1) := by decide +kernel
theorem dX11_now_78 : decode cX11_now 78 = .ok (.invokevirtual 219, 3) := by decide +kernel
theorem dX11_now_81 : decode cX11_now 81 = .ok (.ireturn, 1) := by decide +kernel
theorem dX11_now_82 : decode cX11_now 82 = .ok (.aload_n 2, 1) := by decide +kernel
theorem dX11_now_83 : decode cX11_now 83 = .ok (.getfield 175, 3) := by decide +kernel
theorem dX11_now_86 : decode cX11_now 86 = .ok (.ireturn, 1) := by decide +kernel
theorem dX11_now_87 : decode cX11_now 87 = .ok (.aload_n 2, 1) := by decide +kernel
theorem dX11_now_88 : decode cX11_now 88 = .ok (.getfield 223, 3) := by decide +kernel
theorem dX11_now_91 : decode cX11_now 91 = .ok (.ireturn, 1) := by decide +kernel
theorem dX11_now_92 : decode cX11_now 92 = .ok (.aload_n 2, 1) := by decide +kernel
theorem dX11_now_93 : decode cX11_now 93 = .ok (.getfield 226, 3) := by decide +kernel
theorem dX11_now_96 : decode cX11_now 96 = .ok (.ireturn, 1) := by decide +kernel
theorem dX11_now_97 : decode cX11_now 97 = .ok (.aload_n 2, 1) := by decide +kernel
theorem dX11_now_98 : decode cX11_now 98 = .ok (.getfield 229, 3) := by decide +kernel
theorem dX11_now_101 : decode cX11_now 101 = .ok (.ireturn, 1) := by decide +kernel
theorem dX11_now_102 : decode cX11_now 102 = .ok (.iconst (-1), 1) := by decide +kernel
theorem dX11_now_103 : decode cX11_now 103 = .ok (.ireturn, 1) := by decide +kernel
theorem dX11_off_0 : decode cX11_off 0 = .ok (.aload_n 0, 1) := by decide +kernel
theorem dX11_off_1 : decode cX11_off 1 = .ok (.iload_n 1, 1) := by decide +kernel
theorem dX11_off_2 : decode cX11_off 2 = .ok (.invokevirtual 146, 3) := by decide +kernel
theorem dX11_off_5 : decode cX11_off 5 = .ok (.ifCond .ne 5, 3) := by decide +kernel
theorem dX11_off_8 : decode cX11_off 8 = .ok (.iconst (-1), 1) := by decide +kernel
theorem dX11_off_9 : decode cX11_off 9 = .ok (.ireturn, 1) := by decide +kernel
theorem dX11_off_10 : decode cX11_off 10 = .ok (.aload_n 0, 1) := by decide +kernel
theorem dX11_off_11 : decode cX11_off 11 = .ok (.getfield 32, 3) := by decide +kernel
theorem dX11_off_14 : decode cX11_off 14 = .ok (.aload_n 0, 1) := by decide +kernel
theorem dX11_off_15 : decode cX11_off 15 = .ok (.getfield 21, 3) := by decide +kernel
theorem dX11_off_18 : decode cX11_off 18 = .ok (.getfield 124, 3) := by decide +kernel
theorem dX11_off_21 : decode cX11_off 21 = .ok (.invokevirtual 232, 3) := by decide +kernel
theorem dX11_off_24 : decode cX11_off 24 = .ok (.aload_n 0, 1) := by decide +kernel
theorem dX11_off_25 : decode cX11_off 25 = .ok (.aload_n 0, 1) := by decide +kernel
theorem dX11_off_26 : decode cX11_off 26 = .ok (.getfield 21, 3) := by decide +kernel
theorem dX11_off_29 : decode cX11_off 29 = .ok (.getfield 124, 3) := by decide +kernel
theorem dX11_off_32 : decode cX11_off 32 = .ok (.aload_n 0, 1) := by decide +kernel
theorem dX11_off_33 : decode cX11_off 33 = .ok (.getfield 21, 3) := by decide +kernel
theorem dX11_off_36 : decode cX11_off 36 = .ok (.getfield 111, 3) := by decide +kernel
theorem dX11_off_39 : decode cX11_off 39 = .ok (.iload_n 1, 1) := by decide +kernel
theorem dX11_off_40 : decode cX11_off 40 = .ok (.invokevirtual 236, 3) := by decide +kernel
theorem dX11_off_43 : decode cX11_off 43 = .ok (.invokevirtual 239, 3) := by decide +kernel
theorem dX11_off_46 : decode cX11_off 46 = .ok (.ireturn, 1) := by decide +kernel
theorem dX11_on_0 : decode cX11_on 0 = .ok (.aload_n 0, 1) := by decide +kernel
theorem dX11_on_1 : decode cX11_on 1 = .ok (.iload_n 1, 1) := by decide +kernel
theorem dX11_on_2 : decode cX11_on 2 = .ok (.invokevirtual 146, 3) := by decide +kernel
theorem dX11_on_5 : decode cX11_on 5 = .ok (.ifCond .ne 5, 3) := by decide +kernel
theorem dX11_on_8 : decode cX11_on 8 = .ok (.iconst (-1), 1) := by decide +kernel
theorem dX11_on_9 : decode cX11_on 9 = .ok (.ireturn, 1) := by decide +kernel
theorem dX11_on_10 : decode cX11_on 10 = .ok (.aload_n 0, 1) := by decide +kernel
theorem dX11_on_11 : decode cX11_on 11 = .ok (.getfield 32, 3) := by decide +kernel
theorem dX11_on_14 : decode cX11_on 14 = .ok (.aload_n 0, 1) := by decide +kernel
theorem dX11_on_15 : decode cX11_on 15 = .ok (.getfield 21, 3) := by decide +kernel
theorem dX11_on_18 : decode cX11_on 18 = .ok (.getfield 124, 3) := by decide +kernel
theorem dX11_on_21 : decode cX11_on 21 = .ok (.invokevirtual 232, 3) := by decide +kernel
theorem dX11_on_24 : decode cX11_on 24 = .ok (.aload_n 0, 1) := by decide +kernel
theorem dX11_on_25 : decode cX11_on 25 = .ok (.getfield 21, 3) := by decide +kernel
theorem dX11_on_28 : decode cX11_on 28 = .ok (.getfield 124, 3) := by decide +kernel
theorem dX11_on_31 : decode cX11_on 31 = .ok (.iload_n 2, 1) := by decide +kernel
theorem dX11_on_32 : decode cX11_on 32 = .ok (.putfield 243, 3) := by decide +kernel
theorem dX11_on_35 : decode cX11_on 35 = .ok (.aload_n 0, 1) := by decide +kernel
theorem dX11_on_36 : decode cX11_on 36 = .ok (.aload_n 0, 1) := by decide +kernel
theorem dX11_on_37 : decode cX11_on 37 = .ok (.getfield 21, 3) := by decide +kernel
theorem dX11_on_40 : decode cX11_on 40 = .ok (.getfield 124, 3) := by decide +kernel
theorem dX11_on_43 : decode cX11_on 43 = .ok (.aload_n 0, 1) := by decide +kernel
theorem dX11_on_44 : decode cX11_on 44 = .ok (.getfield 21, 3) := by decide +kernel
theorem dX11_on_47 : decode cX11_on 47 = .ok (.getfield 111, 3) := by decide +kernel
theorem dX11_on_50 : decode cX11_on 50 = .ok (.iload_n 1, 1) := by decide +kernel
theorem dX11_on_51 : decode cX11_on 51 = .ok (.invokevirtual 246, 3) := by decide +kernel
theorem dX11_on_54 : decode cX11_on 54 = .ok (.invokevirtual 239, 3) := by decide +kernel
theorem dX11_on_57 : decode cX11_on 57 = .ok (.ireturn, 1) := by decide +kernel
theorem dX11_cable_0 : decode cX11_cable 0 = .ok (.aload_n 0, 1) := by decide +kernel
theorem dX11_cable_1 : decode cX11_cable 1 = .ok (.iload_n 1, 1) := by decide +kernel
theorem dX11_cable_2 : decode cX11_cable 2 = .ok (.invokevirtual 146, 3) := by decide +kernel
theorem dX11_cable_5 : decode cX11_cable 5 = .ok (.ifCond .ne 5, 3) := by decide +kernel
theorem dX11_cable_8 : decode cX11_cable 8 = .ok (.iconst (-1), 1) := by decide +kernel
theorem dX11_cable_9 : decode cX11_cable 9 = .ok (.ireturn, 1) := by decide +kernel
theorem dX11_cable_10 : decode cX11_cable 10 = .ok (.aload_n 0, 1) := by decide +kernel
theorem dX11_cable_11 : decode cX11_cable 11 = .ok (.getfield 32, 3) := by decide +kernel
theorem dX11_cable_14 : decode cX11_cable 14 = .ok (.aload_n 0, 1) := by decide +kernel
theorem dX11_cable_15 : decode cX11_cable 15 = .ok (.getfield 21, 3) := by decide +kernel
theorem dX11_cable_18 : decode cX11_cable 18 = .ok (.getfield 124, 3) := by decide +kernel
theorem dX11_cable_21 : decode cX11_cable 21 = .ok (.invokevirtual 232, 3) := by decide +kernel
theorem dX11_cable_24 : decode cX11_cable 24 = .ok (.aload_n 0, 1) := by decide +kernel
theorem dX11_cable_25 : decode cX11_cable 25 = .ok (.getfield 21, 3) := by decide +kernel
theorem dX11_cable_28 : decode cX11_cable 28 = .ok (.getfield 124, 3) := by decide +kernel
theorem dX11_cable_31 : decode cX11_cable 31 = .ok (.iload_n 2, 1) := by decide +kernel
theorem dX11_cable_32 : decode cX11_cable 32 = .ok (.putfield 243, 3) := by decide +kernel
theorem dX11_cable_35 : decode cX11_cable 35 = .ok (.aload_n 0, 1) := by decide +kernel
theorem dX11_cable_36 : decode cX11_cable 36 = .ok (.aload_n 0, 1) := by decide +kernel
theorem dX11_cable_37 : decode cX11_cable 37 = .ok (.getfield 21, 3) := by decide +kernel
theorem dX11_cable_40 : decode cX11_cable 40 = .ok (.getfield 124, 3) := by decide +kernel
theorem dX11_cable_43 : decode cX11_cable 43 = .ok (.aload_n 0, 1) := by decide +kernel
theorem dX11_cable_44 : decode cX11_cable 44 = .ok (.getfield 21, 3) := by decide +kernel
theorem dX11_cable_47 : decode cX11_cable 47 = .ok (.getfield 111, 3) := by decide +kernel
theorem dX11_cable_50 : decode cX11_cable 50 = .ok (.iload_n 1, 1) := by decide +kernel
theorem dX11_cable_51 : decode cX11_cable 51 = .ok (.invokevirtual 249, 3) := by decide +kernel
theorem dX11_cable_54 : decode cX11_cable 54 = .ok (.invokevirtual 239, 3) := by decide +kernel
theorem dX11_cable_57 : decode cX11_cable 57 = .ok (.ireturn, 1) := by decide +kernel
theorem dX11_pin_0 : decode cX11_pin 0 = .ok (.aload_n 0, 1) := by decide +kernel
theorem dX11_pin_1 : decode cX11_pin 1 = .ok (.iload_n 1, 1) := by decide +kernel
theorem dX11_pin_2 : decode cX11_pin 2 = .ok (.invokevirtual 146, 3) := by decide +kernel
theorem dX11_pin_5 : decode cX11_pin 5 = .ok (.ifCond .ne 5, 3) := by decide +kernel
theorem dX11_pin_8 : decode cX11_pin 8 = .ok (.iconst (-1), 1) := by decide +kernel
theorem dX11_pin_9 : decode cX11_pin 9 = .ok (.ireturn, 1) := by decide +kernel
theorem dX11_pin_10 : decode cX11_pin 10 = .ok (.aload_n 0, 1) := by decide +kernel
theorem dX11_pin_11 : decode cX11_pin 11 = .ok (.getfield 32, 3) := by decide +kernel
theorem dX11_pin_14 : decode cX11_pin 14 = .ok (.aload_n 0, 1) := by decide +kernel
theorem dX11_pin_15 : decode cX11_pin 15 = .ok (.getfield 21, 3) := by decide +kernel
theorem dX11_pin_18 : decode cX11_pin 18 = .ok (.getfield 124, 3) := by decide +kernel
theorem dX11_pin_21 : decode cX11_pin 21 = .ok (.invokevirtual 232, 3) := by decide +kernel
theorem dX11_pin_24 : decode cX11_pin 24 = .ok (.aload_n 0, 1) := by decide +kernel
theorem dX11_pin_25 : decode cX11_pin 25 = .ok (.getfield 21, 3) := by decide +kernel
theorem dX11_pin_28 : decode cX11_pin 28 = .ok (.getfield 124, 3) := by decide +kernel
theorem dX11_pin_31 : decode cX11_pin 31 = .ok (.iload_n 2, 1) := by decide +kernel
theorem dX11_pin_32 : decode cX11_pin 32 = .ok (.putfield 243, 3) := by decide +kernel
theorem dX11_pin_35 : decode cX11_pin 35 = .ok (.aload_n 0, 1) := by decide +kernel
theorem dX11_pin_36 : decode cX11_pin 36 = .ok (.aload_n 0, 1) := by decide +kernel
theorem dX11_pin_37 : decode cX11_pin 37 = .ok (.getfield 21, 3) := by decide +kernel
theorem dX11_pin_40 : decode cX11_pin 40 = .ok (.getfield 124, 3) := by decide +kernel
theorem dX11_pin_43 : decode cX11_pin 43 = .ok (.aload_n 0, 1) := by decide +kernel
theorem dX11_pin_44 : decode cX11_pin 44 = .ok (.getfield 21, 3) := by decide +kernel
theorem dX11_pin_47 : decode cX11_pin 47 = .ok (.getfield 111, 3) := by decide +kernel
theorem dX11_pin_50 : decode cX11_pin 50 = .ok (.iload_n 1, 1) := by decide +kernel
theorem dX11_pin_51 : decode cX11_pin 51 = .ok (.invokevirtual 252, 3) := by decide +kernel
theorem dX11_pin_54 : decode cX11_pin 54 = .ok (.invokevirtual 239, 3) := by decide +kernel
theorem dX11_pin_57 : decode cX11_pin 57 = .ok (.ireturn, 1) := by decide +kernel
theorem dX11_strike_0 : decode cX11_strike 0 = .ok (.aload_n 0, 1) := by decide +kernel
theorem dX11_strike_1 : decode cX11_strike 1 = .ok (.iload_n 1, 1) := by decide +kernel
theorem dX11_strike_2 : decode cX11_strike 2 = .ok (.invokevirtual 189, 3) := by decide +kernel
theorem dX11_strike_5 : decode cX11_strike 5 = .ok (.ifCond .ne 5, 3) := by decide +kernel
theorem dX11_strike_8 : decode cX11_strike 8 = .ok (.iconst (-1), 1) := by decide +kernel
theorem dX11_strike_9 : decode cX11_strike 9 = .ok (.ireturn, 1) := by decide +kernel
theorem dX11_strike_10 : decode cX11_strike 10 = .ok (.aload_n 0, 1) := by decide +kernel
theorem dX11_strike_11 : decode cX11_strike 11 = .ok (.getfield 32, 3) := by decide +kernel
theorem dX11_strike_14 : decode cX11_strike 14 = .ok (.aload_n 0, 1) := by decide +kernel
theorem dX11_strike_15 : decode cX11_strike 15 = .ok (.getfield 21, 3) := by decide +kernel
theorem dX11_strike_18 : decode cX11_strike 18 = .ok (.getfield 124, 3) := by decide +kernel
theorem dX11_strike_21 : decode cX11_strike 21 = .ok (.invokevirtual 232, 3) := by decide +kernel
theorem dX11_strike_24 : decode cX11_strike 24 = .ok (.aload_n 0, 1) := by decide +kernel
theorem dX11_strike_25 : decode cX11_strike 25 = .ok (.aload_n 0, 1) := by decide +kernel
theorem dX11_strike_26 : decode cX11_strike 26 = .ok (.getfield 21, 3) := by decide +kernel
theorem dX11_strike_29 : decode cX11_strike 29 = .ok (.getfield 124, 3) := by decide +kernel
theorem dX11_strike_32 : decode cX11_strike 32 = .ok (.iload_n 1, 1) := by decide +kernel
theorem dX11_strike_33 : decode cX11_strike 33 = .ok (.invokevirtual 255, 3) := by decide +kernel
theorem dX11_strike_36 : decode cX11_strike 36 = .ok (.invokevirtual 239, 3) := by decide +kernel
theorem dX11_strike_39 : decode cX11_strike 39 = .ok (.ireturn, 1) := by decide +kernel
theorem dX11_minutes_0 : decode cX11_minutes 0 = .ok (.iload_n 1, 1) := by decide +kernel
theorem dX11_minutes_1 : decode cX11_minutes 1 = .ok (.iconst 1, 1) := by decide +kernel
theorem dX11_minutes_2 : decode cX11_minutes 2 = .ok (.if_icmp .lt 9, 3) := by decide +kernel
theorem dX11_minutes_5 : decode cX11_minutes 5 = .ok (.iload_n 1, 1) := by decide +kernel
theorem dX11_minutes_6 : decode cX11_minutes 6 = .ok (.bipush 60, 2) := by decide +kernel
theorem dX11_minutes_8 : decode cX11_minutes 8 = .ok (.if_icmp .le 5, 3) := by decide +kernel
theorem dX11_minutes_11 : decode cX11_minutes 11 = .ok (.iconst (-1), 1) := by decide +kernel
theorem dX11_minutes_12 : decode cX11_minutes 12 = .ok (.ireturn, 1) := by decide +kernel
theorem dX11_minutes_13 : decode cX11_minutes 13 = .ok (.aload_n 0, 1) := by decide +kernel
theorem dX11_minutes_14 : decode cX11_minutes 14 = .ok (.getfield 32, 3) := by decide +kernel
theorem dX11_minutes_17 : decode cX11_minutes 17 = .ok (.aload_n 0, 1) := by decide +kernel
theorem dX11_minutes_18 : decode cX11_minutes 18 = .ok (.getfield 21, 3) := by decide +kernel
theorem dX11_minutes_21 : decode cX11_minutes 21 = .ok (.getfield 124, 3) := by decide +kernel
theorem dX11_minutes_24 : decode cX11_minutes 24 = .ok (.invokevirtual 232, 3) := by decide +kernel
theorem dX11_minutes_27 : decode cX11_minutes 27 = .ok (.aload_n 0, 1) := by decide +kernel
theorem dX11_minutes_28 : decode cX11_minutes 28 = .ok (.getfield 21, 3) := by decide +kernel
theorem dX11_minutes_31 : decode cX11_minutes 31 = .ok (.getfield 124, 3) := by decide +kernel
theorem dX11_minutes_34 : decode cX11_minutes 34 = .ok (.aload_n 0, 1) := by decide +kernel
theorem dX11_minutes_35 : decode cX11_minutes 35 = .ok (.getfield 21, 3) := by decide +kernel
theorem dX11_minutes_38 : decode cX11_minutes 38 = .ok (.getfield 111, 3) := by decide +kernel
theorem dX11_minutes_41 : decode cX11_minutes 41 = .ok (.iload_n 1, 1) := by decide +kernel
theorem dX11_minutes_42 : decode cX11_minutes 42 = .ok (.invokevirtual 258, 3) := by decide +kernel
theorem dX11_minutes_45 : decode cX11_minutes 45 = .ok (.istore_n 2, 1) := by decide +kernel
theorem dX11_minutes_46 : decode cX11_minutes 46 = .ok (.iload_n 2, 1) := by decide +kernel
theorem dX11_minutes_47 : decode cX11_minutes 47 = .ok (.ifCond .le 10, 3) := by decide +kernel
theorem dX11_minutes_50 : decode cX11_minutes 50 = .ok (.aload_n 0, 1) := by decide +kernel
theorem dX11_minutes_51 : decode cX11_minutes 51 = .ok (.getfield 32, 3) := by decide +kernel
theorem dX11_minutes_54 : decode cX11_minutes 54 = .ok (.invokevirtual 261, 3) := by decide +kernel
theorem dX11_minutes_57 : decode cX11_minutes 57 = .ok (.iload_n 2, 1) := by decide +kernel
theorem dX11_minutes_58 : decode cX11_minutes 58 = .ok (.ireturn, 1) := by decide +kernel
theorem dX11_undo_0 : decode cX11_undo 0 = .ok (.aload_n 0, 1) := by decide +kernel
theorem dX11_undo_1 : decode cX11_undo 1 = .ok (.getfield 32, 3) := by decide +kernel
theorem dX11_undo_4 : decode cX11_undo 4 = .ok (.aload_n 0, 1) := by decide +kernel
theorem dX11_undo_5 : decode cX11_undo 5 = .ok (.getfield 21, 3) := by decide +kernel
theorem dX11_undo_8 : decode cX11_undo 8 = .ok (.getfield 124, 3) := by decide +kernel
theorem dX11_undo_11 : decode cX11_undo 11 = .ok (.invokevirtual 264, 3) := by decide +kernel
theorem dX11_undo_14 : decode cX11_undo 14 = .ok (.ireturn, 1) := by decide +kernel
theorem dX11_what_0 : decode cX11_what 0 = .ok (.aload_n 0, 1) := by decide +kernel
theorem dX11_what_1 : decode cX11_what 1 = .ok (.invokevirtual 268, 3) := by decide +kernel
theorem dX11_what_4 : decode cX11_what 4 = .ok (.istore_n 1, 1) := by decide +kernel
theorem dX11_what_5 : decode cX11_what 5 = .ok (.aload_n 0, 1) := by decide +kernel
theorem dX11_what_6 : decode cX11_what 6 = .ok (.getfield 14, 3) := by decide +kernel
theorem dX11_what_9 : decode cX11_what 9 = .ok (.iconst 0, 1) := by decide +kernel
theorem dX11_what_10 : decode cX11_what 10 = .ok (.putfield 88, 3) := by decide +kernel
theorem dX11_what_13 : decode cX11_what 13 = .ok (.iload_n 1, 1) := by decide +kernel
theorem dX11_what_14 : decode cX11_what 14 = .ok (.ifCond .le 29, 3) := by decide +kernel
theorem dX11_what_17 : decode cX11_what 17 = .ok (.aload_n 0, 1) := by decide +kernel
theorem dX11_what_18 : decode cX11_what 18 = .ok (.iload_n 1, 1) := by decide +kernel
theorem dX11_what_19 : decode cX11_what 19 = .ok (.putfield 272, 3) := by decide +kernel
theorem dX11_what_22 : decode cX11_what 22 = .ok (.aload_n 0, 1) := by decide +kernel
theorem dX11_what_23 : decode cX11_what 23 = .ok (.getfield 21, 3) := by decide +kernel
theorem dX11_what_26 : decode cX11_what 26 = .ok (.getfield 111, 3) := by decide +kernel
theorem dX11_what_29 : decode cX11_what 29 = .ok (.getfield 198, 3) := by decide +kernel
theorem dX11_what_32 : decode cX11_what 32 = .ok (.iconst 0, 1) := by decide +kernel
theorem dX11_what_33 : decode cX11_what 33 = .ok (.aload_n 0, 1) := by decide +kernel
theorem dX11_what_34 : decode cX11_what 34 = .ok (.getfield 74, 3) := by decide +kernel
theorem dX11_what_37 : decode cX11_what 37 = .ok (.iconst 0, 1) := by decide +kernel
theorem dX11_what_38 : decode cX11_what 38 = .ok (.bipush 8, 2) := by decide +kernel
theorem dX11_what_40 : decode cX11_what 40 = .ok (.invokestatic 275, 3) := by decide +kernel
theorem dX11_what_43 : decode cX11_what 43 = .ok (.iload_n 1, 1) := by decide +kernel
theorem dX11_what_44 : decode cX11_what 44 = .ok (.ireturn, 1) := by decide +kernel
theorem dX11_likely_0 : decode cX11_likely 0 = .ok (.aload_n 0, 1) := by decide +kernel
theorem dX11_likely_1 : decode cX11_likely 1 = .ok (.iload_n 1, 1) := by decide +kernel
theorem dX11_likely_2 : decode cX11_likely 2 = .ok (.invokevirtual 189, 3) := by decide +kernel
theorem dX11_likely_5 : decode cX11_likely 5 = .ok (.ifCond .eq 23, 3) := by decide +kernel
theorem dX11_likely_8 : decode cX11_likely 8 = .ok (.aload_n 0, 1) := by decide +kernel
theorem dX11_likely_9 : decode cX11_likely 9 = .ok (.getfield 272, 3) := by decide +kernel
theorem dX11_likely_12 : decode cX11_likely 12 = .ok (.iload_n 1, 1) := by decide +kernel
theorem dX11_likely_13 : decode cX11_likely 13 = .ok (.invokestatic 171, 3) := by decide +kernel
theorem dX11_likely_16 : decode cX11_likely 16 = .ok (.ifCond .eq 12, 3) := by decide +kernel
theorem dX11_likely_19 : decode cX11_likely 19 = .ok (.iload_n 2, 1) := by decide +kernel
theorem dX11_likely_20 : decode cX11_likely 20 = .ok (.ifCond .lt 8, 3) := by decide +kernel
theorem dX11_likely_23 : decode cX11_likely 23 = .ok (.iload_n 2, 1) := by decide +kernel
theorem dX11_likely_24 : decode cX11_likely 24 = .ok (.iconst 1, 1) := by decide +kernel
theorem dX11_likely_25 : decode cX11_likely 25 = .ok (.if_icmp .le 11, 3) := by decide +kernel
theorem dX11_likely_28 : decode cX11_likely 28 = .ok (.new 150, 3) := by decide +kernel
theorem dX11_likely_31 : decode cX11_likely 31 = .ok (.dup, 1) := by decide +kernel
theorem dX11_likely_32 : decode cX11_likely 32 = .ok (.invokespecial 152, 3) := by decide +kernel
theorem dX11_likely_35 : decode cX11_likely 35 = .ok (.athrow, 1) := by decide +kernel
theorem dX11_likely_36 : decode cX11_likely 36 = .ok (.iconst 0, 1) := by decide +kernel
theorem dX11_likely_37 : decode cX11_likely 37 = .ok (.istore_n 3, 1) := by decide +kernel
theorem dX11_likely_38 : decode cX11_likely 38 = .ok (.iconst 0, 1) := by decide +kernel
theorem dX11_likely_39 : decode cX11_likely 39 = .ok (.istore 4, 2) := by decide +kernel
theorem dX11_likely_41 : decode cX11_likely 41 = .ok (.iload 4, 2) := by decide +kernel
theorem dX11_likely_43 : decode cX11_likely 43 = .ok (.bipush 8, 2) := by decide +kernel
theorem dX11_likely_45 : decode cX11_likely 45 = .ok (.if_icmp .ge 29, 3) := by decide +kernel
theorem dX11_likely_48 : decode cX11_likely 48 = .ok (.iload_n 3, 1) := by decide +kernel
theorem dX11_likely_49 : decode cX11_likely 49 = .ok (.aload_n 0, 1) := by decide +kernel
theorem dX11_likely_50 : decode cX11_likely 50 = .ok (.getfield 272, 3) := by decide +kernel
theorem dX11_likely_53 : decode cX11_likely 53 = .ok (.iload 4, 2) := by decide +kernel
theorem dX11_likely_55 : decode cX11_likely 55 = .ok (.invokestatic 171, 3) := by decide +kernel
theorem dX11_likely_58 : decode cX11_likely 58 = .ok (.aload_n 0, 1) := by decide +kernel
theorem dX11_likely_59 : decode cX11_likely 59 = .ok (.getfield 74, 3) := by decide +kernel
