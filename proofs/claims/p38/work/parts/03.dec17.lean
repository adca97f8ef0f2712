theorem dX12_thing_125 : decode cX12_thing 125 = .ok (.iaload, 1) := by decide +kernel
theorem dX12_thing_126 : decode cX12_thing 126 = .ok (.ireturn, 1) := by decide +kernel
theorem dX12_thing_127 : decode cX12_thing 127 = .ok (.aload_n 0, 1) := by decide +kernel
theorem dX12_thing_128 : decode cX12_thing 128 = .ok (.iload_n 1, 1) := by decide +kernel
theorem dX12_thing_129 : decode cX12_thing 129 = .ok (.invokevirtual 227, 3) := by decide +kernel
theorem dX12_thing_132 : decode cX12_thing 132 = .ok (.ireturn, 1) := by decide +kernel
theorem dX12_thing_133 : decode cX12_thing 133 = .ok (.aload_n 0, 1) := by decide +kernel
theorem dX12_thing_134 : decode cX12_thing 134 = .ok (.iload_n 1, 1) := by decide +kernel
theorem dX12_thing_135 : decode cX12_thing 135 = .ok (.invokevirtual 218, 3) := by decide +kernel
theorem dX12_thing_138 : decode cX12_thing 138 = .ok (.ifCond .eq 7, 3) := by decide +kernel
theorem dX12_thing_141 : decode cX12_thing 141 = .ok (.iconst 1, 1) := by decide +kernel
theorem dX12_thing_142 : decode cX12_thing 142 = .ok (.goto 4, 3) := by decide +kernel
theorem dX12_thing_145 : decode cX12_thing 145 = .ok (.iconst 0, 1) := by decide +kernel
theorem dX12_thing_146 : decode cX12_thing 146 = .ok (.ireturn, 1) := by decide +kernel
theorem dX12_thing_147 : decode cX12_thing 147 = .ok (.aload_n 0, 1) := by decide +kernel
theorem dX12_thing_148 : decode cX12_thing 148 = .ok (.getfield 13, 3) := by decide +kernel
theorem dX12_thing_151 : decode cX12_thing 151 = .ok (.bipush 99, 2) := by decide +kernel
theorem dX12_thing_153 : decode cX12_thing 153 = .ok (.iload_n 1, 1) := by decide +kernel
theorem dX12_thing_154 : decode cX12_thing 154 = .ok (.iadd, 1) := by decide +kernel
theorem dX12_thing_155 : decode cX12_thing 155 = .ok (.iaload, 1) := by decide +kernel
theorem dX12_thing_156 : decode cX12_thing 156 = .ok (.ireturn, 1) := by decide +kernel
theorem dX12_thing_157 : decode cX12_thing 157 = .ok (.aload_n 0, 1) := by decide +kernel
theorem dX12_thing_158 : decode cX12_thing 158 = .ok (.invokevirtual 224, 3) := by decide +kernel
theorem dX12_thing_161 : decode cX12_thing 161 = .ok (.ireturn, 1) := by decide +kernel
theorem dX12_trouble_0 : decode cX12_trouble 0 = .ok (.aload_n 0, 1) := by decide +kernel
theorem dX12_trouble_1 : decode cX12_trouble 1 = .ok (.iconst 0, 1) := by decide +kernel
theorem dX12_trouble_2 : decode cX12_trouble 2 = .ok (.putfield 73, 3) := by decide +kernel
theorem dX12_trouble_5 : decode cX12_trouble 5 = .ok (.aload_n 0, 1) := by decide +kernel
theorem dX12_trouble_6 : decode cX12_trouble 6 = .ok (.iload_n 1, 1) := by decide +kernel
theorem dX12_trouble_7 : decode cX12_trouble 7 = .ok (.invokevirtual 230, 3) := by decide +kernel
theorem dX12_trouble_10 : decode cX12_trouble 10 = .ok (.ifCond .ne 8, 3) := by decide +kernel
theorem dX12_trouble_13 : decode cX12_trouble 13 = .ok (.aload_n 0, 1) := by decide +kernel
theorem dX12_trouble_14 : decode cX12_trouble 14 = .ok (.invokevirtual 224, 3) := by decide +kernel
theorem dX12_trouble_17 : decode cX12_trouble 17 = .ok (.ireturn, 1) := by decide +kernel
theorem dX12_trouble_18 : decode cX12_trouble 18 = .ok (.iload_n 2, 1) := by decide +kernel
theorem dX12_trouble_19 : decode cX12_trouble 19 = .ok (.tableswitch 126 0 7 #[45, 55, 65, 75, 85, 95, 105, 115], 45) := by decide +kernel
theorem dX12_trouble_64 : decode cX12_trouble 64 = .ok (.aload_n 0, 1) := by decide +kernel
theorem dX12_trouble_65 : decode cX12_trouble 65 = .ok (.getfield 13, 3) := by decide +kernel
theorem dX12_trouble_68 : decode cX12_trouble 68 = .ok (.bipush 21, 2) := by decide +kernel
theorem dX12_trouble_70 : decode cX12_trouble 70 = .ok (.iload_n 1, 1) := by decide +kernel
theorem dX12_trouble_71 : decode cX12_trouble 71 = .ok (.iadd, 1) := by decide +kernel
theorem dX12_trouble_72 : decode cX12_trouble 72 = .ok (.iaload, 1) := by decide +kernel
theorem dX12_trouble_73 : decode cX12_trouble 73 = .ok (.ireturn, 1) := by decide +kernel
theorem dX12_trouble_74 : decode cX12_trouble 74 = .ok (.aload_n 0, 1) := by decide +kernel
theorem dX12_trouble_75 : decode cX12_trouble 75 = .ok (.getfield 13, 3) := by decide +kernel
theorem dX12_trouble_78 : decode cX12_trouble 78 = .ok (.bipush 29, 2) := by decide +kernel
theorem dX12_trouble_80 : decode cX12_trouble 80 = .ok (.iload_n 1, 1) := by decide +kernel
theorem dX12_trouble_81 : decode cX12_trouble 81 = .ok (.iadd, 1) := by decide +kernel
theorem dX12_trouble_82 : decode cX12_trouble 82 = .ok (.iaload, 1) := by decide +kernel
theorem dX12_trouble_83 : decode cX12_trouble 83 = .ok (.ireturn, 1) := by decide +kernel
theorem dX12_trouble_84 : decode cX12_trouble 84 = .ok (.aload_n 0, 1) := by decide +kernel
theorem dX12_trouble_85 : decode cX12_trouble 85 = .ok (.getfield 13, 3) := by decide +kernel
theorem dX12_trouble_88 : decode cX12_trouble 88 = .ok (.bipush 37, 2) := by decide +kernel
theorem dX12_trouble_90 : decode cX12_trouble 90 = .ok (.iload_n 1, 1) := by decide +kernel
theorem dX12_trouble_91 : decode cX12_trouble 91 = .ok (.iadd, 1) := by decide +kernel
theorem dX12_trouble_92 : decode cX12_trouble 92 = .ok (.iaload, 1) := by decide +kernel
theorem dX12_trouble_93 : decode cX12_trouble 93 = .ok (.ireturn, 1) := by decide +kernel
theorem dX12_trouble_94 : decode cX12_trouble 94 = .ok (.aload_n 0, 1) := by decide +kernel
theorem dX12_trouble_95 : decode cX12_trouble 95 = .ok (.getfield 13, 3) := by decide +kernel
theorem dX12_trouble_98 : decode cX12_trouble 98 = .ok (.bipush 45, 2) := by decide +kernel
theorem dX12_trouble_100 : decode cX12_trouble 100 = .ok (.iload_n 1, 1) := by decide +kernel
theorem dX12_trouble_101 : decode cX12_trouble 101 = .ok (.iadd, 1) := by decide +kernel
theorem dX12_trouble_102 : decode cX12_trouble 102 = .ok (.iaload, 1) := by decide +kernel
theorem dX12_trouble_103 : decode cX12_trouble 103 = .ok (.ireturn, 1) := by decide +kernel
theorem dX12_trouble_104 : decode cX12_trouble 104 = .ok (.aload_n 0, 1) := by decide +kernel
theorem dX12_trouble_105 : decode cX12_trouble 105 = .ok (.getfield 13, 3) := by decide +kernel
theorem dX12_trouble_108 : decode cX12_trouble 108 = .ok (.bipush 105, 2) := by decide +kernel
theorem dX12_trouble_110 : decode cX12_trouble 110 = .ok (.iload_n 1, 1) := by decide +kernel
theorem dX12_trouble_111 : decode cX12_trouble 111 = .ok (.iadd, 1) := by decide +kernel
theorem dX12_trouble_112 : decode cX12_trouble 112 = .ok (.iaload, 1) := by decide +kernel
theorem dX12_trouble_113 : decode cX12_trouble 113 = .ok (.ireturn, 1) := by decide +kernel
theorem dX12_trouble_114 : decode cX12_trouble 114 = .ok (.aload_n 0, 1) := by decide +kernel
theorem dX12_trouble_115 : decode cX12_trouble 115 = .ok (.getfield 13, 3) := by decide +kernel
theorem dX12_trouble_118 : decode cX12_trouble 118 = .ok (.bipush 113, 2) := by decide +kernel
theorem dX12_trouble_120 : decode cX12_trouble 120 = .ok (.iload_n 1, 1) := by decide +kernel
theorem dX12_trouble_121 : decode cX12_trouble 121 = .ok (.iadd, 1) := by decide +kernel
theorem dX12_trouble_122 : decode cX12_trouble 122 = .ok (.iaload, 1) := by decide +kernel
theorem dX12_trouble_123 : decode cX12_trouble 123 = .ok (.ireturn, 1) := by decide +kernel
theorem dX12_trouble_124 : decode cX12_trouble 124 = .ok (.aload_n 0, 1) := by decide +kernel
theorem dX12_trouble_125 : decode cX12_trouble 125 = .ok (.getfield 13, 3) := by decide +kernel
theorem dX12_trouble_128 : decode cX12_trouble 128 = .ok (.bipush 121, 2) := by decide +kernel
theorem dX12_trouble_130 : decode cX12_trouble 130 = .ok (.iload_n 1, 1) := by decide +kernel
theorem dX12_trouble_131 : decode cX12_trouble 131 = .ok (.iadd, 1) := by decide +kernel
theorem dX12_trouble_132 : decode cX12_trouble 132 = .ok (.iaload, 1) := by decide +kernel
theorem dX12_trouble_133 : decode cX12_trouble 133 = .ok (.ireturn, 1) := by decide +kernel
theorem dX12_trouble_134 : decode cX12_trouble 134 = .ok (.aload_n 0, 1) := by decide +kernel
theorem dX12_trouble_135 : decode cX12_trouble 135 = .ok (.getfield 13, 3) := by decide +kernel
theorem dX12_trouble_138 : decode cX12_trouble 138 = .ok (.sipush 129, 3) := by decide +kernel
theorem dX12_trouble_141 : decode cX12_trouble 141 = .ok (.iload_n 1, 1) := by decide +kernel
theorem dX12_trouble_142 : decode cX12_trouble 142 = .ok (.iadd, 1) := by decide +kernel
theorem dX12_trouble_143 : decode cX12_trouble 143 = .ok (.iaload, 1) := by decide +kernel
theorem dX12_trouble_144 : decode cX12_trouble 144 = .ok (.ireturn, 1) := by decide +kernel
theorem dX12_trouble_145 : decode cX12_trouble 145 = .ok (.aload_n 0, 1) := by decide +kernel
theorem dX12_trouble_146 : decode cX12_trouble 146 = .ok (.invokevirtual 224, 3) := by decide +kernel
theorem dX12_trouble_149 : decode cX12_trouble 149 = .ok (.ireturn, 1) := by decide +kernel
theorem dX12_cures_0 : decode cX12_cures 0 = .ok (.aload_n 0, 1) := by decide +kernel
theorem dX12_cures_1 : decode cX12_cures 1 = .ok (.iconst 0, 1) := by decide +kernel
theorem dX12_cures_2 : decode cX12_cures 2 = .ok (.putfield 73, 3) := by decide +kernel
theorem dX12_cures_5 : decode cX12_cures 5 = .ok (.aload_n 0, 1) := by decide +kernel
theorem dX12_cures_6 : decode cX12_cures 6 = .ok (.iload_n 1, 1) := by decide +kernel
theorem dX12_cures_7 : decode cX12_cures 7 = .ok (.invokevirtual 230, 3) := by decide +kernel
theorem dX12_cures_10 : decode cX12_cures 10 = .ok (.ifCond .eq 28, 3) := by decide +kernel
theorem dX12_cures_13 : decode cX12_cures 13 = .ok (.iload_n 2, 1) := by decide +kernel
theorem dX12_cures_14 : decode cX12_cures 14 = .ok (.iconst 0, 1) := by decide +kernel
theorem dX12_cures_15 : decode cX12_cures 15 = .ok (.iconst 2, 1) := by decide +kernel
theorem dX12_cures_16 : decode cX12_cures 16 = .ok (.invokestatic 140, 3) := by decide +kernel
theorem dX12_cures_19 : decode cX12_cures 19 = .ok (.ifCond .eq 19, 3) := by decide +kernel
theorem dX12_cures_22 : decode cX12_cures 22 = .ok (.aload_n 0, 1) := by decide +kernel
theorem dX12_cures_23 : decode cX12_cures 23 = .ok (.getfield 13, 3) := by decide +kernel
theorem dX12_cures_26 : decode cX12_cures 26 = .ok (.bipush 53, 2) := by decide +kernel
theorem dX12_cures_28 : decode cX12_cures 28 = .ok (.iconst 3, 1) := by decide +kernel
theorem dX12_cures_29 : decode cX12_cures 29 = .ok (.iload_n 1, 1) := by decide +kernel
theorem dX12_cures_30 : decode cX12_cures 30 = .ok (.imul, 1) := by decide +kernel
theorem dX12_cures_31 : decode cX12_cures 31 = .ok (.iadd, 1) := by decide +kernel
theorem dX12_cures_32 : decode cX12_cures 32 = .ok (.iload_n 2, 1) := by decide +kernel
theorem dX12_cures_33 : decode cX12_cures 33 = .ok (.iadd, 1) := by decide +kernel
theorem dX12_cures_34 : decode cX12_cures 34 = .ok (.iaload, 1) := by decide +kernel
theorem dX12_cures_35 : decode cX12_cures 35 = .ok (.goto 4, 3) := by decide +kernel
theorem dX12_cures_38 : decode cX12_cures 38 = .ok (.iconst (-1), 1) := by decide +kernel
theorem dX12_cures_39 : decode cX12_cures 39 = .ok (.ireturn, 1) := by decide +kernel
theorem dX12_now_0 : decode cX12_now 0 = .ok (.aload_n 0, 1) := by decide +kernel
theorem dX12_now_1 : decode cX12_now 1 = .ok (.iconst 0, 1) := by decide +kernel
theorem dX12_now_2 : decode cX12_now 2 = .ok (.putfield 73, 3) := by decide +kernel
theorem dX12_now_5 : decode cX12_now 5 = .ok (.iconst 0, 1) := by decide +kernel
theorem dX12_now_6 : decode cX12_now 6 = .ok (.istore_n 2, 1) := by decide +kernel
theorem dX12_now_7 : decode cX12_now 7 = .ok (.iload_n 1, 1) := by decide +kernel
theorem dX12_now_8 : decode cX12_now 8 = .ok (.tableswitch 154 0 6 #[44, 52, 57, 96, 130, 138, 146], 44) := by decide +kernel
theorem dX12_now_52 : decode cX12_now 52 = .ok (.aload_n 0, 1) := by decide +kernel
theorem dX12_now_53 : decode cX12_now 53 = .ok (.getfield 13, 3) := by decide +kernel
theorem dX12_now_56 : decode cX12_now 56 = .ok (.bipush 77, 2) := by decide +kernel
theorem dX12_now_58 : decode cX12_now 58 = .ok (.iaload, 1) := by decide +kernel
theorem dX12_now_59 : decode cX12_now 59 = .ok (.ireturn, 1) := by decide +kernel
theorem dX12_now_60 : decode cX12_now 60 = .ok (.aload_n 0, 1) := by decide +kernel
theorem dX12_now_61 : decode cX12_now 61 = .ok (.invokevirtual 233, 3) := by decide +kernel
theorem dX12_now_64 : decode cX12_now 64 = .ok (.ireturn, 1) := by decide +kernel
theorem dX12_now_65 : decode cX12_now 65 = .ok (.iconst 0, 1) := by decide +kernel
theorem dX12_now_66 : decode cX12_now 66 = .ok (.istore_n 3, 1) := by decide +kernel
theorem dX12_now_67 : decode cX12_now 67 = .ok (.iload_n 3, 1) := by decide +kernel
theorem dX12_now_68 : decode cX12_now 68 = .ok (.aload_n 0, 1) := by decide +kernel
theorem dX12_now_69 : decode cX12_now 69 = .ok (.getfield 13, 3) := by decide +kernel
theorem dX12_now_72 : decode cX12_now 72 = .ok (.iconst 0, 1) := by decide +kernel
theorem dX12_now_73 : decode cX12_now 73 = .ok (.iaload, 1) := by decide +kernel
theorem dX12_now_74 : decode cX12_now 74 = .ok (.if_icmp .ge 28, 3) := by decide +kernel
theorem dX12_now_77 : decode cX12_now 77 = .ok (.aload_n 0, 1) := by decide +kernel
theorem dX12_now_78 : decode cX12_now 78 = .ok (.getfield 13, 3) := by decide +kernel
theorem dX12_now_81 : decode cX12_now 81 = .ok (.bipush 81, 2) := by decide +kernel
theorem dX12_now_83 : decode cX12_now 83 = .ok (.iload_n 3, 1) := by decide +kernel
theorem dX12_now_84 : decode cX12_now 84 = .ok (.iadd, 1) := by decide +kernel
theorem dX12_now_85 : decode cX12_now 85 = .ok (.iaload, 1) := by decide +kernel
theorem dX12_now_86 : decode cX12_now 86 = .ok (.iconst 2, 1) := by decide +kernel
theorem dX12_now_87 : decode cX12_now 87 = .ok (.if_icmp .ne 9, 3) := by decide +kernel
theorem dX12_now_90 : decode cX12_now 90 = .ok (.iload_n 2, 1) := by decide +kernel
theorem dX12_now_91 : decode cX12_now 91 = .ok (.iconst 1, 1) := by decide +kernel
theorem dX12_now_92 : decode cX12_now 92 = .ok (.iload_n 3, 1) := by decide +kernel
theorem dX12_now_93 : decode cX12_now 93 = .ok (.ishl, 1) := by decide +kernel
theorem dX12_now_94 : decode cX12_now 94 = .ok (.ior, 1) := by decide +kernel
theorem dX12_now_95 : decode cX12_now 95 = .ok (.istore_n 2, 1) := by decide +kernel
theorem dX12_now_96 : decode cX12_now 96 = .ok (.iinc 3 1, 3) := by decide +kernel
theorem dX12_now_99 : decode cX12_now 99 = .ok (.goto (-32), 3) := by decide +kernel
theorem dX12_now_102 : decode cX12_now 102 = .ok (.iload_n 2, 1) := by decide +kernel
theorem dX12_now_103 : decode cX12_now 103 = .ok (.ireturn, 1) := by decide +kernel
theorem dX12_now_104 : decode cX12_now 104 = .ok (.iconst 0, 1) := by decide +kernel
theorem dX12_now_105 : decode cX12_now 105 = .ok (.istore_n 3, 1) := by decide +kernel
theorem dX12_now_106 : decode cX12_now 106 = .ok (.iload_n 3, 1) := by decide +kernel
theorem dX12_now_107 : decode cX12_now 107 = .ok (.aload_n 0, 1) := by decide +kernel
theorem dX12_now_108 : decode cX12_now 108 = .ok (.getfield 13, 3) := by decide +kernel
theorem dX12_now_111 : decode cX12_now 111 = .ok (.iconst 1, 1) := by decide +kernel
theorem dX12_now_112 : decode cX12_now 112 = .ok (.iaload, 1) := by decide +kernel
theorem dX12_now_113 : decode cX12_now 113 = .ok (.if_icmp .ge 23, 3) := by decide +kernel
theorem dX12_now_116 : decode cX12_now 116 = .ok (.aload_n 0, 1) := by decide +kernel
theorem dX12_now_117 : decode cX12_now 117 = .ok (.iload_n 3, 1) := by decide +kernel
theorem dX12_now_118 : decode cX12_now 118 = .ok (.invokevirtual 209, 3) := by decide +kernel
theorem dX12_now_121 : decode cX12_now 121 = .ok (.ifCond .eq 9, 3) := by decide +kernel
theorem dX12_now_124 : decode cX12_now 124 = .ok (.iload_n 2, 1) := by decide +kernel
theorem dX12_now_125 : decode cX12_now 125 = .ok (.iconst 1, 1) := by decide +kernel
theorem dX12_now_126 : decode cX12_now 126 = .ok (.iload_n 3, 1) := by decide +kernel
theorem dX12_now_127 : decode cX12_now 127 = .ok (.ishl, 1) := by decide +kernel
theorem dX12_now_128 : decode cX12_now 128 = .ok (.ior, 1) := by decide +kernel
theorem dX12_now_129 : decode cX12_now 129 = .ok (.istore_n 2, 1) := by decide +kernel
theorem dX12_now_130 : decode cX12_now 130 = .ok (.iinc 3 1, 3) := by decide +kernel
theorem dX12_now_133 : decode cX12_now 133 = .ok (.goto (-27), 3) := by decide +kernel
theorem dX12_now_136 : decode cX12_now 136 = .ok (.iload_n 2, 1) := by decide +kernel
theorem dX12_now_137 : decode cX12_now 137 = .ok (.ireturn, 1) := by decide +kernel
theorem dX12_now_138 : decode cX12_now 138 = .ok (.aload_n 0, 1) := by decide +kernel
theorem dX12_now_139 : decode cX12_now 139 = .ok (.getfield 13, 3) := by decide +kernel
theorem dX12_now_142 : decode cX12_now 142 = .ok (.bipush 78, 2) := by decide +kernel
theorem dX12_now_144 : decode cX12_now 144 = .ok (.iaload, 1) := by decide +kernel
theorem dX12_now_145 : decode cX12_now 145 = .ok (.ireturn, 1) := by decide +kernel
theorem dX12_now_146 : decode cX12_now 146 = .ok (.aload_n 0, 1) := by decide +kernel
theorem dX12_now_147 : decode cX12_now 147 = .ok (.getfield 13, 3) := by decide +kernel
theorem dX12_now_150 : decode cX12_now 150 = .ok (.bipush 79, 2) := by decide +kernel
theorem dX12_now_152 : decode cX12_now 152 = .ok (.iaload, 1) := by decide +kernel
theorem dX12_now_153 : decode cX12_now 153 = .ok (.ireturn, 1) := by decide +kernel
theorem dX12_now_154 : decode cX12_now 154 = .ok (.aload_n 0, 1) := by decide +kernel
theorem dX12_now_155 : decode cX12_now 155 = .ok (.getfield 13, 3) := by decide +kernel
theorem dX12_now_158 : decode cX12_now 158 = .ok (.bipush 80, 2) := by decide +kernel
theorem dX12_now_160 : decode cX12_now 160 = .ok (.iaload, 1) := by decide +kernel
theorem dX12_now_161 : decode cX12_now 161 = .ok (.ireturn, 1) := by decide +kernel
theorem dX12_now_162 : decode cX12_now 162 = .ok (.iconst (-1), 1) := by decide +kernel
theorem dX12_now_163 : decode cX12_now 163 = .ok (.ireturn, 1) := by decide +kernel
theorem dX12_snap_0 : decode cX12_snap 0 = .ok (.aload_n 0, 1) := by decide +kernel
theorem dX12_snap_1 : decode cX12_snap 1 = .ok (.getfield 206, 3) := by decide +kernel
theorem dX12_snap_4 : decode cX12_snap 4 = .ok (.bipush 8, 2) := by decide +kernel
theorem dX12_snap_6 : decode cX12_snap 6 = .ok (.if_icmp .ne 43, 3) := by decide +kernel
theorem dX12_snap_9 : decode cX12_snap 9 = .ok (.iconst 0, 1) := by decide +kernel
theorem dX12_snap_10 : decode cX12_snap 10 = .ok (.istore_n 1, 1) := by decide +kernel
theorem dX12_snap_11 : decode cX12_snap 11 = .ok (.iload_n 1, 1) := by decide +kernel
theorem dX12_snap_12 : decode cX12_snap 12 = .ok (.sipush 420, 3) := by decide +kernel
theorem dX12_snap_15 : decode cX12_snap 15 = .ok (.if_icmp .ge 24, 3) := by decide +kernel
theorem dX12_snap_18 : decode cX12_snap 18 = .ok (.aload_n 0, 1) := by decide +kernel
theorem dX12_snap_19 : decode cX12_snap 19 = .ok (.getfield 22, 3) := by decide +kernel
theorem dX12_snap_22 : decode cX12_snap 22 = .ok (.iload_n 1, 1) := by decide +kernel
theorem dX12_snap_23 : decode cX12_snap 23 = .ok (.aload_n 0, 1) := by decide +kernel
theorem dX12_snap_24 : decode cX12_snap 24 = .ok (.getfield 22, 3) := by decide +kernel
theorem dX12_snap_27 : decode cX12_snap 27 = .ok (.iload_n 1, 1) := by decide +kernel
theorem dX12_snap_28 : decode cX12_snap 28 = .ok (.bipush 60, 2) := by decide +kernel
theorem dX12_snap_30 : decode cX12_snap 30 = .ok (.iadd, 1) := by decide +kernel
theorem dX12_snap_31 : decode cX12_snap 31 = .ok (.iaload, 1) := by decide +kernel
theorem dX12_snap_32 : decode cX12_snap 32 = .ok (.iastore, 1) := by decide +kernel
theorem dX12_snap_33 : decode cX12_snap 33 = .ok (.iinc 1 1, 3) := by decide +kernel
theorem dX12_snap_36 : decode cX12_snap 36 = .ok (.goto (-25), 3) := by decide +kernel
theorem dX12_snap_39 : decode cX12_snap 39 = .ok (.aload_n 0, 1) := by decide +kernel
theorem dX12_snap_40 : decode cX12_snap 40 = .ok (.dup, 1) := by decide +kernel
theorem dX12_snap_41 : decode cX12_snap 41 = .ok (.getfield 206, 3) := by decide +kernel
theorem dX12_snap_44 : decode cX12_snap 44 = .ok (.iconst 1, 1) := by decide +kernel
theorem dX12_snap_45 : decode cX12_snap 45 = .ok (.isub, 1) := by decide +kernel
theorem dX12_snap_46 : decode cX12_snap 46 = .ok (.putfield 206, 3) := by decide +kernel
theorem dX12_snap_49 : decode cX12_snap 49 = .ok (.iconst 0, 1) := by decide +kernel
theorem dX12_snap_50 : decode cX12_snap 50 = .ok (.istore_n 1, 1) := by decide +kernel
theorem dX12_snap_51 : decode cX12_snap 51 = .ok (.iload_n 1, 1) := by decide +kernel
theorem dX12_snap_52 : decode cX12_snap 52 = .ok (.bipush 60, 2) := by decide +kernel
theorem dX12_snap_54 : decode cX12_snap 54 = .ok (.if_icmp .ge 32, 3) := by decide +kernel
theorem dX12_snap_57 : decode cX12_snap 57 = .ok (.aload_n 0, 1) := by decide +kernel
theorem dX12_snap_58 : decode cX12_snap 58 = .ok (.getfield 22, 3) := by decide +kernel
theorem dX12_snap_61 : decode cX12_snap 61 = .ok (.bipush 60, 2) := by decide +kernel
theorem dX12_snap_63 : decode cX12_snap 63 = .ok (.aload_n 0, 1) := by decide +kernel
theorem dX12_snap_64 : decode cX12_snap 64 = .ok (.getfield 206, 3) := by decide +kernel
theorem dX12_snap_67 : decode cX12_snap 67 = .ok (.imul, 1) := by decide +kernel
theorem dX12_snap_68 : decode cX12_snap 68 = .ok (.iload_n 1, 1) := by decide +kernel
theorem dX12_snap_69 : decode cX12_snap 69 = .ok (.iadd, 1) := by decide +kernel
theorem dX12_snap_70 : decode cX12_snap 70 = .ok (.aload_n 0, 1) := by decide +kernel
theorem dX12_snap_71 : decode cX12_snap 71 = .ok (.getfield 13, 3) := by decide +kernel
theorem dX12_snap_74 : decode cX12_snap 74 = .ok (.bipush 77, 2) := by decide +kernel
theorem dX12_snap_76 : decode cX12_snap 76 = .ok (.iload_n 1, 1) := by decide +kernel
theorem dX12_snap_77 : decode cX12_snap 77 = .ok (.iadd, 1) := by decide +kernel
theorem dX12_snap_78 : decode cX12_snap 78 = .ok (.iaload, 1) := by decide +kernel
theorem dX12_snap_79 : decode cX12_snap 79 = .ok (.iastore, 1) := by decide +kernel
theorem dX12_snap_80 : decode cX12_snap 80 = .ok (.iinc 1 1, 3) := by decide +kernel
theorem dX12_snap_83 : decode cX12_snap 83 = .ok (.goto (-32), 3) := by decide +kernel
theorem dX12_snap_86 : decode cX12_snap 86 = .ok (.aload_n 0, 1) := by decide +kernel
theorem dX12_snap_87 : decode cX12_snap 87 = .ok (.dup, 1) := by decide +kernel
theorem dX12_snap_88 : decode cX12_snap 88 = .ok (.getfield 206, 3) := by decide +kernel
theorem dX12_snap_91 : decode cX12_snap 91 = .ok (.iconst 1, 1) := by decide +kernel
theorem dX12_snap_92 : decode cX12_snap 92 = .ok (.iadd, 1) := by decide +kernel
theorem dX12_snap_93 : decode cX12_snap 93 = .ok (.putfield 206, 3) := by decide +kernel
theorem dX12_snap_96 : decode cX12_snap 96 = .ok (.return_, 1) := by decide +kernel
theorem dX12_draw_0 : decode cX12_draw 0 = .ok (.aload_n 0, 1) := by decide +kernel
theorem dX12_draw_1 : decode cX12_draw 1 = .ok (.aload_n 0, 1) := by decide +kernel
theorem dX12_draw_2 : decode cX12_draw 2 = .ok (.getfield 236, 3) := by decide +kernel
theorem dX12_draw_5 : decode cX12_draw 5 = .ok (.ldc 239, 2) := by decide +kernel
theorem dX12_draw_7 : decode cX12_draw 7 = .ok (.imul, 1) := by decide +kernel
theorem dX12_draw_8 : decode cX12_draw 8 = .ok (.sipush 12345, 3) := by decide +kernel
theorem dX12_draw_11 : decode cX12_draw 11 = .ok (.iadd, 1) := by decide +kernel
theorem dX12_draw_12 : decode cX12_draw 12 = .ok (.putfield 236, 3) := by decide +kernel
theorem dX12_draw_15 : decode cX12_draw 15 = .ok (.aload_n 0, 1) := by decide +kernel
theorem dX12_draw_16 : decode cX12_draw 16 = .ok (.getfield 236, 3) := by decide +kernel
theorem dX12_draw_19 : decode cX12_draw 19 = .ok (.bipush 8, 2) := by decide +kernel
theorem dX12_draw_21 : decode cX12_draw 21 = .ok (.iushr, 1) := by decide +kernel
theorem dX12_draw_22 : decode cX12_draw 22 = .ok (.iload_n 1, 1) := by decide +kernel
theorem dX12_draw_23 : decode cX12_draw 23 = .ok (.irem, 1) := by decide +kernel
theorem dX12_draw_24 : decode cX12_draw 24 = .ok (.ireturn, 1) := by decide +kernel
theorem dX12_go__0 : decode cX12_go_ 0 = .ok (.aload_n 0, 1) := by decide +kernel
theorem dX12_go__1 : decode cX12_go_ 1 = .ok (.getfield 13, 3) := by decide +kernel
theorem dX12_go__4 : decode cX12_go_ 4 = .ok (.bipush 105, 2) := by decide +kernel
theorem dX12_go__6 : decode cX12_go_ 6 = .ok (.iload_n 1, 1) := by decide +kernel
theorem dX12_go__7 : decode cX12_go_ 7 = .ok (.iadd, 1) := by decide +kernel
theorem dX12_go__8 : decode cX12_go_ 8 = .ok (.iconst 0, 1) := by decide +kernel
theorem dX12_go__9 : decode cX12_go_ 9 = .ok (.iastore, 1) := by decide +kernel
theorem dX12_go__10 : decode cX12_go_ 10 = .ok (.aload_n 0, 1) := by decide +kernel
theorem dX12_go__11 : decode cX12_go_ 11 = .ok (.getfield 13, 3) := by decide +kernel
theorem dX12_go__14 : decode cX12_go_ 14 = .ok (.bipush 113, 2) := by decide +kernel
theorem dX12_go__16 : decode cX12_go_ 16 = .ok (.iload_n 1, 1) := by decide +kernel
theorem dX12_go__17 : decode cX12_go_ 17 = .ok (.iadd, 1) := by decide +kernel
theorem dX12_go__18 : decode cX12_go_ 18 = .ok (.iconst 0, 1) := by decide +kernel
theorem dX12_go__19 : decode cX12_go_ 19 = .ok (.iastore, 1) := by decide +kernel
theorem dX12_go__20 : decode cX12_go_ 20 = .ok (.return_, 1) := by decide +kernel
theorem dX12_deed_0 : decode cX12_deed 0 = .ok (.aload_n 0, 1) := by decide +kernel
theorem dX12_deed_1 : decode cX12_deed 1 = .ok (.getfield 13, 3) := by decide +kernel
theorem dX12_deed_4 : decode cX12_deed 4 = .ok (.bipush 78, 2) := by decide +kernel
theorem dX12_deed_6 : decode cX12_deed 6 = .ok (.dup2, 1) := by decide +kernel
theorem dX12_deed_7 : decode cX12_deed 7 = .ok (.iaload, 1) := by decide +kernel
theorem dX12_deed_8 : decode cX12_deed 8 = .ok (.iconst 1, 1) := by decide +kernel
theorem dX12_deed_9 : decode cX12_deed 9 = .ok (.iadd, 1) := by decide +kernel
theorem dX12_deed_10 : decode cX12_deed 10 = .ok (.iastore, 1) := by decide +kernel
theorem dX12_deed_11 : decode cX12_deed 11 = .ok (.iconst 0, 1) := by decide +kernel
theorem dX12_deed_12 : decode cX12_deed 12 = .ok (.istore_n 3, 1) := by decide +kernel
theorem dX12_deed_13 : decode cX12_deed 13 = .ok (.iload_n 3, 1) := by decide +kernel
theorem dX12_deed_14 : decode cX12_deed 14 = .ok (.aload_n 0, 1) := by decide +kernel
theorem dX12_deed_15 : decode cX12_deed 15 = .ok (.getfield 13, 3) := by decide +kernel
theorem dX12_deed_18 : decode cX12_deed 18 = .ok (.iconst 1, 1) := by decide +kernel
theorem dX12_deed_19 : decode cX12_deed 19 = .ok (.iaload, 1) := by decide +kernel
theorem dX12_deed_20 : decode cX12_deed 20 = .ok (.if_icmp .ge 80, 3) := by decide +kernel
theorem dX12_deed_23 : decode cX12_deed 23 = .ok (.aload_n 0, 1) := by decide +kernel
theorem dX12_deed_24 : decode cX12_deed 24 = .ok (.getfield 13, 3) := by decide +kernel
theorem dX12_deed_27 : decode cX12_deed 27 = .ok (.bipush 53, 2) := by decide +kernel
theorem dX12_deed_29 : decode cX12_deed 29 = .ok (.iconst 3, 1) := by decide +kernel
theorem dX12_deed_30 : decode cX12_deed 30 = .ok (.iload_n 3, 1) := by decide +kernel
theorem dX12_deed_31 : decode cX12_deed 31 = .ok (.imul, 1) := by decide +kernel
theorem dX12_deed_32 : decode cX12_deed 32 = .ok (.iadd, 1) := by decide +kernel
theorem dX12_deed_33 : decode cX12_deed 33 = .ok (.iload_n 2, 1) := by decide +kernel
theorem dX12_deed_34 : decode cX12_deed 34 = .ok (.iadd, 1) := by decide +kernel
theorem dX12_deed_35 : decode cX12_deed 35 = .ok (.iaload, 1) := by decide +kernel
theorem dX12_deed_36 : decode cX12_deed 36 = .ok (.istore 4, 2) := by decide +kernel
theorem dX12_deed_38 : decode cX12_deed 38 = .ok (.aload_n 0, 1) := by decide +kernel
theorem dX12_deed_39 : decode cX12_deed 39 = .ok (.iload_n 3, 1) := by decide +kernel
theorem dX12_deed_40 : decode cX12_deed 40 = .ok (.invokevirtual 209, 3) := by decide +kernel
theorem dX12_deed_43 : decode cX12_deed 43 = .ok (.ifCond .eq 51, 3) := by decide +kernel
theorem dX12_deed_46 : decode cX12_deed 46 = .ok (.aload_n 0, 1) := by decide +kernel
theorem dX12_deed_47 : decode cX12_deed 47 = .ok (.getfield 13, 3) := by decide +kernel
theorem dX12_deed_50 : decode cX12_deed 50 = .ok (.bipush 21, 2) := by decide +kernel
theorem dX12_deed_52 : decode cX12_deed 52 = .ok (.iload_n 3, 1) := by decide +kernel
theorem dX12_deed_53 : decode cX12_deed 53 = .ok (.iadd, 1) := by decide +kernel
theorem dX12_deed_54 : decode cX12_deed 54 = .ok (.iaload, 1) := by decide +kernel
theorem dX12_deed_55 : decode cX12_deed 55 = .ok (.iload_n 1, 1) := by decide +kernel
theorem dX12_deed_56 : decode cX12_deed 56 = .ok (.if_icmp .ne 38, 3) := by decide +kernel
theorem dX12_deed_59 : decode cX12_deed 59 = .ok (.iload 4, 2) := by decide +kernel
theorem dX12_deed_61 : decode cX12_deed 61 = .ok (.ifCond .eq 33, 3) := by decide +kernel
theorem dX12_deed_64 : decode cX12_deed 64 = .ok (.aload_n 0, 1) := by decide +kernel
theorem dX12_deed_65 : decode cX12_deed 65 = .ok (.bipush 12, 2) := by decide +kernel
theorem dX12_deed_67 : decode cX12_deed 67 = .ok (.invokevirtual 240, 3) := by decide +kernel
theorem dX12_deed_70 : decode cX12_deed 70 = .ok (.iload 4, 2) := by decide +kernel
theorem dX12_deed_72 : decode cX12_deed 72 = .ok (.if_icmp .lt 6, 3) := by decide +kernel
theorem dX12_deed_75 : decode cX12_deed 75 = .ok (.goto 19, 3) := by decide +kernel
theorem dX12_deed_78 : decode cX12_deed 78 = .ok (.aload_n 0, 1) := by decide +kernel
theorem dX12_deed_79 : decode cX12_deed 79 = .ok (.iload_n 3, 1) := by decide +kernel
theorem dX12_deed_80 : decode cX12_deed 80 = .ok (.invokevirtual 243, 3) := by decide +kernel
theorem dX12_deed_83 : decode cX12_deed 83 = .ok (.aload_n 0, 1) := by decide +kernel
theorem dX12_deed_84 : decode cX12_deed 84 = .ok (.getfield 13, 3) := by decide +kernel
theorem dX12_deed_87 : decode cX12_deed 87 = .ok (.bipush 79, 2) := by decide +kernel
theorem dX12_deed_89 : decode cX12_deed 89 = .ok (.dup2, 1) := by decide +kernel
theorem dX12_deed_90 : decode cX12_deed 90 = .ok (.iaload, 1) := by decide +kernel
theorem dX12_deed_91 : decode cX12_deed 91 = .ok (.iconst 1, 1) := by decide +kernel
theorem dX12_deed_92 : decode cX12_deed 92 = .ok (.iadd, 1) := by decide +kernel
theorem dX12_deed_93 : decode cX12_deed 93 = .ok (.iastore, 1) := by decide +kernel
theorem dX12_deed_94 : decode cX12_deed 94 = .ok (.iinc 3 1, 3) := by decide +kernel
theorem dX12_deed_97 : decode cX12_deed 97 = .ok (.goto (-84), 3) := by decide +kernel
theorem dX12_deed_100 : decode cX12_deed 100 = .ok (.return_, 1) := by decide +kernel
theorem dX12_unnumber_0 : decode cX12_unnumber 0 = .ok (.iconst 0, 1) := by decide +kernel
theorem dX12_unnumber_1 : decode cX12_unnumber 1 = .ok (.istore_n 2, 1) := by decide +kernel
theorem dX12_unnumber_2 : decode cX12_unnumber 2 = .ok (.iload_n 2, 1) := by decide +kernel
theorem dX12_unnumber_3 : decode cX12_unnumber 3 = .ok (.aload_n 0, 1) := by decide +kernel
theorem dX12_unnumber_4 : decode cX12_unnumber 4 = .ok (.getfield 13, 3) := by decide +kernel
theorem dX12_unnumber_7 : decode cX12_unnumber 7 = .ok (.iconst 0, 1) := by decide +kernel
theorem dX12_unnumber_8 : decode cX12_unnumber 8 = .ok (.iaload, 1) := by decide +kernel
theorem dX12_unnumber_9 : decode cX12_unnumber 9 = .ok (.if_icmp .ge 33, 3) := by decide +kernel
theorem dX12_unnumber_12 : decode cX12_unnumber 12 = .ok (.iload_n 2, 1) := by decide +kernel
theorem dX12_unnumber_13 : decode cX12_unnumber 13 = .ok (.iload_n 1, 1) := by decide +kernel
theorem dX12_unnumber_14 : decode cX12_unnumber 14 = .ok (.if_icmp .eq 12, 3) := by decide +kernel
theorem dX12_unnumber_17 : decode cX12_unnumber 17 = .ok (.aload_n 0, 1) := by decide +kernel
theorem dX12_unnumber_18 : decode cX12_unnumber 18 = .ok (.iload_n 2, 1) := by decide +kernel
theorem dX12_unnumber_19 : decode cX12_unnumber 19 = .ok (.iload_n 1, 1) := by decide +kernel
theorem dX12_unnumber_20 : decode cX12_unnumber 20 = .ok (.invokevirtual 245, 3) := by decide +kernel
theorem dX12_unnumber_23 : decode cX12_unnumber 23 = .ok (.ifCond .eq 13, 3) := by decide +kernel
theorem dX12_unnumber_26 : decode cX12_unnumber 26 = .ok (.aload_n 0, 1) := by decide +kernel
theorem dX12_unnumber_27 : decode cX12_unnumber 27 = .ok (.getfield 13, 3) := by decide +kernel
theorem dX12_unnumber_30 : decode cX12_unnumber 30 = .ok (.bipush 93, 2) := by decide +kernel
theorem dX12_unnumber_32 : decode cX12_unnumber 32 = .ok (.iload_n 2, 1) := by decide +kernel
theorem dX12_unnumber_33 : decode cX12_unnumber 33 = .ok (.iadd, 1) := by decide +kernel
theorem dX12_unnumber_34 : decode cX12_unnumber 34 = .ok (.iconst 0, 1) := by decide +kernel
theorem dX12_unnumber_35 : decode cX12_unnumber 35 = .ok (.iastore, 1) := by decide +kernel
theorem dX12_unnumber_36 : decode cX12_unnumber 36 = .ok (.iinc 2 1, 3) := by decide +kernel
theorem dX12_unnumber_39 : decode cX12_unnumber 39 = .ok (.goto (-37), 3) := by decide +kernel
theorem dX12_unnumber_42 : decode cX12_unnumber 42 = .ok (.return_, 1) := by decide +kernel
theorem dX12_set_0 : decode cX12_set 0 = .ok (.aload_n 0, 1) := by decide +kernel
theorem dX12_set_1 : decode cX12_set 1 = .ok (.getfield 13, 3) := by decide +kernel
theorem dX12_set_4 : decode cX12_set 4 = .ok (.bipush 81, 2) := by decide +kernel
theorem dX12_set_6 : decode cX12_set 6 = .ok (.iload_n 1, 1) := by decide +kernel
theorem dX12_set_7 : decode cX12_set 7 = .ok (.iadd, 1) := by decide +kernel
theorem dX12_set_8 : decode cX12_set 8 = .ok (.iload_n 2, 1) := by decide +kernel
theorem dX12_set_9 : decode cX12_set 9 = .ok (.iastore, 1) := by decide +kernel
theorem dX12_set_10 : decode cX12_set 10 = .ok (.aload_n 0, 1) := by decide +kernel
theorem dX12_set_11 : decode cX12_set 11 = .ok (.getfield 13, 3) := by decide +kernel
theorem dX12_set_14 : decode cX12_set 14 = .ok (.bipush 87, 2) := by decide +kernel
theorem dX12_set_16 : decode cX12_set 16 = .ok (.iload_n 1, 1) := by decide +kernel
theorem dX12_set_17 : decode cX12_set 17 = .ok (.iadd, 1) := by decide +kernel
theorem dX12_set_18 : decode cX12_set 18 = .ok (.iload_n 3, 1) := by decide +kernel
theorem dX12_set_19 : decode cX12_set 19 = .ok (.iastore, 1) := by decide +kernel
theorem dX12_set_20 : decode cX12_set 20 = .ok (.return_, 1) := by decide +kernel
theorem dX12_why_0 : decode cX12_why 0 = .ok (.iload_n 1, 1) := by decide +kernel
theorem dX12_why_1 : decode cX12_why 1 = .ok (.lookupswitch 84 #[(1, 27), (4, 70)], 27) := by decide +kernel
theorem dX12_why_28 : decode cX12_why 28 = .ok (.aload_n 0, 1) := by decide +kernel
theorem dX12_why_29 : decode cX12_why 29 = .ok (.getfield 13, 3) := by decide +kernel
theorem dX12_why_32 : decode cX12_why 32 = .ok (.bipush 81, 2) := by decide +kernel
theorem dX12_why_34 : decode cX12_why 34 = .ok (.iload_n 2, 1) := by decide +kernel
theorem dX12_why_35 : decode cX12_why 35 = .ok (.iadd, 1) := by decide +kernel
theorem dX12_why_36 : decode cX12_why 36 = .ok (.iaload, 1) := by decide +kernel
theorem dX12_why_37 : decode cX12_why 37 = .ok (.ifCond .eq 7, 3) := by decide +kernel
theorem dX12_why_40 : decode cX12_why 40 = .ok (.iconst 1, 1) := by decide +kernel
theorem dX12_why_41 : decode cX12_why 41 = .ok (.goto 29, 3) := by decide +kernel
theorem dX12_why_44 : decode cX12_why 44 = .ok (.aload_n 0, 1) := by decide +kernel
