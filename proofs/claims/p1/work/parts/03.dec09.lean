theorem dX12_cures_6 : decode cX12_cures 6 = .ok (.iload_n 1, 1) := by decide +kernel
theorem dX12_cures_7 : decode cX12_cures 7 = .ok (.invokevirtual 230, 3) := by decide +kernel
theorem dX12_cures_10 : decode cX12_cures 10 = .ok (.ifCond .eq 28, 3) := by decide +kernel
theorem dX12_cures_13 : decode cX12_cures 13 = .ok (.iload_n 2, 1) := by decide +kernel
theorem dX12_cures_14 : decode cX12_cures 14 = .ok (.iconst 0, 1) := by decide +kernel
theorem dX12_cures_15 : decode cX12_cures 15 = .ok (.iconst 2, 1) := by decide +kernel
theorem dX12_cures_16 : decode cX12_cures 16 = .ok (.invokestatic 140, 3) := by decide +kernel
theorem dX12_cures_19 : decode cX12_cures 19 = .ok (.ifCond .eq 19, 3) := by decide +kernel
theorem dX12_cures_22 : decode cX12_cures 22 = .ok (.aload_n 0, 1) := by decide +kernel
theorem dX12_cures_23 : decode cX12_cures 23 = .ok (.getfield 13, 3) := by decide +kernel
theorem dX12_cures_26 : decode cX12_cures 26 = .ok (.bipush 53, 2) := by decide +kernel
theorem dX12_cures_28 : decode cX12_cures 28 = .ok (.iconst 3, 1) := by decide +kernel
theorem dX12_cures_29 : decode cX12_cures 29 = .ok (.iload_n 1, 1) := by decide +kernel
theorem dX12_cures_30 : decode cX12_cures 30 = .ok (.imul, 1) := by decide +kernel
theorem dX12_cures_31 : decode cX12_cures 31 = .ok (.iadd, 1) := by decide +kernel
theorem dX12_cures_32 : decode cX12_cures 32 = .ok (.iload_n 2, 1) := by decide +kernel
theorem dX12_cures_33 : decode cX12_cures 33 = .ok (.iadd, 1) := by decide +kernel
theorem dX12_cures_34 : decode cX12_cures 34 = .ok (.iaload, 1) := by decide +kernel
theorem dX12_cures_35 : decode cX12_cures 35 = .ok (.goto 4, 3) := by decide +kernel
theorem dX12_cures_38 : decode cX12_cures 38 = .ok (.iconst (-1), 1) := by decide +kernel
theorem dX12_cures_39 : decode cX12_cures 39 = .ok (.ireturn, 1) := by decide +kernel
theorem dX12_now_0 : decode cX12_now 0 = .ok (.aload_n 0, 1) := by decide +kernel
theorem dX12_now_1 : decode cX12_now 1 = .ok (.iconst 0, 1) := by decide +kernel
theorem dX12_now_2 : decode cX12_now 2 = .ok (.putfield 73, 3) := by decide +kernel
theorem dX12_now_5 : decode cX12_now 5 = .ok (.iconst 0, 1) := by decide +kernel
theorem dX12_now_6 : decode cX12_now 6 = .ok (.istore_n 2, 1) := by decide +kernel
theorem dX12_now_7 : decode cX12_now 7 = .ok (.iload_n 1, 1) := by decide +kernel
theorem dX12_now_8 : decode cX12_now 8 = .ok (.tableswitch 154 0 6 #[44, 52, 57, 96, 130, 138, 146], 44) := by decide +kernel
theorem dX12_now_52 : decode cX12_now 52 = .ok (.aload_n 0, 1) := by decide +kernel
theorem dX12_now_53 : decode cX12_now 53 = .ok (.getfield 13, 3) := by decide +kernel
theorem dX12_now_56 : decode cX12_now 56 = .ok (.bipush 77, 2) := by decide +kernel
theorem dX12_now_58 : decode cX12_now 58 = .ok (.iaload, 1) := by decide +kernel
theorem dX12_now_59 : decode cX12_now 59 = .ok (.ireturn, 1) := by decide +kernel
theorem dX12_now_60 : decode cX12_now 60 = .ok (.aload_n 0, 1) := by decide +kernel
theorem dX12_now_61 : decode cX12_now 61 = .ok (.invokevirtual 233, 3) := by decide +kernel
theorem dX12_now_64 : decode cX12_now 64 = .ok (.ireturn, 1) := by decide +kernel
theorem dX12_now_65 : decode cX12_now 65 = .ok (.iconst 0, 1) := by decide +kernel
theorem dX12_now_66 : decode cX12_now 66 = .ok (.istore_n 3, 1) := by decide +kernel
theorem dX12_now_67 : decode cX12_now 67 = .ok (.iload_n 3, 1) := by decide +kernel
theorem dX12_now_68 : decode cX12_now 68 = .ok (.aload_n 0, 1) := by decide +kernel
theorem dX12_now_69 : decode cX12_now 69 = .ok (.getfield 13, 3) := by decide +kernel
theorem dX12_now_72 : decode cX12_now 72 = .ok (.iconst 0, 1) := by decide +kernel
theorem dX12_now_73 : decode cX12_now 73 = .ok (.iaload, 1) := by decide +kernel
theorem dX12_now_74 : decode cX12_now 74 = .ok (.if_icmp .ge 28, 3) := by decide +kernel
theorem dX12_now_77 : decode cX12_now 77 = .ok (.aload_n 0, 1) := by decide +kernel
theorem dX12_now_78 : decode cX12_now 78 = .ok (.getfield 13, 3) := by decide +kernel
theorem dX12_now_81 : decode cX12_now 81 = .ok (.bipush 81, 2) := by decide +kernel
theorem dX12_now_83 : decode cX12_now 83 = .ok (.iload_n 3, 1) := by decide +kernel
theorem dX12_now_84 : decode cX12_now 84 = .ok (.iadd, 1) := by decide +kernel
theorem dX12_now_85 : decode cX12_now 85 = .ok (.iaload, 1) := by decide +kernel
theorem dX12_now_86 : decode cX12_now 86 = .ok (.iconst 2, 1) := by decide +kernel
theorem dX12_now_87 : decode cX12_now 87 = .ok (.if_icmp .ne 9, 3) := by decide +kernel
theorem dX12_now_90 : decode cX12_now 90 = .ok (.iload_n 2, 1) := by decide +kernel
theorem dX12_now_91 : decode cX12_now 91 = .ok (.iconst 1, 1) := by decide +kernel
theorem dX12_now_92 : decode cX12_now 92 = .ok (.iload_n 3, 1) := by decide +kernel
theorem dX12_now_93 : decode cX12_now 93 = .ok (.ishl, 1) := by decide +kernel
theorem dX12_now_94 : decode cX12_now 94 = .ok (.ior, 1) := by decide +kernel
theorem dX12_now_95 : decode cX12_now 95 = .ok (.istore_n 2, 1) := by decide +kernel
theorem dX12_now_96 : decode cX12_now 96 = .ok (.iinc 3 1, 3) := by decide +kernel
theorem dX12_now_99 : decode cX12_now 99 = .ok (.goto (-32), 3) := by decide +kernel
theorem dX12_now_102 : decode cX12_now 102 = .ok (.iload_n 2, 1) := by decide +kernel
theorem dX12_now_103 : decode cX12_now 103 = .ok (.ireturn, 1) := by decide +kernel
theorem dX12_now_104 : decode cX12_now 104 = .ok (.iconst 0, 1) := by decide +kernel
theorem dX12_now_105 : decode cX12_now 105 = .ok (.istore_n 3, 1) := by decide +kernel
theorem dX12_now_106 : decode cX12_now 106 = .ok (.iload_n 3, 1) := by decide +kernel
theorem dX12_now_107 : decode cX12_now 107 = .ok (.aload_n 0, 1) := by decide +kernel
theorem dX12_now_108 : decode cX12_now 108 = .ok (.getfield 13, 3) := by decide +kernel
theorem dX12_now_111 : decode cX12_now 111 = .ok (.iconst 1, 1) := by decide +kernel
theorem dX12_now_112 : decode cX12_now 112 = .ok (.iaload, 1) := by decide +kernel
theorem dX12_now_113 : decode cX12_now 113 = .ok (.if_icmp .ge 23, 3) := by decide +kernel
theorem dX12_now_116 : decode cX12_now 116 = .ok (.aload_n 0, 1) := by decide +kernel
theorem dX12_now_117 : decode cX12_now 117 = .ok (.iload_n 3, 1) := by decide +kernel
theorem dX12_now_118 : decode cX12_now 118 = .ok (.invokevirtual 209, 3) := by decide +kernel
theorem dX12_now_121 : decode cX12_now 121 = .ok (.ifCond .eq 9, 3) := by decide +kernel
theorem dX12_now_124 : decode cX12_now 124 = .ok (.iload_n 2, 1) := by decide +kernel
theorem dX12_now_125 : decode cX12_now 125 = .ok (.iconst 1, 1) := by decide +kernel
theorem dX12_now_126 : decode cX12_now 126 = .ok (.iload_n 3, 1) := by decide +kernel
theorem dX12_now_127 : decode cX12_now 127 = .ok (.ishl, 1) := by decide +kernel
theorem dX12_now_128 : decode cX12_now 128 = .ok (.ior, 1) := by decide +kernel
theorem dX12_now_129 : decode cX12_now 129 = .ok (.istore_n 2, 1) := by decide +kernel
theorem dX12_now_130 : decode cX12_now 130 = .ok (.iinc 3 1, 3) := by decide +kernel
theorem dX12_now_133 : decode cX12_now 133 = .ok (.goto (-27), 3) := by decide +kernel
theorem dX12_now_136 : decode cX12_now 136 = .ok (.iload_n 2, 1) := by decide +kernel
theorem dX12_now_137 : decode cX12_now 137 = .ok (.ireturn, 1) := by decide +kernel
theorem dX12_now_138 : decode cX12_now 138 = .ok (.aload_n 0, 1) := by decide +kernel
theorem dX12_now_139 : decode cX12_now 139 = .ok (.getfield 13, 3) := by decide +kernel
theorem dX12_now_142 : decode cX12_now 142 = .ok (.bipush 78, 2) := by decide +kernel
theorem dX12_now_144 : decode cX12_now 144 = .ok (.iaload, 1) := by decide +kernel
theorem dX12_now_145 : decode cX12_now 145 = .ok (.ireturn, 1) := by decide +kernel
theorem dX12_now_146 : decode cX12_now 146 = .ok (.aload_n 0, 1) := by decide +kernel
theorem dX12_now_147 : decode cX12_now 147 = .ok (.getfield 13, 3) := by decide +kernel
theorem dX12_now_150 : decode cX12_now 150 = .ok (.bipush 79, 2) := by decide +kernel
theorem dX12_now_152 : decode cX12_now 152 = .ok (.iaload, 1) := by decide +kernel
theorem dX12_now_153 : decode cX12_now 153 = .ok (.ireturn, 1) := by decide +kernel
theorem dX12_now_154 : decode cX12_now 154 = .ok (.aload_n 0, 1) := by decide +kernel
theorem dX12_now_155 : decode cX12_now 155 = .ok (.getfield 13, 3) := by decide +kernel
theorem dX12_now_158 : decode cX12_now 158 = .ok (.bipush 80, 2) := by decide +kernel
theorem dX12_now_160 : decode cX12_now 160 = .ok (.iaload, 1) := by decide +kernel
theorem dX12_now_161 : decode cX12_now 161 = .ok (.ireturn, 1) := by decide +kernel
theorem dX12_now_162 : decode cX12_now 162 = .ok (.iconst (-1), 1) := by decide +kernel
theorem dX12_now_163 : decode cX12_now 163 = .ok (.ireturn, 1) := by decide +kernel
theorem dX12_snap_0 : decode cX12_snap 0 = .ok (.aload_n 0, 1) := by decide +kernel
theorem dX12_snap_1 : decode cX12_snap 1 = .ok (.getfield 206, 3) := by decide +kernel
theorem dX12_snap_4 : decode cX12_snap 4 = .ok (.bipush 8, 2) := by decide +kernel
theorem dX12_snap_6 : decode cX12_snap 6 = .ok (.if_icmp .ne 43, 3) := by decide +kernel
theorem dX12_snap_9 : decode cX12_snap 9 = .ok (.iconst 0, 1) := by decide +kernel
theorem dX12_snap_10 : decode cX12_snap 10 = .ok (.istore_n 1, 1) := by decide +kernel
theorem dX12_snap_11 : decode cX12_snap 11 = .ok (.iload_n 1, 1) := by decide +kernel
theorem dX12_snap_12 : decode cX12_snap 12 = .ok (.sipush 420, 3) := by decide +kernel
theorem dX12_snap_15 : decode cX12_snap 15 = .ok (.if_icmp .ge 24, 3) := by decide +kernel
theorem dX12_snap_18 : decode cX12_snap 18 = .ok (.aload_n 0, 1) := by decide +kernel
theorem dX12_snap_19 : decode cX12_snap 19 = .ok (.getfield 22, 3) := by decide +kernel
theorem dX12_snap_22 : decode cX12_snap 22 = .ok (.iload_n 1, 1) := by decide +kernel
theorem dX12_snap_23 : decode cX12_snap 23 = .ok (.aload_n 0, 1) := by decide +kernel
theorem dX12_snap_24 : decode cX12_snap 24 = .ok (.getfield 22, 3) := by decide +kernel
theorem dX12_snap_27 : decode cX12_snap 27 = .ok (.iload_n 1, 1) := by decide +kernel
theorem dX12_snap_28 : decode cX12_snap 28 = .ok (.bipush 60, 2) := by decide +kernel
theorem dX12_snap_30 : decode cX12_snap 30 = .ok (.iadd, 1) := by decide +kernel
theorem dX12_snap_31 : decode cX12_snap 31 = .ok (.iaload, 1) := by decide +kernel
theorem dX12_snap_32 : decode cX12_snap 32 = .ok (.iastore, 1) := by decide +kernel
theorem dX12_snap_33 : decode cX12_snap 33 = .ok (.iinc 1 1, 3) := by decide +kernel
theorem dX12_snap_36 : decode cX12_snap 36 = .ok (.goto (-25), 3) := by decide +kernel
theorem dX12_snap_39 : decode cX12_snap 39 = .ok (.aload_n 0, 1) := by decide +kernel
theorem dX12_snap_40 : decode cX12_snap 40 = .ok (.dup, 1) := by decide +kernel
theorem dX12_snap_41 : decode cX12_snap 41 = .ok (.getfield 206, 3) := by decide +kernel
theorem dX12_snap_44 : decode cX12_snap 44 = .ok (.iconst 1, 1) := by decide +kernel
theorem dX12_snap_45 : decode cX12_snap 45 = .ok (.isub, 1) := by decide +kernel
theorem dX12_snap_46 : decode cX12_snap 46 = .ok (.putfield 206, 3) := by decide +kernel
theorem dX12_snap_49 : decode cX12_snap 49 = .ok (.iconst 0, 1) := by decide +kernel
theorem dX12_snap_50 : decode cX12_snap 50 = .ok (.istore_n 1, 1) := by decide +kernel
theorem dX12_snap_51 : decode cX12_snap 51 = .ok (.iload_n 1, 1) := by decide +kernel
theorem dX12_snap_52 : decode cX12_snap 52 = .ok (.bipush 60, 2) := by decide +kernel
theorem dX12_snap_54 : decode cX12_snap 54 = .ok (.if_icmp .ge 32, 3) := by decide +kernel
theorem dX12_snap_57 : decode cX12_snap 57 = .ok (.aload_n 0, 1) := by decide +kernel
theorem dX12_snap_58 : decode cX12_snap 58 = .ok (.getfield 22, 3) := by decide +kernel
theorem dX12_snap_61 : decode cX12_snap 61 = .ok (.bipush 60, 2) := by decide +kernel
theorem dX12_snap_63 : decode cX12_snap 63 = .ok (.aload_n 0, 1) := by decide +kernel
theorem dX12_snap_64 : decode cX12_snap 64 = .ok (.getfield 206, 3) := by decide +kernel
theorem dX12_snap_67 : decode cX12_snap 67 = .ok (.imul, 1) := by decide +kernel
theorem dX12_snap_68 : decode cX12_snap 68 = .ok (.iload_n 1, 1) := by decide +kernel
theorem dX12_snap_69 : decode cX12_snap 69 = .ok (.iadd, 1) := by decide +kernel
theorem dX12_snap_70 : decode cX12_snap 70 = .ok (.aload_n 0, 1) := by decide +kernel
theorem dX12_snap_71 : decode cX12_snap 71 = .ok (.getfield 13, 3) := by decide +kernel
theorem dX12_snap_74 : decode cX12_snap 74 = .ok (.bipush 77, 2) := by decide +kernel
theorem dX12_snap_76 : decode cX12_snap 76 = .ok (.iload_n 1, 1) := by decide +kernel
theorem dX12_snap_77 : decode cX12_snap 77 = .ok (.iadd, 1) := by decide +kernel
theorem dX12_snap_78 : decode cX12_snap 78 = .ok (.iaload, 1) := by decide +kernel
theorem dX12_snap_79 : decode cX12_snap 79 = .ok (.iastore, 1) := by decide +kernel
theorem dX12_snap_80 : decode cX12_snap 80 = .ok (.iinc 1 1, 3) := by decide +kernel
theorem dX12_snap_83 : decode cX12_snap 83 = .ok (.goto (-32), 3) := by decide +kernel
theorem dX12_snap_86 : decode cX12_snap 86 = .ok (.aload_n 0, 1) := by decide +kernel
theorem dX12_snap_87 : decode cX12_snap 87 = .ok (.dup, 1) := by decide +kernel
theorem dX12_snap_88 : decode cX12_snap 88 = .ok (.getfield 206, 3) := by decide +kernel
theorem dX12_snap_91 : decode cX12_snap 91 = .ok (.iconst 1, 1) := by decide +kernel
theorem dX12_snap_92 : decode cX12_snap 92 = .ok (.iadd, 1) := by decide +kernel
theorem dX12_snap_93 : decode cX12_snap 93 = .ok (.putfield 206, 3) := by decide +kernel
theorem dX12_snap_96 : decode cX12_snap 96 = .ok (.return_, 1) := by decide +kernel
theorem dX12_off_0 : decode cX12_off 0 = .ok (.aload_n 0, 1) := by decide +kernel
theorem dX12_off_1 : decode cX12_off 1 = .ok (.iconst 0, 1) := by decide +kernel
theorem dX12_off_2 : decode cX12_off 2 = .ok (.putfield 73, 3) := by decide +kernel
theorem dX12_off_5 : decode cX12_off 5 = .ok (.aload_n 0, 1) := by decide +kernel
theorem dX12_off_6 : decode cX12_off 6 = .ok (.iload_n 1, 1) := by decide +kernel
theorem dX12_off_7 : decode cX12_off 7 = .ok (.invokevirtual 221, 3) := by decide +kernel
theorem dX12_off_10 : decode cX12_off 10 = .ok (.ifCond .eq 13, 3) := by decide +kernel
theorem dX12_off_13 : decode cX12_off 13 = .ok (.aload_n 0, 1) := by decide +kernel
theorem dX12_off_14 : decode cX12_off 14 = .ok (.iconst 0, 1) := by decide +kernel
theorem dX12_off_15 : decode cX12_off 15 = .ok (.iload_n 1, 1) := by decide +kernel
theorem dX12_off_16 : decode cX12_off 16 = .ok (.iconst 0, 1) := by decide +kernel
theorem dX12_off_17 : decode cX12_off 17 = .ok (.invokevirtual 269, 3) := by decide +kernel
theorem dX12_off_20 : decode cX12_off 20 = .ok (.goto 4, 3) := by decide +kernel
theorem dX12_off_23 : decode cX12_off 23 = .ok (.iconst (-1), 1) := by decide +kernel
theorem dX12_off_24 : decode cX12_off 24 = .ok (.ireturn, 1) := by decide +kernel
theorem dX12_on_0 : decode cX12_on 0 = .ok (.aload_n 0, 1) := by decide +kernel
theorem dX12_on_1 : decode cX12_on 1 = .ok (.iconst 0, 1) := by decide +kernel
theorem dX12_on_2 : decode cX12_on 2 = .ok (.putfield 73, 3) := by decide +kernel
theorem dX12_on_5 : decode cX12_on 5 = .ok (.aload_n 0, 1) := by decide +kernel
theorem dX12_on_6 : decode cX12_on 6 = .ok (.iload_n 1, 1) := by decide +kernel
theorem dX12_on_7 : decode cX12_on 7 = .ok (.invokevirtual 221, 3) := by decide +kernel
theorem dX12_on_10 : decode cX12_on 10 = .ok (.ifCond .eq 13, 3) := by decide +kernel
theorem dX12_on_13 : decode cX12_on 13 = .ok (.aload_n 0, 1) := by decide +kernel
theorem dX12_on_14 : decode cX12_on 14 = .ok (.iconst 1, 1) := by decide +kernel
theorem dX12_on_15 : decode cX12_on 15 = .ok (.iload_n 1, 1) := by decide +kernel
theorem dX12_on_16 : decode cX12_on 16 = .ok (.iload_n 2, 1) := by decide +kernel
theorem dX12_on_17 : decode cX12_on 17 = .ok (.invokevirtual 269, 3) := by decide +kernel
theorem dX12_on_20 : decode cX12_on 20 = .ok (.goto 4, 3) := by decide +kernel
theorem dX12_on_23 : decode cX12_on 23 = .ok (.iconst (-1), 1) := by decide +kernel
theorem dX12_on_24 : decode cX12_on 24 = .ok (.ireturn, 1) := by decide +kernel
theorem dX12_cable_0 : decode cX12_cable 0 = .ok (.aload_n 0, 1) := by decide +kernel
theorem dX12_cable_1 : decode cX12_cable 1 = .ok (.iconst 0, 1) := by decide +kernel
theorem dX12_cable_2 : decode cX12_cable 2 = .ok (.putfield 73, 3) := by decide +kernel
theorem dX12_cable_5 : decode cX12_cable 5 = .ok (.aload_n 0, 1) := by decide +kernel
theorem dX12_cable_6 : decode cX12_cable 6 = .ok (.iload_n 1, 1) := by decide +kernel
theorem dX12_cable_7 : decode cX12_cable 7 = .ok (.invokevirtual 221, 3) := by decide +kernel
theorem dX12_cable_10 : decode cX12_cable 10 = .ok (.ifCond .eq 13, 3) := by decide +kernel
theorem dX12_cable_13 : decode cX12_cable 13 = .ok (.aload_n 0, 1) := by decide +kernel
theorem dX12_cable_14 : decode cX12_cable 14 = .ok (.iconst 2, 1) := by decide +kernel
theorem dX12_cable_15 : decode cX12_cable 15 = .ok (.iload_n 1, 1) := by decide +kernel
theorem dX12_cable_16 : decode cX12_cable 16 = .ok (.iload_n 2, 1) := by decide +kernel
theorem dX12_cable_17 : decode cX12_cable 17 = .ok (.invokevirtual 269, 3) := by decide +kernel
theorem dX12_cable_20 : decode cX12_cable 20 = .ok (.goto 4, 3) := by decide +kernel
theorem dX12_cable_23 : decode cX12_cable 23 = .ok (.iconst (-1), 1) := by decide +kernel
theorem dX12_cable_24 : decode cX12_cable 24 = .ok (.ireturn, 1) := by decide +kernel
theorem dX12_pin_0 : decode cX12_pin 0 = .ok (.aload_n 0, 1) := by decide +kernel
theorem dX12_pin_1 : decode cX12_pin 1 = .ok (.iconst 0, 1) := by decide +kernel
theorem dX12_pin_2 : decode cX12_pin 2 = .ok (.putfield 73, 3) := by decide +kernel
theorem dX12_pin_5 : decode cX12_pin 5 = .ok (.aload_n 0, 1) := by decide +kernel
theorem dX12_pin_6 : decode cX12_pin 6 = .ok (.iload_n 1, 1) := by decide +kernel
theorem dX12_pin_7 : decode cX12_pin 7 = .ok (.invokevirtual 221, 3) := by decide +kernel
theorem dX12_pin_10 : decode cX12_pin 10 = .ok (.ifCond .eq 13, 3) := by decide +kernel
theorem dX12_pin_13 : decode cX12_pin 13 = .ok (.aload_n 0, 1) := by decide +kernel
theorem dX12_pin_14 : decode cX12_pin 14 = .ok (.iconst 3, 1) := by decide +kernel
theorem dX12_pin_15 : decode cX12_pin 15 = .ok (.iload_n 1, 1) := by decide +kernel
theorem dX12_pin_16 : decode cX12_pin 16 = .ok (.iload_n 2, 1) := by decide +kernel
theorem dX12_pin_17 : decode cX12_pin 17 = .ok (.invokevirtual 269, 3) := by decide +kernel
theorem dX12_pin_20 : decode cX12_pin 20 = .ok (.goto 4, 3) := by decide +kernel
theorem dX12_pin_23 : decode cX12_pin 23 = .ok (.iconst (-1), 1) := by decide +kernel
theorem dX12_pin_24 : decode cX12_pin 24 = .ok (.ireturn, 1) := by decide +kernel
theorem dX12_strike_0 : decode cX12_strike 0 = .ok (.aload_n 0, 1) := by decide +kernel
theorem dX12_strike_1 : decode cX12_strike 1 = .ok (.iconst 0, 1) := by decide +kernel
theorem dX12_strike_2 : decode cX12_strike 2 = .ok (.putfield 73, 3) := by decide +kernel
theorem dX12_strike_5 : decode cX12_strike 5 = .ok (.aload_n 0, 1) := by decide +kernel
theorem dX12_strike_6 : decode cX12_strike 6 = .ok (.iload_n 1, 1) := by decide +kernel
theorem dX12_strike_7 : decode cX12_strike 7 = .ok (.invokevirtual 230, 3) := by decide +kernel
theorem dX12_strike_10 : decode cX12_strike 10 = .ok (.ifCond .eq 13, 3) := by decide +kernel
theorem dX12_strike_13 : decode cX12_strike 13 = .ok (.aload_n 0, 1) := by decide +kernel
theorem dX12_strike_14 : decode cX12_strike 14 = .ok (.iconst 4, 1) := by decide +kernel
theorem dX12_strike_15 : decode cX12_strike 15 = .ok (.iload_n 1, 1) := by decide +kernel
theorem dX12_strike_16 : decode cX12_strike 16 = .ok (.iconst 0, 1) := by decide +kernel
theorem dX12_strike_17 : decode cX12_strike 17 = .ok (.invokevirtual 269, 3) := by decide +kernel
theorem dX12_strike_20 : decode cX12_strike 20 = .ok (.goto 4, 3) := by decide +kernel
theorem dX12_strike_23 : decode cX12_strike 23 = .ok (.iconst (-1), 1) := by decide +kernel
theorem dX12_strike_24 : decode cX12_strike 24 = .ok (.ireturn, 1) := by decide +kernel
theorem dX12_undo_0 : decode cX12_undo 0 = .ok (.aload_n 0, 1) := by decide +kernel
theorem dX12_undo_1 : decode cX12_undo 1 = .ok (.iconst 0, 1) := by decide +kernel
theorem dX12_undo_2 : decode cX12_undo 2 = .ok (.putfield 73, 3) := by decide +kernel
theorem dX12_undo_5 : decode cX12_undo 5 = .ok (.aload_n 0, 1) := by decide +kernel
theorem dX12_undo_6 : decode cX12_undo 6 = .ok (.getfield 206, 3) := by decide +kernel
theorem dX12_undo_9 : decode cX12_undo 9 = .ok (.ifCond .ne 5, 3) := by decide +kernel
theorem dX12_undo_12 : decode cX12_undo 12 = .ok (.iconst (-1), 1) := by decide +kernel
theorem dX12_undo_13 : decode cX12_undo 13 = .ok (.ireturn, 1) := by decide +kernel
theorem dX12_undo_14 : decode cX12_undo 14 = .ok (.aload_n 0, 1) := by decide +kernel
theorem dX12_undo_15 : decode cX12_undo 15 = .ok (.dup, 1) := by decide +kernel
theorem dX12_undo_16 : decode cX12_undo 16 = .ok (.getfield 206, 3) := by decide +kernel
theorem dX12_undo_19 : decode cX12_undo 19 = .ok (.iconst 1, 1) := by decide +kernel
theorem dX12_undo_20 : decode cX12_undo 20 = .ok (.isub, 1) := by decide +kernel
theorem dX12_undo_21 : decode cX12_undo 21 = .ok (.putfield 206, 3) := by decide +kernel
theorem dX12_undo_24 : decode cX12_undo 24 = .ok (.iconst 0, 1) := by decide +kernel
theorem dX12_undo_25 : decode cX12_undo 25 = .ok (.istore_n 1, 1) := by decide +kernel
theorem dX12_undo_26 : decode cX12_undo 26 = .ok (.iload_n 1, 1) := by decide +kernel
theorem dX12_undo_27 : decode cX12_undo 27 = .ok (.bipush 60, 2) := by decide +kernel
theorem dX12_undo_29 : decode cX12_undo 29 = .ok (.if_icmp .ge 32, 3) := by decide +kernel
theorem dX12_undo_32 : decode cX12_undo 32 = .ok (.aload_n 0, 1) := by decide +kernel
theorem dX12_undo_33 : decode cX12_undo 33 = .ok (.getfield 13, 3) := by decide +kernel
theorem dX12_undo_36 : decode cX12_undo 36 = .ok (.bipush 77, 2) := by decide +kernel
theorem dX12_undo_38 : decode cX12_undo 38 = .ok (.iload_n 1, 1) := by decide +kernel
theorem dX12_undo_39 : decode cX12_undo 39 = .ok (.iadd, 1) := by decide +kernel
theorem dX12_undo_40 : decode cX12_undo 40 = .ok (.aload_n 0, 1) := by decide +kernel
theorem dX12_undo_41 : decode cX12_undo 41 = .ok (.getfield 22, 3) := by decide +kernel
theorem dX12_undo_44 : decode cX12_undo 44 = .ok (.bipush 60, 2) := by decide +kernel
theorem dX12_undo_46 : decode cX12_undo 46 = .ok (.aload_n 0, 1) := by decide +kernel
theorem dX12_undo_47 : decode cX12_undo 47 = .ok (.getfield 206, 3) := by decide +kernel
theorem dX12_undo_50 : decode cX12_undo 50 = .ok (.imul, 1) := by decide +kernel
theorem dX12_undo_51 : decode cX12_undo 51 = .ok (.iload_n 1, 1) := by decide +kernel
theorem dX12_undo_52 : decode cX12_undo 52 = .ok (.iadd, 1) := by decide +kernel
theorem dX12_undo_53 : decode cX12_undo 53 = .ok (.iaload, 1) := by decide +kernel
theorem dX12_undo_54 : decode cX12_undo 54 = .ok (.iastore, 1) := by decide +kernel
theorem dX12_undo_55 : decode cX12_undo 55 = .ok (.iinc 1 1, 3) := by decide +kernel
theorem dX12_undo_58 : decode cX12_undo 58 = .ok (.goto (-32), 3) := by decide +kernel
theorem dX12_undo_61 : decode cX12_undo 61 = .ok (.aload_n 0, 1) := by decide +kernel
theorem dX12_undo_62 : decode cX12_undo 62 = .ok (.getfield 206, 3) := by decide +kernel
theorem dX12_undo_65 : decode cX12_undo 65 = .ok (.ireturn, 1) := by decide +kernel
theorem dX12_oneMinute_0 : decode cX12_oneMinute 0 = .ok (.iconst 0, 1) := by decide +kernel
theorem dX12_oneMinute_1 : decode cX12_oneMinute 1 = .ok (.istore_n 1, 1) := by decide +kernel
theorem dX12_oneMinute_2 : decode cX12_oneMinute 2 = .ok (.iload_n 1, 1) := by decide +kernel
theorem dX12_oneMinute_3 : decode cX12_oneMinute 3 = .ok (.aload_n 0, 1) := by decide +kernel
theorem dX12_oneMinute_4 : decode cX12_oneMinute 4 = .ok (.getfield 13, 3) := by decide +kernel
theorem dX12_oneMinute_7 : decode cX12_oneMinute 7 = .ok (.iconst 0, 1) := by decide +kernel
theorem dX12_oneMinute_8 : decode cX12_oneMinute 8 = .ok (.iaload, 1) := by decide +kernel
theorem dX12_oneMinute_9 : decode cX12_oneMinute 9 = .ok (.if_icmp .ge 140, 3) := by decide +kernel
theorem dX12_oneMinute_12 : decode cX12_oneMinute 12 = .ok (.aload_n 0, 1) := by decide +kernel
theorem dX12_oneMinute_13 : decode cX12_oneMinute 13 = .ok (.getfield 13, 3) := by decide +kernel
theorem dX12_oneMinute_16 : decode cX12_oneMinute 16 = .ok (.bipush 81, 2) := by decide +kernel
theorem dX12_oneMinute_18 : decode cX12_oneMinute 18 = .ok (.iload_n 1, 1) := by decide +kernel
theorem dX12_oneMinute_19 : decode cX12_oneMinute 19 = .ok (.iadd, 1) := by decide +kernel
theorem dX12_oneMinute_20 : decode cX12_oneMinute 20 = .ok (.iaload, 1) := by decide +kernel
theorem dX12_oneMinute_21 : decode cX12_oneMinute 21 = .ok (.ifCond .ne 32, 3) := by decide +kernel
theorem dX12_oneMinute_24 : decode cX12_oneMinute 24 = .ok (.aload_n 0, 1) := by decide +kernel
theorem dX12_oneMinute_25 : decode cX12_oneMinute 25 = .ok (.getfield 13, 3) := by decide +kernel
theorem dX12_oneMinute_28 : decode cX12_oneMinute 28 = .ok (.bipush 87, 2) := by decide +kernel
theorem dX12_oneMinute_30 : decode cX12_oneMinute 30 = .ok (.iload_n 1, 1) := by decide +kernel
theorem dX12_oneMinute_31 : decode cX12_oneMinute 31 = .ok (.iadd, 1) := by decide +kernel
theorem dX12_oneMinute_32 : decode cX12_oneMinute 32 = .ok (.dup2, 1) := by decide +kernel
theorem dX12_oneMinute_33 : decode cX12_oneMinute 33 = .ok (.iaload, 1) := by decide +kernel
theorem dX12_oneMinute_34 : decode cX12_oneMinute 34 = .ok (.iconst 1, 1) := by decide +kernel
theorem dX12_oneMinute_35 : decode cX12_oneMinute 35 = .ok (.iadd, 1) := by decide +kernel
theorem dX12_oneMinute_36 : decode cX12_oneMinute 36 = .ok (.iastore, 1) := by decide +kernel
theorem dX12_oneMinute_37 : decode cX12_oneMinute 37 = .ok (.aload_n 0, 1) := by decide +kernel
theorem dX12_oneMinute_38 : decode cX12_oneMinute 38 = .ok (.getfield 13, 3) := by decide +kernel
theorem dX12_oneMinute_41 : decode cX12_oneMinute 41 = .ok (.bipush 99, 2) := by decide +kernel
theorem dX12_oneMinute_43 : decode cX12_oneMinute 43 = .ok (.iload_n 1, 1) := by decide +kernel
theorem dX12_oneMinute_44 : decode cX12_oneMinute 44 = .ok (.iadd, 1) := by decide +kernel
theorem dX12_oneMinute_45 : decode cX12_oneMinute 45 = .ok (.dup2, 1) := by decide +kernel
theorem dX12_oneMinute_46 : decode cX12_oneMinute 46 = .ok (.iaload, 1) := by decide +kernel
theorem dX12_oneMinute_47 : decode cX12_oneMinute 47 = .ok (.iconst 1, 1) := by decide +kernel
theorem dX12_oneMinute_48 : decode cX12_oneMinute 48 = .ok (.iadd, 1) := by decide +kernel
theorem dX12_oneMinute_49 : decode cX12_oneMinute 49 = .ok (.iastore, 1) := by decide +kernel
theorem dX12_oneMinute_50 : decode cX12_oneMinute 50 = .ok (.goto 93, 3) := by decide +kernel
theorem dX12_oneMinute_53 : decode cX12_oneMinute 53 = .ok (.aload_n 0, 1) := by decide +kernel
theorem dX12_oneMinute_54 : decode cX12_oneMinute 54 = .ok (.getfield 13, 3) := by decide +kernel
theorem dX12_oneMinute_57 : decode cX12_oneMinute 57 = .ok (.bipush 81, 2) := by decide +kernel
theorem dX12_oneMinute_59 : decode cX12_oneMinute 59 = .ok (.iload_n 1, 1) := by decide +kernel
theorem dX12_oneMinute_60 : decode cX12_oneMinute 60 = .ok (.iadd, 1) := by decide +kernel
theorem dX12_oneMinute_61 : decode cX12_oneMinute 61 = .ok (.iaload, 1) := by decide +kernel
theorem dX12_oneMinute_62 : decode cX12_oneMinute 62 = .ok (.iconst 1, 1) := by decide +kernel
theorem dX12_oneMinute_63 : decode cX12_oneMinute 63 = .ok (.if_icmp .ne 80, 3) := by decide +kernel
theorem dX12_oneMinute_66 : decode cX12_oneMinute 66 = .ok (.aload_n 0, 1) := by decide +kernel
theorem dX12_oneMinute_67 : decode cX12_oneMinute 67 = .ok (.getfield 13, 3) := by decide +kernel
theorem dX12_oneMinute_70 : decode cX12_oneMinute 70 = .ok (.bipush 87, 2) := by decide +kernel
theorem dX12_oneMinute_72 : decode cX12_oneMinute 72 = .ok (.iload_n 1, 1) := by decide +kernel
theorem dX12_oneMinute_73 : decode cX12_oneMinute 73 = .ok (.iadd, 1) := by decide +kernel
theorem dX12_oneMinute_74 : decode cX12_oneMinute 74 = .ok (.dup2, 1) := by decide +kernel
theorem dX12_oneMinute_75 : decode cX12_oneMinute 75 = .ok (.iaload, 1) := by decide +kernel
theorem dX12_oneMinute_76 : decode cX12_oneMinute 76 = .ok (.iconst 1, 1) := by decide +kernel
theorem dX12_oneMinute_77 : decode cX12_oneMinute 77 = .ok (.isub, 1) := by decide +kernel
theorem dX12_oneMinute_78 : decode cX12_oneMinute 78 = .ok (.iastore, 1) := by decide +kernel
theorem dX12_oneMinute_79 : decode cX12_oneMinute 79 = .ok (.aload_n 0, 1) := by decide +kernel
theorem dX12_oneMinute_80 : decode cX12_oneMinute 80 = .ok (.getfield 13, 3) := by decide +kernel
theorem dX12_oneMinute_83 : decode cX12_oneMinute 83 = .ok (.bipush 87, 2) := by decide +kernel
theorem dX12_oneMinute_85 : decode cX12_oneMinute 85 = .ok (.iload_n 1, 1) := by decide +kernel
theorem dX12_oneMinute_86 : decode cX12_oneMinute 86 = .ok (.iadd, 1) := by decide +kernel
theorem dX12_oneMinute_87 : decode cX12_oneMinute 87 = .ok (.iaload, 1) := by decide +kernel
theorem dX12_oneMinute_88 : decode cX12_oneMinute 88 = .ok (.ifCond .le 6, 3) := by decide +kernel
theorem dX12_oneMinute_91 : decode cX12_oneMinute 91 = .ok (.goto 52, 3) := by decide +kernel
theorem dX12_oneMinute_94 : decode cX12_oneMinute 94 = .ok (.aload_n 0, 1) := by decide +kernel
theorem dX12_oneMinute_95 : decode cX12_oneMinute 95 = .ok (.getfield 13, 3) := by decide +kernel
theorem dX12_oneMinute_98 : decode cX12_oneMinute 98 = .ok (.bipush 81, 2) := by decide +kernel
theorem dX12_oneMinute_100 : decode cX12_oneMinute 100 = .ok (.iload_n 1, 1) := by decide +kernel
theorem dX12_oneMinute_101 : decode cX12_oneMinute 101 = .ok (.iadd, 1) := by decide +kernel
theorem dX12_oneMinute_102 : decode cX12_oneMinute 102 = .ok (.iconst 2, 1) := by decide +kernel
theorem dX12_oneMinute_103 : decode cX12_oneMinute 103 = .ok (.iastore, 1) := by decide +kernel
theorem dX12_oneMinute_104 : decode cX12_oneMinute 104 = .ok (.aload_n 0, 1) := by decide +kernel
theorem dX12_oneMinute_105 : decode cX12_oneMinute 105 = .ok (.getfield 13, 3) := by decide +kernel
theorem dX12_oneMinute_108 : decode cX12_oneMinute 108 = .ok (.bipush 15, 2) := by decide +kernel
theorem dX12_oneMinute_110 : decode cX12_oneMinute 110 = .ok (.iload_n 1, 1) := by decide +kernel
theorem dX12_oneMinute_111 : decode cX12_oneMinute 111 = .ok (.iadd, 1) := by decide +kernel
theorem dX12_oneMinute_112 : decode cX12_oneMinute 112 = .ok (.iaload, 1) := by decide +kernel
theorem dX12_oneMinute_113 : decode cX12_oneMinute 113 = .ok (.iconst (-1), 1) := by decide +kernel
theorem dX12_oneMinute_114 : decode cX12_oneMinute 114 = .ok (.if_icmp .eq 19, 3) := by decide +kernel
theorem dX12_oneMinute_117 : decode cX12_oneMinute 117 = .ok (.aload_n 0, 1) := by decide +kernel
theorem dX12_oneMinute_118 : decode cX12_oneMinute 118 = .ok (.aload_n 0, 1) := by decide +kernel
theorem dX12_oneMinute_119 : decode cX12_oneMinute 119 = .ok (.getfield 13, 3) := by decide +kernel
theorem dX12_oneMinute_122 : decode cX12_oneMinute 122 = .ok (.bipush 15, 2) := by decide +kernel
theorem dX12_oneMinute_124 : decode cX12_oneMinute 124 = .ok (.iload_n 1, 1) := by decide +kernel
theorem dX12_oneMinute_125 : decode cX12_oneMinute 125 = .ok (.iadd, 1) := by decide +kernel
theorem dX12_oneMinute_126 : decode cX12_oneMinute 126 = .ok (.iaload, 1) := by decide +kernel
theorem dX12_oneMinute_127 : decode cX12_oneMinute 127 = .ok (.invokevirtual 215, 3) := by decide +kernel
theorem dX12_oneMinute_130 : decode cX12_oneMinute 130 = .ok (.ifCond .eq 13, 3) := by decide +kernel
theorem dX12_oneMinute_133 : decode cX12_oneMinute 133 = .ok (.aload_n 0, 1) := by decide +kernel
theorem dX12_oneMinute_134 : decode cX12_oneMinute 134 = .ok (.getfield 13, 3) := by decide +kernel
theorem dX12_oneMinute_137 : decode cX12_oneMinute 137 = .ok (.bipush 93, 2) := by decide +kernel
theorem dX12_oneMinute_139 : decode cX12_oneMinute 139 = .ok (.iload_n 1, 1) := by decide +kernel
theorem dX12_oneMinute_140 : decode cX12_oneMinute 140 = .ok (.iadd, 1) := by decide +kernel
theorem dX12_oneMinute_141 : decode cX12_oneMinute 141 = .ok (.iconst 1, 1) := by decide +kernel
theorem dX12_oneMinute_142 : decode cX12_oneMinute 142 = .ok (.iastore, 1) := by decide +kernel
theorem dX12_oneMinute_143 : decode cX12_oneMinute 143 = .ok (.iinc 1 1, 3) := by decide +kernel
theorem dX12_oneMinute_146 : decode cX12_oneMinute 146 = .ok (.goto (-144), 3) := by decide +kernel
theorem dX12_oneMinute_149 : decode cX12_oneMinute 149 = .ok (.iconst 0, 1) := by decide +kernel
theorem dX12_oneMinute_150 : decode cX12_oneMinute 150 = .ok (.istore_n 1, 1) := by decide +kernel
theorem dX12_oneMinute_151 : decode cX12_oneMinute 151 = .ok (.iload_n 1, 1) := by decide +kernel
theorem dX12_oneMinute_152 : decode cX12_oneMinute 152 = .ok (.aload_n 0, 1) := by decide +kernel
theorem dX12_oneMinute_153 : decode cX12_oneMinute 153 = .ok (.getfield 13, 3) := by decide +kernel
theorem dX12_oneMinute_156 : decode cX12_oneMinute 156 = .ok (.iconst 1, 1) := by decide +kernel
theorem dX12_oneMinute_157 : decode cX12_oneMinute 157 = .ok (.iaload, 1) := by decide +kernel
theorem dX12_oneMinute_158 : decode cX12_oneMinute 158 = .ok (.if_icmp .ge 87, 3) := by decide +kernel
theorem dX12_oneMinute_161 : decode cX12_oneMinute 161 = .ok (.aload_n 0, 1) := by decide +kernel
theorem dX12_oneMinute_162 : decode cX12_oneMinute 162 = .ok (.iload_n 1, 1) := by decide +kernel
theorem dX12_oneMinute_163 : decode cX12_oneMinute 163 = .ok (.invokevirtual 209, 3) := by decide +kernel
theorem dX12_oneMinute_166 : decode cX12_oneMinute 166 = .ok (.ifCond .ne 6, 3) := by decide +kernel
theorem dX12_oneMinute_169 : decode cX12_oneMinute 169 = .ok (.goto 70, 3) := by decide +kernel
theorem dX12_oneMinute_172 : decode cX12_oneMinute 172 = .ok (.aload_n 0, 1) := by decide +kernel
theorem dX12_oneMinute_173 : decode cX12_oneMinute 173 = .ok (.getfield 13, 3) := by decide +kernel
theorem dX12_oneMinute_176 : decode cX12_oneMinute 176 = .ok (.bipush 113, 2) := by decide +kernel
theorem dX12_oneMinute_178 : decode cX12_oneMinute 178 = .ok (.iload_n 1, 1) := by decide +kernel
theorem dX12_oneMinute_179 : decode cX12_oneMinute 179 = .ok (.iadd, 1) := by decide +kernel
theorem dX12_oneMinute_180 : decode cX12_oneMinute 180 = .ok (.dup2, 1) := by decide +kernel
theorem dX12_oneMinute_181 : decode cX12_oneMinute 181 = .ok (.iaload, 1) := by decide +kernel
theorem dX12_oneMinute_182 : decode cX12_oneMinute 182 = .ok (.iconst 1, 1) := by decide +kernel
theorem dX12_oneMinute_183 : decode cX12_oneMinute 183 = .ok (.iadd, 1) := by decide +kernel
theorem dX12_oneMinute_184 : decode cX12_oneMinute 184 = .ok (.iastore, 1) := by decide +kernel
theorem dX12_oneMinute_185 : decode cX12_oneMinute 185 = .ok (.aload_n 0, 1) := by decide +kernel
theorem dX12_oneMinute_186 : decode cX12_oneMinute 186 = .ok (.getfield 13, 3) := by decide +kernel
theorem dX12_oneMinute_189 : decode cX12_oneMinute 189 = .ok (.bipush 113, 2) := by decide +kernel
theorem dX12_oneMinute_191 : decode cX12_oneMinute 191 = .ok (.iload_n 1, 1) := by decide +kernel
theorem dX12_oneMinute_192 : decode cX12_oneMinute 192 = .ok (.iadd, 1) := by decide +kernel
theorem dX12_oneMinute_193 : decode cX12_oneMinute 193 = .ok (.iaload, 1) := by decide +kernel
theorem dX12_oneMinute_194 : decode cX12_oneMinute 194 = .ok (.aload_n 0, 1) := by decide +kernel
theorem dX12_oneMinute_195 : decode cX12_oneMinute 195 = .ok (.getfield 13, 3) := by decide +kernel
theorem dX12_oneMinute_198 : decode cX12_oneMinute 198 = .ok (.bipush 29, 2) := by decide +kernel
theorem dX12_oneMinute_200 : decode cX12_oneMinute 200 = .ok (.iload_n 1, 1) := by decide +kernel
theorem dX12_oneMinute_201 : decode cX12_oneMinute 201 = .ok (.iadd, 1) := by decide +kernel
