theorem dX4_init_23 : decode cX4_init 23 = .ok (.aload_n 0, 1) := by decide +kernel
theorem dX4_init_24 : decode cX4_init 24 = .ok (.bipush 40, 2) := by decide +kernel
theorem dX4_init_26 : decode cX4_init 26 = .ok (.newarray .int, 2) := by decide +kernel
theorem dX4_init_28 : decode cX4_init 28 = .ok (.putfield 22, 3) := by decide +kernel
theorem dX4_init_31 : decode cX4_init 31 = .ok (.aload_n 0, 1) := by decide +kernel
theorem dX4_init_32 : decode cX4_init 32 = .ok (.bipush 40, 2) := by decide +kernel
theorem dX4_init_34 : decode cX4_init 34 = .ok (.newarray .int, 2) := by decide +kernel
theorem dX4_init_36 : decode cX4_init 36 = .ok (.putfield 25, 3) := by decide +kernel
theorem dX4_init_39 : decode cX4_init 39 = .ok (.return_, 1) := by decide +kernel
theorem dX4_readLog_0 : decode cX4_readLog 0 = .ok (.aload_n 0, 1) := by decide +kernel
theorem dX4_readLog_1 : decode cX4_readLog 1 = .ok (.getfield 12, 3) := by decide +kernel
theorem dX4_readLog_4 : decode cX4_readLog 4 = .ok (.aload_n 1, 1) := by decide +kernel
theorem dX4_readLog_5 : decode cX4_readLog 5 = .ok (.sipush 400, 3) := by decide +kernel
theorem dX4_readLog_8 : decode cX4_readLog 8 = .ok (.invokevirtual 28, 3) := by decide +kernel
theorem dX4_readLog_11 : decode cX4_readLog 11 = .ok (.aload_n 0, 1) := by decide +kernel
theorem dX4_readLog_12 : decode cX4_readLog 12 = .ok (.iconst 0, 1) := by decide +kernel
theorem dX4_readLog_13 : decode cX4_readLog 13 = .ok (.putfield 32, 3) := by decide +kernel
theorem dX4_readLog_16 : decode cX4_readLog 16 = .ok (.aload_n 0, 1) := by decide +kernel
theorem dX4_readLog_17 : decode cX4_readLog 17 = .ok (.getfield 32, 3) := by decide +kernel
theorem dX4_readLog_20 : decode cX4_readLog 20 = .ok (.bipush 40, 2) := by decide +kernel
theorem dX4_readLog_22 : decode cX4_readLog 22 = .ok (.if_icmp .gt 36, 3) := by decide +kernel
theorem dX4_readLog_25 : decode cX4_readLog 25 = .ok (.aload_n 0, 1) := by decide +kernel
theorem dX4_readLog_26 : decode cX4_readLog 26 = .ok (.getfield 12, 3) := by decide +kernel
theorem dX4_readLog_29 : decode cX4_readLog 29 = .ok (.getfield 36, 3) := by decide +kernel
theorem dX4_readLog_32 : decode cX4_readLog 32 = .ok (.ifCond .eq 26, 3) := by decide +kernel
theorem dX4_readLog_35 : decode cX4_readLog 35 = .ok (.aload_n 0, 1) := by decide +kernel
theorem dX4_readLog_36 : decode cX4_readLog 36 = .ok (.aload_n 2, 1) := by decide +kernel
theorem dX4_readLog_37 : decode cX4_readLog 37 = .ok (.invokevirtual 39, 3) := by decide +kernel
theorem dX4_readLog_40 : decode cX4_readLog 40 = .ok (.ifCond .ne 5, 3) := by decide +kernel
theorem dX4_readLog_43 : decode cX4_readLog 43 = .ok (.iconst 0, 1) := by decide +kernel
theorem dX4_readLog_44 : decode cX4_readLog 44 = .ok (.ireturn, 1) := by decide +kernel
theorem dX4_readLog_45 : decode cX4_readLog 45 = .ok (.aload_n 0, 1) := by decide +kernel
theorem dX4_readLog_46 : decode cX4_readLog 46 = .ok (.dup, 1) := by decide +kernel
theorem dX4_readLog_47 : decode cX4_readLog 47 = .ok (.getfield 32, 3) := by decide +kernel
theorem dX4_readLog_50 : decode cX4_readLog 50 = .ok (.iconst 1, 1) := by decide +kernel
theorem dX4_readLog_51 : decode cX4_readLog 51 = .ok (.iadd, 1) := by decide +kernel
theorem dX4_readLog_52 : decode cX4_readLog 52 = .ok (.putfield 32, 3) := by decide +kernel
theorem dX4_readLog_55 : decode cX4_readLog 55 = .ok (.goto (-39), 3) := by decide +kernel
theorem dX4_readLog_58 : decode cX4_readLog 58 = .ok (.iconst 1, 1) := by decide +kernel
theorem dX4_readLog_59 : decode cX4_readLog 59 = .ok (.ireturn, 1) := by decide +kernel
theorem dX4_live_0 : decode cX4_live 0 = .ok (.aload_n 0, 1) := by decide +kernel
theorem dX4_live_1 : decode cX4_live 1 = .ok (.iconst 0, 1) := by decide +kernel
theorem dX4_live_2 : decode cX4_live 2 = .ok (.putfield 91, 3) := by decide +kernel
theorem dX4_live_5 : decode cX4_live 5 = .ok (.iconst 0, 1) := by decide +kernel
theorem dX4_live_6 : decode cX4_live 6 = .ok (.istore_n 3, 1) := by decide +kernel
theorem dX4_live_7 : decode cX4_live 7 = .ok (.iload_n 3, 1) := by decide +kernel
theorem dX4_live_8 : decode cX4_live 8 = .ok (.aload_n 0, 1) := by decide +kernel
theorem dX4_live_9 : decode cX4_live 9 = .ok (.getfield 32, 3) := by decide +kernel
theorem dX4_live_12 : decode cX4_live 12 = .ok (.if_icmp .ge 29, 3) := by decide +kernel
theorem dX4_live_15 : decode cX4_live 15 = .ok (.aload_n 0, 1) := by decide +kernel
theorem dX4_live_16 : decode cX4_live 16 = .ok (.aload_n 0, 1) := by decide +kernel
theorem dX4_live_17 : decode cX4_live 17 = .ok (.aload_n 1, 1) := by decide +kernel
theorem dX4_live_18 : decode cX4_live 18 = .ok (.aload_n 2, 1) := by decide +kernel
theorem dX4_live_19 : decode cX4_live 19 = .ok (.iload_n 3, 1) := by decide +kernel
theorem dX4_live_20 : decode cX4_live 20 = .ok (.invokevirtual 94, 3) := by decide +kernel
theorem dX4_live_23 : decode cX4_live 23 = .ok (.putfield 91, 3) := by decide +kernel
theorem dX4_live_26 : decode cX4_live 26 = .ok (.aload_n 0, 1) := by decide +kernel
theorem dX4_live_27 : decode cX4_live 27 = .ok (.getfield 91, 3) := by decide +kernel
theorem dX4_live_30 : decode cX4_live 30 = .ok (.ifCond .eq 5, 3) := by decide +kernel
theorem dX4_live_33 : decode cX4_live 33 = .ok (.iload_n 3, 1) := by decide +kernel
theorem dX4_live_34 : decode cX4_live 34 = .ok (.ireturn, 1) := by decide +kernel
theorem dX4_live_35 : decode cX4_live 35 = .ok (.iinc 3 1, 3) := by decide +kernel
theorem dX4_live_38 : decode cX4_live 38 = .ok (.goto (-31), 3) := by decide +kernel
theorem dX4_live_41 : decode cX4_live 41 = .ok (.aload_n 0, 1) := by decide +kernel
theorem dX4_live_42 : decode cX4_live 42 = .ok (.getfield 32, 3) := by decide +kernel
theorem dX4_live_45 : decode cX4_live 45 = .ok (.ireturn, 1) := by decide +kernel
theorem dX5_init_0 : decode cX5_init 0 = .ok (.aload_n 0, 1) := by decide +kernel
theorem dX5_init_1 : decode cX5_init 1 = .ok (.invokespecial 3, 3) := by decide +kernel
theorem dX5_init_4 : decode cX5_init 4 = .ok (.aload_n 0, 1) := by decide +kernel
theorem dX5_init_5 : decode cX5_init 5 = .ok (.iconst 4, 1) := by decide +kernel
theorem dX5_init_6 : decode cX5_init 6 = .ok (.newarray .int, 2) := by decide +kernel
theorem dX5_init_8 : decode cX5_init 8 = .ok (.putfield 9, 3) := by decide +kernel
theorem dX5_init_11 : decode cX5_init 11 = .ok (.aload_n 0, 1) := by decide +kernel
theorem dX5_init_12 : decode cX5_init 12 = .ok (.iconst 4, 1) := by decide +kernel
theorem dX5_init_13 : decode cX5_init 13 = .ok (.newarray .int, 2) := by decide +kernel
theorem dX5_init_15 : decode cX5_init 15 = .ok (.putfield 15, 3) := by decide +kernel
theorem dX5_init_18 : decode cX5_init 18 = .ok (.aload_n 0, 1) := by decide +kernel
theorem dX5_init_19 : decode cX5_init 19 = .ok (.bipush 32, 2) := by decide +kernel
theorem dX5_init_21 : decode cX5_init 21 = .ok (.newarray .int, 2) := by decide +kernel
theorem dX5_init_23 : decode cX5_init 23 = .ok (.putfield 18, 3) := by decide +kernel
theorem dX5_init_26 : decode cX5_init 26 = .ok (.aload_n 0, 1) := by decide +kernel
theorem dX5_init_27 : decode cX5_init 27 = .ok (.iconst 4, 1) := by decide +kernel
theorem dX5_init_28 : decode cX5_init 28 = .ok (.newarray .int, 2) := by decide +kernel
theorem dX5_init_30 : decode cX5_init 30 = .ok (.putfield 21, 3) := by decide +kernel
theorem dX5_init_33 : decode cX5_init 33 = .ok (.return_, 1) := by decide +kernel
theorem dX6_init_0 : decode cX6_init 0 = .ok (.aload_n 0, 1) := by decide +kernel
theorem dX6_init_1 : decode cX6_init 1 = .ok (.invokespecial 3, 3) := by decide +kernel
theorem dX6_init_4 : decode cX6_init 4 = .ok (.aload_n 0, 1) := by decide +kernel
theorem dX6_init_5 : decode cX6_init 5 = .ok (.new 9, 3) := by decide +kernel
theorem dX6_init_8 : decode cX6_init 8 = .ok (.dup, 1) := by decide +kernel
theorem dX6_init_9 : decode cX6_init 9 = .ok (.iconst 0, 1) := by decide +kernel
theorem dX6_init_10 : decode cX6_init 10 = .ok (.invokespecial 11, 3) := by decide +kernel
theorem dX6_init_13 : decode cX6_init 13 = .ok (.putfield 14, 3) := by decide +kernel
theorem dX6_init_16 : decode cX6_init 16 = .ok (.return_, 1) := by decide +kernel
theorem dX6_start_0 : decode cX6_start 0 = .ok (.aload_n 0, 1) := by decide +kernel
theorem dX6_start_1 : decode cX6_start 1 = .ok (.aload_n 1, 1) := by decide +kernel
theorem dX6_start_2 : decode cX6_start 2 = .ok (.putfield 14, 3) := by decide +kernel
theorem dX6_start_5 : decode cX6_start 5 = .ok (.aload_n 0, 1) := by decide +kernel
theorem dX6_start_6 : decode cX6_start 6 = .ok (.iload_n 2, 1) := by decide +kernel
theorem dX6_start_7 : decode cX6_start 7 = .ok (.putfield 20, 3) := by decide +kernel
theorem dX6_start_10 : decode cX6_start 10 = .ok (.aload_n 0, 1) := by decide +kernel
theorem dX6_start_11 : decode cX6_start 11 = .ok (.iconst 0, 1) := by decide +kernel
theorem dX6_start_12 : decode cX6_start 12 = .ok (.putfield 24, 3) := by decide +kernel
theorem dX6_start_15 : decode cX6_start 15 = .ok (.aload_n 0, 1) := by decide +kernel
theorem dX6_start_16 : decode cX6_start 16 = .ok (.iconst 0, 1) := by decide +kernel
theorem dX6_start_17 : decode cX6_start 17 = .ok (.putfield 27, 3) := by decide +kernel
theorem dX6_start_20 : decode cX6_start 20 = .ok (.aload_n 0, 1) := by decide +kernel
theorem dX6_start_21 : decode cX6_start 21 = .ok (.iconst 0, 1) := by decide +kernel
theorem dX6_start_22 : decode cX6_start 22 = .ok (.putfield 30, 3) := by decide +kernel
theorem dX6_start_25 : decode cX6_start 25 = .ok (.aload_n 0, 1) := by decide +kernel
theorem dX6_start_26 : decode cX6_start 26 = .ok (.invokevirtual 33, 3) := by decide +kernel
theorem dX6_start_29 : decode cX6_start 29 = .ok (.return_, 1) := by decide +kernel
theorem dX6_step_0 : decode cX6_step 0 = .ok (.aload_n 0, 1) := by decide +kernel
theorem dX6_step_1 : decode cX6_step 1 = .ok (.getfield 24, 3) := by decide +kernel
theorem dX6_step_4 : decode cX6_step 4 = .ok (.istore_n 1, 1) := by decide +kernel
theorem dX6_step_5 : decode cX6_step 5 = .ok (.iload_n 1, 1) := by decide +kernel
theorem dX6_step_6 : decode cX6_step 6 = .ok (.aload_n 0, 1) := by decide +kernel
theorem dX6_step_7 : decode cX6_step 7 = .ok (.getfield 14, 3) := by decide +kernel
theorem dX6_step_10 : decode cX6_step 10 = .ok (.getfield 36, 3) := by decide +kernel
theorem dX6_step_13 : decode cX6_step 13 = .ok (.if_icmp .ge 23, 3) := by decide +kernel
theorem dX6_step_16 : decode cX6_step 16 = .ok (.aload_n 0, 1) := by decide +kernel
theorem dX6_step_17 : decode cX6_step 17 = .ok (.getfield 14, 3) := by decide +kernel
theorem dX6_step_20 : decode cX6_step 20 = .ok (.iload_n 1, 1) := by decide +kernel
theorem dX6_step_21 : decode cX6_step 21 = .ok (.invokevirtual 39, 3) := by decide +kernel
theorem dX6_step_24 : decode cX6_step 24 = .ok (.invokestatic 43, 3) := by decide +kernel
theorem dX6_step_27 : decode cX6_step 27 = .ok (.ifCond .eq 9, 3) := by decide +kernel
theorem dX6_step_30 : decode cX6_step 30 = .ok (.iinc 1 1, 3) := by decide +kernel
theorem dX6_step_33 : decode cX6_step 33 = .ok (.goto (-28), 3) := by decide +kernel
theorem dX6_step_36 : decode cX6_step 36 = .ok (.aload_n 0, 1) := by decide +kernel
theorem dX6_step_37 : decode cX6_step 37 = .ok (.iload_n 1, 1) := by decide +kernel
theorem dX6_step_38 : decode cX6_step 38 = .ok (.putfield 47, 3) := by decide +kernel
theorem dX6_step_41 : decode cX6_step 41 = .ok (.aload_n 0, 1) := by decide +kernel
theorem dX6_step_42 : decode cX6_step 42 = .ok (.iload_n 1, 1) := by decide +kernel
theorem dX6_step_43 : decode cX6_step 43 = .ok (.iconst 1, 1) := by decide +kernel
theorem dX6_step_44 : decode cX6_step 44 = .ok (.iadd, 1) := by decide +kernel
theorem dX6_step_45 : decode cX6_step 45 = .ok (.putfield 24, 3) := by decide +kernel
theorem dX6_step_48 : decode cX6_step 48 = .ok (.aload_n 0, 1) := by decide +kernel
theorem dX6_step_49 : decode cX6_step 49 = .ok (.iconst (-1), 1) := by decide +kernel
theorem dX6_step_50 : decode cX6_step 50 = .ok (.putfield 50, 3) := by decide +kernel
theorem dX6_step_53 : decode cX6_step 53 = .ok (.aload_n 0, 1) := by decide +kernel
theorem dX6_step_54 : decode cX6_step 54 = .ok (.aload_n 0, 1) := by decide +kernel
theorem dX6_step_55 : decode cX6_step 55 = .ok (.getfield 14, 3) := by decide +kernel
theorem dX6_step_58 : decode cX6_step 58 = .ok (.iload_n 1, 1) := by decide +kernel
theorem dX6_step_59 : decode cX6_step 59 = .ok (.invokevirtual 39, 3) := by decide +kernel
theorem dX6_step_62 : decode cX6_step 62 = .ok (.putfield 53, 3) := by decide +kernel
theorem dX6_step_65 : decode cX6_step 65 = .ok (.iload_n 1, 1) := by decide +kernel
theorem dX6_step_66 : decode cX6_step 66 = .ok (.aload_n 0, 1) := by decide +kernel
theorem dX6_step_67 : decode cX6_step 67 = .ok (.getfield 20, 3) := by decide +kernel
theorem dX6_step_70 : decode cX6_step 70 = .ok (.if_icmp .lt 33, 3) := by decide +kernel
theorem dX6_step_73 : decode cX6_step 73 = .ok (.aload_n 0, 1) := by decide +kernel
theorem dX6_step_74 : decode cX6_step 74 = .ok (.getfield 14, 3) := by decide +kernel
theorem dX6_step_77 : decode cX6_step 77 = .ok (.getfield 36, 3) := by decide +kernel
theorem dX6_step_80 : decode cX6_step 80 = .ok (.aload_n 0, 1) := by decide +kernel
theorem dX6_step_81 : decode cX6_step 81 = .ok (.getfield 20, 3) := by decide +kernel
theorem dX6_step_84 : decode cX6_step 84 = .ok (.if_icmp .le 19, 3) := by decide +kernel
theorem dX6_step_87 : decode cX6_step 87 = .ok (.aload_n 0, 1) := by decide +kernel
theorem dX6_step_88 : decode cX6_step 88 = .ok (.aload_n 0, 1) := by decide +kernel
theorem dX6_step_89 : decode cX6_step 89 = .ok (.getfield 20, 3) := by decide +kernel
theorem dX6_step_92 : decode cX6_step 92 = .ok (.putfield 47, 3) := by decide +kernel
theorem dX6_step_95 : decode cX6_step 95 = .ok (.aload_n 0, 1) := by decide +kernel
theorem dX6_step_96 : decode cX6_step 96 = .ok (.iconst 1, 1) := by decide +kernel
theorem dX6_step_97 : decode cX6_step 97 = .ok (.putfield 56, 3) := by decide +kernel
theorem dX6_step_100 : decode cX6_step 100 = .ok (.goto 80, 3) := by decide +kernel
theorem dX6_step_103 : decode cX6_step 103 = .ok (.iload_n 1, 1) := by decide +kernel
theorem dX6_step_104 : decode cX6_step 104 = .ok (.aload_n 0, 1) := by decide +kernel
theorem dX6_step_105 : decode cX6_step 105 = .ok (.getfield 14, 3) := by decide +kernel
theorem dX6_step_108 : decode cX6_step 108 = .ok (.getfield 36, 3) := by decide +kernel
theorem dX6_step_111 : decode cX6_step 111 = .ok (.if_icmp .lt 22, 3) := by decide +kernel
theorem dX6_step_114 : decode cX6_step 114 = .ok (.aload_n 0, 1) := by decide +kernel
theorem dX6_step_115 : decode cX6_step 115 = .ok (.aload_n 0, 1) := by decide +kernel
theorem dX6_step_116 : decode cX6_step 116 = .ok (.getfield 14, 3) := by decide +kernel
theorem dX6_step_119 : decode cX6_step 119 = .ok (.getfield 36, 3) := by decide +kernel
theorem dX6_step_122 : decode cX6_step 122 = .ok (.putfield 47, 3) := by decide +kernel
theorem dX6_step_125 : decode cX6_step 125 = .ok (.aload_n 0, 1) := by decide +kernel
theorem dX6_step_126 : decode cX6_step 126 = .ok (.iconst 0, 1) := by decide +kernel
theorem dX6_step_127 : decode cX6_step 127 = .ok (.putfield 56, 3) := by decide +kernel
theorem dX6_step_130 : decode cX6_step 130 = .ok (.goto 50, 3) := by decide +kernel
theorem dX6_step_133 : decode cX6_step 133 = .ok (.aload_n 0, 1) := by decide +kernel
theorem dX6_step_134 : decode cX6_step 134 = .ok (.getfield 53, 3) := by decide +kernel
theorem dX6_step_137 : decode cX6_step 137 = .ok (.invokestatic 59, 3) := by decide +kernel
theorem dX6_step_140 : decode cX6_step 140 = .ok (.ifCond .ne 13, 3) := by decide +kernel
theorem dX6_step_143 : decode cX6_step 143 = .ok (.aload_n 0, 1) := by decide +kernel
theorem dX6_step_144 : decode cX6_step 144 = .ok (.getfield 53, 3) := by decide +kernel
theorem dX6_step_147 : decode cX6_step 147 = .ok (.invokestatic 62, 3) := by decide +kernel
theorem dX6_step_150 : decode cX6_step 150 = .ok (.ifCond .eq 11, 3) := by decide +kernel
theorem dX6_step_153 : decode cX6_step 153 = .ok (.aload_n 0, 1) := by decide +kernel
theorem dX6_step_154 : decode cX6_step 154 = .ok (.iload_n 1, 1) := by decide +kernel
theorem dX6_step_155 : decode cX6_step 155 = .ok (.invokevirtual 65, 3) := by decide +kernel
theorem dX6_step_158 : decode cX6_step 158 = .ok (.goto 22, 3) := by decide +kernel
theorem dX6_step_161 : decode cX6_step 161 = .ok (.aload_n 0, 1) := by decide +kernel
theorem dX6_step_162 : decode cX6_step 162 = .ok (.aload_n 0, 1) := by decide +kernel
theorem dX6_step_163 : decode cX6_step 163 = .ok (.getfield 53, 3) := by decide +kernel
theorem dX6_step_166 : decode cX6_step 166 = .ok (.invokestatic 68, 3) := by decide +kernel
theorem dX6_step_169 : decode cX6_step 169 = .ok (.ifCond .eq 7, 3) := by decide +kernel
theorem dX6_step_172 : decode cX6_step 172 = .ok (.iconst 4, 1) := by decide +kernel
theorem dX6_step_173 : decode cX6_step 173 = .ok (.goto 4, 3) := by decide +kernel
theorem dX6_step_176 : decode cX6_step 176 = .ok (.iconst 1, 1) := by decide +kernel
theorem dX6_step_177 : decode cX6_step 177 = .ok (.putfield 56, 3) := by decide +kernel
theorem dX6_step_180 : decode cX6_step 180 = .ok (.return_, 1) := by decide +kernel
theorem dX6_isSignNow_0 : decode cX6_isSignNow 0 = .ok (.aload_n 0, 1) := by decide +kernel
theorem dX6_isSignNow_1 : decode cX6_isSignNow 1 = .ok (.getfield 56, 3) := by decide +kernel
theorem dX6_isSignNow_4 : decode cX6_isSignNow 4 = .ok (.iconst 4, 1) := by decide +kernel
theorem dX6_isSignNow_5 : decode cX6_isSignNow 5 = .ok (.if_icmp .ne 15, 3) := by decide +kernel
theorem dX6_isSignNow_8 : decode cX6_isSignNow 8 = .ok (.aload_n 0, 1) := by decide +kernel
theorem dX6_isSignNow_9 : decode cX6_isSignNow 9 = .ok (.getfield 53, 3) := by decide +kernel
theorem dX6_isSignNow_12 : decode cX6_isSignNow 12 = .ok (.iload_n 1, 1) := by decide +kernel
theorem dX6_isSignNow_13 : decode cX6_isSignNow 13 = .ok (.if_icmp .ne 7, 3) := by decide +kernel
theorem dX6_isSignNow_16 : decode cX6_isSignNow 16 = .ok (.iconst 1, 1) := by decide +kernel
theorem dX6_isSignNow_17 : decode cX6_isSignNow 17 = .ok (.goto 4, 3) := by decide +kernel
theorem dX6_isSignNow_20 : decode cX6_isSignNow 20 = .ok (.iconst 0, 1) := by decide +kernel
theorem dX6_isSignNow_21 : decode cX6_isSignNow 21 = .ok (.ireturn, 1) := by decide +kernel
theorem dX6_refuse_0 : decode cX6_refuse 0 = .ok (.aload_n 0, 1) := by decide +kernel
theorem dX6_refuse_1 : decode cX6_refuse 1 = .ok (.getfield 27, 3) := by decide +kernel
theorem dX6_refuse_4 : decode cX6_refuse 4 = .ok (.ifCond .ne 16, 3) := by decide +kernel
theorem dX6_refuse_7 : decode cX6_refuse 7 = .ok (.aload_n 0, 1) := by decide +kernel
theorem dX6_refuse_8 : decode cX6_refuse 8 = .ok (.iload_n 1, 1) := by decide +kernel
theorem dX6_refuse_9 : decode cX6_refuse 9 = .ok (.putfield 27, 3) := by decide +kernel
theorem dX6_refuse_12 : decode cX6_refuse 12 = .ok (.aload_n 0, 1) := by decide +kernel
theorem dX6_refuse_13 : decode cX6_refuse 13 = .ok (.aload_n 0, 1) := by decide +kernel
theorem dX6_refuse_14 : decode cX6_refuse 14 = .ok (.getfield 47, 3) := by decide +kernel
theorem dX6_refuse_17 : decode cX6_refuse 17 = .ok (.putfield 30, 3) := by decide +kernel
theorem dX6_refuse_20 : decode cX6_refuse 20 = .ok (.iconst 0, 1) := by decide +kernel
theorem dX6_refuse_21 : decode cX6_refuse 21 = .ok (.ireturn, 1) := by decide +kernel
theorem dX7_init_0 : decode cX7_init 0 = .ok (.aload_n 0, 1) := by decide +kernel
theorem dX7_init_1 : decode cX7_init 1 = .ok (.invokespecial 3, 3) := by decide +kernel
theorem dX7_init_4 : decode cX7_init 4 = .ok (.aload_n 0, 1) := by decide +kernel
theorem dX7_init_5 : decode cX7_init 5 = .ok (.bipush 40, 2) := by decide +kernel
theorem dX7_init_7 : decode cX7_init 7 = .ok (.newarray .int, 2) := by decide +kernel
theorem dX7_init_9 : decode cX7_init 9 = .ok (.putfield 11, 3) := by decide +kernel
theorem dX7_init_12 : decode cX7_init 12 = .ok (.aload_n 0, 1) := by decide +kernel
theorem dX7_init_13 : decode cX7_init 13 = .ok (.bipush 40, 2) := by decide +kernel
theorem dX7_init_15 : decode cX7_init 15 = .ok (.newarray .int, 2) := by decide +kernel
theorem dX7_init_17 : decode cX7_init 17 = .ok (.putfield 15, 3) := by decide +kernel
theorem dX7_init_20 : decode cX7_init 20 = .ok (.aload_n 0, 1) := by decide +kernel
theorem dX7_init_21 : decode cX7_init 21 = .ok (.bipush 40, 2) := by decide +kernel
theorem dX7_init_23 : decode cX7_init 23 = .ok (.newarray .int, 2) := by decide +kernel
theorem dX7_init_25 : decode cX7_init 25 = .ok (.putfield 18, 3) := by decide +kernel
theorem dX7_init_28 : decode cX7_init 28 = .ok (.aload_n 0, 1) := by decide +kernel
theorem dX7_init_29 : decode cX7_init 29 = .ok (.bipush 41, 2) := by decide +kernel
theorem dX7_init_31 : decode cX7_init 31 = .ok (.newarray .int, 2) := by decide +kernel
theorem dX7_init_33 : decode cX7_init 33 = .ok (.putfield 21, 3) := by decide +kernel
theorem dX7_init_36 : decode cX7_init 36 = .ok (.return_, 1) := by decide +kernel
theorem dX7_clear_0 : decode cX7_clear 0 = .ok (.aload_n 0, 1) := by decide +kernel
theorem dX7_clear_1 : decode cX7_clear 1 = .ok (.iconst 0, 1) := by decide +kernel
theorem dX7_clear_2 : decode cX7_clear 2 = .ok (.putfield 24, 3) := by decide +kernel
theorem dX7_clear_5 : decode cX7_clear 5 = .ok (.aload_n 0, 1) := by decide +kernel
theorem dX7_clear_6 : decode cX7_clear 6 = .ok (.iconst 0, 1) := by decide +kernel
theorem dX7_clear_7 : decode cX7_clear 7 = .ok (.putfield 28, 3) := by decide +kernel
theorem dX7_clear_10 : decode cX7_clear 10 = .ok (.return_, 1) := by decide +kernel
theorem dX7_copyFrom_0 : decode cX7_copyFrom 0 = .ok (.aload_n 1, 1) := by decide +kernel
theorem dX7_copyFrom_1 : decode cX7_copyFrom 1 = .ok (.getfield 11, 3) := by decide +kernel
theorem dX7_copyFrom_4 : decode cX7_copyFrom 4 = .ok (.iconst 0, 1) := by decide +kernel
theorem dX7_copyFrom_5 : decode cX7_copyFrom 5 = .ok (.aload_n 0, 1) := by decide +kernel
theorem dX7_copyFrom_6 : decode cX7_copyFrom 6 = .ok (.getfield 11, 3) := by decide +kernel
theorem dX7_copyFrom_9 : decode cX7_copyFrom 9 = .ok (.iconst 0, 1) := by decide +kernel
theorem dX7_copyFrom_10 : decode cX7_copyFrom 10 = .ok (.bipush 40, 2) := by decide +kernel
theorem dX7_copyFrom_12 : decode cX7_copyFrom 12 = .ok (.invokestatic 31, 3) := by decide +kernel
theorem dX7_copyFrom_15 : decode cX7_copyFrom 15 = .ok (.aload_n 1, 1) := by decide +kernel
theorem dX7_copyFrom_16 : decode cX7_copyFrom 16 = .ok (.getfield 15, 3) := by decide +kernel
theorem dX7_copyFrom_19 : decode cX7_copyFrom 19 = .ok (.iconst 0, 1) := by decide +kernel
theorem dX7_copyFrom_20 : decode cX7_copyFrom 20 = .ok (.aload_n 0, 1) := by decide +kernel
theorem dX7_copyFrom_21 : decode cX7_copyFrom 21 = .ok (.getfield 15, 3) := by decide +kernel
theorem dX7_copyFrom_24 : decode cX7_copyFrom 24 = .ok (.iconst 0, 1) := by decide +kernel
theorem dX7_copyFrom_25 : decode cX7_copyFrom 25 = .ok (.bipush 40, 2) := by decide +kernel
theorem dX7_copyFrom_27 : decode cX7_copyFrom 27 = .ok (.invokestatic 31, 3) := by decide +kernel
theorem dX7_copyFrom_30 : decode cX7_copyFrom 30 = .ok (.aload_n 1, 1) := by decide +kernel
theorem dX7_copyFrom_31 : decode cX7_copyFrom 31 = .ok (.getfield 18, 3) := by decide +kernel
theorem dX7_copyFrom_34 : decode cX7_copyFrom 34 = .ok (.iconst 0, 1) := by decide +kernel
theorem dX7_copyFrom_35 : decode cX7_copyFrom 35 = .ok (.aload_n 0, 1) := by decide +kernel
theorem dX7_copyFrom_36 : decode cX7_copyFrom 36 = .ok (.getfield 18, 3) := by decide +kernel
theorem dX7_copyFrom_39 : decode cX7_copyFrom 39 = .ok (.iconst 0, 1) := by decide +kernel
theorem dX7_copyFrom_40 : decode cX7_copyFrom 40 = .ok (.bipush 40, 2) := by decide +kernel
theorem dX7_copyFrom_42 : decode cX7_copyFrom 42 = .ok (.invokestatic 31, 3) := by decide +kernel
theorem dX7_copyFrom_45 : decode cX7_copyFrom 45 = .ok (.aload_n 0, 1) := by decide +kernel
theorem dX7_copyFrom_46 : decode cX7_copyFrom 46 = .ok (.aload_n 1, 1) := by decide +kernel
theorem dX7_copyFrom_47 : decode cX7_copyFrom 47 = .ok (.getfield 24, 3) := by decide +kernel
theorem dX7_copyFrom_50 : decode cX7_copyFrom 50 = .ok (.putfield 24, 3) := by decide +kernel
theorem dX7_copyFrom_53 : decode cX7_copyFrom 53 = .ok (.aload_n 0, 1) := by decide +kernel
theorem dX7_copyFrom_54 : decode cX7_copyFrom 54 = .ok (.aload_n 1, 1) := by decide +kernel
theorem dX7_copyFrom_55 : decode cX7_copyFrom 55 = .ok (.getfield 28, 3) := by decide +kernel
theorem dX7_copyFrom_58 : decode cX7_copyFrom 58 = .ok (.putfield 28, 3) := by decide +kernel
theorem dX7_copyFrom_61 : decode cX7_copyFrom 61 = .ok (.return_, 1) := by decide +kernel
theorem dX8_init_0 : decode cX8_init 0 = .ok (.aload_n 0, 1) := by decide +kernel
theorem dX8_init_1 : decode cX8_init 1 = .ok (.invokespecial 3, 3) := by decide +kernel
theorem dX8_init_4 : decode cX8_init 4 = .ok (.aload_n 0, 1) := by decide +kernel
theorem dX8_init_5 : decode cX8_init 5 = .ok (.new 9, 3) := by decide +kernel
theorem dX8_init_8 : decode cX8_init 8 = .ok (.dup, 1) := by decide +kernel
theorem dX8_init_9 : decode cX8_init 9 = .ok (.invokespecial 11, 3) := by decide +kernel
theorem dX8_init_12 : decode cX8_init 12 = .ok (.putfield 12, 3) := by decide +kernel
theorem dX8_init_15 : decode cX8_init 15 = .ok (.aload_n 0, 1) := by decide +kernel
theorem dX8_init_16 : decode cX8_init 16 = .ok (.new 18, 3) := by decide +kernel
theorem dX8_init_19 : decode cX8_init 19 = .ok (.dup, 1) := by decide +kernel
theorem dX8_init_20 : decode cX8_init 20 = .ok (.invokespecial 20, 3) := by decide +kernel
theorem dX8_init_23 : decode cX8_init 23 = .ok (.putfield 21, 3) := by decide +kernel
theorem dX8_init_26 : decode cX8_init 26 = .ok (.return_, 1) := by decide +kernel
theorem dX8_readSentence_0 : decode cX8_readSentence 0 = .ok (.aload_n 0, 1) := by decide +kernel
theorem dX8_readSentence_1 : decode cX8_readSentence 1 = .ok (.getfield 21, 3) := by decide +kernel
theorem dX8_readSentence_4 : decode cX8_readSentence 4 = .ok (.invokevirtual 25, 3) := by decide +kernel
theorem dX8_readSentence_7 : decode cX8_readSentence 7 = .ok (.aload_n 0, 1) := by decide +kernel
theorem dX8_readSentence_8 : decode cX8_readSentence 8 = .ok (.getfield 12, 3) := by decide +kernel
theorem dX8_readSentence_11 : decode cX8_readSentence 11 = .ok (.aload_n 1, 1) := by decide +kernel
theorem dX8_readSentence_12 : decode cX8_readSentence 12 = .ok (.sipush 200, 3) := by decide +kernel
theorem dX8_readSentence_15 : decode cX8_readSentence 15 = .ok (.invokevirtual 28, 3) := by decide +kernel
theorem dX8_readSentence_18 : decode cX8_readSentence 18 = .ok (.aload_n 0, 1) := by decide +kernel
theorem dX8_readSentence_19 : decode cX8_readSentence 19 = .ok (.aload_n 2, 1) := by decide +kernel
theorem dX8_readSentence_20 : decode cX8_readSentence 20 = .ok (.iconst 0, 1) := by decide +kernel
theorem dX8_readSentence_21 : decode cX8_readSentence 21 = .ok (.invokevirtual 32, 3) := by decide +kernel
theorem dX8_readSentence_24 : decode cX8_readSentence 24 = .ok (.ifCond .eq 28, 3) := by decide +kernel
theorem dX8_readSentence_27 : decode cX8_readSentence 27 = .ok (.aload_n 0, 1) := by decide +kernel
theorem dX8_readSentence_28 : decode cX8_readSentence 28 = .ok (.getfield 12, 3) := by decide +kernel
theorem dX8_readSentence_31 : decode cX8_readSentence 31 = .ok (.getfield 36, 3) := by decide +kernel
theorem dX8_readSentence_34 : decode cX8_readSentence 34 = .ok (.ifCond .eq 14, 3) := by decide +kernel
theorem dX8_readSentence_37 : decode cX8_readSentence 37 = .ok (.aload_n 0, 1) := by decide +kernel
theorem dX8_readSentence_38 : decode cX8_readSentence 38 = .ok (.getfield 12, 3) := by decide +kernel
theorem dX8_readSentence_41 : decode cX8_readSentence 41 = .ok (.iconst 1, 1) := by decide +kernel
theorem dX8_readSentence_42 : decode cX8_readSentence 42 = .ok (.invokevirtual 40, 3) := by decide +kernel
theorem dX8_readSentence_45 : decode cX8_readSentence 45 = .ok (.ifCond .eq 7, 3) := by decide +kernel
theorem dX8_readSentence_48 : decode cX8_readSentence 48 = .ok (.iconst 1, 1) := by decide +kernel
theorem dX8_readSentence_49 : decode cX8_readSentence 49 = .ok (.goto 4, 3) := by decide +kernel
theorem dX8_readSentence_52 : decode cX8_readSentence 52 = .ok (.iconst 0, 1) := by decide +kernel
theorem dX8_readSentence_53 : decode cX8_readSentence 53 = .ok (.ireturn, 1) := by decide +kernel
theorem dX8_readCond_0 : decode cX8_readCond 0 = .ok (.aload_n 0, 1) := by decide +kernel
theorem dX8_readCond_1 : decode cX8_readCond 1 = .ok (.aload_n 1, 1) := by decide +kernel
theorem dX8_readCond_2 : decode cX8_readCond 2 = .ok (.iload_n 2, 1) := by decide +kernel
theorem dX8_readCond_3 : decode cX8_readCond 3 = .ok (.invokevirtual 44, 3) := by decide +kernel
theorem dX8_readCond_6 : decode cX8_readCond 6 = .ok (.ifCond .ne 5, 3) := by decide +kernel
theorem dX8_readCond_9 : decode cX8_readCond 9 = .ok (.iconst 0, 1) := by decide +kernel
theorem dX8_readCond_10 : decode cX8_readCond 10 = .ok (.ireturn, 1) := by decide +kernel
theorem dX8_readCond_11 : decode cX8_readCond 11 = .ok (.iconst 0, 1) := by decide +kernel
theorem dX8_readCond_12 : decode cX8_readCond 12 = .ok (.istore_n 3, 1) := by decide +kernel
theorem dX8_readCond_13 : decode cX8_readCond 13 = .ok (.iload_n 3, 1) := by decide +kernel
theorem dX8_readCond_14 : decode cX8_readCond 14 = .ok (.bipush 20, 2) := by decide +kernel
theorem dX8_readCond_16 : decode cX8_readCond 16 = .ok (.if_icmp .ge 51, 3) := by decide +kernel
theorem dX8_readCond_19 : decode cX8_readCond 19 = .ok (.aload_n 0, 1) := by decide +kernel
theorem dX8_readCond_20 : decode cX8_readCond 20 = .ok (.getfield 12, 3) := by decide +kernel
theorem dX8_readCond_23 : decode cX8_readCond 23 = .ok (.getfield 47, 3) := by decide +kernel
theorem dX8_readCond_26 : decode cX8_readCond 26 = .ok (.bipush 10, 2) := by decide +kernel
theorem dX8_readCond_28 : decode cX8_readCond 28 = .ok (.if_icmp .ne 39, 3) := by decide +kernel
theorem dX8_readCond_31 : decode cX8_readCond 31 = .ok (.aload_n 0, 1) := by decide +kernel
theorem dX8_readCond_32 : decode cX8_readCond 32 = .ok (.getfield 12, 3) := by decide +kernel
theorem dX8_readCond_35 : decode cX8_readCond 35 = .ok (.invokevirtual 50, 3) := by decide +kernel
theorem dX8_readCond_38 : decode cX8_readCond 38 = .ok (.aload_n 0, 1) := by decide +kernel
theorem dX8_readCond_39 : decode cX8_readCond 39 = .ok (.aload_n 1, 1) := by decide +kernel
theorem dX8_readCond_40 : decode cX8_readCond 40 = .ok (.iload_n 2, 1) := by decide +kernel
theorem dX8_readCond_41 : decode cX8_readCond 41 = .ok (.invokevirtual 44, 3) := by decide +kernel
theorem dX8_readCond_44 : decode cX8_readCond 44 = .ok (.ifCond .ne 5, 3) := by decide +kernel
theorem dX8_readCond_47 : decode cX8_readCond 47 = .ok (.iconst 0, 1) := by decide +kernel
theorem dX8_readCond_48 : decode cX8_readCond 48 = .ok (.ireturn, 1) := by decide +kernel
theorem dX8_readCond_49 : decode cX8_readCond 49 = .ok (.aload_n 0, 1) := by decide +kernel
theorem dX8_readCond_50 : decode cX8_readCond 50 = .ok (.getfield 21, 3) := by decide +kernel
theorem dX8_readCond_53 : decode cX8_readCond 53 = .ok (.bipush 10, 2) := by decide +kernel
theorem dX8_readCond_55 : decode cX8_readCond 55 = .ok (.iconst 0, 1) := by decide +kernel
theorem dX8_readCond_56 : decode cX8_readCond 56 = .ok (.iconst 0, 1) := by decide +kernel
theorem dX8_readCond_57 : decode cX8_readCond 57 = .ok (.invokevirtual 53, 3) := by decide +kernel
theorem dX8_readCond_60 : decode cX8_readCond 60 = .ok (.pop, 1) := by decide +kernel
theorem dX8_readCond_61 : decode cX8_readCond 61 = .ok (.iinc 3 1, 3) := by decide +kernel
theorem dX8_readCond_64 : decode cX8_readCond 64 = .ok (.goto (-51), 3) := by decide +kernel
theorem dX8_readCond_67 : decode cX8_readCond 67 = .ok (.iconst 1, 1) := by decide +kernel
theorem dX8_readCond_68 : decode cX8_readCond 68 = .ok (.ireturn, 1) := by decide +kernel
theorem dX8_readAll_0 : decode cX8_readAll 0 = .ok (.aload_n 0, 1) := by decide +kernel
theorem dX8_readAll_1 : decode cX8_readAll 1 = .ok (.aload_n 1, 1) := by decide +kernel
theorem dX8_readAll_2 : decode cX8_readAll 2 = .ok (.iload_n 2, 1) := by decide +kernel
theorem dX8_readAll_3 : decode cX8_readAll 3 = .ok (.invokevirtual 57, 3) := by decide +kernel
theorem dX8_readAll_6 : decode cX8_readAll 6 = .ok (.ifCond .ne 5, 3) := by decide +kernel
theorem dX8_readAll_9 : decode cX8_readAll 9 = .ok (.iconst 0, 1) := by decide +kernel
theorem dX8_readAll_10 : decode cX8_readAll 10 = .ok (.ireturn, 1) := by decide +kernel
theorem dX8_readAll_11 : decode cX8_readAll 11 = .ok (.iconst 0, 1) := by decide +kernel
theorem dX8_readAll_12 : decode cX8_readAll 12 = .ok (.istore_n 3, 1) := by decide +kernel
theorem dX8_readAll_13 : decode cX8_readAll 13 = .ok (.iload_n 3, 1) := by decide +kernel
theorem dX8_readAll_14 : decode cX8_readAll 14 = .ok (.bipush 20, 2) := by decide +kernel
theorem dX8_readAll_16 : decode cX8_readAll 16 = .ok (.if_icmp .ge 51, 3) := by decide +kernel
theorem dX8_readAll_19 : decode cX8_readAll 19 = .ok (.aload_n 0, 1) := by decide +kernel
theorem dX8_readAll_20 : decode cX8_readAll 20 = .ok (.getfield 12, 3) := by decide +kernel
theorem dX8_readAll_23 : decode cX8_readAll 23 = .ok (.getfield 47, 3) := by decide +kernel
theorem dX8_readAll_26 : decode cX8_readAll 26 = .ok (.bipush 11, 2) := by decide +kernel
theorem dX8_readAll_28 : decode cX8_readAll 28 = .ok (.if_icmp .ne 39, 3) := by decide +kernel
theorem dX8_readAll_31 : decode cX8_readAll 31 = .ok (.aload_n 0, 1) := by decide +kernel
theorem dX8_readAll_32 : decode cX8_readAll 32 = .ok (.getfield 12, 3) := by decide +kernel
theorem dX8_readAll_35 : decode cX8_readAll 35 = .ok (.invokevirtual 50, 3) := by decide +kernel
theorem dX8_readAll_38 : decode cX8_readAll 38 = .ok (.aload_n 0, 1) := by decide +kernel
theorem dX8_readAll_39 : decode cX8_readAll 39 = .ok (.aload_n 1, 1) := by decide +kernel
theorem dX8_readAll_40 : decode cX8_readAll 40 = .ok (.iload_n 2, 1) := by decide +kernel
theorem dX8_readAll_41 : decode cX8_readAll 41 = .ok (.invokevirtual 57, 3) := by decide +kernel
theorem dX8_readAll_44 : decode cX8_readAll 44 = .ok (.ifCond .ne 5, 3) := by decide +kernel
theorem dX8_readAll_47 : decode cX8_readAll 47 = .ok (.iconst 0, 1) := by decide +kernel
theorem dX8_readAll_48 : decode cX8_readAll 48 = .ok (.ireturn, 1) := by decide +kernel
theorem dX8_readAll_49 : decode cX8_readAll 49 = .ok (.aload_n 0, 1) := by decide +kernel
theorem dX8_readAll_50 : decode cX8_readAll 50 = .ok (.getfield 21, 3) := by decide +kernel
theorem dX8_readAll_53 : decode cX8_readAll 53 = .ok (.bipush 11, 2) := by decide +kernel
theorem dX8_readAll_55 : decode cX8_readAll 55 = .ok (.iconst 0, 1) := by decide +kernel
theorem dX8_readAll_56 : decode cX8_readAll 56 = .ok (.iconst 0, 1) := by decide +kernel
theorem dX8_readAll_57 : decode cX8_readAll 57 = .ok (.invokevirtual 53, 3) := by decide +kernel
theorem dX8_readAll_60 : decode cX8_readAll 60 = .ok (.pop, 1) := by decide +kernel
theorem dX8_readAll_61 : decode cX8_readAll 61 = .ok (.iinc 3 1, 3) := by decide +kernel
theorem dX8_readAll_64 : decode cX8_readAll 64 = .ok (.goto (-51), 3) := by decide +kernel
theorem dX8_readAll_67 : decode cX8_readAll 67 = .ok (.iconst 1, 1) := by decide +kernel
theorem dX8_readAll_68 : decode cX8_readAll 68 = .ok (.ireturn, 1) := by decide +kernel
theorem dX8_readOne_0 : decode cX8_readOne 0 = .ok (.aload_n 0, 1) := by decide +kernel
theorem dX8_readOne_1 : decode cX8_readOne 1 = .ok (.invokevirtual 60, 3) := by decide +kernel
theorem dX8_readOne_4 : decode cX8_readOne 4 = .ok (.ifCond .ne 12, 3) := by decide +kernel
