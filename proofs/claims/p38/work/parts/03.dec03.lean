theorem dX4_readAct_58 : decode cX4_readAct 58 = .ok (.iload_n 3, 1) := by decide +kernel
theorem dX4_readAct_59 : decode cX4_readAct 59 = .ok (.iconst 4, 1) := by decide +kernel
theorem dX4_readAct_60 : decode cX4_readAct 60 = .ok (.if_icmp .ne 7, 3) := by decide +kernel
theorem dX4_readAct_63 : decode cX4_readAct 63 = .ok (.iconst 0, 1) := by decide +kernel
theorem dX4_readAct_64 : decode cX4_readAct 64 = .ok (.goto 14, 3) := by decide +kernel
theorem dX4_readAct_67 : decode cX4_readAct 67 = .ok (.aload_n 0, 1) := by decide +kernel
theorem dX4_readAct_68 : decode cX4_readAct 68 = .ok (.getfield 12, 3) := by decide +kernel
theorem dX4_readAct_71 : decode cX4_readAct 71 = .ok (.iconst 0, 1) := by decide +kernel
theorem dX4_readAct_72 : decode cX4_readAct 72 = .ok (.sipush 999, 3) := by decide +kernel
theorem dX4_readAct_75 : decode cX4_readAct 75 = .ok (.invokevirtual 80, 3) := by decide +kernel
theorem dX4_readAct_78 : decode cX4_readAct 78 = .ok (.invokevirtual 84, 3) := by decide +kernel
theorem dX4_readAct_81 : decode cX4_readAct 81 = .ok (.ireturn, 1) := by decide +kernel
theorem dX4_readEvent_0 : decode cX4_readEvent 0 = .ok (.aload_n 0, 1) := by decide +kernel
theorem dX4_readEvent_1 : decode cX4_readEvent 1 = .ok (.getfield 12, 3) := by decide +kernel
theorem dX4_readEvent_4 : decode cX4_readEvent 4 = .ok (.getfield 43, 3) := by decide +kernel
theorem dX4_readEvent_7 : decode cX4_readEvent 7 = .ok (.istore_n 2, 1) := by decide +kernel
theorem dX4_readEvent_8 : decode cX4_readEvent 8 = .ok (.aload_n 0, 1) := by decide +kernel
theorem dX4_readEvent_9 : decode cX4_readEvent 9 = .ok (.getfield 12, 3) := by decide +kernel
theorem dX4_readEvent_12 : decode cX4_readEvent 12 = .ok (.invokevirtual 77, 3) := by decide +kernel
theorem dX4_readEvent_15 : decode cX4_readEvent 15 = .ok (.iload_n 2, 1) := by decide +kernel
theorem dX4_readEvent_16 : decode cX4_readEvent 16 = .ok (.bipush 9, 2) := by decide +kernel
theorem dX4_readEvent_18 : decode cX4_readEvent 18 = .ok (.if_icmp .ne 20, 3) := by decide +kernel
theorem dX4_readEvent_21 : decode cX4_readEvent 21 = .ok (.aload_n 0, 1) := by decide +kernel
theorem dX4_readEvent_22 : decode cX4_readEvent 22 = .ok (.iload_n 2, 1) := by decide +kernel
theorem dX4_readEvent_23 : decode cX4_readEvent 23 = .ok (.iconst 0, 1) := by decide +kernel
theorem dX4_readEvent_24 : decode cX4_readEvent 24 = .ok (.aload_n 0, 1) := by decide +kernel
theorem dX4_readEvent_25 : decode cX4_readEvent 25 = .ok (.getfield 12, 3) := by decide +kernel
theorem dX4_readEvent_28 : decode cX4_readEvent 28 = .ok (.iconst 1, 1) := by decide +kernel
theorem dX4_readEvent_29 : decode cX4_readEvent 29 = .ok (.bipush 60, 2) := by decide +kernel
theorem dX4_readEvent_31 : decode cX4_readEvent 31 = .ok (.invokevirtual 80, 3) := by decide +kernel
theorem dX4_readEvent_34 : decode cX4_readEvent 34 = .ok (.invokevirtual 84, 3) := by decide +kernel
theorem dX4_readEvent_37 : decode cX4_readEvent 37 = .ok (.ireturn, 1) := by decide +kernel
theorem dX4_readEvent_38 : decode cX4_readEvent 38 = .ok (.aload_n 0, 1) := by decide +kernel
theorem dX4_readEvent_39 : decode cX4_readEvent 39 = .ok (.iload_n 2, 1) := by decide +kernel
theorem dX4_readEvent_40 : decode cX4_readEvent 40 = .ok (.aload_n 0, 1) := by decide +kernel
theorem dX4_readEvent_41 : decode cX4_readEvent 41 = .ok (.getfield 12, 3) := by decide +kernel
theorem dX4_readEvent_44 : decode cX4_readEvent 44 = .ok (.aload_n 1, 1) := by decide +kernel
theorem dX4_readEvent_45 : decode cX4_readEvent 45 = .ok (.invokevirtual 88, 3) := by decide +kernel
theorem dX4_readEvent_48 : decode cX4_readEvent 48 = .ok (.iconst 0, 1) := by decide +kernel
theorem dX4_readEvent_49 : decode cX4_readEvent 49 = .ok (.invokevirtual 84, 3) := by decide +kernel
theorem dX4_readEvent_52 : decode cX4_readEvent 52 = .ok (.ireturn, 1) := by decide +kernel
theorem dX4_keepLine_0 : decode cX4_keepLine 0 = .ok (.aload_n 0, 1) := by decide +kernel
theorem dX4_keepLine_1 : decode cX4_keepLine 1 = .ok (.getfield 18, 3) := by decide +kernel
theorem dX4_keepLine_4 : decode cX4_keepLine 4 = .ok (.aload_n 0, 1) := by decide +kernel
theorem dX4_keepLine_5 : decode cX4_keepLine 5 = .ok (.getfield 32, 3) := by decide +kernel
theorem dX4_keepLine_8 : decode cX4_keepLine 8 = .ok (.iload_n 1, 1) := by decide +kernel
theorem dX4_keepLine_9 : decode cX4_keepLine 9 = .ok (.iastore, 1) := by decide +kernel
theorem dX4_keepLine_10 : decode cX4_keepLine 10 = .ok (.aload_n 0, 1) := by decide +kernel
theorem dX4_keepLine_11 : decode cX4_keepLine 11 = .ok (.getfield 22, 3) := by decide +kernel
theorem dX4_keepLine_14 : decode cX4_keepLine 14 = .ok (.aload_n 0, 1) := by decide +kernel
theorem dX4_keepLine_15 : decode cX4_keepLine 15 = .ok (.getfield 32, 3) := by decide +kernel
theorem dX4_keepLine_18 : decode cX4_keepLine 18 = .ok (.iload_n 2, 1) := by decide +kernel
theorem dX4_keepLine_19 : decode cX4_keepLine 19 = .ok (.iastore, 1) := by decide +kernel
theorem dX4_keepLine_20 : decode cX4_keepLine 20 = .ok (.aload_n 0, 1) := by decide +kernel
theorem dX4_keepLine_21 : decode cX4_keepLine 21 = .ok (.getfield 25, 3) := by decide +kernel
theorem dX4_keepLine_24 : decode cX4_keepLine 24 = .ok (.aload_n 0, 1) := by decide +kernel
theorem dX4_keepLine_25 : decode cX4_keepLine 25 = .ok (.getfield 32, 3) := by decide +kernel
theorem dX4_keepLine_28 : decode cX4_keepLine 28 = .ok (.iload_n 3, 1) := by decide +kernel
theorem dX4_keepLine_29 : decode cX4_keepLine 29 = .ok (.iastore, 1) := by decide +kernel
theorem dX4_keepLine_30 : decode cX4_keepLine 30 = .ok (.iload_n 2, 1) := by decide +kernel
theorem dX4_keepLine_31 : decode cX4_keepLine 31 = .ok (.iconst (-1), 1) := by decide +kernel
theorem dX4_keepLine_32 : decode cX4_keepLine 32 = .ok (.if_icmp .eq 12, 3) := by decide +kernel
theorem dX4_keepLine_35 : decode cX4_keepLine 35 = .ok (.iload_n 3, 1) := by decide +kernel
theorem dX4_keepLine_36 : decode cX4_keepLine 36 = .ok (.iconst (-1), 1) := by decide +kernel
theorem dX4_keepLine_37 : decode cX4_keepLine 37 = .ok (.if_icmp .eq 7, 3) := by decide +kernel
theorem dX4_keepLine_40 : decode cX4_keepLine 40 = .ok (.iconst 1, 1) := by decide +kernel
theorem dX4_keepLine_41 : decode cX4_keepLine 41 = .ok (.goto 4, 3) := by decide +kernel
theorem dX4_keepLine_44 : decode cX4_keepLine 44 = .ok (.iconst 0, 1) := by decide +kernel
theorem dX4_keepLine_45 : decode cX4_keepLine 45 = .ok (.ireturn, 1) := by decide +kernel
theorem dX4_live_0 : decode cX4_live 0 = .ok (.aload_n 0, 1) := by decide +kernel
theorem dX4_live_1 : decode cX4_live 1 = .ok (.iconst 0, 1) := by decide +kernel
theorem dX4_live_2 : decode cX4_live 2 = .ok (.putfield 91, 3) := by decide +kernel
theorem dX4_live_5 : decode cX4_live 5 = .ok (.iconst 0, 1) := by decide +kernel
theorem dX4_live_6 : decode cX4_live 6 = .ok (.istore_n 3, 1) := by decide +kernel
theorem dX4_live_7 : decode cX4_live 7 = .ok (.iload_n 3, 1) := by decide +kernel
theorem dX4_live_8 : decode cX4_live 8 = .ok (.aload_n 0, 1) := by decide +kernel
theorem dX4_live_9 : decode cX4_live 9 = .ok (.getfield 32, 3) := by decide +kernel
theorem dX4_live_12 : decode cX4_live 12 = .ok (.if_icmp .ge 29, 3) := by decide +kernel
theorem dX4_live_15 : decode cX4_live 15 = .ok (.aload_n 0, 1) := by decide +kernel
theorem dX4_live_16 : decode cX4_live 16 = .ok (.aload_n 0, 1) := by decide +kernel
theorem dX4_live_17 : decode cX4_live 17 = .ok (.aload_n 1, 1) := by decide +kernel
theorem dX4_live_18 : decode cX4_live 18 = .ok (.aload_n 2, 1) := by decide +kernel
theorem dX4_live_19 : decode cX4_live 19 = .ok (.iload_n 3, 1) := by decide +kernel
theorem dX4_live_20 : decode cX4_live 20 = .ok (.invokevirtual 94, 3) := by decide +kernel
theorem dX4_live_23 : decode cX4_live 23 = .ok (.putfield 91, 3) := by decide +kernel
theorem dX4_live_26 : decode cX4_live 26 = .ok (.aload_n 0, 1) := by decide +kernel
theorem dX4_live_27 : decode cX4_live 27 = .ok (.getfield 91, 3) := by decide +kernel
theorem dX4_live_30 : decode cX4_live 30 = .ok (.ifCond .eq 5, 3) := by decide +kernel
theorem dX4_live_33 : decode cX4_live 33 = .ok (.iload_n 3, 1) := by decide +kernel
theorem dX4_live_34 : decode cX4_live 34 = .ok (.ireturn, 1) := by decide +kernel
theorem dX4_live_35 : decode cX4_live 35 = .ok (.iinc 3 1, 3) := by decide +kernel
theorem dX4_live_38 : decode cX4_live 38 = .ok (.goto (-31), 3) := by decide +kernel
theorem dX4_live_41 : decode cX4_live 41 = .ok (.aload_n 0, 1) := by decide +kernel
theorem dX4_live_42 : decode cX4_live 42 = .ok (.getfield 32, 3) := by decide +kernel
theorem dX4_live_45 : decode cX4_live 45 = .ok (.ireturn, 1) := by decide +kernel
theorem dX4_liveLine_0 : decode cX4_liveLine 0 = .ok (.aload_n 2, 1) := by decide +kernel
theorem dX4_liveLine_1 : decode cX4_liveLine 1 = .ok (.aload_n 0, 1) := by decide +kernel
theorem dX4_liveLine_2 : decode cX4_liveLine 2 = .ok (.getfield 25, 3) := by decide +kernel
theorem dX4_liveLine_5 : decode cX4_liveLine 5 = .ok (.iload_n 3, 1) := by decide +kernel
theorem dX4_liveLine_6 : decode cX4_liveLine 6 = .ok (.iaload, 1) := by decide +kernel
theorem dX4_liveLine_7 : decode cX4_liveLine 7 = .ok (.putfield 98, 3) := by decide +kernel
theorem dX4_liveLine_10 : decode cX4_liveLine 10 = .ok (.aload_n 0, 1) := by decide +kernel
theorem dX4_liveLine_11 : decode cX4_liveLine 11 = .ok (.getfield 18, 3) := by decide +kernel
theorem dX4_liveLine_14 : decode cX4_liveLine 14 = .ok (.iload_n 3, 1) := by decide +kernel
theorem dX4_liveLine_15 : decode cX4_liveLine 15 = .ok (.iaload, 1) := by decide +kernel
theorem dX4_liveLine_16 : decode cX4_liveLine 16 = .ok (.tableswitch 119 4 8 #[36, 69, 86, 52, 103], 36) := by decide +kernel
theorem dX4_liveLine_52 : decode cX4_liveLine 52 = .ok (.iconst 0, 1) := by decide +kernel
theorem dX4_liveLine_53 : decode cX4_liveLine 53 = .ok (.aload_n 2, 1) := by decide +kernel
theorem dX4_liveLine_54 : decode cX4_liveLine 54 = .ok (.aload_n 1, 1) := by decide +kernel
theorem dX4_liveLine_55 : decode cX4_liveLine 55 = .ok (.aload_n 0, 1) := by decide +kernel
theorem dX4_liveLine_56 : decode cX4_liveLine 56 = .ok (.getfield 22, 3) := by decide +kernel
theorem dX4_liveLine_59 : decode cX4_liveLine 59 = .ok (.iload_n 3, 1) := by decide +kernel
theorem dX4_liveLine_60 : decode cX4_liveLine 60 = .ok (.iaload, 1) := by decide +kernel
theorem dX4_liveLine_61 : decode cX4_liveLine 61 = .ok (.invokevirtual 103, 3) := by decide +kernel
theorem dX4_liveLine_64 : decode cX4_liveLine 64 = .ok (.invokestatic 107, 3) := by decide +kernel
theorem dX4_liveLine_67 : decode cX4_liveLine 67 = .ok (.ireturn, 1) := by decide +kernel
theorem dX4_liveLine_68 : decode cX4_liveLine 68 = .ok (.bipush 10, 2) := by decide +kernel
theorem dX4_liveLine_70 : decode cX4_liveLine 70 = .ok (.aload_n 2, 1) := by decide +kernel
theorem dX4_liveLine_71 : decode cX4_liveLine 71 = .ok (.aload_n 1, 1) := by decide +kernel
theorem dX4_liveLine_72 : decode cX4_liveLine 72 = .ok (.aload_n 0, 1) := by decide +kernel
theorem dX4_liveLine_73 : decode cX4_liveLine 73 = .ok (.getfield 22, 3) := by decide +kernel
theorem dX4_liveLine_76 : decode cX4_liveLine 76 = .ok (.iload_n 3, 1) := by decide +kernel
theorem dX4_liveLine_77 : decode cX4_liveLine 77 = .ok (.iaload, 1) := by decide +kernel
theorem dX4_liveLine_78 : decode cX4_liveLine 78 = .ok (.invokevirtual 110, 3) := by decide +kernel
theorem dX4_liveLine_81 : decode cX4_liveLine 81 = .ok (.invokestatic 107, 3) := by decide +kernel
theorem dX4_liveLine_84 : decode cX4_liveLine 84 = .ok (.ireturn, 1) := by decide +kernel
theorem dX4_liveLine_85 : decode cX4_liveLine 85 = .ok (.bipush 20, 2) := by decide +kernel
theorem dX4_liveLine_87 : decode cX4_liveLine 87 = .ok (.aload_n 2, 1) := by decide +kernel
theorem dX4_liveLine_88 : decode cX4_liveLine 88 = .ok (.aload_n 1, 1) := by decide +kernel
theorem dX4_liveLine_89 : decode cX4_liveLine 89 = .ok (.aload_n 0, 1) := by decide +kernel
theorem dX4_liveLine_90 : decode cX4_liveLine 90 = .ok (.getfield 22, 3) := by decide +kernel
theorem dX4_liveLine_93 : decode cX4_liveLine 93 = .ok (.iload_n 3, 1) := by decide +kernel
theorem dX4_liveLine_94 : decode cX4_liveLine 94 = .ok (.iaload, 1) := by decide +kernel
theorem dX4_liveLine_95 : decode cX4_liveLine 95 = .ok (.invokevirtual 113, 3) := by decide +kernel
theorem dX4_liveLine_98 : decode cX4_liveLine 98 = .ok (.invokestatic 107, 3) := by decide +kernel
theorem dX4_liveLine_101 : decode cX4_liveLine 101 = .ok (.ireturn, 1) := by decide +kernel
theorem dX4_liveLine_102 : decode cX4_liveLine 102 = .ok (.bipush 30, 2) := by decide +kernel
theorem dX4_liveLine_104 : decode cX4_liveLine 104 = .ok (.aload_n 2, 1) := by decide +kernel
theorem dX4_liveLine_105 : decode cX4_liveLine 105 = .ok (.aload_n 1, 1) := by decide +kernel
theorem dX4_liveLine_106 : decode cX4_liveLine 106 = .ok (.aload_n 0, 1) := by decide +kernel
theorem dX4_liveLine_107 : decode cX4_liveLine 107 = .ok (.getfield 22, 3) := by decide +kernel
theorem dX4_liveLine_110 : decode cX4_liveLine 110 = .ok (.iload_n 3, 1) := by decide +kernel
theorem dX4_liveLine_111 : decode cX4_liveLine 111 = .ok (.iaload, 1) := by decide +kernel
theorem dX4_liveLine_112 : decode cX4_liveLine 112 = .ok (.invokevirtual 116, 3) := by decide +kernel
theorem dX4_liveLine_115 : decode cX4_liveLine 115 = .ok (.invokestatic 107, 3) := by decide +kernel
theorem dX4_liveLine_118 : decode cX4_liveLine 118 = .ok (.ireturn, 1) := by decide +kernel
theorem dX4_liveLine_119 : decode cX4_liveLine 119 = .ok (.bipush 40, 2) := by decide +kernel
theorem dX4_liveLine_121 : decode cX4_liveLine 121 = .ok (.aload_n 2, 1) := by decide +kernel
theorem dX4_liveLine_122 : decode cX4_liveLine 122 = .ok (.aload_n 0, 1) := by decide +kernel
theorem dX4_liveLine_123 : decode cX4_liveLine 123 = .ok (.getfield 22, 3) := by decide +kernel
theorem dX4_liveLine_126 : decode cX4_liveLine 126 = .ok (.iload_n 3, 1) := by decide +kernel
theorem dX4_liveLine_127 : decode cX4_liveLine 127 = .ok (.iaload, 1) := by decide +kernel
theorem dX4_liveLine_128 : decode cX4_liveLine 128 = .ok (.invokevirtual 119, 3) := by decide +kernel
theorem dX4_liveLine_131 : decode cX4_liveLine 131 = .ok (.invokestatic 107, 3) := by decide +kernel
theorem dX4_liveLine_134 : decode cX4_liveLine 134 = .ok (.ireturn, 1) := by decide +kernel
theorem dX4_liveLine_135 : decode cX4_liveLine 135 = .ok (.aload_n 0, 1) := by decide +kernel
theorem dX4_liveLine_136 : decode cX4_liveLine 136 = .ok (.getfield 25, 3) := by decide +kernel
theorem dX4_liveLine_139 : decode cX4_liveLine 139 = .ok (.iload_n 3, 1) := by decide +kernel
theorem dX4_liveLine_140 : decode cX4_liveLine 140 = .ok (.iaload, 1) := by decide +kernel
theorem dX4_liveLine_141 : decode cX4_liveLine 141 = .ok (.sipush 1000, 3) := by decide +kernel
theorem dX4_liveLine_144 : decode cX4_liveLine 144 = .ok (.aload_n 2, 1) := by decide +kernel
theorem dX4_liveLine_145 : decode cX4_liveLine 145 = .ok (.getfield 123, 3) := by decide +kernel
theorem dX4_liveLine_148 : decode cX4_liveLine 148 = .ok (.isub, 1) := by decide +kernel
theorem dX4_liveLine_149 : decode cX4_liveLine 149 = .ok (.if_icmp .le 6, 3) := by decide +kernel
theorem dX4_liveLine_152 : decode cX4_liveLine 152 = .ok (.bipush 51, 2) := by decide +kernel
theorem dX4_liveLine_154 : decode cX4_liveLine 154 = .ok (.ireturn, 1) := by decide +kernel
theorem dX4_liveLine_155 : decode cX4_liveLine 155 = .ok (.aload_n 2, 1) := by decide +kernel
theorem dX4_liveLine_156 : decode cX4_liveLine 156 = .ok (.aload_n 1, 1) := by decide +kernel
theorem dX4_liveLine_157 : decode cX4_liveLine 157 = .ok (.aload_n 0, 1) := by decide +kernel
theorem dX4_liveLine_158 : decode cX4_liveLine 158 = .ok (.getfield 25, 3) := by decide +kernel
theorem dX4_liveLine_161 : decode cX4_liveLine 161 = .ok (.iload_n 3, 1) := by decide +kernel
theorem dX4_liveLine_162 : decode cX4_liveLine 162 = .ok (.iaload, 1) := by decide +kernel
theorem dX4_liveLine_163 : decode cX4_liveLine 163 = .ok (.invokevirtual 126, 3) := by decide +kernel
theorem dX4_liveLine_166 : decode cX4_liveLine 166 = .ok (.pop, 1) := by decide +kernel
theorem dX4_liveLine_167 : decode cX4_liveLine 167 = .ok (.iconst 0, 1) := by decide +kernel
theorem dX4_liveLine_168 : decode cX4_liveLine 168 = .ok (.ireturn, 1) := by decide +kernel
theorem dX4_whyOf_0 : decode cX4_whyOf 0 = .ok (.iload_n 1, 1) := by decide +kernel
theorem dX4_whyOf_1 : decode cX4_whyOf 1 = .ok (.ifCond .ne 7, 3) := by decide +kernel
theorem dX4_whyOf_4 : decode cX4_whyOf 4 = .ok (.iconst 0, 1) := by decide +kernel
theorem dX4_whyOf_5 : decode cX4_whyOf 5 = .ok (.goto 6, 3) := by decide +kernel
theorem dX4_whyOf_8 : decode cX4_whyOf 8 = .ok (.iload_n 0, 1) := by decide +kernel
theorem dX4_whyOf_9 : decode cX4_whyOf 9 = .ok (.iload_n 1, 1) := by decide +kernel
theorem dX4_whyOf_10 : decode cX4_whyOf 10 = .ok (.iadd, 1) := by decide +kernel
theorem dX4_whyOf_11 : decode cX4_whyOf 11 = .ok (.ireturn, 1) := by decide +kernel
theorem dX5_init_0 : decode cX5_init 0 = .ok (.aload_n 0, 1) := by decide +kernel
theorem dX5_init_1 : decode cX5_init 1 = .ok (.invokespecial 3, 3) := by decide +kernel
theorem dX5_init_4 : decode cX5_init 4 = .ok (.aload_n 0, 1) := by decide +kernel
theorem dX5_init_5 : decode cX5_init 5 = .ok (.iconst 4, 1) := by decide +kernel
theorem dX5_init_6 : decode cX5_init 6 = .ok (.newarray .int, 2) := by decide +kernel
theorem dX5_init_8 : decode cX5_init 8 = .ok (.putfield 9, 3) := by decide +kernel
theorem dX5_init_11 : decode cX5_init 11 = .ok (.aload_n 0, 1) := by decide +kernel
theorem dX5_init_12 : decode cX5_init 12 = .ok (.iconst 4, 1) := by decide +kernel
theorem dX5_init_13 : decode cX5_init 13 = .ok (.newarray .int, 2) := by decide +kernel
theorem dX5_init_15 : decode cX5_init 15 = .ok (.putfield 15, 3) := by decide +kernel
theorem dX5_init_18 : decode cX5_init 18 = .ok (.aload_n 0, 1) := by decide +kernel
theorem dX5_init_19 : decode cX5_init 19 = .ok (.bipush 32, 2) := by decide +kernel
theorem dX5_init_21 : decode cX5_init 21 = .ok (.newarray .int, 2) := by decide +kernel
theorem dX5_init_23 : decode cX5_init 23 = .ok (.putfield 18, 3) := by decide +kernel
theorem dX5_init_26 : decode cX5_init 26 = .ok (.aload_n 0, 1) := by decide +kernel
theorem dX5_init_27 : decode cX5_init 27 = .ok (.iconst 4, 1) := by decide +kernel
theorem dX5_init_28 : decode cX5_init 28 = .ok (.newarray .int, 2) := by decide +kernel
theorem dX5_init_30 : decode cX5_init 30 = .ok (.putfield 21, 3) := by decide +kernel
theorem dX5_init_33 : decode cX5_init 33 = .ok (.return_, 1) := by decide +kernel
theorem dX5_makePlan_0 : decode cX5_makePlan 0 = .ok (.aload_n 0, 1) := by decide +kernel
theorem dX5_makePlan_1 : decode cX5_makePlan 1 = .ok (.getfield 21, 3) := by decide +kernel
theorem dX5_makePlan_4 : decode cX5_makePlan 4 = .ok (.iconst 0, 1) := by decide +kernel
theorem dX5_makePlan_5 : decode cX5_makePlan 5 = .ok (.aload_n 1, 1) := by decide +kernel
theorem dX5_makePlan_6 : decode cX5_makePlan 6 = .ok (.getfield 24, 3) := by decide +kernel
theorem dX5_makePlan_9 : decode cX5_makePlan 9 = .ok (.iload_n 2, 1) := by decide +kernel
theorem dX5_makePlan_10 : decode cX5_makePlan 10 = .ok (.iaload, 1) := by decide +kernel
theorem dX5_makePlan_11 : decode cX5_makePlan 11 = .ok (.aload_n 1, 1) := by decide +kernel
theorem dX5_makePlan_12 : decode cX5_makePlan 12 = .ok (.getfield 29, 3) := by decide +kernel
theorem dX5_makePlan_15 : decode cX5_makePlan 15 = .ok (.iload_n 2, 1) := by decide +kernel
theorem dX5_makePlan_16 : decode cX5_makePlan 16 = .ok (.iaload, 1) := by decide +kernel
theorem dX5_makePlan_17 : decode cX5_makePlan 17 = .ok (.iadd, 1) := by decide +kernel
theorem dX5_makePlan_18 : decode cX5_makePlan 18 = .ok (.iastore, 1) := by decide +kernel
theorem dX5_makePlan_19 : decode cX5_makePlan 19 = .ok (.aload_n 0, 1) := by decide +kernel
theorem dX5_makePlan_20 : decode cX5_makePlan 20 = .ok (.getfield 21, 3) := by decide +kernel
theorem dX5_makePlan_23 : decode cX5_makePlan 23 = .ok (.iconst 1, 1) := by decide +kernel
theorem dX5_makePlan_24 : decode cX5_makePlan 24 = .ok (.iconst 2, 1) := by decide +kernel
theorem dX5_makePlan_25 : decode cX5_makePlan 25 = .ok (.iastore, 1) := by decide +kernel
theorem dX5_makePlan_26 : decode cX5_makePlan 26 = .ok (.aload_n 0, 1) := by decide +kernel
theorem dX5_makePlan_27 : decode cX5_makePlan 27 = .ok (.getfield 21, 3) := by decide +kernel
theorem dX5_makePlan_30 : decode cX5_makePlan 30 = .ok (.iconst 2, 1) := by decide +kernel
theorem dX5_makePlan_31 : decode cX5_makePlan 31 = .ok (.bipush 60, 2) := by decide +kernel
theorem dX5_makePlan_33 : decode cX5_makePlan 33 = .ok (.iastore, 1) := by decide +kernel
theorem dX5_makePlan_34 : decode cX5_makePlan 34 = .ok (.aload_n 0, 1) := by decide +kernel
theorem dX5_makePlan_35 : decode cX5_makePlan 35 = .ok (.getfield 21, 3) := by decide +kernel
theorem dX5_makePlan_38 : decode cX5_makePlan 38 = .ok (.iconst 3, 1) := by decide +kernel
theorem dX5_makePlan_39 : decode cX5_makePlan 39 = .ok (.bipush 120, 2) := by decide +kernel
theorem dX5_makePlan_41 : decode cX5_makePlan 41 = .ok (.iastore, 1) := by decide +kernel
theorem dX5_makePlan_42 : decode cX5_makePlan 42 = .ok (.iconst 0, 1) := by decide +kernel
theorem dX5_makePlan_43 : decode cX5_makePlan 43 = .ok (.istore 4, 2) := by decide +kernel
theorem dX5_makePlan_45 : decode cX5_makePlan 45 = .ok (.iload 4, 2) := by decide +kernel
theorem dX5_makePlan_47 : decode cX5_makePlan 47 = .ok (.bipush 8, 2) := by decide +kernel
theorem dX5_makePlan_49 : decode cX5_makePlan 49 = .ok (.if_icmp .ge 34, 3) := by decide +kernel
theorem dX5_makePlan_52 : decode cX5_makePlan 52 = .ok (.aload_n 0, 1) := by decide +kernel
theorem dX5_makePlan_53 : decode cX5_makePlan 53 = .ok (.getfield 18, 3) := by decide +kernel
theorem dX5_makePlan_56 : decode cX5_makePlan 56 = .ok (.iload 4, 2) := by decide +kernel
theorem dX5_makePlan_58 : decode cX5_makePlan 58 = .ok (.iload_n 3, 1) := by decide +kernel
theorem dX5_makePlan_59 : decode cX5_makePlan 59 = .ok (.iload 4, 2) := by decide +kernel
theorem dX5_makePlan_61 : decode cX5_makePlan 61 = .ok (.invokestatic 32, 3) := by decide +kernel
theorem dX5_makePlan_64 : decode cX5_makePlan 64 = .ok (.aload_n 1, 1) := by decide +kernel
theorem dX5_makePlan_65 : decode cX5_makePlan 65 = .ok (.getfield 36, 3) := by decide +kernel
theorem dX5_makePlan_68 : decode cX5_makePlan 68 = .ok (.iload 4, 2) := by decide +kernel
theorem dX5_makePlan_70 : decode cX5_makePlan 70 = .ok (.iaload, 1) := by decide +kernel
theorem dX5_makePlan_71 : decode cX5_makePlan 71 = .ok (.imul, 1) := by decide +kernel
theorem dX5_makePlan_72 : decode cX5_makePlan 72 = .ok (.sipush 1728, 3) := by decide +kernel
theorem dX5_makePlan_75 : decode cX5_makePlan 75 = .ok (.imul, 1) := by decide +kernel
theorem dX5_makePlan_76 : decode cX5_makePlan 76 = .ok (.iastore, 1) := by decide +kernel
theorem dX5_makePlan_77 : decode cX5_makePlan 77 = .ok (.iinc 4 1, 3) := by decide +kernel
theorem dX5_makePlan_80 : decode cX5_makePlan 80 = .ok (.goto (-35), 3) := by decide +kernel
theorem dX5_makePlan_83 : decode cX5_makePlan 83 = .ok (.aload_n 0, 1) := by decide +kernel
theorem dX5_makePlan_84 : decode cX5_makePlan 84 = .ok (.aload_n 0, 1) := by decide +kernel
theorem dX5_makePlan_85 : decode cX5_makePlan 85 = .ok (.iconst 0, 1) := by decide +kernel
theorem dX5_makePlan_86 : decode cX5_makePlan 86 = .ok (.invokevirtual 39, 3) := by decide +kernel
theorem dX5_makePlan_89 : decode cX5_makePlan 89 = .ok (.putfield 43, 3) := by decide +kernel
theorem dX5_makePlan_92 : decode cX5_makePlan 92 = .ok (.aload_n 0, 1) := by decide +kernel
theorem dX5_makePlan_93 : decode cX5_makePlan 93 = .ok (.iconst (-1), 1) := by decide +kernel
theorem dX5_makePlan_94 : decode cX5_makePlan 94 = .ok (.putfield 47, 3) := by decide +kernel
theorem dX5_makePlan_97 : decode cX5_makePlan 97 = .ok (.aload_n 0, 1) := by decide +kernel
theorem dX5_makePlan_98 : decode cX5_makePlan 98 = .ok (.aload_n 1, 1) := by decide +kernel
theorem dX5_makePlan_99 : decode cX5_makePlan 99 = .ok (.iconst 0, 1) := by decide +kernel
theorem dX5_makePlan_100 : decode cX5_makePlan 100 = .ok (.iconst 0, 1) := by decide +kernel
theorem dX5_makePlan_101 : decode cX5_makePlan 101 = .ok (.iconst 0, 1) := by decide +kernel
theorem dX5_makePlan_102 : decode cX5_makePlan 102 = .ok (.invokevirtual 50, 3) := by decide +kernel
theorem dX5_makePlan_105 : decode cX5_makePlan 105 = .ok (.return_, 1) := by decide +kernel
theorem dX5_tryRows_0 : decode cX5_tryRows 0 = .ok (.aload_n 0, 1) := by decide +kernel
theorem dX5_tryRows_1 : decode cX5_tryRows 1 = .ok (.iload_n 2, 1) := by decide +kernel
theorem dX5_tryRows_2 : decode cX5_tryRows 2 = .ok (.invokevirtual 39, 3) := by decide +kernel
theorem dX5_tryRows_5 : decode cX5_tryRows 5 = .ok (.istore 5, 2) := by decide +kernel
theorem dX5_tryRows_7 : decode cX5_tryRows 7 = .ok (.iload 5, 2) := by decide +kernel
theorem dX5_tryRows_9 : decode cX5_tryRows 9 = .ok (.ifCond .ne 11, 3) := by decide +kernel
theorem dX5_tryRows_12 : decode cX5_tryRows 12 = .ok (.aload_n 0, 1) := by decide +kernel
theorem dX5_tryRows_13 : decode cX5_tryRows 13 = .ok (.iload_n 2, 1) := by decide +kernel
theorem dX5_tryRows_14 : decode cX5_tryRows 14 = .ok (.iload 4, 2) := by decide +kernel
theorem dX5_tryRows_16 : decode cX5_tryRows 16 = .ok (.invokevirtual 54, 3) := by decide +kernel
theorem dX5_tryRows_19 : decode cX5_tryRows 19 = .ok (.return_, 1) := by decide +kernel
theorem dX5_tryRows_20 : decode cX5_tryRows 20 = .ok (.iconst 0, 1) := by decide +kernel
theorem dX5_tryRows_21 : decode cX5_tryRows 21 = .ok (.istore 6, 2) := by decide +kernel
theorem dX5_tryRows_23 : decode cX5_tryRows 23 = .ok (.iload 6, 2) := by decide +kernel
theorem dX5_tryRows_25 : decode cX5_tryRows 25 = .ok (.iconst 3, 1) := by decide +kernel
theorem dX5_tryRows_26 : decode cX5_tryRows 26 = .ok (.if_icmp .ge 45, 3) := by decide +kernel
theorem dX5_tryRows_29 : decode cX5_tryRows 29 = .ok (.iload_n 2, 1) := by decide +kernel
theorem dX5_tryRows_30 : decode cX5_tryRows 30 = .ok (.iconst 3, 1) := by decide +kernel
theorem dX5_tryRows_31 : decode cX5_tryRows 31 = .ok (.if_icmp .ge 40, 3) := by decide +kernel
theorem dX5_tryRows_34 : decode cX5_tryRows 34 = .ok (.iload_n 3, 1) := by decide +kernel
theorem dX5_tryRows_35 : decode cX5_tryRows 35 = .ok (.iload 6, 2) := by decide +kernel
theorem dX5_tryRows_37 : decode cX5_tryRows 37 = .ok (.invokestatic 32, 3) := by decide +kernel
theorem dX5_tryRows_40 : decode cX5_tryRows 40 = .ok (.ifCond .ne 25, 3) := by decide +kernel
theorem dX5_tryRows_43 : decode cX5_tryRows 43 = .ok (.aload_n 0, 1) := by decide +kernel
theorem dX5_tryRows_44 : decode cX5_tryRows 44 = .ok (.aload_n 1, 1) := by decide +kernel
theorem dX5_tryRows_45 : decode cX5_tryRows 45 = .ok (.iload_n 2, 1) := by decide +kernel
theorem dX5_tryRows_46 : decode cX5_tryRows 46 = .ok (.iload_n 3, 1) := by decide +kernel
theorem dX5_tryRows_47 : decode cX5_tryRows 47 = .ok (.iload 6, 2) := by decide +kernel
theorem dX5_tryRows_49 : decode cX5_tryRows 49 = .ok (.iload 4, 2) := by decide +kernel
theorem dX5_tryRows_51 : decode cX5_tryRows 51 = .ok (.iload 5, 2) := by decide +kernel
theorem dX5_tryRows_53 : decode cX5_tryRows 53 = .ok (.aload_n 0, 1) := by decide +kernel
theorem dX5_tryRows_54 : decode cX5_tryRows 54 = .ok (.getfield 21, 3) := by decide +kernel
theorem dX5_tryRows_57 : decode cX5_tryRows 57 = .ok (.iload 6, 2) := by decide +kernel
theorem dX5_tryRows_59 : decode cX5_tryRows 59 = .ok (.iaload, 1) := by decide +kernel
theorem dX5_tryRows_60 : decode cX5_tryRows 60 = .ok (.imul, 1) := by decide +kernel
theorem dX5_tryRows_61 : decode cX5_tryRows 61 = .ok (.iadd, 1) := by decide +kernel
theorem dX5_tryRows_62 : decode cX5_tryRows 62 = .ok (.invokevirtual 58, 3) := by decide +kernel
theorem dX5_tryRows_65 : decode cX5_tryRows 65 = .ok (.iinc 6 1, 3) := by decide +kernel
theorem dX5_tryRows_68 : decode cX5_tryRows 68 = .ok (.goto (-45), 3) := by decide +kernel
theorem dX5_tryRows_71 : decode cX5_tryRows 71 = .ok (.aload_n 0, 1) := by decide +kernel
theorem dX5_tryRows_72 : decode cX5_tryRows 72 = .ok (.getfield 15, 3) := by decide +kernel
theorem dX5_tryRows_75 : decode cX5_tryRows 75 = .ok (.iload_n 2, 1) := by decide +kernel
theorem dX5_tryRows_76 : decode cX5_tryRows 76 = .ok (.iconst 3, 1) := by decide +kernel
theorem dX5_tryRows_77 : decode cX5_tryRows 77 = .ok (.iastore, 1) := by decide +kernel
theorem dX5_tryRows_78 : decode cX5_tryRows 78 = .ok (.aload_n 0, 1) := by decide +kernel
theorem dX5_tryRows_79 : decode cX5_tryRows 79 = .ok (.iload_n 2, 1) := by decide +kernel
theorem dX5_tryRows_80 : decode cX5_tryRows 80 = .ok (.iconst 1, 1) := by decide +kernel
theorem dX5_tryRows_81 : decode cX5_tryRows 81 = .ok (.iadd, 1) := by decide +kernel
theorem dX5_tryRows_82 : decode cX5_tryRows 82 = .ok (.iload 4, 2) := by decide +kernel
theorem dX5_tryRows_84 : decode cX5_tryRows 84 = .ok (.iload 5, 2) := by decide +kernel
theorem dX5_tryRows_86 : decode cX5_tryRows 86 = .ok (.aload_n 0, 1) := by decide +kernel
theorem dX5_tryRows_87 : decode cX5_tryRows 87 = .ok (.getfield 21, 3) := by decide +kernel
theorem dX5_tryRows_90 : decode cX5_tryRows 90 = .ok (.iconst 3, 1) := by decide +kernel
theorem dX5_tryRows_91 : decode cX5_tryRows 91 = .ok (.iaload, 1) := by decide +kernel
theorem dX5_tryRows_92 : decode cX5_tryRows 92 = .ok (.imul, 1) := by decide +kernel
theorem dX5_tryRows_93 : decode cX5_tryRows 93 = .ok (.iadd, 1) := by decide +kernel
theorem dX5_tryRows_94 : decode cX5_tryRows 94 = .ok (.invokevirtual 54, 3) := by decide +kernel
theorem dX5_tryRows_97 : decode cX5_tryRows 97 = .ok (.return_, 1) := by decide +kernel
theorem dX5_tryDeed_0 : decode cX5_tryDeed 0 = .ok (.aload_n 0, 1) := by decide +kernel
theorem dX5_tryDeed_1 : decode cX5_tryDeed 1 = .ok (.getfield 15, 3) := by decide +kernel
theorem dX5_tryDeed_4 : decode cX5_tryDeed 4 = .ok (.iload_n 2, 1) := by decide +kernel
theorem dX5_tryDeed_5 : decode cX5_tryDeed 5 = .ok (.iload 4, 2) := by decide +kernel
theorem dX5_tryDeed_7 : decode cX5_tryDeed 7 = .ok (.iastore, 1) := by decide +kernel
theorem dX5_tryDeed_8 : decode cX5_tryDeed 8 = .ok (.aload_n 0, 1) := by decide +kernel
theorem dX5_tryDeed_9 : decode cX5_tryDeed 9 = .ok (.aload_n 1, 1) := by decide +kernel
theorem dX5_tryDeed_10 : decode cX5_tryDeed 10 = .ok (.iload_n 2, 1) := by decide +kernel
theorem dX5_tryDeed_11 : decode cX5_tryDeed 11 = .ok (.iload 4, 2) := by decide +kernel
theorem dX5_tryDeed_13 : decode cX5_tryDeed 13 = .ok (.invokevirtual 62, 3) := by decide +kernel
theorem dX5_tryDeed_16 : decode cX5_tryDeed 16 = .ok (.aload_n 0, 1) := by decide +kernel
theorem dX5_tryDeed_17 : decode cX5_tryDeed 17 = .ok (.aload_n 1, 1) := by decide +kernel
theorem dX5_tryDeed_18 : decode cX5_tryDeed 18 = .ok (.iload_n 2, 1) := by decide +kernel
theorem dX5_tryDeed_19 : decode cX5_tryDeed 19 = .ok (.iconst 1, 1) := by decide +kernel
theorem dX5_tryDeed_20 : decode cX5_tryDeed 20 = .ok (.iadd, 1) := by decide +kernel
theorem dX5_tryDeed_21 : decode cX5_tryDeed 21 = .ok (.iload_n 3, 1) := by decide +kernel
theorem dX5_tryDeed_22 : decode cX5_tryDeed 22 = .ok (.iconst 1, 1) := by decide +kernel
theorem dX5_tryDeed_23 : decode cX5_tryDeed 23 = .ok (.iload 4, 2) := by decide +kernel
theorem dX5_tryDeed_25 : decode cX5_tryDeed 25 = .ok (.ishl, 1) := by decide +kernel
theorem dX5_tryDeed_26 : decode cX5_tryDeed 26 = .ok (.ior, 1) := by decide +kernel
theorem dX5_tryDeed_27 : decode cX5_tryDeed 27 = .ok (.iload 5, 2) := by decide +kernel
theorem dX5_tryDeed_29 : decode cX5_tryDeed 29 = .ok (.invokevirtual 50, 3) := by decide +kernel
theorem dX5_tryDeed_32 : decode cX5_tryDeed 32 = .ok (.return_, 1) := by decide +kernel
theorem dX5_weightBehind_0 : decode cX5_weightBehind 0 = .ok (.iconst 0, 1) := by decide +kernel
theorem dX5_weightBehind_1 : decode cX5_weightBehind 1 = .ok (.istore_n 2, 1) := by decide +kernel
theorem dX5_weightBehind_2 : decode cX5_weightBehind 2 = .ok (.iconst 0, 1) := by decide +kernel
theorem dX5_weightBehind_3 : decode cX5_weightBehind 3 = .ok (.istore_n 3, 1) := by decide +kernel
theorem dX5_weightBehind_4 : decode cX5_weightBehind 4 = .ok (.iload_n 3, 1) := by decide +kernel
theorem dX5_weightBehind_5 : decode cX5_weightBehind 5 = .ok (.bipush 8, 2) := by decide +kernel
theorem dX5_weightBehind_7 : decode cX5_weightBehind 7 = .ok (.if_icmp .ge 23, 3) := by decide +kernel
theorem dX5_weightBehind_10 : decode cX5_weightBehind 10 = .ok (.iload_n 2, 1) := by decide +kernel
theorem dX5_weightBehind_11 : decode cX5_weightBehind 11 = .ok (.aload_n 0, 1) := by decide +kernel
theorem dX5_weightBehind_12 : decode cX5_weightBehind 12 = .ok (.getfield 18, 3) := by decide +kernel
theorem dX5_weightBehind_15 : decode cX5_weightBehind 15 = .ok (.iload_n 1, 1) := by decide +kernel
theorem dX5_weightBehind_16 : decode cX5_weightBehind 16 = .ok (.bipush 8, 2) := by decide +kernel
theorem dX5_weightBehind_18 : decode cX5_weightBehind 18 = .ok (.imul, 1) := by decide +kernel
theorem dX5_weightBehind_19 : decode cX5_weightBehind 19 = .ok (.iload_n 3, 1) := by decide +kernel
theorem dX5_weightBehind_20 : decode cX5_weightBehind 20 = .ok (.iadd, 1) := by decide +kernel
theorem dX5_weightBehind_21 : decode cX5_weightBehind 21 = .ok (.iaload, 1) := by decide +kernel
theorem dX5_weightBehind_22 : decode cX5_weightBehind 22 = .ok (.iadd, 1) := by decide +kernel
theorem dX5_weightBehind_23 : decode cX5_weightBehind 23 = .ok (.istore_n 2, 1) := by decide +kernel
theorem dX5_weightBehind_24 : decode cX5_weightBehind 24 = .ok (.iinc 3 1, 3) := by decide +kernel
theorem dX5_weightBehind_27 : decode cX5_weightBehind 27 = .ok (.goto (-23), 3) := by decide +kernel
theorem dX5_weightBehind_30 : decode cX5_weightBehind 30 = .ok (.iload_n 2, 1) := by decide +kernel
theorem dX5_weightBehind_31 : decode cX5_weightBehind 31 = .ok (.ireturn, 1) := by decide +kernel
theorem dX5_weighDeed_0 : decode cX5_weighDeed 0 = .ok (.iconst 0, 1) := by decide +kernel
theorem dX5_weighDeed_1 : decode cX5_weighDeed 1 = .ok (.istore 4, 2) := by decide +kernel
theorem dX5_weighDeed_3 : decode cX5_weighDeed 3 = .ok (.iload 4, 2) := by decide +kernel
theorem dX5_weighDeed_5 : decode cX5_weighDeed 5 = .ok (.bipush 8, 2) := by decide +kernel
theorem dX5_weighDeed_7 : decode cX5_weighDeed 7 = .ok (.if_icmp .ge 49, 3) := by decide +kernel
theorem dX5_weighDeed_10 : decode cX5_weighDeed 10 = .ok (.iload_n 2, 1) := by decide +kernel
theorem dX5_weighDeed_11 : decode cX5_weighDeed 11 = .ok (.bipush 8, 2) := by decide +kernel
theorem dX5_weighDeed_13 : decode cX5_weighDeed 13 = .ok (.imul, 1) := by decide +kernel
theorem dX5_weighDeed_14 : decode cX5_weighDeed 14 = .ok (.iload 4, 2) := by decide +kernel
theorem dX5_weighDeed_16 : decode cX5_weighDeed 16 = .ok (.iadd, 1) := by decide +kernel
theorem dX5_weighDeed_17 : decode cX5_weighDeed 17 = .ok (.istore 5, 2) := by decide +kernel
theorem dX5_weighDeed_19 : decode cX5_weighDeed 19 = .ok (.aload_n 0, 1) := by decide +kernel
theorem dX5_weighDeed_20 : decode cX5_weighDeed 20 = .ok (.getfield 18, 3) := by decide +kernel
theorem dX5_weighDeed_23 : decode cX5_weighDeed 23 = .ok (.iload 5, 2) := by decide +kernel
theorem dX5_weighDeed_25 : decode cX5_weighDeed 25 = .ok (.bipush 8, 2) := by decide +kernel
theorem dX5_weighDeed_27 : decode cX5_weighDeed 27 = .ok (.iadd, 1) := by decide +kernel
theorem dX5_weighDeed_28 : decode cX5_weighDeed 28 = .ok (.aload_n 0, 1) := by decide +kernel
theorem dX5_weighDeed_29 : decode cX5_weighDeed 29 = .ok (.getfield 18, 3) := by decide +kernel
theorem dX5_weighDeed_32 : decode cX5_weighDeed 32 = .ok (.iload 5, 2) := by decide +kernel
theorem dX5_weighDeed_34 : decode cX5_weighDeed 34 = .ok (.iaload, 1) := by decide +kernel
theorem dX5_weighDeed_35 : decode cX5_weighDeed 35 = .ok (.bipush 12, 2) := by decide +kernel
theorem dX5_weighDeed_37 : decode cX5_weighDeed 37 = .ok (.idiv, 1) := by decide +kernel
theorem dX5_weighDeed_38 : decode cX5_weighDeed 38 = .ok (.bipush 12, 2) := by decide +kernel
theorem dX5_weighDeed_40 : decode cX5_weighDeed 40 = .ok (.aload_n 1, 1) := by decide +kernel
theorem dX5_weighDeed_41 : decode cX5_weighDeed 41 = .ok (.iload 4, 2) := by decide +kernel
theorem dX5_weighDeed_43 : decode cX5_weighDeed 43 = .ok (.iload_n 3, 1) := by decide +kernel
theorem dX5_weighDeed_44 : decode cX5_weighDeed 44 = .ok (.invokevirtual 66, 3) := by decide +kernel
theorem dX5_weighDeed_47 : decode cX5_weighDeed 47 = .ok (.isub, 1) := by decide +kernel
theorem dX5_weighDeed_48 : decode cX5_weighDeed 48 = .ok (.imul, 1) := by decide +kernel
theorem dX5_weighDeed_49 : decode cX5_weighDeed 49 = .ok (.iastore, 1) := by decide +kernel
