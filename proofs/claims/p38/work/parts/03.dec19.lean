theorem dX12_oneMinute_256 : decode cX12_oneMinute 256 = .ok (.return_, 1) := by decide +kernel
theorem dX12_passMinutes_0 : decode cX12_passMinutes 0 = .ok (.iload_n 1, 1) := by decide +kernel
theorem dX12_passMinutes_1 : decode cX12_passMinutes 1 = .ok (.sipush 1000, 3) := by decide +kernel
theorem dX12_passMinutes_4 : decode cX12_passMinutes 4 = .ok (.aload_n 0, 1) := by decide +kernel
theorem dX12_passMinutes_5 : decode cX12_passMinutes 5 = .ok (.getfield 13, 3) := by decide +kernel
theorem dX12_passMinutes_8 : decode cX12_passMinutes 8 = .ok (.bipush 77, 2) := by decide +kernel
theorem dX12_passMinutes_10 : decode cX12_passMinutes 10 = .ok (.iaload, 1) := by decide +kernel
theorem dX12_passMinutes_11 : decode cX12_passMinutes 11 = .ok (.isub, 1) := by decide +kernel
theorem dX12_passMinutes_12 : decode cX12_passMinutes 12 = .ok (.invokestatic 273, 3) := by decide +kernel
theorem dX12_passMinutes_15 : decode cX12_passMinutes 15 = .ok (.istore_n 2, 1) := by decide +kernel
theorem dX12_passMinutes_16 : decode cX12_passMinutes 16 = .ok (.iconst 0, 1) := by decide +kernel
theorem dX12_passMinutes_17 : decode cX12_passMinutes 17 = .ok (.istore_n 3, 1) := by decide +kernel
theorem dX12_passMinutes_18 : decode cX12_passMinutes 18 = .ok (.iload_n 3, 1) := by decide +kernel
theorem dX12_passMinutes_19 : decode cX12_passMinutes 19 = .ok (.iload_n 2, 1) := by decide +kernel
theorem dX12_passMinutes_20 : decode cX12_passMinutes 20 = .ok (.if_icmp .ge 13, 3) := by decide +kernel
theorem dX12_passMinutes_23 : decode cX12_passMinutes 23 = .ok (.aload_n 0, 1) := by decide +kernel
theorem dX12_passMinutes_24 : decode cX12_passMinutes 24 = .ok (.invokevirtual 276, 3) := by decide +kernel
theorem dX12_passMinutes_27 : decode cX12_passMinutes 27 = .ok (.iinc 3 1, 3) := by decide +kernel
theorem dX12_passMinutes_30 : decode cX12_passMinutes 30 = .ok (.goto (-12), 3) := by decide +kernel
theorem dX12_passMinutes_33 : decode cX12_passMinutes 33 = .ok (.iload_n 2, 1) := by decide +kernel
theorem dX12_passMinutes_34 : decode cX12_passMinutes 34 = .ok (.ireturn, 1) := by decide +kernel
theorem dX12_minutes_0 : decode cX12_minutes 0 = .ok (.aload_n 0, 1) := by decide +kernel
theorem dX12_minutes_1 : decode cX12_minutes 1 = .ok (.iconst 0, 1) := by decide +kernel
theorem dX12_minutes_2 : decode cX12_minutes 2 = .ok (.putfield 73, 3) := by decide +kernel
theorem dX12_minutes_5 : decode cX12_minutes 5 = .ok (.iload_n 1, 1) := by decide +kernel
theorem dX12_minutes_6 : decode cX12_minutes 6 = .ok (.iconst 1, 1) := by decide +kernel
theorem dX12_minutes_7 : decode cX12_minutes 7 = .ok (.bipush 60, 2) := by decide +kernel
theorem dX12_minutes_9 : decode cX12_minutes 9 = .ok (.invokestatic 140, 3) := by decide +kernel
theorem dX12_minutes_12 : decode cX12_minutes 12 = .ok (.ifCond .ne 5, 3) := by decide +kernel
theorem dX12_minutes_15 : decode cX12_minutes 15 = .ok (.iconst (-1), 1) := by decide +kernel
theorem dX12_minutes_16 : decode cX12_minutes 16 = .ok (.ireturn, 1) := by decide +kernel
theorem dX12_minutes_17 : decode cX12_minutes 17 = .ok (.aload_n 0, 1) := by decide +kernel
theorem dX12_minutes_18 : decode cX12_minutes 18 = .ok (.getfield 13, 3) := by decide +kernel
theorem dX12_minutes_21 : decode cX12_minutes 21 = .ok (.bipush 77, 2) := by decide +kernel
theorem dX12_minutes_23 : decode cX12_minutes 23 = .ok (.iaload, 1) := by decide +kernel
theorem dX12_minutes_24 : decode cX12_minutes 24 = .ok (.sipush 1000, 3) := by decide +kernel
theorem dX12_minutes_27 : decode cX12_minutes 27 = .ok (.if_icmp .ne 5, 3) := by decide +kernel
theorem dX12_minutes_30 : decode cX12_minutes 30 = .ok (.iconst 0, 1) := by decide +kernel
theorem dX12_minutes_31 : decode cX12_minutes 31 = .ok (.ireturn, 1) := by decide +kernel
theorem dX12_minutes_32 : decode cX12_minutes 32 = .ok (.aload_n 0, 1) := by decide +kernel
theorem dX12_minutes_33 : decode cX12_minutes 33 = .ok (.invokevirtual 263, 3) := by decide +kernel
theorem dX12_minutes_36 : decode cX12_minutes 36 = .ok (.aload_n 0, 1) := by decide +kernel
theorem dX12_minutes_37 : decode cX12_minutes 37 = .ok (.iload_n 1, 1) := by decide +kernel
theorem dX12_minutes_38 : decode cX12_minutes 38 = .ok (.invokevirtual 279, 3) := by decide +kernel
theorem dX12_minutes_41 : decode cX12_minutes 41 = .ok (.ireturn, 1) := by decide +kernel
theorem dX12_showsSo_0 : decode cX12_showsSo 0 = .ok (.iconst 0, 1) := by decide +kernel
theorem dX12_showsSo_1 : decode cX12_showsSo 1 = .ok (.istore_n 3, 1) := by decide +kernel
theorem dX12_showsSo_2 : decode cX12_showsSo 2 = .ok (.iload_n 3, 1) := by decide +kernel
theorem dX12_showsSo_3 : decode cX12_showsSo 3 = .ok (.iload_n 1, 1) := by decide +kernel
theorem dX12_showsSo_4 : decode cX12_showsSo 4 = .ok (.if_icmp .ge 54, 3) := by decide +kernel
theorem dX12_showsSo_7 : decode cX12_showsSo 7 = .ok (.aload_n 0, 1) := by decide +kernel
theorem dX12_showsSo_8 : decode cX12_showsSo 8 = .ok (.getfield 7, 3) := by decide +kernel
theorem dX12_showsSo_11 : decode cX12_showsSo 11 = .ok (.iload_n 3, 1) := by decide +kernel
theorem dX12_showsSo_12 : decode cX12_showsSo 12 = .ok (.iconst 1, 1) := by decide +kernel
theorem dX12_showsSo_13 : decode cX12_showsSo 13 = .ok (.iadd, 1) := by decide +kernel
theorem dX12_showsSo_14 : decode cX12_showsSo 14 = .ok (.iaload, 1) := by decide +kernel
theorem dX12_showsSo_15 : decode cX12_showsSo 15 = .ok (.aload_n 0, 1) := by decide +kernel
theorem dX12_showsSo_16 : decode cX12_showsSo 16 = .ok (.getfield 7, 3) := by decide +kernel
theorem dX12_showsSo_19 : decode cX12_showsSo 19 = .ok (.iload_n 3, 1) := by decide +kernel
theorem dX12_showsSo_20 : decode cX12_showsSo 20 = .ok (.iaload, 1) := by decide +kernel
theorem dX12_showsSo_21 : decode cX12_showsSo 21 = .ok (.aload_n 0, 1) := by decide +kernel
theorem dX12_showsSo_22 : decode cX12_showsSo 22 = .ok (.getfield 13, 3) := by decide +kernel
theorem dX12_showsSo_25 : decode cX12_showsSo 25 = .ok (.bipush 21, 2) := by decide +kernel
theorem dX12_showsSo_27 : decode cX12_showsSo 27 = .ok (.iload_n 2, 1) := by decide +kernel
theorem dX12_showsSo_28 : decode cX12_showsSo 28 = .ok (.iadd, 1) := by decide +kernel
theorem dX12_showsSo_29 : decode cX12_showsSo 29 = .ok (.iaload, 1) := by decide +kernel
theorem dX12_showsSo_30 : decode cX12_showsSo 30 = .ok (.if_icmp .ne 15, 3) := by decide +kernel
theorem dX12_showsSo_33 : decode cX12_showsSo 33 = .ok (.aload_n 0, 1) := by decide +kernel
theorem dX12_showsSo_34 : decode cX12_showsSo 34 = .ok (.getfield 13, 3) := by decide +kernel
theorem dX12_showsSo_37 : decode cX12_showsSo 37 = .ok (.bipush 45, 2) := by decide +kernel
theorem dX12_showsSo_39 : decode cX12_showsSo 39 = .ok (.iload_n 2, 1) := by decide +kernel
theorem dX12_showsSo_40 : decode cX12_showsSo 40 = .ok (.iadd, 1) := by decide +kernel
theorem dX12_showsSo_41 : decode cX12_showsSo 41 = .ok (.iaload, 1) := by decide +kernel
theorem dX12_showsSo_42 : decode cX12_showsSo 42 = .ok (.goto 5, 3) := by decide +kernel
theorem dX12_showsSo_45 : decode cX12_showsSo 45 = .ok (.bipush 18, 2) := by decide +kernel
theorem dX12_showsSo_47 : decode cX12_showsSo 47 = .ok (.if_icmp .eq 5, 3) := by decide +kernel
theorem dX12_showsSo_50 : decode cX12_showsSo 50 = .ok (.iconst 0, 1) := by decide +kernel
theorem dX12_showsSo_51 : decode cX12_showsSo 51 = .ok (.ireturn, 1) := by decide +kernel
theorem dX12_showsSo_52 : decode cX12_showsSo 52 = .ok (.iinc 3 2, 3) := by decide +kernel
theorem dX12_showsSo_55 : decode cX12_showsSo 55 = .ok (.goto (-53), 3) := by decide +kernel
theorem dX12_showsSo_58 : decode cX12_showsSo 58 = .ok (.iconst 1, 1) := by decide +kernel
theorem dX12_showsSo_59 : decode cX12_showsSo 59 = .ok (.ireturn, 1) := by decide +kernel
theorem dX12_what_0 : decode cX12_what 0 = .ok (.aload_n 0, 1) := by decide +kernel
theorem dX12_what_1 : decode cX12_what 1 = .ok (.iconst 0, 1) := by decide +kernel
theorem dX12_what_2 : decode cX12_what 2 = .ok (.putfield 73, 3) := by decide +kernel
theorem dX12_what_5 : decode cX12_what 5 = .ok (.aload_n 0, 1) := by decide +kernel
theorem dX12_what_6 : decode cX12_what 6 = .ok (.invokevirtual 153, 3) := by decide +kernel
theorem dX12_what_9 : decode cX12_what 9 = .ok (.istore_n 1, 1) := by decide +kernel
theorem dX12_what_10 : decode cX12_what 10 = .ok (.iload_n 1, 1) := by decide +kernel
theorem dX12_what_11 : decode cX12_what 11 = .ok (.iconst 2, 1) := by decide +kernel
theorem dX12_what_12 : decode cX12_what 12 = .ok (.irem, 1) := by decide +kernel
theorem dX12_what_13 : decode cX12_what 13 = .ok (.ifCond .ne 15, 3) := by decide +kernel
theorem dX12_what_16 : decode cX12_what 16 = .ok (.iload_n 1, 1) := by decide +kernel
theorem dX12_what_17 : decode cX12_what 17 = .ok (.iconst 2, 1) := by decide +kernel
theorem dX12_what_18 : decode cX12_what 18 = .ok (.idiv, 1) := by decide +kernel
theorem dX12_what_19 : decode cX12_what 19 = .ok (.iconst 1, 1) := by decide +kernel
theorem dX12_what_20 : decode cX12_what 20 = .ok (.bipush 6, 2) := by decide +kernel
theorem dX12_what_22 : decode cX12_what 22 = .ok (.invokestatic 140, 3) := by decide +kernel
theorem dX12_what_25 : decode cX12_what 25 = .ok (.ifCond .ne 5, 3) := by decide +kernel
theorem dX12_what_28 : decode cX12_what 28 = .ok (.iconst (-1), 1) := by decide +kernel
theorem dX12_what_29 : decode cX12_what 29 = .ok (.ireturn, 1) := by decide +kernel
theorem dX12_what_30 : decode cX12_what 30 = .ok (.iconst 0, 1) := by decide +kernel
theorem dX12_what_31 : decode cX12_what 31 = .ok (.istore_n 2, 1) := by decide +kernel
theorem dX12_what_32 : decode cX12_what 32 = .ok (.iload_n 2, 1) := by decide +kernel
theorem dX12_what_33 : decode cX12_what 33 = .ok (.iload_n 1, 1) := by decide +kernel
theorem dX12_what_34 : decode cX12_what 34 = .ok (.if_icmp .ge 24, 3) := by decide +kernel
theorem dX12_what_37 : decode cX12_what 37 = .ok (.aload_n 0, 1) := by decide +kernel
theorem dX12_what_38 : decode cX12_what 38 = .ok (.aload_n 0, 1) := by decide +kernel
theorem dX12_what_39 : decode cX12_what 39 = .ok (.getfield 7, 3) := by decide +kernel
theorem dX12_what_42 : decode cX12_what 42 = .ok (.iload_n 2, 1) := by decide +kernel
theorem dX12_what_43 : decode cX12_what 43 = .ok (.iaload, 1) := by decide +kernel
theorem dX12_what_44 : decode cX12_what 44 = .ok (.invokevirtual 221, 3) := by decide +kernel
theorem dX12_what_47 : decode cX12_what 47 = .ok (.ifCond .ne 5, 3) := by decide +kernel
theorem dX12_what_50 : decode cX12_what 50 = .ok (.iconst (-1), 1) := by decide +kernel
theorem dX12_what_51 : decode cX12_what 51 = .ok (.ireturn, 1) := by decide +kernel
theorem dX12_what_52 : decode cX12_what 52 = .ok (.iinc 2 2, 3) := by decide +kernel
theorem dX12_what_55 : decode cX12_what 55 = .ok (.goto (-23), 3) := by decide +kernel
theorem dX12_what_58 : decode cX12_what 58 = .ok (.iconst 0, 1) := by decide +kernel
theorem dX12_what_59 : decode cX12_what 59 = .ok (.istore_n 2, 1) := by decide +kernel
theorem dX12_what_60 : decode cX12_what 60 = .ok (.iconst 0, 1) := by decide +kernel
theorem dX12_what_61 : decode cX12_what 61 = .ok (.istore_n 3, 1) := by decide +kernel
theorem dX12_what_62 : decode cX12_what 62 = .ok (.iload_n 3, 1) := by decide +kernel
theorem dX12_what_63 : decode cX12_what 63 = .ok (.aload_n 0, 1) := by decide +kernel
theorem dX12_what_64 : decode cX12_what 64 = .ok (.getfield 13, 3) := by decide +kernel
theorem dX12_what_67 : decode cX12_what 67 = .ok (.iconst 1, 1) := by decide +kernel
theorem dX12_what_68 : decode cX12_what 68 = .ok (.iaload, 1) := by decide +kernel
theorem dX12_what_69 : decode cX12_what 69 = .ok (.if_icmp .ge 24, 3) := by decide +kernel
theorem dX12_what_72 : decode cX12_what 72 = .ok (.aload_n 0, 1) := by decide +kernel
theorem dX12_what_73 : decode cX12_what 73 = .ok (.iload_n 1, 1) := by decide +kernel
theorem dX12_what_74 : decode cX12_what 74 = .ok (.iload_n 3, 1) := by decide +kernel
theorem dX12_what_75 : decode cX12_what 75 = .ok (.invokevirtual 282, 3) := by decide +kernel
theorem dX12_what_78 : decode cX12_what 78 = .ok (.ifCond .eq 9, 3) := by decide +kernel
theorem dX12_what_81 : decode cX12_what 81 = .ok (.iload_n 2, 1) := by decide +kernel
theorem dX12_what_82 : decode cX12_what 82 = .ok (.iconst 1, 1) := by decide +kernel
theorem dX12_what_83 : decode cX12_what 83 = .ok (.iload_n 3, 1) := by decide +kernel
theorem dX12_what_84 : decode cX12_what 84 = .ok (.ishl, 1) := by decide +kernel
theorem dX12_what_85 : decode cX12_what 85 = .ok (.ior, 1) := by decide +kernel
theorem dX12_what_86 : decode cX12_what 86 = .ok (.istore_n 2, 1) := by decide +kernel
theorem dX12_what_87 : decode cX12_what 87 = .ok (.iinc 3 1, 3) := by decide +kernel
theorem dX12_what_90 : decode cX12_what 90 = .ok (.goto (-28), 3) := by decide +kernel
theorem dX12_what_93 : decode cX12_what 93 = .ok (.iload_n 2, 1) := by decide +kernel
theorem dX12_what_94 : decode cX12_what 94 = .ok (.ifCond .ne 5, 3) := by decide +kernel
theorem dX12_what_97 : decode cX12_what 97 = .ok (.iconst 0, 1) := by decide +kernel
theorem dX12_what_98 : decode cX12_what 98 = .ok (.ireturn, 1) := by decide +kernel
theorem dX12_what_99 : decode cX12_what 99 = .ok (.aload_n 0, 1) := by decide +kernel
theorem dX12_what_100 : decode cX12_what 100 = .ok (.iload_n 2, 1) := by decide +kernel
theorem dX12_what_101 : decode cX12_what 101 = .ok (.putfield 285, 3) := by decide +kernel
theorem dX12_what_104 : decode cX12_what 104 = .ok (.iconst 0, 1) := by decide +kernel
theorem dX12_what_105 : decode cX12_what 105 = .ok (.istore_n 3, 1) := by decide +kernel
theorem dX12_what_106 : decode cX12_what 106 = .ok (.iload_n 3, 1) := by decide +kernel
theorem dX12_what_107 : decode cX12_what 107 = .ok (.bipush 8, 2) := by decide +kernel
theorem dX12_what_109 : decode cX12_what 109 = .ok (.if_icmp .ge 24, 3) := by decide +kernel
theorem dX12_what_112 : decode cX12_what 112 = .ok (.aload_n 0, 1) := by decide +kernel
theorem dX12_what_113 : decode cX12_what 113 = .ok (.getfield 42, 3) := by decide +kernel
theorem dX12_what_116 : decode cX12_what 116 = .ok (.iload_n 3, 1) := by decide +kernel
theorem dX12_what_117 : decode cX12_what 117 = .ok (.aload_n 0, 1) := by decide +kernel
theorem dX12_what_118 : decode cX12_what 118 = .ok (.getfield 13, 3) := by decide +kernel
theorem dX12_what_121 : decode cX12_what 121 = .ok (.bipush 37, 2) := by decide +kernel
theorem dX12_what_123 : decode cX12_what 123 = .ok (.iload_n 3, 1) := by decide +kernel
theorem dX12_what_124 : decode cX12_what 124 = .ok (.iadd, 1) := by decide +kernel
theorem dX12_what_125 : decode cX12_what 125 = .ok (.iaload, 1) := by decide +kernel
theorem dX12_what_126 : decode cX12_what 126 = .ok (.iastore, 1) := by decide +kernel
theorem dX12_what_127 : decode cX12_what 127 = .ok (.iinc 3 1, 3) := by decide +kernel
theorem dX12_what_130 : decode cX12_what 130 = .ok (.goto (-24), 3) := by decide +kernel
theorem dX12_what_133 : decode cX12_what 133 = .ok (.iload_n 2, 1) := by decide +kernel
theorem dX12_what_134 : decode cX12_what 134 = .ok (.ireturn, 1) := by decide +kernel
theorem dX12_likely_0 : decode cX12_likely 0 = .ok (.aload_n 0, 1) := by decide +kernel
theorem dX12_likely_1 : decode cX12_likely 1 = .ok (.iconst 0, 1) := by decide +kernel
theorem dX12_likely_2 : decode cX12_likely 2 = .ok (.putfield 73, 3) := by decide +kernel
theorem dX12_likely_5 : decode cX12_likely 5 = .ok (.iload_n 1, 1) := by decide +kernel
theorem dX12_likely_6 : decode cX12_likely 6 = .ok (.iconst 0, 1) := by decide +kernel
theorem dX12_likely_7 : decode cX12_likely 7 = .ok (.bipush 7, 2) := by decide +kernel
theorem dX12_likely_9 : decode cX12_likely 9 = .ok (.invokestatic 140, 3) := by decide +kernel
theorem dX12_likely_12 : decode cX12_likely 12 = .ok (.ifCond .eq 23, 3) := by decide +kernel
theorem dX12_likely_15 : decode cX12_likely 15 = .ok (.aload_n 0, 1) := by decide +kernel
theorem dX12_likely_16 : decode cX12_likely 16 = .ok (.getfield 285, 3) := by decide +kernel
theorem dX12_likely_19 : decode cX12_likely 19 = .ok (.iload_n 1, 1) := by decide +kernel
theorem dX12_likely_20 : decode cX12_likely 20 = .ok (.invokestatic 288, 3) := by decide +kernel
theorem dX12_likely_23 : decode cX12_likely 23 = .ok (.ifCond .eq 12, 3) := by decide +kernel
theorem dX12_likely_26 : decode cX12_likely 26 = .ok (.iload_n 2, 1) := by decide +kernel
theorem dX12_likely_27 : decode cX12_likely 27 = .ok (.iconst 0, 1) := by decide +kernel
theorem dX12_likely_28 : decode cX12_likely 28 = .ok (.iconst 1, 1) := by decide +kernel
theorem dX12_likely_29 : decode cX12_likely 29 = .ok (.invokestatic 140, 3) := by decide +kernel
theorem dX12_likely_32 : decode cX12_likely 32 = .ok (.ifCond .ne 8, 3) := by decide +kernel
theorem dX12_likely_35 : decode cX12_likely 35 = .ok (.aload_n 0, 1) := by decide +kernel
theorem dX12_likely_36 : decode cX12_likely 36 = .ok (.invokevirtual 224, 3) := by decide +kernel
theorem dX12_likely_39 : decode cX12_likely 39 = .ok (.ireturn, 1) := by decide +kernel
theorem dX12_likely_40 : decode cX12_likely 40 = .ok (.iconst 0, 1) := by decide +kernel
theorem dX12_likely_41 : decode cX12_likely 41 = .ok (.istore_n 3, 1) := by decide +kernel
theorem dX12_likely_42 : decode cX12_likely 42 = .ok (.iconst 0, 1) := by decide +kernel
theorem dX12_likely_43 : decode cX12_likely 43 = .ok (.istore 4, 2) := by decide +kernel
theorem dX12_likely_45 : decode cX12_likely 45 = .ok (.iload 4, 2) := by decide +kernel
theorem dX12_likely_47 : decode cX12_likely 47 = .ok (.bipush 8, 2) := by decide +kernel
theorem dX12_likely_49 : decode cX12_likely 49 = .ok (.if_icmp .ge 31, 3) := by decide +kernel
theorem dX12_likely_52 : decode cX12_likely 52 = .ok (.aload_n 0, 1) := by decide +kernel
theorem dX12_likely_53 : decode cX12_likely 53 = .ok (.getfield 285, 3) := by decide +kernel
theorem dX12_likely_56 : decode cX12_likely 56 = .ok (.iload 4, 2) := by decide +kernel
theorem dX12_likely_58 : decode cX12_likely 58 = .ok (.invokestatic 288, 3) := by decide +kernel
theorem dX12_likely_61 : decode cX12_likely 61 = .ok (.ifCond .eq 13, 3) := by decide +kernel
theorem dX12_likely_64 : decode cX12_likely 64 = .ok (.iload_n 3, 1) := by decide +kernel
theorem dX12_likely_65 : decode cX12_likely 65 = .ok (.aload_n 0, 1) := by decide +kernel
theorem dX12_likely_66 : decode cX12_likely 66 = .ok (.getfield 42, 3) := by decide +kernel
theorem dX12_likely_69 : decode cX12_likely 69 = .ok (.iload 4, 2) := by decide +kernel
theorem dX12_likely_71 : decode cX12_likely 71 = .ok (.iaload, 1) := by decide +kernel
theorem dX12_likely_72 : decode cX12_likely 72 = .ok (.iadd, 1) := by decide +kernel
theorem dX12_likely_73 : decode cX12_likely 73 = .ok (.istore_n 3, 1) := by decide +kernel
theorem dX12_likely_74 : decode cX12_likely 74 = .ok (.iinc 4 1, 3) := by decide +kernel
theorem dX12_likely_77 : decode cX12_likely 77 = .ok (.goto (-32), 3) := by decide +kernel
theorem dX12_likely_80 : decode cX12_likely 80 = .ok (.iload_n 2, 1) := by decide +kernel
theorem dX12_likely_81 : decode cX12_likely 81 = .ok (.ifCond .ne 12, 3) := by decide +kernel
theorem dX12_likely_84 : decode cX12_likely 84 = .ok (.aload_n 0, 1) := by decide +kernel
theorem dX12_likely_85 : decode cX12_likely 85 = .ok (.getfield 42, 3) := by decide +kernel
theorem dX12_likely_88 : decode cX12_likely 88 = .ok (.iload_n 1, 1) := by decide +kernel
theorem dX12_likely_89 : decode cX12_likely 89 = .ok (.iaload, 1) := by decide +kernel
theorem dX12_likely_90 : decode cX12_likely 90 = .ok (.goto 4, 3) := by decide +kernel
theorem dX12_likely_93 : decode cX12_likely 93 = .ok (.iload_n 3, 1) := by decide +kernel
theorem dX12_likely_94 : decode cX12_likely 94 = .ok (.iload_n 3, 1) := by decide +kernel
theorem dX12_likely_95 : decode cX12_likely 95 = .ok (.aload_n 0, 1) := by decide +kernel
theorem dX12_likely_96 : decode cX12_likely 96 = .ok (.getfield 42, 3) := by decide +kernel
theorem dX12_likely_99 : decode cX12_likely 99 = .ok (.iload_n 1, 1) := by decide +kernel
theorem dX12_likely_100 : decode cX12_likely 100 = .ok (.iaload, 1) := by decide +kernel
theorem dX12_likely_101 : decode cX12_likely 101 = .ok (.invokestatic 291, 3) := by decide +kernel
theorem dX12_likely_104 : decode cX12_likely 104 = .ok (.idiv, 1) := by decide +kernel
theorem dX12_likely_105 : decode cX12_likely 105 = .ok (.ireturn, 1) := by decide +kernel
theorem dX12_minutesOf_0 : decode cX12_minutesOf 0 = .ok (.iload_n 2, 1) := by decide +kernel
theorem dX12_minutesOf_1 : decode cX12_minutesOf 1 = .ok (.ifCond .ne 24, 3) := by decide +kernel
theorem dX12_minutesOf_4 : decode cX12_minutesOf 4 = .ok (.aload_n 0, 1) := by decide +kernel
theorem dX12_minutesOf_5 : decode cX12_minutesOf 5 = .ok (.getfield 13, 3) := by decide +kernel
theorem dX12_minutesOf_8 : decode cX12_minutesOf 8 = .ok (.bipush 9, 2) := by decide +kernel
theorem dX12_minutesOf_10 : decode cX12_minutesOf 10 = .ok (.iload_n 1, 1) := by decide +kernel
theorem dX12_minutesOf_11 : decode cX12_minutesOf 11 = .ok (.iadd, 1) := by decide +kernel
theorem dX12_minutesOf_12 : decode cX12_minutesOf 12 = .ok (.iaload, 1) := by decide +kernel
theorem dX12_minutesOf_13 : decode cX12_minutesOf 13 = .ok (.aload_n 0, 1) := by decide +kernel
theorem dX12_minutesOf_14 : decode cX12_minutesOf 14 = .ok (.getfield 13, 3) := by decide +kernel
theorem dX12_minutesOf_17 : decode cX12_minutesOf 17 = .ok (.iconst 3, 1) := by decide +kernel
theorem dX12_minutesOf_18 : decode cX12_minutesOf 18 = .ok (.iload_n 1, 1) := by decide +kernel
theorem dX12_minutesOf_19 : decode cX12_minutesOf 19 = .ok (.iadd, 1) := by decide +kernel
theorem dX12_minutesOf_20 : decode cX12_minutesOf 20 = .ok (.iaload, 1) := by decide +kernel
theorem dX12_minutesOf_21 : decode cX12_minutesOf 21 = .ok (.iadd, 1) := by decide +kernel
theorem dX12_minutesOf_22 : decode cX12_minutesOf 22 = .ok (.goto 24, 3) := by decide +kernel
theorem dX12_minutesOf_25 : decode cX12_minutesOf 25 = .ok (.iload_n 2, 1) := by decide +kernel
theorem dX12_minutesOf_26 : decode cX12_minutesOf 26 = .ok (.iconst 1, 1) := by decide +kernel
theorem dX12_minutesOf_27 : decode cX12_minutesOf 27 = .ok (.if_icmp .ne 7, 3) := by decide +kernel
theorem dX12_minutesOf_30 : decode cX12_minutesOf 30 = .ok (.iconst 2, 1) := by decide +kernel
theorem dX12_minutesOf_31 : decode cX12_minutesOf 31 = .ok (.goto 15, 3) := by decide +kernel
theorem dX12_minutesOf_34 : decode cX12_minutesOf 34 = .ok (.iload_n 2, 1) := by decide +kernel
theorem dX12_minutesOf_35 : decode cX12_minutesOf 35 = .ok (.iconst 2, 1) := by decide +kernel
theorem dX12_minutesOf_36 : decode cX12_minutesOf 36 = .ok (.if_icmp .ne 8, 3) := by decide +kernel
theorem dX12_minutesOf_39 : decode cX12_minutesOf 39 = .ok (.bipush 60, 2) := by decide +kernel
theorem dX12_minutesOf_41 : decode cX12_minutesOf 41 = .ok (.goto 5, 3) := by decide +kernel
theorem dX12_minutesOf_44 : decode cX12_minutesOf 44 = .ok (.bipush 120, 2) := by decide +kernel
theorem dX12_minutesOf_46 : decode cX12_minutesOf 46 = .ok (.ireturn, 1) := by decide +kernel
theorem dX12_leftAt_0 : decode cX12_leftAt 0 = .ok (.iconst 0, 1) := by decide +kernel
theorem dX12_leftAt_1 : decode cX12_leftAt 1 = .ok (.istore_n 2, 1) := by decide +kernel
theorem dX12_leftAt_2 : decode cX12_leftAt 2 = .ok (.iconst 0, 1) := by decide +kernel
theorem dX12_leftAt_3 : decode cX12_leftAt 3 = .ok (.istore_n 3, 1) := by decide +kernel
theorem dX12_leftAt_4 : decode cX12_leftAt 4 = .ok (.iload_n 3, 1) := by decide +kernel
theorem dX12_leftAt_5 : decode cX12_leftAt 5 = .ok (.bipush 8, 2) := by decide +kernel
theorem dX12_leftAt_7 : decode cX12_leftAt 7 = .ok (.if_icmp .ge 23, 3) := by decide +kernel
theorem dX12_leftAt_10 : decode cX12_leftAt 10 = .ok (.iload_n 2, 1) := by decide +kernel
theorem dX12_leftAt_11 : decode cX12_leftAt 11 = .ok (.aload_n 0, 1) := by decide +kernel
theorem dX12_leftAt_12 : decode cX12_leftAt 12 = .ok (.getfield 45, 3) := by decide +kernel
theorem dX12_leftAt_15 : decode cX12_leftAt 15 = .ok (.bipush 8, 2) := by decide +kernel
theorem dX12_leftAt_17 : decode cX12_leftAt 17 = .ok (.iload_n 1, 1) := by decide +kernel
theorem dX12_leftAt_18 : decode cX12_leftAt 18 = .ok (.imul, 1) := by decide +kernel
theorem dX12_leftAt_19 : decode cX12_leftAt 19 = .ok (.iload_n 3, 1) := by decide +kernel
theorem dX12_leftAt_20 : decode cX12_leftAt 20 = .ok (.iadd, 1) := by decide +kernel
theorem dX12_leftAt_21 : decode cX12_leftAt 21 = .ok (.iaload, 1) := by decide +kernel
theorem dX12_leftAt_22 : decode cX12_leftAt 22 = .ok (.iadd, 1) := by decide +kernel
theorem dX12_leftAt_23 : decode cX12_leftAt 23 = .ok (.istore_n 2, 1) := by decide +kernel
theorem dX12_leftAt_24 : decode cX12_leftAt 24 = .ok (.iinc 3 1, 3) := by decide +kernel
theorem dX12_leftAt_27 : decode cX12_leftAt 27 = .ok (.goto (-23), 3) := by decide +kernel
theorem dX12_leftAt_30 : decode cX12_leftAt 30 = .ok (.iload_n 2, 1) := by decide +kernel
theorem dX12_leftAt_31 : decode cX12_leftAt 31 = .ok (.ireturn, 1) := by decide +kernel
theorem dX12_keepPlan_0 : decode cX12_keepPlan 0 = .ok (.iload_n 2, 1) := by decide +kernel
theorem dX12_keepPlan_1 : decode cX12_keepPlan 1 = .ok (.aload_n 0, 1) := by decide +kernel
theorem dX12_keepPlan_2 : decode cX12_keepPlan 2 = .ok (.getfield 294, 3) := by decide +kernel
theorem dX12_keepPlan_5 : decode cX12_keepPlan 5 = .ok (.if_icmp .lt 4, 3) := by decide +kernel
theorem dX12_keepPlan_8 : decode cX12_keepPlan 8 = .ok (.return_, 1) := by decide +kernel
theorem dX12_keepPlan_9 : decode cX12_keepPlan 9 = .ok (.aload_n 0, 1) := by decide +kernel
theorem dX12_keepPlan_10 : decode cX12_keepPlan 10 = .ok (.iload_n 2, 1) := by decide +kernel
theorem dX12_keepPlan_11 : decode cX12_keepPlan 11 = .ok (.putfield 294, 3) := by decide +kernel
theorem dX12_keepPlan_14 : decode cX12_keepPlan 14 = .ok (.aload_n 0, 1) := by decide +kernel
theorem dX12_keepPlan_15 : decode cX12_keepPlan 15 = .ok (.iload_n 1, 1) := by decide +kernel
theorem dX12_keepPlan_16 : decode cX12_keepPlan 16 = .ok (.putfield 297, 3) := by decide +kernel
theorem dX12_keepPlan_19 : decode cX12_keepPlan 19 = .ok (.iconst 0, 1) := by decide +kernel
theorem dX12_keepPlan_20 : decode cX12_keepPlan 20 = .ok (.istore_n 3, 1) := by decide +kernel
theorem dX12_keepPlan_21 : decode cX12_keepPlan 21 = .ok (.iload_n 3, 1) := by decide +kernel
theorem dX12_keepPlan_22 : decode cX12_keepPlan 22 = .ok (.iload_n 1, 1) := by decide +kernel
theorem dX12_keepPlan_23 : decode cX12_keepPlan 23 = .ok (.if_icmp .ge 21, 3) := by decide +kernel
theorem dX12_keepPlan_26 : decode cX12_keepPlan 26 = .ok (.aload_n 0, 1) := by decide +kernel
theorem dX12_keepPlan_27 : decode cX12_keepPlan 27 = .ok (.getfield 51, 3) := by decide +kernel
theorem dX12_keepPlan_30 : decode cX12_keepPlan 30 = .ok (.iload_n 3, 1) := by decide +kernel
theorem dX12_keepPlan_31 : decode cX12_keepPlan 31 = .ok (.aload_n 0, 1) := by decide +kernel
theorem dX12_keepPlan_32 : decode cX12_keepPlan 32 = .ok (.getfield 48, 3) := by decide +kernel
theorem dX12_keepPlan_35 : decode cX12_keepPlan 35 = .ok (.iload_n 3, 1) := by decide +kernel
theorem dX12_keepPlan_36 : decode cX12_keepPlan 36 = .ok (.iaload, 1) := by decide +kernel
theorem dX12_keepPlan_37 : decode cX12_keepPlan 37 = .ok (.iastore, 1) := by decide +kernel
theorem dX12_keepPlan_38 : decode cX12_keepPlan 38 = .ok (.iinc 3 1, 3) := by decide +kernel
theorem dX12_keepPlan_41 : decode cX12_keepPlan 41 = .ok (.goto (-20), 3) := by decide +kernel
theorem dX12_keepPlan_44 : decode cX12_keepPlan 44 = .ok (.return_, 1) := by decide +kernel
theorem dX12_planFrom_0 : decode cX12_planFrom 0 = .ok (.aload_n 0, 1) := by decide +kernel
theorem dX12_planFrom_1 : decode cX12_planFrom 1 = .ok (.iload_n 2, 1) := by decide +kernel
theorem dX12_planFrom_2 : decode cX12_planFrom 2 = .ok (.invokevirtual 300, 3) := by decide +kernel
theorem dX12_planFrom_5 : decode cX12_planFrom 5 = .ok (.istore 5, 2) := by decide +kernel
theorem dX12_planFrom_7 : decode cX12_planFrom 7 = .ok (.iload 5, 2) := by decide +kernel
theorem dX12_planFrom_9 : decode cX12_planFrom 9 = .ok (.ifCond .ne 11, 3) := by decide +kernel
theorem dX12_planFrom_12 : decode cX12_planFrom 12 = .ok (.aload_n 0, 1) := by decide +kernel
theorem dX12_planFrom_13 : decode cX12_planFrom 13 = .ok (.iload_n 2, 1) := by decide +kernel
theorem dX12_planFrom_14 : decode cX12_planFrom 14 = .ok (.iload 4, 2) := by decide +kernel
theorem dX12_planFrom_16 : decode cX12_planFrom 16 = .ok (.invokevirtual 303, 3) := by decide +kernel
theorem dX12_planFrom_19 : decode cX12_planFrom 19 = .ok (.return_, 1) := by decide +kernel
theorem dX12_planFrom_20 : decode cX12_planFrom 20 = .ok (.iconst 0, 1) := by decide +kernel
theorem dX12_planFrom_21 : decode cX12_planFrom 21 = .ok (.istore 6, 2) := by decide +kernel
theorem dX12_planFrom_23 : decode cX12_planFrom 23 = .ok (.iload 6, 2) := by decide +kernel
theorem dX12_planFrom_25 : decode cX12_planFrom 25 = .ok (.iconst 3, 1) := by decide +kernel
theorem dX12_planFrom_26 : decode cX12_planFrom 26 = .ok (.if_icmp .ge 120, 3) := by decide +kernel
theorem dX12_planFrom_29 : decode cX12_planFrom 29 = .ok (.iload_n 3, 1) := by decide +kernel
theorem dX12_planFrom_30 : decode cX12_planFrom 30 = .ok (.iload 6, 2) := by decide +kernel
theorem dX12_planFrom_32 : decode cX12_planFrom 32 = .ok (.invokestatic 288, 3) := by decide +kernel
theorem dX12_planFrom_35 : decode cX12_planFrom 35 = .ok (.ifCond .eq 6, 3) := by decide +kernel
theorem dX12_planFrom_38 : decode cX12_planFrom 38 = .ok (.goto 102, 3) := by decide +kernel
theorem dX12_planFrom_41 : decode cX12_planFrom 41 = .ok (.aload_n 0, 1) := by decide +kernel
theorem dX12_planFrom_42 : decode cX12_planFrom 42 = .ok (.getfield 48, 3) := by decide +kernel
theorem dX12_planFrom_45 : decode cX12_planFrom 45 = .ok (.iload_n 2, 1) := by decide +kernel
theorem dX12_planFrom_46 : decode cX12_planFrom 46 = .ok (.iload 6, 2) := by decide +kernel
theorem dX12_planFrom_48 : decode cX12_planFrom 48 = .ok (.iastore, 1) := by decide +kernel
theorem dX12_planFrom_49 : decode cX12_planFrom 49 = .ok (.iconst 0, 1) := by decide +kernel
theorem dX12_planFrom_50 : decode cX12_planFrom 50 = .ok (.istore 7, 2) := by decide +kernel
theorem dX12_planFrom_52 : decode cX12_planFrom 52 = .ok (.iload 7, 2) := by decide +kernel
theorem dX12_planFrom_54 : decode cX12_planFrom 54 = .ok (.bipush 8, 2) := by decide +kernel
theorem dX12_planFrom_56 : decode cX12_planFrom 56 = .ok (.if_icmp .ge 57, 3) := by decide +kernel
theorem dX12_planFrom_59 : decode cX12_planFrom 59 = .ok (.aload_n 0, 1) := by decide +kernel
theorem dX12_planFrom_60 : decode cX12_planFrom 60 = .ok (.getfield 45, 3) := by decide +kernel
theorem dX12_planFrom_63 : decode cX12_planFrom 63 = .ok (.bipush 8, 2) := by decide +kernel
theorem dX12_planFrom_65 : decode cX12_planFrom 65 = .ok (.iload_n 2, 1) := by decide +kernel
theorem dX12_planFrom_66 : decode cX12_planFrom 66 = .ok (.iconst 1, 1) := by decide +kernel
theorem dX12_planFrom_67 : decode cX12_planFrom 67 = .ok (.iadd, 1) := by decide +kernel
theorem dX12_planFrom_68 : decode cX12_planFrom 68 = .ok (.imul, 1) := by decide +kernel
theorem dX12_planFrom_69 : decode cX12_planFrom 69 = .ok (.iload 7, 2) := by decide +kernel
theorem dX12_planFrom_71 : decode cX12_planFrom 71 = .ok (.iadd, 1) := by decide +kernel
theorem dX12_planFrom_72 : decode cX12_planFrom 72 = .ok (.aload_n 0, 1) := by decide +kernel
theorem dX12_planFrom_73 : decode cX12_planFrom 73 = .ok (.getfield 45, 3) := by decide +kernel
theorem dX12_planFrom_76 : decode cX12_planFrom 76 = .ok (.bipush 8, 2) := by decide +kernel
theorem dX12_planFrom_78 : decode cX12_planFrom 78 = .ok (.iload_n 2, 1) := by decide +kernel
theorem dX12_planFrom_79 : decode cX12_planFrom 79 = .ok (.imul, 1) := by decide +kernel
theorem dX12_planFrom_80 : decode cX12_planFrom 80 = .ok (.iload 7, 2) := by decide +kernel
theorem dX12_planFrom_82 : decode cX12_planFrom 82 = .ok (.iadd, 1) := by decide +kernel
theorem dX12_planFrom_83 : decode cX12_planFrom 83 = .ok (.iaload, 1) := by decide +kernel
theorem dX12_planFrom_84 : decode cX12_planFrom 84 = .ok (.bipush 12, 2) := by decide +kernel
theorem dX12_planFrom_86 : decode cX12_planFrom 86 = .ok (.idiv, 1) := by decide +kernel
theorem dX12_planFrom_87 : decode cX12_planFrom 87 = .ok (.bipush 12, 2) := by decide +kernel
theorem dX12_planFrom_89 : decode cX12_planFrom 89 = .ok (.aload_n 0, 1) := by decide +kernel
theorem dX12_planFrom_90 : decode cX12_planFrom 90 = .ok (.getfield 13, 3) := by decide +kernel
theorem dX12_planFrom_93 : decode cX12_planFrom 93 = .ok (.bipush 53, 2) := by decide +kernel
theorem dX12_planFrom_95 : decode cX12_planFrom 95 = .ok (.iconst 3, 1) := by decide +kernel
theorem dX12_planFrom_96 : decode cX12_planFrom 96 = .ok (.iload 7, 2) := by decide +kernel
theorem dX12_planFrom_98 : decode cX12_planFrom 98 = .ok (.imul, 1) := by decide +kernel
theorem dX12_planFrom_99 : decode cX12_planFrom 99 = .ok (.iadd, 1) := by decide +kernel
theorem dX12_planFrom_100 : decode cX12_planFrom 100 = .ok (.iload 6, 2) := by decide +kernel
theorem dX12_planFrom_102 : decode cX12_planFrom 102 = .ok (.iadd, 1) := by decide +kernel
theorem dX12_planFrom_103 : decode cX12_planFrom 103 = .ok (.iaload, 1) := by decide +kernel
theorem dX12_planFrom_104 : decode cX12_planFrom 104 = .ok (.isub, 1) := by decide +kernel
theorem dX12_planFrom_105 : decode cX12_planFrom 105 = .ok (.imul, 1) := by decide +kernel
theorem dX12_planFrom_106 : decode cX12_planFrom 106 = .ok (.iastore, 1) := by decide +kernel
theorem dX12_planFrom_107 : decode cX12_planFrom 107 = .ok (.iinc 7 1, 3) := by decide +kernel
theorem dX12_planFrom_110 : decode cX12_planFrom 110 = .ok (.goto (-58), 3) := by decide +kernel
theorem dX12_planFrom_113 : decode cX12_planFrom 113 = .ok (.aload_n 0, 1) := by decide +kernel
theorem dX12_planFrom_114 : decode cX12_planFrom 114 = .ok (.iload_n 1, 1) := by decide +kernel
theorem dX12_planFrom_115 : decode cX12_planFrom 115 = .ok (.iload_n 2, 1) := by decide +kernel
theorem dX12_planFrom_116 : decode cX12_planFrom 116 = .ok (.iconst 1, 1) := by decide +kernel
theorem dX12_planFrom_117 : decode cX12_planFrom 117 = .ok (.iadd, 1) := by decide +kernel
theorem dX12_planFrom_118 : decode cX12_planFrom 118 = .ok (.iload_n 3, 1) := by decide +kernel
theorem dX12_planFrom_119 : decode cX12_planFrom 119 = .ok (.iconst 1, 1) := by decide +kernel
theorem dX12_planFrom_120 : decode cX12_planFrom 120 = .ok (.iload 6, 2) := by decide +kernel
theorem dX12_planFrom_122 : decode cX12_planFrom 122 = .ok (.ishl, 1) := by decide +kernel
theorem dX12_planFrom_123 : decode cX12_planFrom 123 = .ok (.ior, 1) := by decide +kernel
theorem dX12_planFrom_124 : decode cX12_planFrom 124 = .ok (.iload 4, 2) := by decide +kernel
theorem dX12_planFrom_126 : decode cX12_planFrom 126 = .ok (.iload 5, 2) := by decide +kernel
theorem dX12_planFrom_128 : decode cX12_planFrom 128 = .ok (.aload_n 0, 1) := by decide +kernel
theorem dX12_planFrom_129 : decode cX12_planFrom 129 = .ok (.iload_n 1, 1) := by decide +kernel
theorem dX12_planFrom_130 : decode cX12_planFrom 130 = .ok (.iload 6, 2) := by decide +kernel
theorem dX12_planFrom_132 : decode cX12_planFrom 132 = .ok (.invokevirtual 306, 3) := by decide +kernel
theorem dX12_planFrom_135 : decode cX12_planFrom 135 = .ok (.imul, 1) := by decide +kernel
theorem dX12_planFrom_136 : decode cX12_planFrom 136 = .ok (.iadd, 1) := by decide +kernel
theorem dX12_planFrom_137 : decode cX12_planFrom 137 = .ok (.invokevirtual 309, 3) := by decide +kernel
theorem dX12_planFrom_140 : decode cX12_planFrom 140 = .ok (.iinc 6 1, 3) := by decide +kernel
theorem dX12_planFrom_143 : decode cX12_planFrom 143 = .ok (.goto (-120), 3) := by decide +kernel
theorem dX12_planFrom_146 : decode cX12_planFrom 146 = .ok (.aload_n 0, 1) := by decide +kernel
theorem dX12_planFrom_147 : decode cX12_planFrom 147 = .ok (.getfield 48, 3) := by decide +kernel
theorem dX12_planFrom_150 : decode cX12_planFrom 150 = .ok (.iload_n 2, 1) := by decide +kernel
theorem dX12_planFrom_151 : decode cX12_planFrom 151 = .ok (.iconst 3, 1) := by decide +kernel
theorem dX12_planFrom_152 : decode cX12_planFrom 152 = .ok (.iastore, 1) := by decide +kernel
theorem dX12_planFrom_153 : decode cX12_planFrom 153 = .ok (.aload_n 0, 1) := by decide +kernel
theorem dX12_planFrom_154 : decode cX12_planFrom 154 = .ok (.iload_n 2, 1) := by decide +kernel
theorem dX12_planFrom_155 : decode cX12_planFrom 155 = .ok (.iconst 1, 1) := by decide +kernel
theorem dX12_planFrom_156 : decode cX12_planFrom 156 = .ok (.iadd, 1) := by decide +kernel
theorem dX12_planFrom_157 : decode cX12_planFrom 157 = .ok (.iload 4, 2) := by decide +kernel
theorem dX12_planFrom_159 : decode cX12_planFrom 159 = .ok (.iload 5, 2) := by decide +kernel
theorem dX12_planFrom_161 : decode cX12_planFrom 161 = .ok (.aload_n 0, 1) := by decide +kernel
