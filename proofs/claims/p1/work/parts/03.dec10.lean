theorem dX12_oneMinute_202 : decode cX12_oneMinute 202 = .ok (.iaload, 1) := by decide +kernel
theorem dX12_oneMinute_203 : decode cX12_oneMinute 203 = .ok (.if_icmp .eq 6, 3) := by decide +kernel
theorem dX12_oneMinute_206 : decode cX12_oneMinute 206 = .ok (.goto 33, 3) := by decide +kernel
theorem dX12_oneMinute_209 : decode cX12_oneMinute 209 = .ok (.aload_n 0, 1) := by decide +kernel
theorem dX12_oneMinute_210 : decode cX12_oneMinute 210 = .ok (.iload_n 1, 1) := by decide +kernel
theorem dX12_oneMinute_211 : decode cX12_oneMinute 211 = .ok (.invokevirtual 243, 3) := by decide +kernel
theorem dX12_oneMinute_214 : decode cX12_oneMinute 214 = .ok (.aload_n 0, 1) := by decide +kernel
theorem dX12_oneMinute_215 : decode cX12_oneMinute 215 = .ok (.getfield 13, 3) := by decide +kernel
theorem dX12_oneMinute_218 : decode cX12_oneMinute 218 = .ok (.sipush 129, 3) := by decide +kernel
theorem dX12_oneMinute_221 : decode cX12_oneMinute 221 = .ok (.iload_n 1, 1) := by decide +kernel
theorem dX12_oneMinute_222 : decode cX12_oneMinute 222 = .ok (.iadd, 1) := by decide +kernel
theorem dX12_oneMinute_223 : decode cX12_oneMinute 223 = .ok (.dup2, 1) := by decide +kernel
theorem dX12_oneMinute_224 : decode cX12_oneMinute 224 = .ok (.iaload, 1) := by decide +kernel
theorem dX12_oneMinute_225 : decode cX12_oneMinute 225 = .ok (.iconst 1, 1) := by decide +kernel
theorem dX12_oneMinute_226 : decode cX12_oneMinute 226 = .ok (.iadd, 1) := by decide +kernel
theorem dX12_oneMinute_227 : decode cX12_oneMinute 227 = .ok (.iastore, 1) := by decide +kernel
theorem dX12_oneMinute_228 : decode cX12_oneMinute 228 = .ok (.aload_n 0, 1) := by decide +kernel
theorem dX12_oneMinute_229 : decode cX12_oneMinute 229 = .ok (.getfield 13, 3) := by decide +kernel
theorem dX12_oneMinute_232 : decode cX12_oneMinute 232 = .ok (.bipush 80, 2) := by decide +kernel
theorem dX12_oneMinute_234 : decode cX12_oneMinute 234 = .ok (.dup2, 1) := by decide +kernel
theorem dX12_oneMinute_235 : decode cX12_oneMinute 235 = .ok (.iaload, 1) := by decide +kernel
theorem dX12_oneMinute_236 : decode cX12_oneMinute 236 = .ok (.iconst 1, 1) := by decide +kernel
theorem dX12_oneMinute_237 : decode cX12_oneMinute 237 = .ok (.iadd, 1) := by decide +kernel
theorem dX12_oneMinute_238 : decode cX12_oneMinute 238 = .ok (.iastore, 1) := by decide +kernel
theorem dX12_oneMinute_239 : decode cX12_oneMinute 239 = .ok (.iinc 1 1, 3) := by decide +kernel
theorem dX12_oneMinute_242 : decode cX12_oneMinute 242 = .ok (.goto (-91), 3) := by decide +kernel
theorem dX12_oneMinute_245 : decode cX12_oneMinute 245 = .ok (.aload_n 0, 1) := by decide +kernel
theorem dX12_oneMinute_246 : decode cX12_oneMinute 246 = .ok (.getfield 13, 3) := by decide +kernel
theorem dX12_oneMinute_249 : decode cX12_oneMinute 249 = .ok (.bipush 77, 2) := by decide +kernel
theorem dX12_oneMinute_251 : decode cX12_oneMinute 251 = .ok (.dup2, 1) := by decide +kernel
theorem dX12_oneMinute_252 : decode cX12_oneMinute 252 = .ok (.iaload, 1) := by decide +kernel
theorem dX12_oneMinute_253 : decode cX12_oneMinute 253 = .ok (.iconst 1, 1) := by decide +kernel
theorem dX12_oneMinute_254 : decode cX12_oneMinute 254 = .ok (.iadd, 1) := by decide +kernel
theorem dX12_oneMinute_255 : decode cX12_oneMinute 255 = .ok (.iastore, 1) := by decide +kernel
theorem dX12_oneMinute_256 : decode cX12_oneMinute 256 = .ok (.return_, 1) := by decide +kernel
theorem dX12_passMinutes_0 : decode cX12_passMinutes 0 = .ok (.iload_n 1, 1) := by decide +kernel
theorem dX12_passMinutes_1 : decode cX12_passMinutes 1 = .ok (.sipush 1000, 3) := by decide +kernel
theorem dX12_passMinutes_4 : decode cX12_passMinutes 4 = .ok (.aload_n 0, 1) := by decide +kernel
theorem dX12_passMinutes_5 : decode cX12_passMinutes 5 = .ok (.getfield 13, 3) := by decide +kernel
theorem dX12_passMinutes_8 : decode cX12_passMinutes 8 = .ok (.bipush 77, 2) := by decide +kernel
theorem dX12_passMinutes_10 : decode cX12_passMinutes 10 = .ok (.iaload, 1) := by decide +kernel
theorem dX12_passMinutes_11 : decode cX12_passMinutes 11 = .ok (.isub, 1) := by decide +kernel
theorem dX12_passMinutes_12 : decode cX12_passMinutes 12 = .ok (.invokestatic 273, 3) := by decide +kernel
theorem dX12_passMinutes_15 : decode cX12_passMinutes 15 = .ok (.istore_n 2, 1) := by decide +kernel
theorem dX12_passMinutes_16 : decode cX12_passMinutes 16 = .ok (.iconst 0, 1) := by decide +kernel
theorem dX12_passMinutes_17 : decode cX12_passMinutes 17 = .ok (.istore_n 3, 1) := by decide +kernel
theorem dX12_passMinutes_18 : decode cX12_passMinutes 18 = .ok (.iload_n 3, 1) := by decide +kernel
theorem dX12_passMinutes_19 : decode cX12_passMinutes 19 = .ok (.iload_n 2, 1) := by decide +kernel
theorem dX12_passMinutes_20 : decode cX12_passMinutes 20 = .ok (.if_icmp .ge 13, 3) := by decide +kernel
theorem dX12_passMinutes_23 : decode cX12_passMinutes 23 = .ok (.aload_n 0, 1) := by decide +kernel
theorem dX12_passMinutes_24 : decode cX12_passMinutes 24 = .ok (.invokevirtual 276, 3) := by decide +kernel
theorem dX12_passMinutes_27 : decode cX12_passMinutes 27 = .ok (.iinc 3 1, 3) := by decide +kernel
theorem dX12_passMinutes_30 : decode cX12_passMinutes 30 = .ok (.goto (-12), 3) := by decide +kernel
theorem dX12_passMinutes_33 : decode cX12_passMinutes 33 = .ok (.iload_n 2, 1) := by decide +kernel
theorem dX12_passMinutes_34 : decode cX12_passMinutes 34 = .ok (.ireturn, 1) := by decide +kernel
theorem dX12_minutes_0 : decode cX12_minutes 0 = .ok (.aload_n 0, 1) := by decide +kernel
theorem dX12_minutes_1 : decode cX12_minutes 1 = .ok (.iconst 0, 1) := by decide +kernel
theorem dX12_minutes_2 : decode cX12_minutes 2 = .ok (.putfield 73, 3) := by decide +kernel
theorem dX12_minutes_5 : decode cX12_minutes 5 = .ok (.iload_n 1, 1) := by decide +kernel
theorem dX12_minutes_6 : decode cX12_minutes 6 = .ok (.iconst 1, 1) := by decide +kernel
theorem dX12_minutes_7 : decode cX12_minutes 7 = .ok (.bipush 60, 2) := by decide +kernel
theorem dX12_minutes_9 : decode cX12_minutes 9 = .ok (.invokestatic 140, 3) := by decide +kernel
theorem dX12_minutes_12 : decode cX12_minutes 12 = .ok (.ifCond .ne 5, 3) := by decide +kernel
theorem dX12_minutes_15 : decode cX12_minutes 15 = .ok (.iconst (-1), 1) := by decide +kernel
theorem dX12_minutes_16 : decode cX12_minutes 16 = .ok (.ireturn, 1) := by decide +kernel
theorem dX12_minutes_17 : decode cX12_minutes 17 = .ok (.aload_n 0, 1) := by decide +kernel
theorem dX12_minutes_18 : decode cX12_minutes 18 = .ok (.getfield 13, 3) := by decide +kernel
theorem dX12_minutes_21 : decode cX12_minutes 21 = .ok (.bipush 77, 2) := by decide +kernel
theorem dX12_minutes_23 : decode cX12_minutes 23 = .ok (.iaload, 1) := by decide +kernel
theorem dX12_minutes_24 : decode cX12_minutes 24 = .ok (.sipush 1000, 3) := by decide +kernel
theorem dX12_minutes_27 : decode cX12_minutes 27 = .ok (.if_icmp .ne 5, 3) := by decide +kernel
theorem dX12_minutes_30 : decode cX12_minutes 30 = .ok (.iconst 0, 1) := by decide +kernel
theorem dX12_minutes_31 : decode cX12_minutes 31 = .ok (.ireturn, 1) := by decide +kernel
theorem dX12_minutes_32 : decode cX12_minutes 32 = .ok (.aload_n 0, 1) := by decide +kernel
theorem dX12_minutes_33 : decode cX12_minutes 33 = .ok (.invokevirtual 263, 3) := by decide +kernel
theorem dX12_minutes_36 : decode cX12_minutes 36 = .ok (.aload_n 0, 1) := by decide +kernel
theorem dX12_minutes_37 : decode cX12_minutes 37 = .ok (.iload_n 1, 1) := by decide +kernel
theorem dX12_minutes_38 : decode cX12_minutes 38 = .ok (.invokevirtual 279, 3) := by decide +kernel
theorem dX12_minutes_41 : decode cX12_minutes 41 = .ok (.ireturn, 1) := by decide +kernel
theorem dX12_what_0 : decode cX12_what 0 = .ok (.aload_n 0, 1) := by decide +kernel
theorem dX12_what_1 : decode cX12_what 1 = .ok (.iconst 0, 1) := by decide +kernel
theorem dX12_what_2 : decode cX12_what 2 = .ok (.putfield 73, 3) := by decide +kernel
theorem dX12_what_5 : decode cX12_what 5 = .ok (.aload_n 0, 1) := by decide +kernel
theorem dX12_what_6 : decode cX12_what 6 = .ok (.invokevirtual 153, 3) := by decide +kernel
theorem dX12_what_9 : decode cX12_what 9 = .ok (.istore_n 1, 1) := by decide +kernel
theorem dX12_what_10 : decode cX12_what 10 = .ok (.iload_n 1, 1) := by decide +kernel
theorem dX12_what_11 : decode cX12_what 11 = .ok (.iconst 2, 1) := by decide +kernel
theorem dX12_what_12 : decode cX12_what 12 = .ok (.irem, 1) := by decide +kernel
theorem dX12_what_13 : decode cX12_what 13 = .ok (.ifCond .ne 15, 3) := by decide +kernel
theorem dX12_what_16 : decode cX12_what 16 = .ok (.iload_n 1, 1) := by decide +kernel
theorem dX12_what_17 : decode cX12_what 17 = .ok (.iconst 2, 1) := by decide +kernel
theorem dX12_what_18 : decode cX12_what 18 = .ok (.idiv, 1) := by decide +kernel
theorem dX12_what_19 : decode cX12_what 19 = .ok (.iconst 1, 1) := by decide +kernel
theorem dX12_what_20 : decode cX12_what 20 = .ok (.bipush 6, 2) := by decide +kernel
theorem dX12_what_22 : decode cX12_what 22 = .ok (.invokestatic 140, 3) := by decide +kernel
theorem dX12_what_25 : decode cX12_what 25 = .ok (.ifCond .ne 5, 3) := by decide +kernel
theorem dX12_what_28 : decode cX12_what 28 = .ok (.iconst (-1), 1) := by decide +kernel
theorem dX12_what_29 : decode cX12_what 29 = .ok (.ireturn, 1) := by decide +kernel
theorem dX12_what_30 : decode cX12_what 30 = .ok (.iconst 0, 1) := by decide +kernel
theorem dX12_what_31 : decode cX12_what 31 = .ok (.istore_n 2, 1) := by decide +kernel
theorem dX12_what_32 : decode cX12_what 32 = .ok (.iload_n 2, 1) := by decide +kernel
theorem dX12_what_33 : decode cX12_what 33 = .ok (.iload_n 1, 1) := by decide +kernel
theorem dX12_what_34 : decode cX12_what 34 = .ok (.if_icmp .ge 24, 3) := by decide +kernel
theorem dX12_what_37 : decode cX12_what 37 = .ok (.aload_n 0, 1) := by decide +kernel
theorem dX12_what_38 : decode cX12_what 38 = .ok (.aload_n 0, 1) := by decide +kernel
theorem dX12_what_39 : decode cX12_what 39 = .ok (.getfield 7, 3) := by decide +kernel
theorem dX12_what_42 : decode cX12_what 42 = .ok (.iload_n 2, 1) := by decide +kernel
theorem dX12_what_43 : decode cX12_what 43 = .ok (.iaload, 1) := by decide +kernel
theorem dX12_what_44 : decode cX12_what 44 = .ok (.invokevirtual 221, 3) := by decide +kernel
theorem dX12_what_47 : decode cX12_what 47 = .ok (.ifCond .ne 5, 3) := by decide +kernel
theorem dX12_what_50 : decode cX12_what 50 = .ok (.iconst (-1), 1) := by decide +kernel
theorem dX12_what_51 : decode cX12_what 51 = .ok (.ireturn, 1) := by decide +kernel
theorem dX12_what_52 : decode cX12_what 52 = .ok (.iinc 2 2, 3) := by decide +kernel
theorem dX12_what_55 : decode cX12_what 55 = .ok (.goto (-23), 3) := by decide +kernel
theorem dX12_what_58 : decode cX12_what 58 = .ok (.iconst 0, 1) := by decide +kernel
theorem dX12_what_59 : decode cX12_what 59 = .ok (.istore_n 2, 1) := by decide +kernel
theorem dX12_what_60 : decode cX12_what 60 = .ok (.iconst 0, 1) := by decide +kernel
theorem dX12_what_61 : decode cX12_what 61 = .ok (.istore_n 3, 1) := by decide +kernel
theorem dX12_what_62 : decode cX12_what 62 = .ok (.iload_n 3, 1) := by decide +kernel
theorem dX12_what_63 : decode cX12_what 63 = .ok (.aload_n 0, 1) := by decide +kernel
theorem dX12_what_64 : decode cX12_what 64 = .ok (.getfield 13, 3) := by decide +kernel
theorem dX12_what_67 : decode cX12_what 67 = .ok (.iconst 1, 1) := by decide +kernel
theorem dX12_what_68 : decode cX12_what 68 = .ok (.iaload, 1) := by decide +kernel
theorem dX12_what_69 : decode cX12_what 69 = .ok (.if_icmp .ge 24, 3) := by decide +kernel
theorem dX12_what_72 : decode cX12_what 72 = .ok (.aload_n 0, 1) := by decide +kernel
theorem dX12_what_73 : decode cX12_what 73 = .ok (.iload_n 1, 1) := by decide +kernel
theorem dX12_what_74 : decode cX12_what 74 = .ok (.iload_n 3, 1) := by decide +kernel
theorem dX12_what_75 : decode cX12_what 75 = .ok (.invokevirtual 282, 3) := by decide +kernel
theorem dX12_what_78 : decode cX12_what 78 = .ok (.ifCond .eq 9, 3) := by decide +kernel
theorem dX12_what_81 : decode cX12_what 81 = .ok (.iload_n 2, 1) := by decide +kernel
theorem dX12_what_82 : decode cX12_what 82 = .ok (.iconst 1, 1) := by decide +kernel
theorem dX12_what_83 : decode cX12_what 83 = .ok (.iload_n 3, 1) := by decide +kernel
theorem dX12_what_84 : decode cX12_what 84 = .ok (.ishl, 1) := by decide +kernel
theorem dX12_what_85 : decode cX12_what 85 = .ok (.ior, 1) := by decide +kernel
theorem dX12_what_86 : decode cX12_what 86 = .ok (.istore_n 2, 1) := by decide +kernel
theorem dX12_what_87 : decode cX12_what 87 = .ok (.iinc 3 1, 3) := by decide +kernel
theorem dX12_what_90 : decode cX12_what 90 = .ok (.goto (-28), 3) := by decide +kernel
theorem dX12_what_93 : decode cX12_what 93 = .ok (.iload_n 2, 1) := by decide +kernel
theorem dX12_what_94 : decode cX12_what 94 = .ok (.ifCond .ne 5, 3) := by decide +kernel
theorem dX12_what_97 : decode cX12_what 97 = .ok (.iconst 0, 1) := by decide +kernel
theorem dX12_what_98 : decode cX12_what 98 = .ok (.ireturn, 1) := by decide +kernel
theorem dX12_what_99 : decode cX12_what 99 = .ok (.aload_n 0, 1) := by decide +kernel
theorem dX12_what_100 : decode cX12_what 100 = .ok (.iload_n 2, 1) := by decide +kernel
theorem dX12_what_101 : decode cX12_what 101 = .ok (.putfield 285, 3) := by decide +kernel
theorem dX12_what_104 : decode cX12_what 104 = .ok (.iconst 0, 1) := by decide +kernel
theorem dX12_what_105 : decode cX12_what 105 = .ok (.istore_n 3, 1) := by decide +kernel
theorem dX12_what_106 : decode cX12_what 106 = .ok (.iload_n 3, 1) := by decide +kernel
theorem dX12_what_107 : decode cX12_what 107 = .ok (.bipush 8, 2) := by decide +kernel
theorem dX12_what_109 : decode cX12_what 109 = .ok (.if_icmp .ge 24, 3) := by decide +kernel
theorem dX12_what_112 : decode cX12_what 112 = .ok (.aload_n 0, 1) := by decide +kernel
theorem dX12_what_113 : decode cX12_what 113 = .ok (.getfield 42, 3) := by decide +kernel
theorem dX12_what_116 : decode cX12_what 116 = .ok (.iload_n 3, 1) := by decide +kernel
theorem dX12_what_117 : decode cX12_what 117 = .ok (.aload_n 0, 1) := by decide +kernel
theorem dX12_what_118 : decode cX12_what 118 = .ok (.getfield 13, 3) := by decide +kernel
theorem dX12_what_121 : decode cX12_what 121 = .ok (.bipush 37, 2) := by decide +kernel
theorem dX12_what_123 : decode cX12_what 123 = .ok (.iload_n 3, 1) := by decide +kernel
theorem dX12_what_124 : decode cX12_what 124 = .ok (.iadd, 1) := by decide +kernel
theorem dX12_what_125 : decode cX12_what 125 = .ok (.iaload, 1) := by decide +kernel
theorem dX12_what_126 : decode cX12_what 126 = .ok (.iastore, 1) := by decide +kernel
theorem dX12_what_127 : decode cX12_what 127 = .ok (.iinc 3 1, 3) := by decide +kernel
theorem dX12_what_130 : decode cX12_what 130 = .ok (.goto (-24), 3) := by decide +kernel
theorem dX12_what_133 : decode cX12_what 133 = .ok (.iload_n 2, 1) := by decide +kernel
theorem dX12_what_134 : decode cX12_what 134 = .ok (.ireturn, 1) := by decide +kernel
theorem dX12_likely_0 : decode cX12_likely 0 = .ok (.aload_n 0, 1) := by decide +kernel
theorem dX12_likely_1 : decode cX12_likely 1 = .ok (.iconst 0, 1) := by decide +kernel
theorem dX12_likely_2 : decode cX12_likely 2 = .ok (.putfield 73, 3) := by decide +kernel
theorem dX12_likely_5 : decode cX12_likely 5 = .ok (.iload_n 1, 1) := by decide +kernel
theorem dX12_likely_6 : decode cX12_likely 6 = .ok (.iconst 0, 1) := by decide +kernel
theorem dX12_likely_7 : decode cX12_likely 7 = .ok (.bipush 7, 2) := by decide +kernel
theorem dX12_likely_9 : decode cX12_likely 9 = .ok (.invokestatic 140, 3) := by decide +kernel
theorem dX12_likely_12 : decode cX12_likely 12 = .ok (.ifCond .eq 23, 3) := by decide +kernel
theorem dX12_likely_15 : decode cX12_likely 15 = .ok (.aload_n 0, 1) := by decide +kernel
theorem dX12_likely_16 : decode cX12_likely 16 = .ok (.getfield 285, 3) := by decide +kernel
theorem dX12_likely_19 : decode cX12_likely 19 = .ok (.iload_n 1, 1) := by decide +kernel
theorem dX12_likely_20 : decode cX12_likely 20 = .ok (.invokestatic 288, 3) := by decide +kernel
theorem dX12_likely_23 : decode cX12_likely 23 = .ok (.ifCond .eq 12, 3) := by decide +kernel
theorem dX12_likely_26 : decode cX12_likely 26 = .ok (.iload_n 2, 1) := by decide +kernel
theorem dX12_likely_27 : decode cX12_likely 27 = .ok (.iconst 0, 1) := by decide +kernel
theorem dX12_likely_28 : decode cX12_likely 28 = .ok (.iconst 1, 1) := by decide +kernel
theorem dX12_likely_29 : decode cX12_likely 29 = .ok (.invokestatic 140, 3) := by decide +kernel
theorem dX12_likely_32 : decode cX12_likely 32 = .ok (.ifCond .ne 8, 3) := by decide +kernel
theorem dX12_likely_35 : decode cX12_likely 35 = .ok (.aload_n 0, 1) := by decide +kernel
theorem dX12_likely_36 : decode cX12_likely 36 = .ok (.invokevirtual 224, 3) := by decide +kernel
theorem dX12_likely_39 : decode cX12_likely 39 = .ok (.ireturn, 1) := by decide +kernel
theorem dX12_likely_40 : decode cX12_likely 40 = .ok (.iconst 0, 1) := by decide +kernel
theorem dX12_likely_41 : decode cX12_likely 41 = .ok (.istore_n 3, 1) := by decide +kernel
theorem dX12_likely_42 : decode cX12_likely 42 = .ok (.iconst 0, 1) := by decide +kernel
theorem dX12_likely_43 : decode cX12_likely 43 = .ok (.istore 4, 2) := by decide +kernel
theorem dX12_likely_45 : decode cX12_likely 45 = .ok (.iload 4, 2) := by decide +kernel
theorem dX12_likely_47 : decode cX12_likely 47 = .ok (.bipush 8, 2) := by decide +kernel
theorem dX12_likely_49 : decode cX12_likely 49 = .ok (.if_icmp .ge 31, 3) := by decide +kernel
theorem dX12_likely_52 : decode cX12_likely 52 = .ok (.aload_n 0, 1) := by decide +kernel
theorem dX12_likely_53 : decode cX12_likely 53 = .ok (.getfield 285, 3) := by decide +kernel
theorem dX12_likely_56 : decode cX12_likely 56 = .ok (.iload 4, 2) := by decide +kernel
theorem dX12_likely_58 : decode cX12_likely 58 = .ok (.invokestatic 288, 3) := by decide +kernel
theorem dX12_likely_61 : decode cX12_likely 61 = .ok (.ifCond .eq 13, 3) := by decide +kernel
theorem dX12_likely_64 : decode cX12_likely 64 = .ok (.iload_n 3, 1) := by decide +kernel
theorem dX12_likely_65 : decode cX12_likely 65 = .ok (.aload_n 0, 1) := by decide +kernel
theorem dX12_likely_66 : decode cX12_likely 66 = .ok (.getfield 42, 3) := by decide +kernel
theorem dX12_likely_69 : decode cX12_likely 69 = .ok (.iload 4, 2) := by decide +kernel
theorem dX12_likely_71 : decode cX12_likely 71 = .ok (.iaload, 1) := by decide +kernel
theorem dX12_likely_72 : decode cX12_likely 72 = .ok (.iadd, 1) := by decide +kernel
theorem dX12_likely_73 : decode cX12_likely 73 = .ok (.istore_n 3, 1) := by decide +kernel
theorem dX12_likely_74 : decode cX12_likely 74 = .ok (.iinc 4 1, 3) := by decide +kernel
theorem dX12_likely_77 : decode cX12_likely 77 = .ok (.goto (-32), 3) := by decide +kernel
theorem dX12_likely_80 : decode cX12_likely 80 = .ok (.iload_n 2, 1) := by decide +kernel
theorem dX12_likely_81 : decode cX12_likely 81 = .ok (.ifCond .ne 12, 3) := by decide +kernel
theorem dX12_likely_84 : decode cX12_likely 84 = .ok (.aload_n 0, 1) := by decide +kernel
theorem dX12_likely_85 : decode cX12_likely 85 = .ok (.getfield 42, 3) := by decide +kernel
theorem dX12_likely_88 : decode cX12_likely 88 = .ok (.iload_n 1, 1) := by decide +kernel
theorem dX12_likely_89 : decode cX12_likely 89 = .ok (.iaload, 1) := by decide +kernel
theorem dX12_likely_90 : decode cX12_likely 90 = .ok (.goto 4, 3) := by decide +kernel
theorem dX12_likely_93 : decode cX12_likely 93 = .ok (.iload_n 3, 1) := by decide +kernel
theorem dX12_likely_94 : decode cX12_likely 94 = .ok (.iload_n 3, 1) := by decide +kernel
theorem dX12_likely_95 : decode cX12_likely 95 = .ok (.aload_n 0, 1) := by decide +kernel
theorem dX12_likely_96 : decode cX12_likely 96 = .ok (.getfield 42, 3) := by decide +kernel
theorem dX12_likely_99 : decode cX12_likely 99 = .ok (.iload_n 1, 1) := by decide +kernel
theorem dX12_likely_100 : decode cX12_likely 100 = .ok (.iaload, 1) := by decide +kernel
theorem dX12_likely_101 : decode cX12_likely 101 = .ok (.invokestatic 291, 3) := by decide +kernel
theorem dX12_likely_104 : decode cX12_likely 104 = .ok (.idiv, 1) := by decide +kernel
theorem dX12_likely_105 : decode cX12_likely 105 = .ok (.ireturn, 1) := by decide +kernel
theorem dX12_plan_0 : decode cX12_plan 0 = .ok (.aload_n 0, 1) := by decide +kernel
theorem dX12_plan_1 : decode cX12_plan 1 = .ok (.iconst 0, 1) := by decide +kernel
theorem dX12_plan_2 : decode cX12_plan 2 = .ok (.putfield 73, 3) := by decide +kernel
theorem dX12_plan_5 : decode cX12_plan 5 = .ok (.aload_n 0, 1) := by decide +kernel
theorem dX12_plan_6 : decode cX12_plan 6 = .ok (.iload_n 1, 1) := by decide +kernel
theorem dX12_plan_7 : decode cX12_plan 7 = .ok (.invokevirtual 221, 3) := by decide +kernel
theorem dX12_plan_10 : decode cX12_plan 10 = .ok (.ifCond .eq 29, 3) := by decide +kernel
theorem dX12_plan_13 : decode cX12_plan 13 = .ok (.iload_n 2, 1) := by decide +kernel
theorem dX12_plan_14 : decode cX12_plan 14 = .ok (.iconst 1, 1) := by decide +kernel
theorem dX12_plan_15 : decode cX12_plan 15 = .ok (.if_icmp .lt 24, 3) := by decide +kernel
theorem dX12_plan_18 : decode cX12_plan 18 = .ok (.iload_n 2, 1) := by decide +kernel
theorem dX12_plan_19 : decode cX12_plan 19 = .ok (.iconst 1, 1) := by decide +kernel
theorem dX12_plan_20 : decode cX12_plan 20 = .ok (.aload_n 0, 1) := by decide +kernel
theorem dX12_plan_21 : decode cX12_plan 21 = .ok (.getfield 13, 3) := by decide +kernel
theorem dX12_plan_24 : decode cX12_plan 24 = .ok (.iconst 1, 1) := by decide +kernel
theorem dX12_plan_25 : decode cX12_plan 25 = .ok (.iaload, 1) := by decide +kernel
theorem dX12_plan_26 : decode cX12_plan 26 = .ok (.ishl, 1) := by decide +kernel
theorem dX12_plan_27 : decode cX12_plan 27 = .ok (.if_icmp .ge 12, 3) := by decide +kernel
theorem dX12_plan_30 : decode cX12_plan 30 = .ok (.iload_n 3, 1) := by decide +kernel
theorem dX12_plan_31 : decode cX12_plan 31 = .ok (.iconst 0, 1) := by decide +kernel
theorem dX12_plan_32 : decode cX12_plan 32 = .ok (.iconst 1, 1) := by decide +kernel
theorem dX12_plan_33 : decode cX12_plan 33 = .ok (.invokestatic 140, 3) := by decide +kernel
theorem dX12_plan_36 : decode cX12_plan 36 = .ok (.ifCond .ne 8, 3) := by decide +kernel
theorem dX12_plan_39 : decode cX12_plan 39 = .ok (.aload_n 0, 1) := by decide +kernel
theorem dX12_plan_40 : decode cX12_plan 40 = .ok (.invokevirtual 224, 3) := by decide +kernel
theorem dX12_plan_43 : decode cX12_plan 43 = .ok (.ireturn, 1) := by decide +kernel
theorem dX12_plan_44 : decode cX12_plan 44 = .ok (.iconst 0, 1) := by decide +kernel
theorem dX12_plan_45 : decode cX12_plan 45 = .ok (.istore 4, 2) := by decide +kernel
theorem dX12_plan_47 : decode cX12_plan 47 = .ok (.iload 4, 2) := by decide +kernel
theorem dX12_plan_49 : decode cX12_plan 49 = .ok (.bipush 8, 2) := by decide +kernel
theorem dX12_plan_51 : decode cX12_plan 51 = .ok (.if_icmp .ge 71, 3) := by decide +kernel
theorem dX12_plan_54 : decode cX12_plan 54 = .ok (.iload_n 2, 1) := by decide +kernel
theorem dX12_plan_55 : decode cX12_plan 55 = .ok (.iload 4, 2) := by decide +kernel
theorem dX12_plan_57 : decode cX12_plan 57 = .ok (.invokestatic 288, 3) := by decide +kernel
theorem dX12_plan_60 : decode cX12_plan 60 = .ok (.ifCond .eq 22, 3) := by decide +kernel
theorem dX12_plan_63 : decode cX12_plan 63 = .ok (.aload_n 0, 1) := by decide +kernel
theorem dX12_plan_64 : decode cX12_plan 64 = .ok (.getfield 13, 3) := by decide +kernel
theorem dX12_plan_67 : decode cX12_plan 67 = .ok (.bipush 21, 2) := by decide +kernel
theorem dX12_plan_69 : decode cX12_plan 69 = .ok (.iload 4, 2) := by decide +kernel
theorem dX12_plan_71 : decode cX12_plan 71 = .ok (.iadd, 1) := by decide +kernel
theorem dX12_plan_72 : decode cX12_plan 72 = .ok (.iaload, 1) := by decide +kernel
theorem dX12_plan_73 : decode cX12_plan 73 = .ok (.iload_n 1, 1) := by decide +kernel
theorem dX12_plan_74 : decode cX12_plan 74 = .ok (.if_icmp .eq 8, 3) := by decide +kernel
theorem dX12_plan_77 : decode cX12_plan 77 = .ok (.aload_n 0, 1) := by decide +kernel
theorem dX12_plan_78 : decode cX12_plan 78 = .ok (.invokevirtual 224, 3) := by decide +kernel
theorem dX12_plan_81 : decode cX12_plan 81 = .ok (.ireturn, 1) := by decide +kernel
theorem dX12_plan_82 : decode cX12_plan 82 = .ok (.aload_n 0, 1) := by decide +kernel
theorem dX12_plan_83 : decode cX12_plan 83 = .ok (.getfield 45, 3) := by decide +kernel
theorem dX12_plan_86 : decode cX12_plan 86 = .ok (.iload 4, 2) := by decide +kernel
theorem dX12_plan_88 : decode cX12_plan 88 = .ok (.iload_n 2, 1) := by decide +kernel
theorem dX12_plan_89 : decode cX12_plan 89 = .ok (.iload 4, 2) := by decide +kernel
theorem dX12_plan_91 : decode cX12_plan 91 = .ok (.invokestatic 288, 3) := by decide +kernel
theorem dX12_plan_94 : decode cX12_plan 94 = .ok (.ifCond .eq 20, 3) := by decide +kernel
theorem dX12_plan_97 : decode cX12_plan 97 = .ok (.sipush 1728, 3) := by decide +kernel
theorem dX12_plan_100 : decode cX12_plan 100 = .ok (.aload_n 0, 1) := by decide +kernel
theorem dX12_plan_101 : decode cX12_plan 101 = .ok (.getfield 13, 3) := by decide +kernel
theorem dX12_plan_104 : decode cX12_plan 104 = .ok (.bipush 37, 2) := by decide +kernel
theorem dX12_plan_106 : decode cX12_plan 106 = .ok (.iload 4, 2) := by decide +kernel
theorem dX12_plan_108 : decode cX12_plan 108 = .ok (.iadd, 1) := by decide +kernel
theorem dX12_plan_109 : decode cX12_plan 109 = .ok (.iaload, 1) := by decide +kernel
theorem dX12_plan_110 : decode cX12_plan 110 = .ok (.imul, 1) := by decide +kernel
theorem dX12_plan_111 : decode cX12_plan 111 = .ok (.goto 4, 3) := by decide +kernel
theorem dX12_plan_114 : decode cX12_plan 114 = .ok (.iconst 0, 1) := by decide +kernel
theorem dX12_plan_115 : decode cX12_plan 115 = .ok (.iastore, 1) := by decide +kernel
theorem dX12_plan_116 : decode cX12_plan 116 = .ok (.iinc 4 1, 3) := by decide +kernel
theorem dX12_plan_119 : decode cX12_plan 119 = .ok (.goto (-72), 3) := by decide +kernel
theorem dX12_plan_122 : decode cX12_plan 122 = .ok (.aload_n 0, 1) := by decide +kernel
theorem dX12_plan_123 : decode cX12_plan 123 = .ok (.iconst 0, 1) := by decide +kernel
theorem dX12_plan_124 : decode cX12_plan 124 = .ok (.invokevirtual 300, 3) := by decide +kernel
theorem dX12_plan_127 : decode cX12_plan 127 = .ok (.istore 4, 2) := by decide +kernel
theorem dX12_plan_129 : decode cX12_plan 129 = .ok (.aload_n 0, 1) := by decide +kernel
theorem dX12_plan_130 : decode cX12_plan 130 = .ok (.ldc_w 313, 3) := by decide +kernel
theorem dX12_plan_133 : decode cX12_plan 133 = .ok (.putfield 294, 3) := by decide +kernel
theorem dX12_plan_136 : decode cX12_plan 136 = .ok (.aload_n 0, 1) := by decide +kernel
theorem dX12_plan_137 : decode cX12_plan 137 = .ok (.iload_n 1, 1) := by decide +kernel
theorem dX12_plan_138 : decode cX12_plan 138 = .ok (.iconst 0, 1) := by decide +kernel
theorem dX12_plan_139 : decode cX12_plan 139 = .ok (.iconst 0, 1) := by decide +kernel
theorem dX12_plan_140 : decode cX12_plan 140 = .ok (.iconst 0, 1) := by decide +kernel
theorem dX12_plan_141 : decode cX12_plan 141 = .ok (.invokevirtual 309, 3) := by decide +kernel
theorem dX12_plan_144 : decode cX12_plan 144 = .ok (.iload_n 3, 1) := by decide +kernel
theorem dX12_plan_145 : decode cX12_plan 145 = .ok (.ifCond .ne 10, 3) := by decide +kernel
theorem dX12_plan_148 : decode cX12_plan 148 = .ok (.aload_n 0, 1) := by decide +kernel
theorem dX12_plan_149 : decode cX12_plan 149 = .ok (.getfield 294, 3) := by decide +kernel
theorem dX12_plan_152 : decode cX12_plan 152 = .ok (.goto 5, 3) := by decide +kernel
theorem dX12_plan_155 : decode cX12_plan 155 = .ok (.iload 4, 2) := by decide +kernel
theorem dX12_plan_157 : decode cX12_plan 157 = .ok (.iload 4, 2) := by decide +kernel
theorem dX12_plan_159 : decode cX12_plan 159 = .ok (.aload_n 0, 1) := by decide +kernel
theorem dX12_plan_160 : decode cX12_plan 160 = .ok (.getfield 294, 3) := by decide +kernel
theorem dX12_plan_163 : decode cX12_plan 163 = .ok (.invokestatic 291, 3) := by decide +kernel
theorem dX12_plan_166 : decode cX12_plan 166 = .ok (.idiv, 1) := by decide +kernel
theorem dX12_plan_167 : decode cX12_plan 167 = .ok (.ireturn, 1) := by decide +kernel
theorem dX12_planAt_0 : decode cX12_planAt 0 = .ok (.aload_n 0, 1) := by decide +kernel
theorem dX12_planAt_1 : decode cX12_planAt 1 = .ok (.iconst 0, 1) := by decide +kernel
theorem dX12_planAt_2 : decode cX12_planAt 2 = .ok (.putfield 73, 3) := by decide +kernel
theorem dX12_planAt_5 : decode cX12_planAt 5 = .ok (.iload_n 1, 1) := by decide +kernel
theorem dX12_planAt_6 : decode cX12_planAt 6 = .ok (.iconst 0, 1) := by decide +kernel
theorem dX12_planAt_7 : decode cX12_planAt 7 = .ok (.aload_n 0, 1) := by decide +kernel
theorem dX12_planAt_8 : decode cX12_planAt 8 = .ok (.getfield 297, 3) := by decide +kernel
theorem dX12_planAt_11 : decode cX12_planAt 11 = .ok (.iconst 1, 1) := by decide +kernel
theorem dX12_planAt_12 : decode cX12_planAt 12 = .ok (.isub, 1) := by decide +kernel
theorem dX12_planAt_13 : decode cX12_planAt 13 = .ok (.invokestatic 140, 3) := by decide +kernel
theorem dX12_planAt_16 : decode cX12_planAt 16 = .ok (.ifCond .eq 12, 3) := by decide +kernel
theorem dX12_planAt_19 : decode cX12_planAt 19 = .ok (.aload_n 0, 1) := by decide +kernel
theorem dX12_planAt_20 : decode cX12_planAt 20 = .ok (.getfield 51, 3) := by decide +kernel
theorem dX12_planAt_23 : decode cX12_planAt 23 = .ok (.iload_n 1, 1) := by decide +kernel
theorem dX12_planAt_24 : decode cX12_planAt 24 = .ok (.iaload, 1) := by decide +kernel
theorem dX12_planAt_25 : decode cX12_planAt 25 = .ok (.goto 4, 3) := by decide +kernel
theorem dX12_planAt_28 : decode cX12_planAt 28 = .ok (.iconst (-1), 1) := by decide +kernel
theorem dX12_planAt_29 : decode cX12_planAt 29 = .ok (.ireturn, 1) := by decide +kernel
theorem dX12_ready_0 : decode cX12_ready 0 = .ok (.aload_n 0, 1) := by decide +kernel
theorem dX12_ready_1 : decode cX12_ready 1 = .ok (.iconst 0, 1) := by decide +kernel
theorem dX12_ready_2 : decode cX12_ready 2 = .ok (.putfield 73, 3) := by decide +kernel
theorem dX12_ready_5 : decode cX12_ready 5 = .ok (.aload_n 0, 1) := by decide +kernel
theorem dX12_ready_6 : decode cX12_ready 6 = .ok (.iload_n 1, 1) := by decide +kernel
theorem dX12_ready_7 : decode cX12_ready 7 = .ok (.invokevirtual 221, 3) := by decide +kernel
theorem dX12_ready_10 : decode cX12_ready 10 = .ok (.ifCond .eq 20, 3) := by decide +kernel
theorem dX12_ready_13 : decode cX12_ready 13 = .ok (.aload_n 0, 1) := by decide +kernel
theorem dX12_ready_14 : decode cX12_ready 14 = .ok (.iload_n 1, 1) := by decide +kernel
theorem dX12_ready_15 : decode cX12_ready 15 = .ok (.invokevirtual 314, 3) := by decide +kernel
theorem dX12_ready_18 : decode cX12_ready 18 = .ok (.aload_n 0, 1) := by decide +kernel
theorem dX12_ready_19 : decode cX12_ready 19 = .ok (.getfield 13, 3) := by decide +kernel
theorem dX12_ready_22 : decode cX12_ready 22 = .ok (.iconst 3, 1) := by decide +kernel
theorem dX12_ready_23 : decode cX12_ready 23 = .ok (.iload_n 1, 1) := by decide +kernel
theorem dX12_ready_24 : decode cX12_ready 24 = .ok (.iadd, 1) := by decide +kernel
theorem dX12_ready_25 : decode cX12_ready 25 = .ok (.iaload, 1) := by decide +kernel
theorem dX12_ready_26 : decode cX12_ready 26 = .ok (.iadd, 1) := by decide +kernel
theorem dX12_ready_27 : decode cX12_ready 27 = .ok (.goto 4, 3) := by decide +kernel
theorem dX12_ready_30 : decode cX12_ready 30 = .ok (.iconst (-1), 1) := by decide +kernel
theorem dX12_ready_31 : decode cX12_ready 31 = .ok (.ireturn, 1) := by decide +kernel
theorem dX12_starts_0 : decode cX12_starts 0 = .ok (.aload_n 0, 1) := by decide +kernel
theorem dX12_starts_1 : decode cX12_starts 1 = .ok (.iconst 0, 1) := by decide +kernel
theorem dX12_starts_2 : decode cX12_starts 2 = .ok (.putfield 73, 3) := by decide +kernel
theorem dX12_starts_5 : decode cX12_starts 5 = .ok (.aload_n 0, 1) := by decide +kernel
theorem dX12_starts_6 : decode cX12_starts 6 = .ok (.iload_n 1, 1) := by decide +kernel
theorem dX12_starts_7 : decode cX12_starts 7 = .ok (.invokevirtual 221, 3) := by decide +kernel
theorem dX12_starts_10 : decode cX12_starts 10 = .ok (.ifCond .eq 11, 3) := by decide +kernel
theorem dX12_starts_13 : decode cX12_starts 13 = .ok (.aload_n 0, 1) := by decide +kernel
theorem dX12_starts_14 : decode cX12_starts 14 = .ok (.iload_n 1, 1) := by decide +kernel
theorem dX12_starts_15 : decode cX12_starts 15 = .ok (.invokevirtual 314, 3) := by decide +kernel
theorem dX12_starts_18 : decode cX12_starts 18 = .ok (.goto 4, 3) := by decide +kernel
theorem dX12_starts_21 : decode cX12_starts 21 = .ok (.iconst (-1), 1) := by decide +kernel
theorem dX12_starts_22 : decode cX12_starts 22 = .ok (.ireturn, 1) := by decide +kernel
theorem dX12_helped_0 : decode cX12_helped 0 = .ok (.aload_n 0, 1) := by decide +kernel
theorem dX12_helped_1 : decode cX12_helped 1 = .ok (.iconst 0, 1) := by decide +kernel
theorem dX12_helped_2 : decode cX12_helped 2 = .ok (.putfield 73, 3) := by decide +kernel
theorem dX12_helped_5 : decode cX12_helped 5 = .ok (.aload_n 0, 1) := by decide +kernel
theorem dX12_helped_6 : decode cX12_helped 6 = .ok (.invokevirtual 153, 3) := by decide +kernel
theorem dX12_helped_9 : decode cX12_helped 9 = .ok (.istore_n 1, 1) := by decide +kernel
theorem dX12_helped_10 : decode cX12_helped 10 = .ok (.iload_n 1, 1) := by decide +kernel
theorem dX12_helped_11 : decode cX12_helped 11 = .ok (.iconst 2, 1) := by decide +kernel
theorem dX12_helped_12 : decode cX12_helped 12 = .ok (.irem, 1) := by decide +kernel
theorem dX12_helped_13 : decode cX12_helped 13 = .ok (.ifCond .ne 15, 3) := by decide +kernel
theorem dX12_helped_16 : decode cX12_helped 16 = .ok (.iload_n 1, 1) := by decide +kernel
theorem dX12_helped_17 : decode cX12_helped 17 = .ok (.iconst 2, 1) := by decide +kernel
theorem dX12_helped_18 : decode cX12_helped 18 = .ok (.idiv, 1) := by decide +kernel
theorem dX12_helped_19 : decode cX12_helped 19 = .ok (.iconst 2, 1) := by decide +kernel
theorem dX12_helped_20 : decode cX12_helped 20 = .ok (.bipush 10, 2) := by decide +kernel
theorem dX12_helped_22 : decode cX12_helped 22 = .ok (.invokestatic 140, 3) := by decide +kernel
theorem dX12_helped_25 : decode cX12_helped 25 = .ok (.ifCond .ne 8, 3) := by decide +kernel
theorem dX12_helped_28 : decode cX12_helped 28 = .ok (.aload_n 0, 1) := by decide +kernel
theorem dX12_helped_29 : decode cX12_helped 29 = .ok (.invokevirtual 224, 3) := by decide +kernel
theorem dX12_helped_32 : decode cX12_helped 32 = .ok (.ireturn, 1) := by decide +kernel
theorem dX12_helped_33 : decode cX12_helped 33 = .ok (.iconst 0, 1) := by decide +kernel
theorem dX12_helped_34 : decode cX12_helped 34 = .ok (.istore_n 2, 1) := by decide +kernel
theorem dX12_helped_35 : decode cX12_helped 35 = .ok (.iconst 0, 1) := by decide +kernel
theorem dX12_helped_36 : decode cX12_helped 36 = .ok (.istore_n 3, 1) := by decide +kernel
theorem dX12_helped_37 : decode cX12_helped 37 = .ok (.iconst 0, 1) := by decide +kernel
theorem dX12_helped_38 : decode cX12_helped 38 = .ok (.istore 4, 2) := by decide +kernel
theorem dX12_helped_40 : decode cX12_helped 40 = .ok (.iload 4, 2) := by decide +kernel
theorem dX12_helped_42 : decode cX12_helped 42 = .ok (.iload_n 1, 1) := by decide +kernel
theorem dX12_helped_43 : decode cX12_helped 43 = .ok (.if_icmp .ge 55, 3) := by decide +kernel
theorem dX12_helped_46 : decode cX12_helped 46 = .ok (.aload_n 0, 1) := by decide +kernel
theorem dX12_helped_47 : decode cX12_helped 47 = .ok (.getfield 7, 3) := by decide +kernel
theorem dX12_helped_50 : decode cX12_helped 50 = .ok (.iload 4, 2) := by decide +kernel
theorem dX12_helped_52 : decode cX12_helped 52 = .ok (.iaload, 1) := by decide +kernel
theorem dX12_helped_53 : decode cX12_helped 53 = .ok (.iconst 1, 1) := by decide +kernel
theorem dX12_helped_54 : decode cX12_helped 54 = .ok (.if_icmp .le 8, 3) := by decide +kernel
theorem dX12_helped_57 : decode cX12_helped 57 = .ok (.aload_n 0, 1) := by decide +kernel
theorem dX12_helped_58 : decode cX12_helped 58 = .ok (.invokevirtual 224, 3) := by decide +kernel
