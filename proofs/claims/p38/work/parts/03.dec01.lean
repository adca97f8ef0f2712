theorem dX2_addThing_12 : decode cX2_addThing 12 = .ok (.lload_n 1, 1) := by decide +kernel
theorem dX2_addThing_13 : decode cX2_addThing 13 = .ok (.lastore, 1) := by decide +kernel
theorem dX2_addThing_14 : decode cX2_addThing 14 = .ok (.aload_n 0, 1) := by decide +kernel
theorem dX2_addThing_15 : decode cX2_addThing 15 = .ok (.getfield 15, 3) := by decide +kernel
theorem dX2_addThing_18 : decode cX2_addThing 18 = .ok (.iload 6, 2) := by decide +kernel
theorem dX2_addThing_20 : decode cX2_addThing 20 = .ok (.iload_n 3, 1) := by decide +kernel
theorem dX2_addThing_21 : decode cX2_addThing 21 = .ok (.iastore, 1) := by decide +kernel
theorem dX2_addThing_22 : decode cX2_addThing 22 = .ok (.aload_n 0, 1) := by decide +kernel
theorem dX2_addThing_23 : decode cX2_addThing 23 = .ok (.getfield 19, 3) := by decide +kernel
theorem dX2_addThing_26 : decode cX2_addThing 26 = .ok (.iload 6, 2) := by decide +kernel
theorem dX2_addThing_28 : decode cX2_addThing 28 = .ok (.iload 4, 2) := by decide +kernel
theorem dX2_addThing_30 : decode cX2_addThing 30 = .ok (.iastore, 1) := by decide +kernel
theorem dX2_addThing_31 : decode cX2_addThing 31 = .ok (.aload_n 0, 1) := by decide +kernel
theorem dX2_addThing_32 : decode cX2_addThing 32 = .ok (.getfield 22, 3) := by decide +kernel
theorem dX2_addThing_35 : decode cX2_addThing 35 = .ok (.iload 6, 2) := by decide +kernel
theorem dX2_addThing_37 : decode cX2_addThing 37 = .ok (.iload 5, 2) := by decide +kernel
theorem dX2_addThing_39 : decode cX2_addThing 39 = .ok (.iastore, 1) := by decide +kernel
theorem dX2_addThing_40 : decode cX2_addThing 40 = .ok (.aload_n 0, 1) := by decide +kernel
theorem dX2_addThing_41 : decode cX2_addThing 41 = .ok (.getfield 25, 3) := by decide +kernel
theorem dX2_addThing_44 : decode cX2_addThing 44 = .ok (.iload 6, 2) := by decide +kernel
theorem dX2_addThing_46 : decode cX2_addThing 46 = .ok (.iload 5, 2) := by decide +kernel
theorem dX2_addThing_48 : decode cX2_addThing 48 = .ok (.iconst (-1), 1) := by decide +kernel
theorem dX2_addThing_49 : decode cX2_addThing 49 = .ok (.if_icmp .ne 7, 3) := by decide +kernel
theorem dX2_addThing_52 : decode cX2_addThing 52 = .ok (.iconst 0, 1) := by decide +kernel
theorem dX2_addThing_53 : decode cX2_addThing 53 = .ok (.goto 15, 3) := by decide +kernel
theorem dX2_addThing_56 : decode cX2_addThing 56 = .ok (.aload_n 0, 1) := by decide +kernel
theorem dX2_addThing_57 : decode cX2_addThing 57 = .ok (.getfield 25, 3) := by decide +kernel
theorem dX2_addThing_60 : decode cX2_addThing 60 = .ok (.iload 5, 2) := by decide +kernel
theorem dX2_addThing_62 : decode cX2_addThing 62 = .ok (.iaload, 1) := by decide +kernel
theorem dX2_addThing_63 : decode cX2_addThing 63 = .ok (.iconst 1, 1) := by decide +kernel
theorem dX2_addThing_64 : decode cX2_addThing 64 = .ok (.iload 5, 2) := by decide +kernel
theorem dX2_addThing_66 : decode cX2_addThing 66 = .ok (.ishl, 1) := by decide +kernel
theorem dX2_addThing_67 : decode cX2_addThing 67 = .ok (.ior, 1) := by decide +kernel
theorem dX2_addThing_68 : decode cX2_addThing 68 = .ok (.iastore, 1) := by decide +kernel
theorem dX2_addThing_69 : decode cX2_addThing 69 = .ok (.aload_n 0, 1) := by decide +kernel
theorem dX2_addThing_70 : decode cX2_addThing 70 = .ok (.getfield 28, 3) := by decide +kernel
theorem dX2_addThing_73 : decode cX2_addThing 73 = .ok (.iload 6, 2) := by decide +kernel
theorem dX2_addThing_75 : decode cX2_addThing 75 = .ok (.iconst 0, 1) := by decide +kernel
theorem dX2_addThing_76 : decode cX2_addThing 76 = .ok (.iastore, 1) := by decide +kernel
theorem dX2_addThing_77 : decode cX2_addThing 77 = .ok (.aload_n 0, 1) := by decide +kernel
theorem dX2_addThing_78 : decode cX2_addThing 78 = .ok (.getfield 31, 3) := by decide +kernel
theorem dX2_addThing_81 : decode cX2_addThing 81 = .ok (.iload 6, 2) := by decide +kernel
theorem dX2_addThing_83 : decode cX2_addThing 83 = .ok (.iconst 0, 1) := by decide +kernel
theorem dX2_addThing_84 : decode cX2_addThing 84 = .ok (.iastore, 1) := by decide +kernel
theorem dX2_addThing_85 : decode cX2_addThing 85 = .ok (.iconst 0, 1) := by decide +kernel
theorem dX2_addThing_86 : decode cX2_addThing 86 = .ok (.istore 7, 2) := by decide +kernel
theorem dX2_addThing_88 : decode cX2_addThing 88 = .ok (.iload 7, 2) := by decide +kernel
theorem dX2_addThing_90 : decode cX2_addThing 90 = .ok (.iload 6, 2) := by decide +kernel
theorem dX2_addThing_92 : decode cX2_addThing 92 = .ok (.if_icmp .ge 34, 3) := by decide +kernel
theorem dX2_addThing_95 : decode cX2_addThing 95 = .ok (.aload_n 0, 1) := by decide +kernel
theorem dX2_addThing_96 : decode cX2_addThing 96 = .ok (.getfield 28, 3) := by decide +kernel
theorem dX2_addThing_99 : decode cX2_addThing 99 = .ok (.iload 7, 2) := by decide +kernel
theorem dX2_addThing_101 : decode cX2_addThing 101 = .ok (.dup2, 1) := by decide +kernel
theorem dX2_addThing_102 : decode cX2_addThing 102 = .ok (.iaload, 1) := by decide +kernel
theorem dX2_addThing_103 : decode cX2_addThing 103 = .ok (.aload_n 0, 1) := by decide +kernel
theorem dX2_addThing_104 : decode cX2_addThing 104 = .ok (.getfield 25, 3) := by decide +kernel
theorem dX2_addThing_107 : decode cX2_addThing 107 = .ok (.iload 6, 2) := by decide +kernel
theorem dX2_addThing_109 : decode cX2_addThing 109 = .ok (.iaload, 1) := by decide +kernel
theorem dX2_addThing_110 : decode cX2_addThing 110 = .ok (.iload 7, 2) := by decide +kernel
theorem dX2_addThing_112 : decode cX2_addThing 112 = .ok (.invokestatic 68, 3) := by decide +kernel
theorem dX2_addThing_115 : decode cX2_addThing 115 = .ok (.iload 6, 2) := by decide +kernel
theorem dX2_addThing_117 : decode cX2_addThing 117 = .ok (.ishl, 1) := by decide +kernel
theorem dX2_addThing_118 : decode cX2_addThing 118 = .ok (.ior, 1) := by decide +kernel
theorem dX2_addThing_119 : decode cX2_addThing 119 = .ok (.iastore, 1) := by decide +kernel
theorem dX2_addThing_120 : decode cX2_addThing 120 = .ok (.iinc 7 1, 3) := by decide +kernel
theorem dX2_addThing_123 : decode cX2_addThing 123 = .ok (.goto (-35), 3) := by decide +kernel
theorem dX2_addThing_126 : decode cX2_addThing 126 = .ok (.aload_n 0, 1) := by decide +kernel
theorem dX2_addThing_127 : decode cX2_addThing 127 = .ok (.dup, 1) := by decide +kernel
theorem dX2_addThing_128 : decode cX2_addThing 128 = .ok (.getfield 52, 3) := by decide +kernel
theorem dX2_addThing_131 : decode cX2_addThing 131 = .ok (.iconst 1, 1) := by decide +kernel
theorem dX2_addThing_132 : decode cX2_addThing 132 = .ok (.iadd, 1) := by decide +kernel
theorem dX2_addThing_133 : decode cX2_addThing 133 = .ok (.putfield 52, 3) := by decide +kernel
theorem dX2_addThing_136 : decode cX2_addThing 136 = .ok (.return_, 1) := by decide +kernel
theorem dX2_addFault_0 : decode cX2_addFault 0 = .ok (.aload_n 0, 1) := by decide +kernel
theorem dX2_addFault_1 : decode cX2_addFault 1 = .ok (.getfield 56, 3) := by decide +kernel
theorem dX2_addFault_4 : decode cX2_addFault 4 = .ok (.istore 7, 2) := by decide +kernel
theorem dX2_addFault_6 : decode cX2_addFault 6 = .ok (.aload_n 0, 1) := by decide +kernel
theorem dX2_addFault_7 : decode cX2_addFault 7 = .ok (.getfield 34, 3) := by decide +kernel
theorem dX2_addFault_10 : decode cX2_addFault 10 = .ok (.iload 7, 2) := by decide +kernel
theorem dX2_addFault_12 : decode cX2_addFault 12 = .ok (.lload_n 1, 1) := by decide +kernel
theorem dX2_addFault_13 : decode cX2_addFault 13 = .ok (.lastore, 1) := by decide +kernel
theorem dX2_addFault_14 : decode cX2_addFault 14 = .ok (.aload_n 0, 1) := by decide +kernel
theorem dX2_addFault_15 : decode cX2_addFault 15 = .ok (.getfield 37, 3) := by decide +kernel
theorem dX2_addFault_18 : decode cX2_addFault 18 = .ok (.iload 7, 2) := by decide +kernel
theorem dX2_addFault_20 : decode cX2_addFault 20 = .ok (.iload_n 3, 1) := by decide +kernel
theorem dX2_addFault_21 : decode cX2_addFault 21 = .ok (.iastore, 1) := by decide +kernel
theorem dX2_addFault_22 : decode cX2_addFault 22 = .ok (.aload_n 0, 1) := by decide +kernel
theorem dX2_addFault_23 : decode cX2_addFault 23 = .ok (.getfield 40, 3) := by decide +kernel
theorem dX2_addFault_26 : decode cX2_addFault 26 = .ok (.iload 7, 2) := by decide +kernel
theorem dX2_addFault_28 : decode cX2_addFault 28 = .ok (.iload 4, 2) := by decide +kernel
theorem dX2_addFault_30 : decode cX2_addFault 30 = .ok (.iastore, 1) := by decide +kernel
theorem dX2_addFault_31 : decode cX2_addFault 31 = .ok (.aload_n 0, 1) := by decide +kernel
theorem dX2_addFault_32 : decode cX2_addFault 32 = .ok (.getfield 43, 3) := by decide +kernel
theorem dX2_addFault_35 : decode cX2_addFault 35 = .ok (.iload 7, 2) := by decide +kernel
theorem dX2_addFault_37 : decode cX2_addFault 37 = .ok (.iload 5, 2) := by decide +kernel
theorem dX2_addFault_39 : decode cX2_addFault 39 = .ok (.iastore, 1) := by decide +kernel
theorem dX2_addFault_40 : decode cX2_addFault 40 = .ok (.aload_n 0, 1) := by decide +kernel
theorem dX2_addFault_41 : decode cX2_addFault 41 = .ok (.getfield 46, 3) := by decide +kernel
theorem dX2_addFault_44 : decode cX2_addFault 44 = .ok (.iload 7, 2) := by decide +kernel
theorem dX2_addFault_46 : decode cX2_addFault 46 = .ok (.iload 6, 2) := by decide +kernel
theorem dX2_addFault_48 : decode cX2_addFault 48 = .ok (.iastore, 1) := by decide +kernel
theorem dX2_addFault_49 : decode cX2_addFault 49 = .ok (.aload_n 0, 1) := by decide +kernel
theorem dX2_addFault_50 : decode cX2_addFault 50 = .ok (.getfield 31, 3) := by decide +kernel
theorem dX2_addFault_53 : decode cX2_addFault 53 = .ok (.iload_n 3, 1) := by decide +kernel
theorem dX2_addFault_54 : decode cX2_addFault 54 = .ok (.dup2, 1) := by decide +kernel
theorem dX2_addFault_55 : decode cX2_addFault 55 = .ok (.iaload, 1) := by decide +kernel
theorem dX2_addFault_56 : decode cX2_addFault 56 = .ok (.iconst 1, 1) := by decide +kernel
theorem dX2_addFault_57 : decode cX2_addFault 57 = .ok (.iload 7, 2) := by decide +kernel
theorem dX2_addFault_59 : decode cX2_addFault 59 = .ok (.ishl, 1) := by decide +kernel
theorem dX2_addFault_60 : decode cX2_addFault 60 = .ok (.ior, 1) := by decide +kernel
theorem dX2_addFault_61 : decode cX2_addFault 61 = .ok (.iastore, 1) := by decide +kernel
theorem dX2_addFault_62 : decode cX2_addFault 62 = .ok (.aload_n 0, 1) := by decide +kernel
theorem dX2_addFault_63 : decode cX2_addFault 63 = .ok (.dup, 1) := by decide +kernel
theorem dX2_addFault_64 : decode cX2_addFault 64 = .ok (.getfield 56, 3) := by decide +kernel
theorem dX2_addFault_67 : decode cX2_addFault 67 = .ok (.iconst 1, 1) := by decide +kernel
theorem dX2_addFault_68 : decode cX2_addFault 68 = .ok (.iadd, 1) := by decide +kernel
theorem dX2_addFault_69 : decode cX2_addFault 69 = .ok (.putfield 56, 3) := by decide +kernel
theorem dX2_addFault_72 : decode cX2_addFault 72 = .ok (.return_, 1) := by decide +kernel
theorem dX2_addCure_0 : decode cX2_addCure 0 = .ok (.aload_n 0, 1) := by decide +kernel
theorem dX2_addCure_1 : decode cX2_addCure 1 = .ok (.getfield 49, 3) := by decide +kernel
theorem dX2_addCure_4 : decode cX2_addCure 4 = .ok (.iload_n 1, 1) := by decide +kernel
theorem dX2_addCure_5 : decode cX2_addCure 5 = .ok (.iconst 3, 1) := by decide +kernel
theorem dX2_addCure_6 : decode cX2_addCure 6 = .ok (.imul, 1) := by decide +kernel
theorem dX2_addCure_7 : decode cX2_addCure 7 = .ok (.iload_n 2, 1) := by decide +kernel
theorem dX2_addCure_8 : decode cX2_addCure 8 = .ok (.iadd, 1) := by decide +kernel
theorem dX2_addCure_9 : decode cX2_addCure 9 = .ok (.iload_n 3, 1) := by decide +kernel
theorem dX2_addCure_10 : decode cX2_addCure 10 = .ok (.iastore, 1) := by decide +kernel
theorem dX2_addCure_11 : decode cX2_addCure 11 = .ok (.aload_n 0, 1) := by decide +kernel
theorem dX2_addCure_12 : decode cX2_addCure 12 = .ok (.dup, 1) := by decide +kernel
theorem dX2_addCure_13 : decode cX2_addCure 13 = .ok (.getfield 59, 3) := by decide +kernel
theorem dX2_addCure_16 : decode cX2_addCure 16 = .ok (.iconst 1, 1) := by decide +kernel
theorem dX2_addCure_17 : decode cX2_addCure 17 = .ok (.iadd, 1) := by decide +kernel
theorem dX2_addCure_18 : decode cX2_addCure 18 = .ok (.putfield 59, 3) := by decide +kernel
theorem dX2_addCure_21 : decode cX2_addCure 21 = .ok (.return_, 1) := by decide +kernel
theorem dX2_cureOf_0 : decode cX2_cureOf 0 = .ok (.aload_n 0, 1) := by decide +kernel
theorem dX2_cureOf_1 : decode cX2_cureOf 1 = .ok (.getfield 49, 3) := by decide +kernel
theorem dX2_cureOf_4 : decode cX2_cureOf 4 = .ok (.iload_n 1, 1) := by decide +kernel
theorem dX2_cureOf_5 : decode cX2_cureOf 5 = .ok (.iconst 3, 1) := by decide +kernel
theorem dX2_cureOf_6 : decode cX2_cureOf 6 = .ok (.imul, 1) := by decide +kernel
theorem dX2_cureOf_7 : decode cX2_cureOf 7 = .ok (.iload_n 2, 1) := by decide +kernel
theorem dX2_cureOf_8 : decode cX2_cureOf 8 = .ok (.iadd, 1) := by decide +kernel
theorem dX2_cureOf_9 : decode cX2_cureOf 9 = .ok (.iaload, 1) := by decide +kernel
theorem dX2_cureOf_10 : decode cX2_cureOf 10 = .ok (.ireturn, 1) := by decide +kernel
theorem dX2_findThing_0 : decode cX2_findThing 0 = .ok (.iconst 0, 1) := by decide +kernel
theorem dX2_findThing_1 : decode cX2_findThing 1 = .ok (.istore_n 3, 1) := by decide +kernel
theorem dX2_findThing_2 : decode cX2_findThing 2 = .ok (.iload_n 3, 1) := by decide +kernel
theorem dX2_findThing_3 : decode cX2_findThing 3 = .ok (.aload_n 0, 1) := by decide +kernel
theorem dX2_findThing_4 : decode cX2_findThing 4 = .ok (.getfield 52, 3) := by decide +kernel
theorem dX2_findThing_7 : decode cX2_findThing 7 = .ok (.if_icmp .ge 22, 3) := by decide +kernel
theorem dX2_findThing_10 : decode cX2_findThing 10 = .ok (.aload_n 0, 1) := by decide +kernel
theorem dX2_findThing_11 : decode cX2_findThing 11 = .ok (.getfield 9, 3) := by decide +kernel
theorem dX2_findThing_14 : decode cX2_findThing 14 = .ok (.iload_n 3, 1) := by decide +kernel
theorem dX2_findThing_15 : decode cX2_findThing 15 = .ok (.laload, 1) := by decide +kernel
theorem dX2_findThing_16 : decode cX2_findThing 16 = .ok (.lload_n 1, 1) := by decide +kernel
theorem dX2_findThing_17 : decode cX2_findThing 17 = .ok (.lcmp, 1) := by decide +kernel
theorem dX2_findThing_18 : decode cX2_findThing 18 = .ok (.ifCond .ne 5, 3) := by decide +kernel
theorem dX2_findThing_21 : decode cX2_findThing 21 = .ok (.iload_n 3, 1) := by decide +kernel
theorem dX2_findThing_22 : decode cX2_findThing 22 = .ok (.ireturn, 1) := by decide +kernel
theorem dX2_findThing_23 : decode cX2_findThing 23 = .ok (.iinc 3 1, 3) := by decide +kernel
theorem dX2_findThing_26 : decode cX2_findThing 26 = .ok (.goto (-24), 3) := by decide +kernel
theorem dX2_findThing_29 : decode cX2_findThing 29 = .ok (.iconst (-1), 1) := by decide +kernel
theorem dX2_findThing_30 : decode cX2_findThing 30 = .ok (.ireturn, 1) := by decide +kernel
theorem dX2_findFault_0 : decode cX2_findFault 0 = .ok (.iconst 0, 1) := by decide +kernel
theorem dX2_findFault_1 : decode cX2_findFault 1 = .ok (.istore_n 3, 1) := by decide +kernel
theorem dX2_findFault_2 : decode cX2_findFault 2 = .ok (.iload_n 3, 1) := by decide +kernel
theorem dX2_findFault_3 : decode cX2_findFault 3 = .ok (.aload_n 0, 1) := by decide +kernel
theorem dX2_findFault_4 : decode cX2_findFault 4 = .ok (.getfield 56, 3) := by decide +kernel
theorem dX2_findFault_7 : decode cX2_findFault 7 = .ok (.if_icmp .ge 22, 3) := by decide +kernel
theorem dX2_findFault_10 : decode cX2_findFault 10 = .ok (.aload_n 0, 1) := by decide +kernel
theorem dX2_findFault_11 : decode cX2_findFault 11 = .ok (.getfield 34, 3) := by decide +kernel
theorem dX2_findFault_14 : decode cX2_findFault 14 = .ok (.iload_n 3, 1) := by decide +kernel
theorem dX2_findFault_15 : decode cX2_findFault 15 = .ok (.laload, 1) := by decide +kernel
theorem dX2_findFault_16 : decode cX2_findFault 16 = .ok (.lload_n 1, 1) := by decide +kernel
theorem dX2_findFault_17 : decode cX2_findFault 17 = .ok (.lcmp, 1) := by decide +kernel
theorem dX2_findFault_18 : decode cX2_findFault 18 = .ok (.ifCond .ne 5, 3) := by decide +kernel
theorem dX2_findFault_21 : decode cX2_findFault 21 = .ok (.iload_n 3, 1) := by decide +kernel
theorem dX2_findFault_22 : decode cX2_findFault 22 = .ok (.ireturn, 1) := by decide +kernel
theorem dX2_findFault_23 : decode cX2_findFault 23 = .ok (.iinc 3 1, 3) := by decide +kernel
theorem dX2_findFault_26 : decode cX2_findFault 26 = .ok (.goto (-24), 3) := by decide +kernel
theorem dX2_findFault_29 : decode cX2_findFault 29 = .ok (.iconst (-1), 1) := by decide +kernel
theorem dX2_findFault_30 : decode cX2_findFault 30 = .ok (.ireturn, 1) := by decide +kernel
theorem dX2_minutesTillUp_0 : decode cX2_minutesTillUp 0 = .ok (.iconst 0, 1) := by decide +kernel
theorem dX2_minutesTillUp_1 : decode cX2_minutesTillUp 1 = .ok (.istore_n 2, 1) := by decide +kernel
theorem dX2_minutesTillUp_2 : decode cX2_minutesTillUp 2 = .ok (.iconst 0, 1) := by decide +kernel
theorem dX2_minutesTillUp_3 : decode cX2_minutesTillUp 3 = .ok (.istore_n 3, 1) := by decide +kernel
theorem dX2_minutesTillUp_4 : decode cX2_minutesTillUp 4 = .ok (.iload_n 3, 1) := by decide +kernel
theorem dX2_minutesTillUp_5 : decode cX2_minutesTillUp 5 = .ok (.iload_n 1, 1) := by decide +kernel
theorem dX2_minutesTillUp_6 : decode cX2_minutesTillUp 6 = .ok (.if_icmp .gt 46, 3) := by decide +kernel
theorem dX2_minutesTillUp_9 : decode cX2_minutesTillUp 9 = .ok (.iload_n 3, 1) := by decide +kernel
theorem dX2_minutesTillUp_10 : decode cX2_minutesTillUp 10 = .ok (.iload_n 1, 1) := by decide +kernel
theorem dX2_minutesTillUp_11 : decode cX2_minutesTillUp 11 = .ok (.if_icmp .eq 17, 3) := by decide +kernel
theorem dX2_minutesTillUp_14 : decode cX2_minutesTillUp 14 = .ok (.aload_n 0, 1) := by decide +kernel
theorem dX2_minutesTillUp_15 : decode cX2_minutesTillUp 15 = .ok (.getfield 25, 3) := by decide +kernel
theorem dX2_minutesTillUp_18 : decode cX2_minutesTillUp 18 = .ok (.iload_n 1, 1) := by decide +kernel
theorem dX2_minutesTillUp_19 : decode cX2_minutesTillUp 19 = .ok (.iaload, 1) := by decide +kernel
theorem dX2_minutesTillUp_20 : decode cX2_minutesTillUp 20 = .ok (.iload_n 3, 1) := by decide +kernel
theorem dX2_minutesTillUp_21 : decode cX2_minutesTillUp 21 = .ok (.invokestatic 68, 3) := by decide +kernel
theorem dX2_minutesTillUp_24 : decode cX2_minutesTillUp 24 = .ok (.iconst 1, 1) := by decide +kernel
theorem dX2_minutesTillUp_25 : decode cX2_minutesTillUp 25 = .ok (.if_icmp .ne 21, 3) := by decide +kernel
theorem dX2_minutesTillUp_28 : decode cX2_minutesTillUp 28 = .ok (.iload_n 2, 1) := by decide +kernel
theorem dX2_minutesTillUp_29 : decode cX2_minutesTillUp 29 = .ok (.aload_n 0, 1) := by decide +kernel
theorem dX2_minutesTillUp_30 : decode cX2_minutesTillUp 30 = .ok (.getfield 19, 3) := by decide +kernel
theorem dX2_minutesTillUp_33 : decode cX2_minutesTillUp 33 = .ok (.iload_n 3, 1) := by decide +kernel
theorem dX2_minutesTillUp_34 : decode cX2_minutesTillUp 34 = .ok (.iaload, 1) := by decide +kernel
theorem dX2_minutesTillUp_35 : decode cX2_minutesTillUp 35 = .ok (.aload_n 0, 1) := by decide +kernel
theorem dX2_minutesTillUp_36 : decode cX2_minutesTillUp 36 = .ok (.getfield 15, 3) := by decide +kernel
theorem dX2_minutesTillUp_39 : decode cX2_minutesTillUp 39 = .ok (.iload_n 3, 1) := by decide +kernel
theorem dX2_minutesTillUp_40 : decode cX2_minutesTillUp 40 = .ok (.iaload, 1) := by decide +kernel
theorem dX2_minutesTillUp_41 : decode cX2_minutesTillUp 41 = .ok (.iadd, 1) := by decide +kernel
theorem dX2_minutesTillUp_42 : decode cX2_minutesTillUp 42 = .ok (.invokestatic 72, 3) := by decide +kernel
theorem dX2_minutesTillUp_45 : decode cX2_minutesTillUp 45 = .ok (.istore_n 2, 1) := by decide +kernel
theorem dX2_minutesTillUp_46 : decode cX2_minutesTillUp 46 = .ok (.iinc 3 1, 3) := by decide +kernel
theorem dX2_minutesTillUp_49 : decode cX2_minutesTillUp 49 = .ok (.goto (-45), 3) := by decide +kernel
theorem dX2_minutesTillUp_52 : decode cX2_minutesTillUp 52 = .ok (.iload_n 2, 1) := by decide +kernel
theorem dX2_minutesTillUp_53 : decode cX2_minutesTillUp 53 = .ok (.ireturn, 1) := by decide +kernel
theorem dX2_faultsShowing_0 : decode cX2_faultsShowing 0 = .ok (.iconst 0, 1) := by decide +kernel
theorem dX2_faultsShowing_1 : decode cX2_faultsShowing 1 = .ok (.istore_n 3, 1) := by decide +kernel
theorem dX2_faultsShowing_2 : decode cX2_faultsShowing 2 = .ok (.iconst 0, 1) := by decide +kernel
theorem dX2_faultsShowing_3 : decode cX2_faultsShowing 3 = .ok (.istore 4, 2) := by decide +kernel
theorem dX2_faultsShowing_5 : decode cX2_faultsShowing 5 = .ok (.iload 4, 2) := by decide +kernel
theorem dX2_faultsShowing_7 : decode cX2_faultsShowing 7 = .ok (.aload_n 0, 1) := by decide +kernel
theorem dX2_faultsShowing_8 : decode cX2_faultsShowing 8 = .ok (.getfield 56, 3) := by decide +kernel
theorem dX2_faultsShowing_11 : decode cX2_faultsShowing 11 = .ok (.if_icmp .ge 47, 3) := by decide +kernel
theorem dX2_faultsShowing_14 : decode cX2_faultsShowing 14 = .ok (.aload_n 0, 1) := by decide +kernel
theorem dX2_faultsShowing_15 : decode cX2_faultsShowing 15 = .ok (.getfield 37, 3) := by decide +kernel
theorem dX2_faultsShowing_18 : decode cX2_faultsShowing 18 = .ok (.iload 4, 2) := by decide +kernel
theorem dX2_faultsShowing_20 : decode cX2_faultsShowing 20 = .ok (.iaload, 1) := by decide +kernel
theorem dX2_faultsShowing_21 : decode cX2_faultsShowing 21 = .ok (.iload_n 1, 1) := by decide +kernel
theorem dX2_faultsShowing_22 : decode cX2_faultsShowing 22 = .ok (.if_icmp .ne 13, 3) := by decide +kernel
theorem dX2_faultsShowing_25 : decode cX2_faultsShowing 25 = .ok (.aload_n 0, 1) := by decide +kernel
theorem dX2_faultsShowing_26 : decode cX2_faultsShowing 26 = .ok (.getfield 46, 3) := by decide +kernel
theorem dX2_faultsShowing_29 : decode cX2_faultsShowing 29 = .ok (.iload 4, 2) := by decide +kernel
theorem dX2_faultsShowing_31 : decode cX2_faultsShowing 31 = .ok (.iaload, 1) := by decide +kernel
theorem dX2_faultsShowing_32 : decode cX2_faultsShowing 32 = .ok (.goto 5, 3) := by decide +kernel
theorem dX2_faultsShowing_35 : decode cX2_faultsShowing 35 = .ok (.bipush 18, 2) := by decide +kernel
theorem dX2_faultsShowing_37 : decode cX2_faultsShowing 37 = .ok (.istore 5, 2) := by decide +kernel
theorem dX2_faultsShowing_39 : decode cX2_faultsShowing 39 = .ok (.iload 5, 2) := by decide +kernel
theorem dX2_faultsShowing_41 : decode cX2_faultsShowing 41 = .ok (.iload_n 2, 1) := by decide +kernel
theorem dX2_faultsShowing_42 : decode cX2_faultsShowing 42 = .ok (.if_icmp .ne 10, 3) := by decide +kernel
theorem dX2_faultsShowing_45 : decode cX2_faultsShowing 45 = .ok (.iload_n 3, 1) := by decide +kernel
theorem dX2_faultsShowing_46 : decode cX2_faultsShowing 46 = .ok (.iconst 1, 1) := by decide +kernel
theorem dX2_faultsShowing_47 : decode cX2_faultsShowing 47 = .ok (.iload 4, 2) := by decide +kernel
theorem dX2_faultsShowing_49 : decode cX2_faultsShowing 49 = .ok (.ishl, 1) := by decide +kernel
theorem dX2_faultsShowing_50 : decode cX2_faultsShowing 50 = .ok (.ior, 1) := by decide +kernel
theorem dX2_faultsShowing_51 : decode cX2_faultsShowing 51 = .ok (.istore_n 3, 1) := by decide +kernel
theorem dX2_faultsShowing_52 : decode cX2_faultsShowing 52 = .ok (.iinc 4 1, 3) := by decide +kernel
theorem dX2_faultsShowing_55 : decode cX2_faultsShowing 55 = .ok (.goto (-50), 3) := by decide +kernel
theorem dX2_faultsShowing_58 : decode cX2_faultsShowing 58 = .ok (.iload_n 3, 1) := by decide +kernel
theorem dX2_faultsShowing_59 : decode cX2_faultsShowing 59 = .ok (.ireturn, 1) := by decide +kernel
theorem dX2_lookingLike_0 : decode cX2_lookingLike 0 = .ok (.aload_n 0, 1) := by decide +kernel
theorem dX2_lookingLike_1 : decode cX2_lookingLike 1 = .ok (.getfield 31, 3) := by decide +kernel
theorem dX2_lookingLike_4 : decode cX2_lookingLike 4 = .ok (.aload_n 0, 1) := by decide +kernel
theorem dX2_lookingLike_5 : decode cX2_lookingLike 5 = .ok (.getfield 37, 3) := by decide +kernel
theorem dX2_lookingLike_8 : decode cX2_lookingLike 8 = .ok (.iload_n 1, 1) := by decide +kernel
theorem dX2_lookingLike_9 : decode cX2_lookingLike 9 = .ok (.iaload, 1) := by decide +kernel
theorem dX2_lookingLike_10 : decode cX2_lookingLike 10 = .ok (.iaload, 1) := by decide +kernel
theorem dX2_lookingLike_11 : decode cX2_lookingLike 11 = .ok (.aload_n 0, 1) := by decide +kernel
theorem dX2_lookingLike_12 : decode cX2_lookingLike 12 = .ok (.aload_n 0, 1) := by decide +kernel
theorem dX2_lookingLike_13 : decode cX2_lookingLike 13 = .ok (.getfield 37, 3) := by decide +kernel
theorem dX2_lookingLike_16 : decode cX2_lookingLike 16 = .ok (.iload_n 1, 1) := by decide +kernel
theorem dX2_lookingLike_17 : decode cX2_lookingLike 17 = .ok (.iaload, 1) := by decide +kernel
theorem dX2_lookingLike_18 : decode cX2_lookingLike 18 = .ok (.aload_n 0, 1) := by decide +kernel
theorem dX2_lookingLike_19 : decode cX2_lookingLike 19 = .ok (.getfield 46, 3) := by decide +kernel
theorem dX2_lookingLike_22 : decode cX2_lookingLike 22 = .ok (.iload_n 1, 1) := by decide +kernel
theorem dX2_lookingLike_23 : decode cX2_lookingLike 23 = .ok (.iaload, 1) := by decide +kernel
theorem dX2_lookingLike_24 : decode cX2_lookingLike 24 = .ok (.invokevirtual 77, 3) := by decide +kernel
theorem dX2_lookingLike_27 : decode cX2_lookingLike 27 = .ok (.iand, 1) := by decide +kernel
theorem dX2_lookingLike_28 : decode cX2_lookingLike 28 = .ok (.ireturn, 1) := by decide +kernel
theorem dX2_mostLeft_0 : decode cX2_mostLeft 0 = .ok (.iload_n 2, 1) := by decide +kernel
theorem dX2_mostLeft_1 : decode cX2_mostLeft 1 = .ok (.aload_n 0, 1) := by decide +kernel
theorem dX2_mostLeft_2 : decode cX2_mostLeft 2 = .ok (.getfield 31, 3) := by decide +kernel
theorem dX2_mostLeft_5 : decode cX2_mostLeft 5 = .ok (.iload_n 1, 1) := by decide +kernel
theorem dX2_mostLeft_6 : decode cX2_mostLeft 6 = .ok (.iaload, 1) := by decide +kernel
theorem dX2_mostLeft_7 : decode cX2_mostLeft 7 = .ok (.iconst (-1), 1) := by decide +kernel
theorem dX2_mostLeft_8 : decode cX2_mostLeft 8 = .ok (.ixor, 1) := by decide +kernel
theorem dX2_mostLeft_9 : decode cX2_mostLeft 9 = .ok (.iand, 1) := by decide +kernel
theorem dX2_mostLeft_10 : decode cX2_mostLeft 10 = .ok (.invokestatic 80, 3) := by decide +kernel
theorem dX2_mostLeft_13 : decode cX2_mostLeft 13 = .ok (.istore_n 3, 1) := by decide +kernel
theorem dX2_mostLeft_14 : decode cX2_mostLeft 14 = .ok (.iconst 0, 1) := by decide +kernel
theorem dX2_mostLeft_15 : decode cX2_mostLeft 15 = .ok (.istore 4, 2) := by decide +kernel
theorem dX2_mostLeft_17 : decode cX2_mostLeft 17 = .ok (.iload 4, 2) := by decide +kernel
theorem dX2_mostLeft_19 : decode cX2_mostLeft 19 = .ok (.aload_n 0, 1) := by decide +kernel
theorem dX2_mostLeft_20 : decode cX2_mostLeft 20 = .ok (.getfield 56, 3) := by decide +kernel
theorem dX2_mostLeft_23 : decode cX2_mostLeft 23 = .ok (.if_icmp .ge 42, 3) := by decide +kernel
theorem dX2_mostLeft_26 : decode cX2_mostLeft 26 = .ok (.iload_n 2, 1) := by decide +kernel
theorem dX2_mostLeft_27 : decode cX2_mostLeft 27 = .ok (.aload_n 0, 1) := by decide +kernel
theorem dX2_mostLeft_28 : decode cX2_mostLeft 28 = .ok (.getfield 31, 3) := by decide +kernel
theorem dX2_mostLeft_31 : decode cX2_mostLeft 31 = .ok (.iload_n 1, 1) := by decide +kernel
theorem dX2_mostLeft_32 : decode cX2_mostLeft 32 = .ok (.iaload, 1) := by decide +kernel
theorem dX2_mostLeft_33 : decode cX2_mostLeft 33 = .ok (.iand, 1) := by decide +kernel
theorem dX2_mostLeft_34 : decode cX2_mostLeft 34 = .ok (.iload 4, 2) := by decide +kernel
theorem dX2_mostLeft_36 : decode cX2_mostLeft 36 = .ok (.invokestatic 68, 3) := by decide +kernel
theorem dX2_mostLeft_39 : decode cX2_mostLeft 39 = .ok (.iconst 1, 1) := by decide +kernel
theorem dX2_mostLeft_40 : decode cX2_mostLeft 40 = .ok (.if_icmp .ne 19, 3) := by decide +kernel
theorem dX2_mostLeft_43 : decode cX2_mostLeft 43 = .ok (.iload_n 3, 1) := by decide +kernel
theorem dX2_mostLeft_44 : decode cX2_mostLeft 44 = .ok (.iload_n 2, 1) := by decide +kernel
theorem dX2_mostLeft_45 : decode cX2_mostLeft 45 = .ok (.aload_n 0, 1) := by decide +kernel
theorem dX2_mostLeft_46 : decode cX2_mostLeft 46 = .ok (.iload 4, 2) := by decide +kernel
theorem dX2_mostLeft_48 : decode cX2_mostLeft 48 = .ok (.invokevirtual 86, 3) := by decide +kernel
theorem dX2_mostLeft_51 : decode cX2_mostLeft 51 = .ok (.iand, 1) := by decide +kernel
theorem dX2_mostLeft_52 : decode cX2_mostLeft 52 = .ok (.invokestatic 80, 3) := by decide +kernel
theorem dX2_mostLeft_55 : decode cX2_mostLeft 55 = .ok (.invokestatic 72, 3) := by decide +kernel
theorem dX2_mostLeft_58 : decode cX2_mostLeft 58 = .ok (.istore_n 3, 1) := by decide +kernel
theorem dX2_mostLeft_59 : decode cX2_mostLeft 59 = .ok (.iinc 4 1, 3) := by decide +kernel
theorem dX2_mostLeft_62 : decode cX2_mostLeft 62 = .ok (.goto (-45), 3) := by decide +kernel
theorem dX2_mostLeft_65 : decode cX2_mostLeft 65 = .ok (.iload_n 3, 1) := by decide +kernel
theorem dX2_mostLeft_66 : decode cX2_mostLeft 66 = .ok (.ireturn, 1) := by decide +kernel
theorem dX3_init_0 : decode cX3_init 0 = .ok (.aload_n 0, 1) := by decide +kernel
theorem dX3_init_1 : decode cX3_init 1 = .ok (.invokespecial 3, 3) := by decide +kernel
theorem dX3_init_4 : decode cX3_init 4 = .ok (.aload_n 0, 1) := by decide +kernel
theorem dX3_init_5 : decode cX3_init 5 = .ok (.new 9, 3) := by decide +kernel
theorem dX3_init_8 : decode cX3_init 8 = .ok (.dup, 1) := by decide +kernel
theorem dX3_init_9 : decode cX3_init 9 = .ok (.invokespecial 11, 3) := by decide +kernel
theorem dX3_init_12 : decode cX3_init 12 = .ok (.putfield 12, 3) := by decide +kernel
theorem dX3_init_15 : decode cX3_init 15 = .ok (.aload_n 0, 1) := by decide +kernel
theorem dX3_init_16 : decode cX3_init 16 = .ok (.new 18, 3) := by decide +kernel
theorem dX3_init_19 : decode cX3_init 19 = .ok (.dup, 1) := by decide +kernel
theorem dX3_init_20 : decode cX3_init 20 = .ok (.invokespecial 20, 3) := by decide +kernel
theorem dX3_init_23 : decode cX3_init 23 = .ok (.putfield 21, 3) := by decide +kernel
theorem dX3_init_26 : decode cX3_init 26 = .ok (.return_, 1) := by decide +kernel
theorem dX3_readHouse_0 : decode cX3_readHouse 0 = .ok (.aload_n 0, 1) := by decide +kernel
theorem dX3_readHouse_1 : decode cX3_readHouse 1 = .ok (.getfield 21, 3) := by decide +kernel
theorem dX3_readHouse_4 : decode cX3_readHouse 4 = .ok (.invokevirtual 25, 3) := by decide +kernel
theorem dX3_readHouse_7 : decode cX3_readHouse 7 = .ok (.aload_n 0, 1) := by decide +kernel
theorem dX3_readHouse_8 : decode cX3_readHouse 8 = .ok (.getfield 12, 3) := by decide +kernel
theorem dX3_readHouse_11 : decode cX3_readHouse 11 = .ok (.aload_n 1, 1) := by decide +kernel
theorem dX3_readHouse_12 : decode cX3_readHouse 12 = .ok (.sipush 900, 3) := by decide +kernel
theorem dX3_readHouse_15 : decode cX3_readHouse 15 = .ok (.invokevirtual 28, 3) := by decide +kernel
theorem dX3_readHouse_18 : decode cX3_readHouse 18 = .ok (.aload_n 0, 1) := by decide +kernel
theorem dX3_readHouse_19 : decode cX3_readHouse 19 = .ok (.iconst 0, 1) := by decide +kernel
theorem dX3_readHouse_20 : decode cX3_readHouse 20 = .ok (.putfield 32, 3) := by decide +kernel
theorem dX3_readHouse_23 : decode cX3_readHouse 23 = .ok (.bipush 31, 2) := by decide +kernel
theorem dX3_readHouse_25 : decode cX3_readHouse 25 = .ok (.istore_n 2, 1) := by decide +kernel
theorem dX3_readHouse_26 : decode cX3_readHouse 26 = .ok (.aload_n 0, 1) := by decide +kernel
theorem dX3_readHouse_27 : decode cX3_readHouse 27 = .ok (.getfield 32, 3) := by decide +kernel
theorem dX3_readHouse_30 : decode cX3_readHouse 30 = .ok (.iload_n 2, 1) := by decide +kernel
theorem dX3_readHouse_31 : decode cX3_readHouse 31 = .ok (.if_icmp .ge 35, 3) := by decide +kernel
theorem dX3_readHouse_34 : decode cX3_readHouse 34 = .ok (.aload_n 0, 1) := by decide +kernel
theorem dX3_readHouse_35 : decode cX3_readHouse 35 = .ok (.getfield 12, 3) := by decide +kernel
theorem dX3_readHouse_38 : decode cX3_readHouse 38 = .ok (.getfield 36, 3) := by decide +kernel
theorem dX3_readHouse_41 : decode cX3_readHouse 41 = .ok (.ifCond .eq 25, 3) := by decide +kernel
theorem dX3_readHouse_44 : decode cX3_readHouse 44 = .ok (.aload_n 0, 1) := by decide +kernel
theorem dX3_readHouse_45 : decode cX3_readHouse 45 = .ok (.invokevirtual 39, 3) := by decide +kernel
theorem dX3_readHouse_48 : decode cX3_readHouse 48 = .ok (.ifCond .ne 5, 3) := by decide +kernel
theorem dX3_readHouse_51 : decode cX3_readHouse 51 = .ok (.iconst 0, 1) := by decide +kernel
theorem dX3_readHouse_52 : decode cX3_readHouse 52 = .ok (.ireturn, 1) := by decide +kernel
theorem dX3_readHouse_53 : decode cX3_readHouse 53 = .ok (.aload_n 0, 1) := by decide +kernel
theorem dX3_readHouse_54 : decode cX3_readHouse 54 = .ok (.dup, 1) := by decide +kernel
theorem dX3_readHouse_55 : decode cX3_readHouse 55 = .ok (.getfield 32, 3) := by decide +kernel
theorem dX3_readHouse_58 : decode cX3_readHouse 58 = .ok (.iconst 1, 1) := by decide +kernel
theorem dX3_readHouse_59 : decode cX3_readHouse 59 = .ok (.iadd, 1) := by decide +kernel
theorem dX3_readHouse_60 : decode cX3_readHouse 60 = .ok (.putfield 32, 3) := by decide +kernel
theorem dX3_readHouse_63 : decode cX3_readHouse 63 = .ok (.goto (-37), 3) := by decide +kernel
theorem dX3_readHouse_66 : decode cX3_readHouse 66 = .ok (.iconst 1, 1) := by decide +kernel
theorem dX3_readHouse_67 : decode cX3_readHouse 67 = .ok (.ireturn, 1) := by decide +kernel
theorem dX3_readLine_0 : decode cX3_readLine 0 = .ok (.aload_n 0, 1) := by decide +kernel
theorem dX3_readLine_1 : decode cX3_readLine 1 = .ok (.getfield 12, 3) := by decide +kernel
theorem dX3_readLine_4 : decode cX3_readLine 4 = .ok (.getfield 43, 3) := by decide +kernel
theorem dX3_readLine_7 : decode cX3_readLine 7 = .ok (.tableswitch 44 0 3 #[29, 44, 34, 39], 29) := by decide +kernel
theorem dX3_readLine_36 : decode cX3_readLine 36 = .ok (.aload_n 0, 1) := by decide +kernel
theorem dX3_readLine_37 : decode cX3_readLine 37 = .ok (.invokevirtual 46, 3) := by decide +kernel
theorem dX3_readLine_40 : decode cX3_readLine 40 = .ok (.ireturn, 1) := by decide +kernel
theorem dX3_readLine_41 : decode cX3_readLine 41 = .ok (.aload_n 0, 1) := by decide +kernel
theorem dX3_readLine_42 : decode cX3_readLine 42 = .ok (.invokevirtual 49, 3) := by decide +kernel
theorem dX3_readLine_45 : decode cX3_readLine 45 = .ok (.ireturn, 1) := by decide +kernel
theorem dX3_readLine_46 : decode cX3_readLine 46 = .ok (.aload_n 0, 1) := by decide +kernel
theorem dX3_readLine_47 : decode cX3_readLine 47 = .ok (.invokevirtual 52, 3) := by decide +kernel
theorem dX3_readLine_50 : decode cX3_readLine 50 = .ok (.ireturn, 1) := by decide +kernel
theorem dX3_readLine_51 : decode cX3_readLine 51 = .ok (.aload_n 0, 1) := by decide +kernel
theorem dX3_readLine_52 : decode cX3_readLine 52 = .ok (.getfield 12, 3) := by decide +kernel
theorem dX3_readLine_55 : decode cX3_readLine 55 = .ok (.iconst 1, 1) := by decide +kernel
theorem dX3_readLine_56 : decode cX3_readLine 56 = .ok (.invokevirtual 55, 3) := by decide +kernel
theorem dX3_readLine_59 : decode cX3_readLine 59 = .ok (.ireturn, 1) := by decide +kernel
theorem dX3_readThing_0 : decode cX3_readThing 0 = .ok (.aload_n 0, 1) := by decide +kernel
theorem dX3_readThing_1 : decode cX3_readThing 1 = .ok (.getfield 21, 3) := by decide +kernel
theorem dX3_readThing_4 : decode cX3_readThing 4 = .ok (.getfield 59, 3) := by decide +kernel
theorem dX3_readThing_7 : decode cX3_readThing 7 = .ok (.bipush 6, 2) := by decide +kernel
theorem dX3_readThing_9 : decode cX3_readThing 9 = .ok (.if_icmp .lt 12, 3) := by decide +kernel
theorem dX3_readThing_12 : decode cX3_readThing 12 = .ok (.aload_n 0, 1) := by decide +kernel
theorem dX3_readThing_13 : decode cX3_readThing 13 = .ok (.getfield 12, 3) := by decide +kernel
theorem dX3_readThing_16 : decode cX3_readThing 16 = .ok (.iconst 4, 1) := by decide +kernel
theorem dX3_readThing_17 : decode cX3_readThing 17 = .ok (.invokevirtual 55, 3) := by decide +kernel
theorem dX3_readThing_20 : decode cX3_readThing 20 = .ok (.ireturn, 1) := by decide +kernel
theorem dX3_readThing_21 : decode cX3_readThing 21 = .ok (.aload_n 0, 1) := by decide +kernel
theorem dX3_readThing_22 : decode cX3_readThing 22 = .ok (.getfield 12, 3) := by decide +kernel
theorem dX3_readThing_25 : decode cX3_readThing 25 = .ok (.invokevirtual 62, 3) := by decide +kernel
theorem dX3_readThing_28 : decode cX3_readThing 28 = .ok (.aload_n 0, 1) := by decide +kernel
theorem dX3_readThing_29 : decode cX3_readThing 29 = .ok (.invokevirtual 65, 3) := by decide +kernel
theorem dX3_readThing_32 : decode cX3_readThing 32 = .ok (.ifCond .ne 5, 3) := by decide +kernel
theorem dX3_readThing_35 : decode cX3_readThing 35 = .ok (.iconst 0, 1) := by decide +kernel
theorem dX3_readThing_36 : decode cX3_readThing 36 = .ok (.ireturn, 1) := by decide +kernel
theorem dX3_readThing_37 : decode cX3_readThing 37 = .ok (.aload_n 0, 1) := by decide +kernel
theorem dX3_readThing_38 : decode cX3_readThing 38 = .ok (.getfield 12, 3) := by decide +kernel
theorem dX3_readThing_41 : decode cX3_readThing 41 = .ok (.getfield 68, 3) := by decide +kernel
theorem dX3_readThing_44 : decode cX3_readThing 44 = .ok (.lstore_n 1, 1) := by decide +kernel
theorem dX3_readThing_45 : decode cX3_readThing 45 = .ok (.aload_n 0, 1) := by decide +kernel
theorem dX3_readThing_46 : decode cX3_readThing 46 = .ok (.getfield 12, 3) := by decide +kernel
theorem dX3_readThing_49 : decode cX3_readThing 49 = .ok (.invokevirtual 62, 3) := by decide +kernel
theorem dX3_readThing_52 : decode cX3_readThing 52 = .ok (.aload_n 0, 1) := by decide +kernel
theorem dX3_readThing_53 : decode cX3_readThing 53 = .ok (.getfield 12, 3) := by decide +kernel
