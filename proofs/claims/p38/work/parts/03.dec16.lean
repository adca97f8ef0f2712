theorem dX12_readCures_79 : decode cX12_readCures 79 = .ok (.iload_n 1, 1) := by decide +kernel
theorem dX12_readCures_80 : decode cX12_readCures 80 = .ok (.iaload, 1) := by decide +kernel
theorem dX12_readCures_81 : decode cX12_readCures 81 = .ok (.ifCond .le 9, 3) := by decide +kernel
theorem dX12_readCures_84 : decode cX12_readCures 84 = .ok (.aload_n 0, 1) := by decide +kernel
theorem dX12_readCures_85 : decode cX12_readCures 85 = .ok (.iconst 3, 1) := by decide +kernel
theorem dX12_readCures_86 : decode cX12_readCures 86 = .ok (.invokevirtual 137, 3) := by decide +kernel
theorem dX12_readCures_89 : decode cX12_readCures 89 = .ok (.ireturn, 1) := by decide +kernel
theorem dX12_readCures_90 : decode cX12_readCures 90 = .ok (.aload_n 0, 1) := by decide +kernel
theorem dX12_readCures_91 : decode cX12_readCures 91 = .ok (.invokevirtual 147, 3) := by decide +kernel
theorem dX12_readCures_94 : decode cX12_readCures 94 = .ok (.aload_n 0, 1) := by decide +kernel
theorem dX12_readCures_95 : decode cX12_readCures 95 = .ok (.iload_n 1, 1) := by decide +kernel
theorem dX12_readCures_96 : decode cX12_readCures 96 = .ok (.aload_n 0, 1) := by decide +kernel
theorem dX12_readCures_97 : decode cX12_readCures 97 = .ok (.iconst 1, 1) := by decide +kernel
theorem dX12_readCures_98 : decode cX12_readCures 98 = .ok (.bipush 12, 2) := by decide +kernel
theorem dX12_readCures_100 : decode cX12_readCures 100 = .ok (.invokevirtual 172, 3) := by decide +kernel
theorem dX12_readCures_103 : decode cX12_readCures 103 = .ok (.invokevirtual 175, 3) := by decide +kernel
theorem dX12_readCures_106 : decode cX12_readCures 106 = .ok (.ifCond .ne 5, 3) := by decide +kernel
theorem dX12_readCures_109 : decode cX12_readCures 109 = .ok (.iconst 0, 1) := by decide +kernel
theorem dX12_readCures_110 : decode cX12_readCures 110 = .ok (.ireturn, 1) := by decide +kernel
theorem dX12_readCures_111 : decode cX12_readCures 111 = .ok (.aload_n 0, 1) := by decide +kernel
theorem dX12_readCures_112 : decode cX12_readCures 112 = .ok (.getfield 16, 3) := by decide +kernel
theorem dX12_readCures_115 : decode cX12_readCures 115 = .ok (.iconst 2, 1) := by decide +kernel
theorem dX12_readCures_116 : decode cX12_readCures 116 = .ok (.dup2, 1) := by decide +kernel
theorem dX12_readCures_117 : decode cX12_readCures 117 = .ok (.iaload, 1) := by decide +kernel
theorem dX12_readCures_118 : decode cX12_readCures 118 = .ok (.iconst 1, 1) := by decide +kernel
theorem dX12_readCures_119 : decode cX12_readCures 119 = .ok (.iadd, 1) := by decide +kernel
theorem dX12_readCures_120 : decode cX12_readCures 120 = .ok (.iastore, 1) := by decide +kernel
theorem dX12_readCures_121 : decode cX12_readCures 121 = .ok (.iconst 1, 1) := by decide +kernel
theorem dX12_readCures_122 : decode cX12_readCures 122 = .ok (.ireturn, 1) := by decide +kernel
theorem dX12_readLine_0 : decode cX12_readLine 0 = .ok (.aload_n 0, 1) := by decide +kernel
theorem dX12_readLine_1 : decode cX12_readLine 1 = .ok (.iconst 0, 1) := by decide +kernel
theorem dX12_readLine_2 : decode cX12_readLine 2 = .ok (.invokevirtual 179, 3) := by decide +kernel
theorem dX12_readLine_5 : decode cX12_readLine 5 = .ok (.ifCond .eq 8, 3) := by decide +kernel
theorem dX12_readLine_8 : decode cX12_readLine 8 = .ok (.aload_n 0, 1) := by decide +kernel
theorem dX12_readLine_9 : decode cX12_readLine 9 = .ok (.invokevirtual 185, 3) := by decide +kernel
theorem dX12_readLine_12 : decode cX12_readLine 12 = .ok (.ireturn, 1) := by decide +kernel
theorem dX12_readLine_13 : decode cX12_readLine 13 = .ok (.aload_n 0, 1) := by decide +kernel
theorem dX12_readLine_14 : decode cX12_readLine 14 = .ok (.iconst 1, 1) := by decide +kernel
theorem dX12_readLine_15 : decode cX12_readLine 15 = .ok (.invokevirtual 179, 3) := by decide +kernel
theorem dX12_readLine_18 : decode cX12_readLine 18 = .ok (.ifCond .eq 8, 3) := by decide +kernel
theorem dX12_readLine_21 : decode cX12_readLine 21 = .ok (.aload_n 0, 1) := by decide +kernel
theorem dX12_readLine_22 : decode cX12_readLine 22 = .ok (.invokevirtual 188, 3) := by decide +kernel
theorem dX12_readLine_25 : decode cX12_readLine 25 = .ok (.ireturn, 1) := by decide +kernel
theorem dX12_readLine_26 : decode cX12_readLine 26 = .ok (.aload_n 0, 1) := by decide +kernel
theorem dX12_readLine_27 : decode cX12_readLine 27 = .ok (.iconst 2, 1) := by decide +kernel
theorem dX12_readLine_28 : decode cX12_readLine 28 = .ok (.invokevirtual 179, 3) := by decide +kernel
theorem dX12_readLine_31 : decode cX12_readLine 31 = .ok (.ifCond .eq 10, 3) := by decide +kernel
theorem dX12_readLine_34 : decode cX12_readLine 34 = .ok (.aload_n 0, 1) := by decide +kernel
theorem dX12_readLine_35 : decode cX12_readLine 35 = .ok (.invokevirtual 191, 3) := by decide +kernel
theorem dX12_readLine_38 : decode cX12_readLine 38 = .ok (.goto 8, 3) := by decide +kernel
theorem dX12_readLine_41 : decode cX12_readLine 41 = .ok (.aload_n 0, 1) := by decide +kernel
theorem dX12_readLine_42 : decode cX12_readLine 42 = .ok (.iconst 1, 1) := by decide +kernel
theorem dX12_readLine_43 : decode cX12_readLine 43 = .ok (.invokevirtual 137, 3) := by decide +kernel
theorem dX12_readLine_46 : decode cX12_readLine 46 = .ok (.ireturn, 1) := by decide +kernel
theorem dX12_house_0 : decode cX12_house 0 = .ok (.aload_n 0, 1) := by decide +kernel
theorem dX12_house_1 : decode cX12_house 1 = .ok (.sipush 900, 3) := by decide +kernel
theorem dX12_house_4 : decode cX12_house 4 = .ok (.invokevirtual 194, 3) := by decide +kernel
theorem dX12_house_7 : decode cX12_house 7 = .ok (.iconst 0, 1) := by decide +kernel
theorem dX12_house_8 : decode cX12_house 8 = .ok (.istore_n 1, 1) := by decide +kernel
theorem dX12_house_9 : decode cX12_house 9 = .ok (.iload_n 1, 1) := by decide +kernel
theorem dX12_house_10 : decode cX12_house 10 = .ok (.bipush 77, 2) := by decide +kernel
theorem dX12_house_12 : decode cX12_house 12 = .ok (.if_icmp .ge 16, 3) := by decide +kernel
theorem dX12_house_15 : decode cX12_house 15 = .ok (.aload_n 0, 1) := by decide +kernel
theorem dX12_house_16 : decode cX12_house 16 = .ok (.getfield 16, 3) := by decide +kernel
theorem dX12_house_19 : decode cX12_house 19 = .ok (.iload_n 1, 1) := by decide +kernel
theorem dX12_house_20 : decode cX12_house 20 = .ok (.iconst 0, 1) := by decide +kernel
theorem dX12_house_21 : decode cX12_house 21 = .ok (.iastore, 1) := by decide +kernel
theorem dX12_house_22 : decode cX12_house 22 = .ok (.iinc 1 1, 3) := by decide +kernel
theorem dX12_house_25 : decode cX12_house 25 = .ok (.goto (-16), 3) := by decide +kernel
theorem dX12_house_28 : decode cX12_house 28 = .ok (.iconst 0, 1) := by decide +kernel
theorem dX12_house_29 : decode cX12_house 29 = .ok (.istore_n 1, 1) := by decide +kernel
theorem dX12_house_30 : decode cX12_house 30 = .ok (.aload_n 0, 1) := by decide +kernel
theorem dX12_house_31 : decode cX12_house 31 = .ok (.getfield 95, 3) := by decide +kernel
theorem dX12_house_34 : decode cX12_house 34 = .ok (.ifCond .eq 30, 3) := by decide +kernel
theorem dX12_house_37 : decode cX12_house 37 = .ok (.aload_n 0, 1) := by decide +kernel
theorem dX12_house_38 : decode cX12_house 38 = .ok (.invokevirtual 197, 3) := by decide +kernel
theorem dX12_house_41 : decode cX12_house 41 = .ok (.ifCond .eq 10, 3) := by decide +kernel
theorem dX12_house_44 : decode cX12_house 44 = .ok (.aload_n 0, 1) := by decide +kernel
theorem dX12_house_45 : decode cX12_house 45 = .ok (.invokevirtual 200, 3) := by decide +kernel
theorem dX12_house_48 : decode cX12_house 48 = .ok (.ifCond .ne 10, 3) := by decide +kernel
theorem dX12_house_51 : decode cX12_house 51 = .ok (.iconst (-1), 1) := by decide +kernel
theorem dX12_house_52 : decode cX12_house 52 = .ok (.aload_n 0, 1) := by decide +kernel
theorem dX12_house_53 : decode cX12_house 53 = .ok (.getfield 134, 3) := by decide +kernel
theorem dX12_house_56 : decode cX12_house 56 = .ok (.isub, 1) := by decide +kernel
theorem dX12_house_57 : decode cX12_house 57 = .ok (.ireturn, 1) := by decide +kernel
theorem dX12_house_58 : decode cX12_house 58 = .ok (.iinc 1 1, 3) := by decide +kernel
theorem dX12_house_61 : decode cX12_house 61 = .ok (.goto (-31), 3) := by decide +kernel
theorem dX12_house_64 : decode cX12_house 64 = .ok (.iconst 0, 1) := by decide +kernel
theorem dX12_house_65 : decode cX12_house 65 = .ok (.istore_n 2, 1) := by decide +kernel
theorem dX12_house_66 : decode cX12_house 66 = .ok (.iload_n 2, 1) := by decide +kernel
theorem dX12_house_67 : decode cX12_house 67 = .ok (.bipush 77, 2) := by decide +kernel
theorem dX12_house_69 : decode cX12_house 69 = .ok (.if_icmp .ge 21, 3) := by decide +kernel
theorem dX12_house_72 : decode cX12_house 72 = .ok (.aload_n 0, 1) := by decide +kernel
theorem dX12_house_73 : decode cX12_house 73 = .ok (.getfield 13, 3) := by decide +kernel
theorem dX12_house_76 : decode cX12_house 76 = .ok (.iload_n 2, 1) := by decide +kernel
theorem dX12_house_77 : decode cX12_house 77 = .ok (.aload_n 0, 1) := by decide +kernel
theorem dX12_house_78 : decode cX12_house 78 = .ok (.getfield 16, 3) := by decide +kernel
theorem dX12_house_81 : decode cX12_house 81 = .ok (.iload_n 2, 1) := by decide +kernel
theorem dX12_house_82 : decode cX12_house 82 = .ok (.iaload, 1) := by decide +kernel
theorem dX12_house_83 : decode cX12_house 83 = .ok (.iastore, 1) := by decide +kernel
theorem dX12_house_84 : decode cX12_house 84 = .ok (.iinc 2 1, 3) := by decide +kernel
theorem dX12_house_87 : decode cX12_house 87 = .ok (.goto (-21), 3) := by decide +kernel
theorem dX12_house_90 : decode cX12_house 90 = .ok (.iconst 0, 1) := by decide +kernel
theorem dX12_house_91 : decode cX12_house 91 = .ok (.istore_n 2, 1) := by decide +kernel
theorem dX12_house_92 : decode cX12_house 92 = .ok (.iload_n 2, 1) := by decide +kernel
theorem dX12_house_93 : decode cX12_house 93 = .ok (.bipush 14, 2) := by decide +kernel
theorem dX12_house_95 : decode cX12_house 95 = .ok (.if_icmp .ge 21, 3) := by decide +kernel
theorem dX12_house_98 : decode cX12_house 98 = .ok (.aload_n 0, 1) := by decide +kernel
theorem dX12_house_99 : decode cX12_house 99 = .ok (.getfield 28, 3) := by decide +kernel
theorem dX12_house_102 : decode cX12_house 102 = .ok (.iload_n 2, 1) := by decide +kernel
theorem dX12_house_103 : decode cX12_house 103 = .ok (.aload_n 0, 1) := by decide +kernel
theorem dX12_house_104 : decode cX12_house 104 = .ok (.getfield 32, 3) := by decide +kernel
theorem dX12_house_107 : decode cX12_house 107 = .ok (.iload_n 2, 1) := by decide +kernel
theorem dX12_house_108 : decode cX12_house 108 = .ok (.laload, 1) := by decide +kernel
theorem dX12_house_109 : decode cX12_house 109 = .ok (.lastore, 1) := by decide +kernel
theorem dX12_house_110 : decode cX12_house 110 = .ok (.iinc 2 1, 3) := by decide +kernel
theorem dX12_house_113 : decode cX12_house 113 = .ok (.goto (-21), 3) := by decide +kernel
theorem dX12_house_116 : decode cX12_house 116 = .ok (.aload_n 0, 1) := by decide +kernel
theorem dX12_house_117 : decode cX12_house 117 = .ok (.invokevirtual 203, 3) := by decide +kernel
theorem dX12_house_120 : decode cX12_house 120 = .ok (.aload_n 0, 1) := by decide +kernel
theorem dX12_house_121 : decode cX12_house 121 = .ok (.iconst 0, 1) := by decide +kernel
theorem dX12_house_122 : decode cX12_house 122 = .ok (.putfield 206, 3) := by decide +kernel
theorem dX12_house_125 : decode cX12_house 125 = .ok (.iload_n 1, 1) := by decide +kernel
theorem dX12_house_126 : decode cX12_house 126 = .ok (.ireturn, 1) := by decide +kernel
theorem dX12_fault_0 : decode cX12_fault 0 = .ok (.aload_n 0, 1) := by decide +kernel
theorem dX12_fault_1 : decode cX12_fault 1 = .ok (.iconst 0, 1) := by decide +kernel
theorem dX12_fault_2 : decode cX12_fault 2 = .ok (.putfield 73, 3) := by decide +kernel
theorem dX12_fault_5 : decode cX12_fault 5 = .ok (.aload_n 0, 1) := by decide +kernel
theorem dX12_fault_6 : decode cX12_fault 6 = .ok (.getfield 131, 3) := by decide +kernel
theorem dX12_fault_9 : decode cX12_fault 9 = .ok (.ireturn, 1) := by decide +kernel
theorem dX12_isThing_0 : decode cX12_isThing 0 = .ok (.iload_n 1, 1) := by decide +kernel
theorem dX12_isThing_1 : decode cX12_isThing 1 = .ok (.iconst 0, 1) := by decide +kernel
theorem dX12_isThing_2 : decode cX12_isThing 2 = .ok (.aload_n 0, 1) := by decide +kernel
theorem dX12_isThing_3 : decode cX12_isThing 3 = .ok (.getfield 13, 3) := by decide +kernel
theorem dX12_isThing_6 : decode cX12_isThing 6 = .ok (.iconst 0, 1) := by decide +kernel
theorem dX12_isThing_7 : decode cX12_isThing 7 = .ok (.iaload, 1) := by decide +kernel
theorem dX12_isThing_8 : decode cX12_isThing 8 = .ok (.iconst 1, 1) := by decide +kernel
theorem dX12_isThing_9 : decode cX12_isThing 9 = .ok (.isub, 1) := by decide +kernel
theorem dX12_isThing_10 : decode cX12_isThing 10 = .ok (.invokestatic 140, 3) := by decide +kernel
theorem dX12_isThing_13 : decode cX12_isThing 13 = .ok (.ireturn, 1) := by decide +kernel
theorem dX12_isFault_0 : decode cX12_isFault 0 = .ok (.iload_n 1, 1) := by decide +kernel
theorem dX12_isFault_1 : decode cX12_isFault 1 = .ok (.iconst 0, 1) := by decide +kernel
theorem dX12_isFault_2 : decode cX12_isFault 2 = .ok (.aload_n 0, 1) := by decide +kernel
theorem dX12_isFault_3 : decode cX12_isFault 3 = .ok (.getfield 13, 3) := by decide +kernel
theorem dX12_isFault_6 : decode cX12_isFault 6 = .ok (.iconst 1, 1) := by decide +kernel
theorem dX12_isFault_7 : decode cX12_isFault 7 = .ok (.iaload, 1) := by decide +kernel
theorem dX12_isFault_8 : decode cX12_isFault 8 = .ok (.iconst 1, 1) := by decide +kernel
theorem dX12_isFault_9 : decode cX12_isFault 9 = .ok (.isub, 1) := by decide +kernel
theorem dX12_isFault_10 : decode cX12_isFault 10 = .ok (.invokestatic 140, 3) := by decide +kernel
theorem dX12_isFault_13 : decode cX12_isFault 13 = .ok (.ireturn, 1) := by decide +kernel
theorem dX12_isThere_0 : decode cX12_isThere 0 = .ok (.aload_n 0, 1) := by decide +kernel
theorem dX12_isThere_1 : decode cX12_isThere 1 = .ok (.getfield 13, 3) := by decide +kernel
theorem dX12_isThere_4 : decode cX12_isThere 4 = .ok (.bipush 105, 2) := by decide +kernel
theorem dX12_isThere_6 : decode cX12_isThere 6 = .ok (.iload_n 1, 1) := by decide +kernel
theorem dX12_isThere_7 : decode cX12_isThere 7 = .ok (.iadd, 1) := by decide +kernel
theorem dX12_isThere_8 : decode cX12_isThere 8 = .ok (.iaload, 1) := by decide +kernel
theorem dX12_isThere_9 : decode cX12_isThere 9 = .ok (.iconst 1, 1) := by decide +kernel
theorem dX12_isThere_10 : decode cX12_isThere 10 = .ok (.if_icmp .ne 7, 3) := by decide +kernel
theorem dX12_isThere_13 : decode cX12_isThere 13 = .ok (.iconst 1, 1) := by decide +kernel
theorem dX12_isThere_14 : decode cX12_isThere 14 = .ok (.goto 4, 3) := by decide +kernel
theorem dX12_isThere_17 : decode cX12_isThere 17 = .ok (.iconst 0, 1) := by decide +kernel
theorem dX12_isThere_18 : decode cX12_isThere 18 = .ok (.ireturn, 1) := by decide +kernel
theorem dX12_isNumbered_0 : decode cX12_isNumbered 0 = .ok (.aload_n 0, 1) := by decide +kernel
theorem dX12_isNumbered_1 : decode cX12_isNumbered 1 = .ok (.getfield 13, 3) := by decide +kernel
theorem dX12_isNumbered_4 : decode cX12_isNumbered 4 = .ok (.bipush 81, 2) := by decide +kernel
theorem dX12_isNumbered_6 : decode cX12_isNumbered 6 = .ok (.iload_n 1, 1) := by decide +kernel
theorem dX12_isNumbered_7 : decode cX12_isNumbered 7 = .ok (.iadd, 1) := by decide +kernel
theorem dX12_isNumbered_8 : decode cX12_isNumbered 8 = .ok (.iaload, 1) := by decide +kernel
theorem dX12_isNumbered_9 : decode cX12_isNumbered 9 = .ok (.iconst 2, 1) := by decide +kernel
theorem dX12_isNumbered_10 : decode cX12_isNumbered 10 = .ok (.if_icmp .ne 20, 3) := by decide +kernel
theorem dX12_isNumbered_13 : decode cX12_isNumbered 13 = .ok (.aload_n 0, 1) := by decide +kernel
theorem dX12_isNumbered_14 : decode cX12_isNumbered 14 = .ok (.getfield 13, 3) := by decide +kernel
theorem dX12_isNumbered_17 : decode cX12_isNumbered 17 = .ok (.bipush 93, 2) := by decide +kernel
theorem dX12_isNumbered_19 : decode cX12_isNumbered 19 = .ok (.iload_n 1, 1) := by decide +kernel
theorem dX12_isNumbered_20 : decode cX12_isNumbered 20 = .ok (.iadd, 1) := by decide +kernel
theorem dX12_isNumbered_21 : decode cX12_isNumbered 21 = .ok (.iaload, 1) := by decide +kernel
theorem dX12_isNumbered_22 : decode cX12_isNumbered 22 = .ok (.iconst 1, 1) := by decide +kernel
theorem dX12_isNumbered_23 : decode cX12_isNumbered 23 = .ok (.if_icmp .ne 7, 3) := by decide +kernel
theorem dX12_isNumbered_26 : decode cX12_isNumbered 26 = .ok (.iconst 1, 1) := by decide +kernel
theorem dX12_isNumbered_27 : decode cX12_isNumbered 27 = .ok (.goto 4, 3) := by decide +kernel
theorem dX12_isNumbered_30 : decode cX12_isNumbered 30 = .ok (.iconst 0, 1) := by decide +kernel
theorem dX12_isNumbered_31 : decode cX12_isNumbered 31 = .ok (.ireturn, 1) := by decide +kernel
theorem dX12_isBehind_0 : decode cX12_isBehind 0 = .ok (.aload_n 0, 1) := by decide +kernel
theorem dX12_isBehind_1 : decode cX12_isBehind 1 = .ok (.getfield 13, 3) := by decide +kernel
theorem dX12_isBehind_4 : decode cX12_isBehind 4 = .ok (.bipush 15, 2) := by decide +kernel
theorem dX12_isBehind_6 : decode cX12_isBehind 6 = .ok (.iload_n 1, 1) := by decide +kernel
theorem dX12_isBehind_7 : decode cX12_isBehind 7 = .ok (.iadd, 1) := by decide +kernel
theorem dX12_isBehind_8 : decode cX12_isBehind 8 = .ok (.iaload, 1) := by decide +kernel
theorem dX12_isBehind_9 : decode cX12_isBehind 9 = .ok (.istore_n 3, 1) := by decide +kernel
theorem dX12_isBehind_10 : decode cX12_isBehind 10 = .ok (.iload_n 3, 1) := by decide +kernel
theorem dX12_isBehind_11 : decode cX12_isBehind 11 = .ok (.iconst (-1), 1) := by decide +kernel
theorem dX12_isBehind_12 : decode cX12_isBehind 12 = .ok (.if_icmp .eq 21, 3) := by decide +kernel
theorem dX12_isBehind_15 : decode cX12_isBehind 15 = .ok (.iload_n 3, 1) := by decide +kernel
theorem dX12_isBehind_16 : decode cX12_isBehind 16 = .ok (.iload_n 2, 1) := by decide +kernel
theorem dX12_isBehind_17 : decode cX12_isBehind 17 = .ok (.if_icmp .eq 16, 3) := by decide +kernel
theorem dX12_isBehind_20 : decode cX12_isBehind 20 = .ok (.aload_n 0, 1) := by decide +kernel
theorem dX12_isBehind_21 : decode cX12_isBehind 21 = .ok (.getfield 13, 3) := by decide +kernel
theorem dX12_isBehind_24 : decode cX12_isBehind 24 = .ok (.bipush 15, 2) := by decide +kernel
theorem dX12_isBehind_26 : decode cX12_isBehind 26 = .ok (.iload_n 3, 1) := by decide +kernel
theorem dX12_isBehind_27 : decode cX12_isBehind 27 = .ok (.iadd, 1) := by decide +kernel
theorem dX12_isBehind_28 : decode cX12_isBehind 28 = .ok (.iaload, 1) := by decide +kernel
theorem dX12_isBehind_29 : decode cX12_isBehind 29 = .ok (.istore_n 3, 1) := by decide +kernel
theorem dX12_isBehind_30 : decode cX12_isBehind 30 = .ok (.goto (-20), 3) := by decide +kernel
theorem dX12_isBehind_33 : decode cX12_isBehind 33 = .ok (.iload_n 3, 1) := by decide +kernel
theorem dX12_isBehind_34 : decode cX12_isBehind 34 = .ok (.iload_n 2, 1) := by decide +kernel
theorem dX12_isBehind_35 : decode cX12_isBehind 35 = .ok (.if_icmp .ne 7, 3) := by decide +kernel
theorem dX12_isBehind_38 : decode cX12_isBehind 38 = .ok (.iconst 1, 1) := by decide +kernel
theorem dX12_isBehind_39 : decode cX12_isBehind 39 = .ok (.goto 4, 3) := by decide +kernel
theorem dX12_isBehind_42 : decode cX12_isBehind 42 = .ok (.iconst 0, 1) := by decide +kernel
theorem dX12_isBehind_43 : decode cX12_isBehind 43 = .ok (.ireturn, 1) := by decide +kernel
theorem dX12_worst_0 : decode cX12_worst 0 = .ok (.iconst (-1), 1) := by decide +kernel
theorem dX12_worst_1 : decode cX12_worst 1 = .ok (.istore_n 2, 1) := by decide +kernel
theorem dX12_worst_2 : decode cX12_worst 2 = .ok (.iconst 0, 1) := by decide +kernel
theorem dX12_worst_3 : decode cX12_worst 3 = .ok (.istore_n 3, 1) := by decide +kernel
theorem dX12_worst_4 : decode cX12_worst 4 = .ok (.iload_n 3, 1) := by decide +kernel
theorem dX12_worst_5 : decode cX12_worst 5 = .ok (.aload_n 0, 1) := by decide +kernel
theorem dX12_worst_6 : decode cX12_worst 6 = .ok (.getfield 13, 3) := by decide +kernel
theorem dX12_worst_9 : decode cX12_worst 9 = .ok (.iconst 1, 1) := by decide +kernel
theorem dX12_worst_10 : decode cX12_worst 10 = .ok (.iaload, 1) := by decide +kernel
theorem dX12_worst_11 : decode cX12_worst 11 = .ok (.if_icmp .ge 58, 3) := by decide +kernel
theorem dX12_worst_14 : decode cX12_worst 14 = .ok (.aload_n 0, 1) := by decide +kernel
theorem dX12_worst_15 : decode cX12_worst 15 = .ok (.iload_n 3, 1) := by decide +kernel
theorem dX12_worst_16 : decode cX12_worst 16 = .ok (.invokevirtual 209, 3) := by decide +kernel
theorem dX12_worst_19 : decode cX12_worst 19 = .ok (.ifCond .eq 44, 3) := by decide +kernel
theorem dX12_worst_22 : decode cX12_worst 22 = .ok (.aload_n 0, 1) := by decide +kernel
theorem dX12_worst_23 : decode cX12_worst 23 = .ok (.getfield 13, 3) := by decide +kernel
theorem dX12_worst_26 : decode cX12_worst 26 = .ok (.bipush 21, 2) := by decide +kernel
theorem dX12_worst_28 : decode cX12_worst 28 = .ok (.iload_n 3, 1) := by decide +kernel
theorem dX12_worst_29 : decode cX12_worst 29 = .ok (.iadd, 1) := by decide +kernel
theorem dX12_worst_30 : decode cX12_worst 30 = .ok (.iaload, 1) := by decide +kernel
theorem dX12_worst_31 : decode cX12_worst 31 = .ok (.iload_n 1, 1) := by decide +kernel
theorem dX12_worst_32 : decode cX12_worst 32 = .ok (.if_icmp .ne 31, 3) := by decide +kernel
theorem dX12_worst_35 : decode cX12_worst 35 = .ok (.iload_n 2, 1) := by decide +kernel
theorem dX12_worst_36 : decode cX12_worst 36 = .ok (.iconst (-1), 1) := by decide +kernel
theorem dX12_worst_37 : decode cX12_worst 37 = .ok (.if_icmp .eq 24, 3) := by decide +kernel
theorem dX12_worst_40 : decode cX12_worst 40 = .ok (.aload_n 0, 1) := by decide +kernel
theorem dX12_worst_41 : decode cX12_worst 41 = .ok (.getfield 13, 3) := by decide +kernel
theorem dX12_worst_44 : decode cX12_worst 44 = .ok (.bipush 45, 2) := by decide +kernel
theorem dX12_worst_46 : decode cX12_worst 46 = .ok (.iload_n 3, 1) := by decide +kernel
theorem dX12_worst_47 : decode cX12_worst 47 = .ok (.iadd, 1) := by decide +kernel
theorem dX12_worst_48 : decode cX12_worst 48 = .ok (.iaload, 1) := by decide +kernel
theorem dX12_worst_49 : decode cX12_worst 49 = .ok (.aload_n 0, 1) := by decide +kernel
theorem dX12_worst_50 : decode cX12_worst 50 = .ok (.getfield 13, 3) := by decide +kernel
theorem dX12_worst_53 : decode cX12_worst 53 = .ok (.bipush 45, 2) := by decide +kernel
theorem dX12_worst_55 : decode cX12_worst 55 = .ok (.iload_n 2, 1) := by decide +kernel
theorem dX12_worst_56 : decode cX12_worst 56 = .ok (.iadd, 1) := by decide +kernel
theorem dX12_worst_57 : decode cX12_worst 57 = .ok (.iaload, 1) := by decide +kernel
theorem dX12_worst_58 : decode cX12_worst 58 = .ok (.if_icmp .le 5, 3) := by decide +kernel
theorem dX12_worst_61 : decode cX12_worst 61 = .ok (.iload_n 3, 1) := by decide +kernel
theorem dX12_worst_62 : decode cX12_worst 62 = .ok (.istore_n 2, 1) := by decide +kernel
theorem dX12_worst_63 : decode cX12_worst 63 = .ok (.iinc 3 1, 3) := by decide +kernel
theorem dX12_worst_66 : decode cX12_worst 66 = .ok (.goto (-62), 3) := by decide +kernel
theorem dX12_worst_69 : decode cX12_worst 69 = .ok (.iload_n 2, 1) := by decide +kernel
theorem dX12_worst_70 : decode cX12_worst 70 = .ok (.ireturn, 1) := by decide +kernel
theorem dX12_lamp_0 : decode cX12_lamp 0 = .ok (.aload_n 0, 1) := by decide +kernel
theorem dX12_lamp_1 : decode cX12_lamp 1 = .ok (.getfield 13, 3) := by decide +kernel
theorem dX12_lamp_4 : decode cX12_lamp 4 = .ok (.bipush 81, 2) := by decide +kernel
theorem dX12_lamp_6 : decode cX12_lamp 6 = .ok (.iload_n 1, 1) := by decide +kernel
theorem dX12_lamp_7 : decode cX12_lamp 7 = .ok (.iadd, 1) := by decide +kernel
theorem dX12_lamp_8 : decode cX12_lamp 8 = .ok (.iaload, 1) := by decide +kernel
theorem dX12_lamp_9 : decode cX12_lamp 9 = .ok (.iconst 2, 1) := by decide +kernel
theorem dX12_lamp_10 : decode cX12_lamp 10 = .ok (.if_icmp .ge 22, 3) := by decide +kernel
theorem dX12_lamp_13 : decode cX12_lamp 13 = .ok (.aload_n 0, 1) := by decide +kernel
theorem dX12_lamp_14 : decode cX12_lamp 14 = .ok (.getfield 13, 3) := by decide +kernel
theorem dX12_lamp_17 : decode cX12_lamp 17 = .ok (.bipush 81, 2) := by decide +kernel
theorem dX12_lamp_19 : decode cX12_lamp 19 = .ok (.iload_n 1, 1) := by decide +kernel
theorem dX12_lamp_20 : decode cX12_lamp 20 = .ok (.iadd, 1) := by decide +kernel
theorem dX12_lamp_21 : decode cX12_lamp 21 = .ok (.iaload, 1) := by decide +kernel
theorem dX12_lamp_22 : decode cX12_lamp 22 = .ok (.ifCond .ne 7, 3) := by decide +kernel
theorem dX12_lamp_25 : decode cX12_lamp 25 = .ok (.iconst 0, 1) := by decide +kernel
theorem dX12_lamp_26 : decode cX12_lamp 26 = .ok (.goto 5, 3) := by decide +kernel
theorem dX12_lamp_29 : decode cX12_lamp 29 = .ok (.bipush 16, 2) := by decide +kernel
theorem dX12_lamp_31 : decode cX12_lamp 31 = .ok (.ireturn, 1) := by decide +kernel
theorem dX12_lamp_32 : decode cX12_lamp 32 = .ok (.aload_n 0, 1) := by decide +kernel
theorem dX12_lamp_33 : decode cX12_lamp 33 = .ok (.iload_n 1, 1) := by decide +kernel
theorem dX12_lamp_34 : decode cX12_lamp 34 = .ok (.invokevirtual 212, 3) := by decide +kernel
theorem dX12_lamp_37 : decode cX12_lamp 37 = .ok (.iconst (-1), 1) := by decide +kernel
theorem dX12_lamp_38 : decode cX12_lamp 38 = .ok (.if_icmp .eq 17, 3) := by decide +kernel
theorem dX12_lamp_41 : decode cX12_lamp 41 = .ok (.aload_n 0, 1) := by decide +kernel
theorem dX12_lamp_42 : decode cX12_lamp 42 = .ok (.getfield 13, 3) := by decide +kernel
theorem dX12_lamp_45 : decode cX12_lamp 45 = .ok (.bipush 45, 2) := by decide +kernel
theorem dX12_lamp_47 : decode cX12_lamp 47 = .ok (.aload_n 0, 1) := by decide +kernel
theorem dX12_lamp_48 : decode cX12_lamp 48 = .ok (.iload_n 1, 1) := by decide +kernel
theorem dX12_lamp_49 : decode cX12_lamp 49 = .ok (.invokevirtual 212, 3) := by decide +kernel
theorem dX12_lamp_52 : decode cX12_lamp 52 = .ok (.iadd, 1) := by decide +kernel
theorem dX12_lamp_53 : decode cX12_lamp 53 = .ok (.iaload, 1) := by decide +kernel
theorem dX12_lamp_54 : decode cX12_lamp 54 = .ok (.ireturn, 1) := by decide +kernel
theorem dX12_lamp_55 : decode cX12_lamp 55 = .ok (.aload_n 0, 1) := by decide +kernel
theorem dX12_lamp_56 : decode cX12_lamp 56 = .ok (.getfield 13, 3) := by decide +kernel
theorem dX12_lamp_59 : decode cX12_lamp 59 = .ok (.bipush 93, 2) := by decide +kernel
theorem dX12_lamp_61 : decode cX12_lamp 61 = .ok (.iload_n 1, 1) := by decide +kernel
theorem dX12_lamp_62 : decode cX12_lamp 62 = .ok (.iadd, 1) := by decide +kernel
theorem dX12_lamp_63 : decode cX12_lamp 63 = .ok (.iaload, 1) := by decide +kernel
theorem dX12_lamp_64 : decode cX12_lamp 64 = .ok (.ifCond .ne 8, 3) := by decide +kernel
theorem dX12_lamp_67 : decode cX12_lamp 67 = .ok (.bipush 17, 2) := by decide +kernel
theorem dX12_lamp_69 : decode cX12_lamp 69 = .ok (.goto 5, 3) := by decide +kernel
theorem dX12_lamp_72 : decode cX12_lamp 72 = .ok (.bipush 18, 2) := by decide +kernel
theorem dX12_lamp_74 : decode cX12_lamp 74 = .ok (.ireturn, 1) := by decide +kernel
theorem dX12_works_0 : decode cX12_works 0 = .ok (.iload_n 1, 1) := by decide +kernel
theorem dX12_works_1 : decode cX12_works 1 = .ok (.istore_n 2, 1) := by decide +kernel
theorem dX12_works_2 : decode cX12_works 2 = .ok (.iload_n 2, 1) := by decide +kernel
theorem dX12_works_3 : decode cX12_works 3 = .ok (.iconst (-1), 1) := by decide +kernel
theorem dX12_works_4 : decode cX12_works 4 = .ok (.if_icmp .eq 35, 3) := by decide +kernel
theorem dX12_works_7 : decode cX12_works 7 = .ok (.aload_n 0, 1) := by decide +kernel
theorem dX12_works_8 : decode cX12_works 8 = .ok (.iload_n 2, 1) := by decide +kernel
theorem dX12_works_9 : decode cX12_works 9 = .ok (.invokevirtual 215, 3) := by decide +kernel
theorem dX12_works_12 : decode cX12_works 12 = .ok (.ifCond .eq 12, 3) := by decide +kernel
theorem dX12_works_15 : decode cX12_works 15 = .ok (.aload_n 0, 1) := by decide +kernel
theorem dX12_works_16 : decode cX12_works 16 = .ok (.iload_n 2, 1) := by decide +kernel
theorem dX12_works_17 : decode cX12_works 17 = .ok (.invokevirtual 212, 3) := by decide +kernel
theorem dX12_works_20 : decode cX12_works 20 = .ok (.iconst (-1), 1) := by decide +kernel
theorem dX12_works_21 : decode cX12_works 21 = .ok (.if_icmp .eq 5, 3) := by decide +kernel
theorem dX12_works_24 : decode cX12_works 24 = .ok (.iconst 0, 1) := by decide +kernel
theorem dX12_works_25 : decode cX12_works 25 = .ok (.ireturn, 1) := by decide +kernel
theorem dX12_works_26 : decode cX12_works 26 = .ok (.aload_n 0, 1) := by decide +kernel
theorem dX12_works_27 : decode cX12_works 27 = .ok (.getfield 13, 3) := by decide +kernel
theorem dX12_works_30 : decode cX12_works 30 = .ok (.bipush 15, 2) := by decide +kernel
theorem dX12_works_32 : decode cX12_works 32 = .ok (.iload_n 2, 1) := by decide +kernel
theorem dX12_works_33 : decode cX12_works 33 = .ok (.iadd, 1) := by decide +kernel
theorem dX12_works_34 : decode cX12_works 34 = .ok (.iaload, 1) := by decide +kernel
theorem dX12_works_35 : decode cX12_works 35 = .ok (.istore_n 2, 1) := by decide +kernel
theorem dX12_works_36 : decode cX12_works 36 = .ok (.goto (-34), 3) := by decide +kernel
theorem dX12_works_39 : decode cX12_works 39 = .ok (.iconst 1, 1) := by decide +kernel
theorem dX12_works_40 : decode cX12_works 40 = .ok (.ireturn, 1) := by decide +kernel
theorem dX12_working_0 : decode cX12_working 0 = .ok (.iconst 0, 1) := by decide +kernel
theorem dX12_working_1 : decode cX12_working 1 = .ok (.istore_n 1, 1) := by decide +kernel
theorem dX12_working_2 : decode cX12_working 2 = .ok (.iconst 0, 1) := by decide +kernel
theorem dX12_working_3 : decode cX12_working 3 = .ok (.istore_n 2, 1) := by decide +kernel
theorem dX12_working_4 : decode cX12_working 4 = .ok (.iload_n 2, 1) := by decide +kernel
theorem dX12_working_5 : decode cX12_working 5 = .ok (.aload_n 0, 1) := by decide +kernel
theorem dX12_working_6 : decode cX12_working 6 = .ok (.getfield 13, 3) := by decide +kernel
theorem dX12_working_9 : decode cX12_working 9 = .ok (.iconst 0, 1) := by decide +kernel
theorem dX12_working_10 : decode cX12_working 10 = .ok (.iaload, 1) := by decide +kernel
theorem dX12_working_11 : decode cX12_working 11 = .ok (.if_icmp .ge 23, 3) := by decide +kernel
theorem dX12_working_14 : decode cX12_working 14 = .ok (.aload_n 0, 1) := by decide +kernel
theorem dX12_working_15 : decode cX12_working 15 = .ok (.iload_n 2, 1) := by decide +kernel
theorem dX12_working_16 : decode cX12_working 16 = .ok (.invokevirtual 218, 3) := by decide +kernel
theorem dX12_working_19 : decode cX12_working 19 = .ok (.ifCond .eq 9, 3) := by decide +kernel
theorem dX12_working_22 : decode cX12_working 22 = .ok (.iload_n 1, 1) := by decide +kernel
theorem dX12_working_23 : decode cX12_working 23 = .ok (.iconst 1, 1) := by decide +kernel
theorem dX12_working_24 : decode cX12_working 24 = .ok (.iload_n 2, 1) := by decide +kernel
theorem dX12_working_25 : decode cX12_working 25 = .ok (.ishl, 1) := by decide +kernel
theorem dX12_working_26 : decode cX12_working 26 = .ok (.ior, 1) := by decide +kernel
theorem dX12_working_27 : decode cX12_working 27 = .ok (.istore_n 1, 1) := by decide +kernel
theorem dX12_working_28 : decode cX12_working 28 = .ok (.iinc 2 1, 3) := by decide +kernel
theorem dX12_working_31 : decode cX12_working 31 = .ok (.goto (-27), 3) := by decide +kernel
theorem dX12_working_34 : decode cX12_working 34 = .ok (.iload_n 1, 1) := by decide +kernel
theorem dX12_working_35 : decode cX12_working 35 = .ok (.ireturn, 1) := by decide +kernel
theorem dX12_thing_0 : decode cX12_thing 0 = .ok (.aload_n 0, 1) := by decide +kernel
theorem dX12_thing_1 : decode cX12_thing 1 = .ok (.iconst 0, 1) := by decide +kernel
theorem dX12_thing_2 : decode cX12_thing 2 = .ok (.putfield 73, 3) := by decide +kernel
theorem dX12_thing_5 : decode cX12_thing 5 = .ok (.aload_n 0, 1) := by decide +kernel
theorem dX12_thing_6 : decode cX12_thing 6 = .ok (.iload_n 1, 1) := by decide +kernel
theorem dX12_thing_7 : decode cX12_thing 7 = .ok (.invokevirtual 221, 3) := by decide +kernel
theorem dX12_thing_10 : decode cX12_thing 10 = .ok (.ifCond .ne 8, 3) := by decide +kernel
theorem dX12_thing_13 : decode cX12_thing 13 = .ok (.aload_n 0, 1) := by decide +kernel
theorem dX12_thing_14 : decode cX12_thing 14 = .ok (.invokevirtual 224, 3) := by decide +kernel
theorem dX12_thing_17 : decode cX12_thing 17 = .ok (.ireturn, 1) := by decide +kernel
theorem dX12_thing_18 : decode cX12_thing 18 = .ok (.iload_n 2, 1) := by decide +kernel
theorem dX12_thing_19 : decode cX12_thing 19 = .ok (.tableswitch 138 0 8 #[49, 58, 68, 78, 88, 98, 108, 114, 128], 49) := by decide +kernel
theorem dX12_thing_68 : decode cX12_thing 68 = .ok (.aload_n 0, 1) := by decide +kernel
theorem dX12_thing_69 : decode cX12_thing 69 = .ok (.getfield 13, 3) := by decide +kernel
theorem dX12_thing_72 : decode cX12_thing 72 = .ok (.iconst 3, 1) := by decide +kernel
theorem dX12_thing_73 : decode cX12_thing 73 = .ok (.iload_n 1, 1) := by decide +kernel
theorem dX12_thing_74 : decode cX12_thing 74 = .ok (.iadd, 1) := by decide +kernel
theorem dX12_thing_75 : decode cX12_thing 75 = .ok (.iaload, 1) := by decide +kernel
theorem dX12_thing_76 : decode cX12_thing 76 = .ok (.ireturn, 1) := by decide +kernel
theorem dX12_thing_77 : decode cX12_thing 77 = .ok (.aload_n 0, 1) := by decide +kernel
theorem dX12_thing_78 : decode cX12_thing 78 = .ok (.getfield 13, 3) := by decide +kernel
theorem dX12_thing_81 : decode cX12_thing 81 = .ok (.bipush 9, 2) := by decide +kernel
theorem dX12_thing_83 : decode cX12_thing 83 = .ok (.iload_n 1, 1) := by decide +kernel
theorem dX12_thing_84 : decode cX12_thing 84 = .ok (.iadd, 1) := by decide +kernel
theorem dX12_thing_85 : decode cX12_thing 85 = .ok (.iaload, 1) := by decide +kernel
theorem dX12_thing_86 : decode cX12_thing 86 = .ok (.ireturn, 1) := by decide +kernel
theorem dX12_thing_87 : decode cX12_thing 87 = .ok (.aload_n 0, 1) := by decide +kernel
theorem dX12_thing_88 : decode cX12_thing 88 = .ok (.getfield 13, 3) := by decide +kernel
theorem dX12_thing_91 : decode cX12_thing 91 = .ok (.bipush 15, 2) := by decide +kernel
theorem dX12_thing_93 : decode cX12_thing 93 = .ok (.iload_n 1, 1) := by decide +kernel
theorem dX12_thing_94 : decode cX12_thing 94 = .ok (.iadd, 1) := by decide +kernel
theorem dX12_thing_95 : decode cX12_thing 95 = .ok (.iaload, 1) := by decide +kernel
theorem dX12_thing_96 : decode cX12_thing 96 = .ok (.ireturn, 1) := by decide +kernel
theorem dX12_thing_97 : decode cX12_thing 97 = .ok (.aload_n 0, 1) := by decide +kernel
theorem dX12_thing_98 : decode cX12_thing 98 = .ok (.getfield 13, 3) := by decide +kernel
theorem dX12_thing_101 : decode cX12_thing 101 = .ok (.bipush 81, 2) := by decide +kernel
theorem dX12_thing_103 : decode cX12_thing 103 = .ok (.iload_n 1, 1) := by decide +kernel
theorem dX12_thing_104 : decode cX12_thing 104 = .ok (.iadd, 1) := by decide +kernel
theorem dX12_thing_105 : decode cX12_thing 105 = .ok (.iaload, 1) := by decide +kernel
theorem dX12_thing_106 : decode cX12_thing 106 = .ok (.ireturn, 1) := by decide +kernel
theorem dX12_thing_107 : decode cX12_thing 107 = .ok (.aload_n 0, 1) := by decide +kernel
theorem dX12_thing_108 : decode cX12_thing 108 = .ok (.getfield 13, 3) := by decide +kernel
theorem dX12_thing_111 : decode cX12_thing 111 = .ok (.bipush 87, 2) := by decide +kernel
theorem dX12_thing_113 : decode cX12_thing 113 = .ok (.iload_n 1, 1) := by decide +kernel
theorem dX12_thing_114 : decode cX12_thing 114 = .ok (.iadd, 1) := by decide +kernel
theorem dX12_thing_115 : decode cX12_thing 115 = .ok (.iaload, 1) := by decide +kernel
theorem dX12_thing_116 : decode cX12_thing 116 = .ok (.ireturn, 1) := by decide +kernel
theorem dX12_thing_117 : decode cX12_thing 117 = .ok (.aload_n 0, 1) := by decide +kernel
theorem dX12_thing_118 : decode cX12_thing 118 = .ok (.getfield 13, 3) := by decide +kernel
theorem dX12_thing_121 : decode cX12_thing 121 = .ok (.bipush 93, 2) := by decide +kernel
theorem dX12_thing_123 : decode cX12_thing 123 = .ok (.iload_n 1, 1) := by decide +kernel
theorem dX12_thing_124 : decode cX12_thing 124 = .ok (.iadd, 1) := by decide +kernel
