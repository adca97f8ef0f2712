theorem dX6_takeThing_30 : decode cX6_takeThing 30 = .ok (.pop, 1) := by decide +kernel
theorem dX6_takeThing_31 : decode cX6_takeThing 31 = .ok (.goto 7, 3) := by decide +kernel
theorem dX6_takeThing_34 : decode cX6_takeThing 34 = .ok (.aload_n 0, 1) := by decide +kernel
theorem dX6_takeThing_35 : decode cX6_takeThing 35 = .ok (.invokevirtual 33, 3) := by decide +kernel
theorem dX6_takeThing_38 : decode cX6_takeThing 38 = .ok (.iload_n 2, 1) := by decide +kernel
theorem dX6_takeThing_39 : decode cX6_takeThing 39 = .ok (.ireturn, 1) := by decide +kernel
theorem dX6_takeFault_0 : decode cX6_takeFault 0 = .ok (.aload_n 0, 1) := by decide +kernel
theorem dX6_takeFault_1 : decode cX6_takeFault 1 = .ok (.invokevirtual 89, 3) := by decide +kernel
theorem dX6_takeFault_4 : decode cX6_takeFault 4 = .ok (.ifCond .eq 14, 3) := by decide +kernel
theorem dX6_takeFault_7 : decode cX6_takeFault 7 = .ok (.aload_n 1, 1) := by decide +kernel
theorem dX6_takeFault_8 : decode cX6_takeFault 8 = .ok (.aload_n 0, 1) := by decide +kernel
theorem dX6_takeFault_9 : decode cX6_takeFault 9 = .ok (.getfield 71, 3) := by decide +kernel
theorem dX6_takeFault_12 : decode cX6_takeFault 12 = .ok (.invokevirtual 98, 3) := by decide +kernel
theorem dX6_takeFault_15 : decode cX6_takeFault 15 = .ok (.goto 4, 3) := by decide +kernel
theorem dX6_takeFault_18 : decode cX6_takeFault 18 = .ok (.iconst (-1), 1) := by decide +kernel
theorem dX6_takeFault_19 : decode cX6_takeFault 19 = .ok (.istore_n 2, 1) := by decide +kernel
theorem dX6_takeFault_20 : decode cX6_takeFault 20 = .ok (.iload_n 2, 1) := by decide +kernel
theorem dX6_takeFault_21 : decode cX6_takeFault 21 = .ok (.iconst (-1), 1) := by decide +kernel
theorem dX6_takeFault_22 : decode cX6_takeFault 22 = .ok (.if_icmp .ne 12, 3) := by decide +kernel
theorem dX6_takeFault_25 : decode cX6_takeFault 25 = .ok (.aload_n 0, 1) := by decide +kernel
theorem dX6_takeFault_26 : decode cX6_takeFault 26 = .ok (.iconst 3, 1) := by decide +kernel
theorem dX6_takeFault_27 : decode cX6_takeFault 27 = .ok (.invokevirtual 86, 3) := by decide +kernel
theorem dX6_takeFault_30 : decode cX6_takeFault 30 = .ok (.pop, 1) := by decide +kernel
theorem dX6_takeFault_31 : decode cX6_takeFault 31 = .ok (.goto 7, 3) := by decide +kernel
theorem dX6_takeFault_34 : decode cX6_takeFault 34 = .ok (.aload_n 0, 1) := by decide +kernel
theorem dX6_takeFault_35 : decode cX6_takeFault 35 = .ok (.invokevirtual 33, 3) := by decide +kernel
theorem dX6_takeFault_38 : decode cX6_takeFault 38 = .ok (.iload_n 2, 1) := by decide +kernel
theorem dX6_takeFault_39 : decode cX6_takeFault 39 = .ok (.ireturn, 1) := by decide +kernel
theorem dX7_init_0 : decode cX7_init 0 = .ok (.aload_n 0, 1) := by decide +kernel
theorem dX7_init_1 : decode cX7_init 1 = .ok (.invokespecial 3, 3) := by decide +kernel
theorem dX7_init_4 : decode cX7_init 4 = .ok (.aload_n 0, 1) := by decide +kernel
theorem dX7_init_5 : decode cX7_init 5 = .ok (.bipush 40, 2) := by decide +kernel
theorem dX7_init_7 : decode cX7_init 7 = .ok (.newarray .int, 2) := by decide +kernel
theorem dX7_init_9 : decode cX7_init 9 = .ok (.putfield 11, 3) := by decide +kernel
theorem dX7_init_12 : decode cX7_init 12 = .ok (.aload_n 0, 1) := by decide +kernel
theorem dX7_init_13 : decode cX7_init 13 = .ok (.bipush 40, 2) := by decide +kernel
theorem dX7_init_15 : decode cX7_init 15 = .ok (.newarray .int, 2) := by decide +kernel
theorem dX7_init_17 : decode cX7_init 17 = .ok (.putfield 15, 3) := by decide +kernel
theorem dX7_init_20 : decode cX7_init 20 = .ok (.aload_n 0, 1) := by decide +kernel
theorem dX7_init_21 : decode cX7_init 21 = .ok (.bipush 40, 2) := by decide +kernel
theorem dX7_init_23 : decode cX7_init 23 = .ok (.newarray .int, 2) := by decide +kernel
theorem dX7_init_25 : decode cX7_init 25 = .ok (.putfield 18, 3) := by decide +kernel
theorem dX7_init_28 : decode cX7_init 28 = .ok (.aload_n 0, 1) := by decide +kernel
theorem dX7_init_29 : decode cX7_init 29 = .ok (.bipush 41, 2) := by decide +kernel
theorem dX7_init_31 : decode cX7_init 31 = .ok (.newarray .int, 2) := by decide +kernel
theorem dX7_init_33 : decode cX7_init 33 = .ok (.putfield 21, 3) := by decide +kernel
theorem dX7_init_36 : decode cX7_init 36 = .ok (.return_, 1) := by decide +kernel
theorem dX7_clear_0 : decode cX7_clear 0 = .ok (.aload_n 0, 1) := by decide +kernel
theorem dX7_clear_1 : decode cX7_clear 1 = .ok (.iconst 0, 1) := by decide +kernel
theorem dX7_clear_2 : decode cX7_clear 2 = .ok (.putfield 24, 3) := by decide +kernel
theorem dX7_clear_5 : decode cX7_clear 5 = .ok (.aload_n 0, 1) := by decide +kernel
theorem dX7_clear_6 : decode cX7_clear 6 = .ok (.iconst 0, 1) := by decide +kernel
theorem dX7_clear_7 : decode cX7_clear 7 = .ok (.putfield 28, 3) := by decide +kernel
theorem dX7_clear_10 : decode cX7_clear 10 = .ok (.return_, 1) := by decide +kernel
theorem dX7_copyFrom_0 : decode cX7_copyFrom 0 = .ok (.aload_n 1, 1) := by decide +kernel
theorem dX7_copyFrom_1 : decode cX7_copyFrom 1 = .ok (.getfield 11, 3) := by decide +kernel
theorem dX7_copyFrom_4 : decode cX7_copyFrom 4 = .ok (.iconst 0, 1) := by decide +kernel
theorem dX7_copyFrom_5 : decode cX7_copyFrom 5 = .ok (.aload_n 0, 1) := by decide +kernel
theorem dX7_copyFrom_6 : decode cX7_copyFrom 6 = .ok (.getfield 11, 3) := by decide +kernel
theorem dX7_copyFrom_9 : decode cX7_copyFrom 9 = .ok (.iconst 0, 1) := by decide +kernel
theorem dX7_copyFrom_10 : decode cX7_copyFrom 10 = .ok (.bipush 40, 2) := by decide +kernel
theorem dX7_copyFrom_12 : decode cX7_copyFrom 12 = .ok (.invokestatic 31, 3) := by decide +kernel
theorem dX7_copyFrom_15 : decode cX7_copyFrom 15 = .ok (.aload_n 1, 1) := by decide +kernel
theorem dX7_copyFrom_16 : decode cX7_copyFrom 16 = .ok (.getfield 15, 3) := by decide +kernel
theorem dX7_copyFrom_19 : decode cX7_copyFrom 19 = .ok (.iconst 0, 1) := by decide +kernel
theorem dX7_copyFrom_20 : decode cX7_copyFrom 20 = .ok (.aload_n 0, 1) := by decide +kernel
theorem dX7_copyFrom_21 : decode cX7_copyFrom 21 = .ok (.getfield 15, 3) := by decide +kernel
theorem dX7_copyFrom_24 : decode cX7_copyFrom 24 = .ok (.iconst 0, 1) := by decide +kernel
theorem dX7_copyFrom_25 : decode cX7_copyFrom 25 = .ok (.bipush 40, 2) := by decide +kernel
theorem dX7_copyFrom_27 : decode cX7_copyFrom 27 = .ok (.invokestatic 31, 3) := by decide +kernel
theorem dX7_copyFrom_30 : decode cX7_copyFrom 30 = .ok (.aload_n 1, 1) := by decide +kernel
theorem dX7_copyFrom_31 : decode cX7_copyFrom 31 = .ok (.getfield 18, 3) := by decide +kernel
theorem dX7_copyFrom_34 : decode cX7_copyFrom 34 = .ok (.iconst 0, 1) := by decide +kernel
theorem dX7_copyFrom_35 : decode cX7_copyFrom 35 = .ok (.aload_n 0, 1) := by decide +kernel
theorem dX7_copyFrom_36 : decode cX7_copyFrom 36 = .ok (.getfield 18, 3) := by decide +kernel
theorem dX7_copyFrom_39 : decode cX7_copyFrom 39 = .ok (.iconst 0, 1) := by decide +kernel
theorem dX7_copyFrom_40 : decode cX7_copyFrom 40 = .ok (.bipush 40, 2) := by decide +kernel
theorem dX7_copyFrom_42 : decode cX7_copyFrom 42 = .ok (.invokestatic 31, 3) := by decide +kernel
theorem dX7_copyFrom_45 : decode cX7_copyFrom 45 = .ok (.aload_n 0, 1) := by decide +kernel
theorem dX7_copyFrom_46 : decode cX7_copyFrom 46 = .ok (.aload_n 1, 1) := by decide +kernel
theorem dX7_copyFrom_47 : decode cX7_copyFrom 47 = .ok (.getfield 24, 3) := by decide +kernel
theorem dX7_copyFrom_50 : decode cX7_copyFrom 50 = .ok (.putfield 24, 3) := by decide +kernel
theorem dX7_copyFrom_53 : decode cX7_copyFrom 53 = .ok (.aload_n 0, 1) := by decide +kernel
theorem dX7_copyFrom_54 : decode cX7_copyFrom 54 = .ok (.aload_n 1, 1) := by decide +kernel
theorem dX7_copyFrom_55 : decode cX7_copyFrom 55 = .ok (.getfield 28, 3) := by decide +kernel
theorem dX7_copyFrom_58 : decode cX7_copyFrom 58 = .ok (.putfield 28, 3) := by decide +kernel
theorem dX7_copyFrom_61 : decode cX7_copyFrom 61 = .ok (.return_, 1) := by decide +kernel
theorem dX7_addStep_0 : decode cX7_addStep 0 = .ok (.aload_n 0, 1) := by decide +kernel
theorem dX7_addStep_1 : decode cX7_addStep 1 = .ok (.getfield 24, 3) := by decide +kernel
theorem dX7_addStep_4 : decode cX7_addStep 4 = .ok (.bipush 40, 2) := by decide +kernel
theorem dX7_addStep_6 : decode cX7_addStep 6 = .ok (.if_icmp .ge 43, 3) := by decide +kernel
theorem dX7_addStep_9 : decode cX7_addStep 9 = .ok (.aload_n 0, 1) := by decide +kernel
theorem dX7_addStep_10 : decode cX7_addStep 10 = .ok (.getfield 11, 3) := by decide +kernel
theorem dX7_addStep_13 : decode cX7_addStep 13 = .ok (.aload_n 0, 1) := by decide +kernel
theorem dX7_addStep_14 : decode cX7_addStep 14 = .ok (.getfield 24, 3) := by decide +kernel
theorem dX7_addStep_17 : decode cX7_addStep 17 = .ok (.iload_n 1, 1) := by decide +kernel
theorem dX7_addStep_18 : decode cX7_addStep 18 = .ok (.iastore, 1) := by decide +kernel
theorem dX7_addStep_19 : decode cX7_addStep 19 = .ok (.aload_n 0, 1) := by decide +kernel
theorem dX7_addStep_20 : decode cX7_addStep 20 = .ok (.getfield 15, 3) := by decide +kernel
theorem dX7_addStep_23 : decode cX7_addStep 23 = .ok (.aload_n 0, 1) := by decide +kernel
theorem dX7_addStep_24 : decode cX7_addStep 24 = .ok (.getfield 24, 3) := by decide +kernel
theorem dX7_addStep_27 : decode cX7_addStep 27 = .ok (.iload_n 2, 1) := by decide +kernel
theorem dX7_addStep_28 : decode cX7_addStep 28 = .ok (.iastore, 1) := by decide +kernel
theorem dX7_addStep_29 : decode cX7_addStep 29 = .ok (.aload_n 0, 1) := by decide +kernel
theorem dX7_addStep_30 : decode cX7_addStep 30 = .ok (.getfield 18, 3) := by decide +kernel
theorem dX7_addStep_33 : decode cX7_addStep 33 = .ok (.aload_n 0, 1) := by decide +kernel
theorem dX7_addStep_34 : decode cX7_addStep 34 = .ok (.getfield 24, 3) := by decide +kernel
theorem dX7_addStep_37 : decode cX7_addStep 37 = .ok (.iload_n 3, 1) := by decide +kernel
theorem dX7_addStep_38 : decode cX7_addStep 38 = .ok (.iastore, 1) := by decide +kernel
theorem dX7_addStep_39 : decode cX7_addStep 39 = .ok (.aload_n 0, 1) := by decide +kernel
theorem dX7_addStep_40 : decode cX7_addStep 40 = .ok (.dup, 1) := by decide +kernel
theorem dX7_addStep_41 : decode cX7_addStep 41 = .ok (.getfield 24, 3) := by decide +kernel
theorem dX7_addStep_44 : decode cX7_addStep 44 = .ok (.iconst 1, 1) := by decide +kernel
theorem dX7_addStep_45 : decode cX7_addStep 45 = .ok (.iadd, 1) := by decide +kernel
theorem dX7_addStep_46 : decode cX7_addStep 46 = .ok (.putfield 24, 3) := by decide +kernel
theorem dX7_addStep_49 : decode cX7_addStep 49 = .ok (.iconst 1, 1) := by decide +kernel
theorem dX7_addStep_50 : decode cX7_addStep 50 = .ok (.ireturn, 1) := by decide +kernel
theorem dX7_thingsOf_0 : decode cX7_thingsOf 0 = .ok (.iconst 1, 1) := by decide +kernel
theorem dX7_thingsOf_1 : decode cX7_thingsOf 1 = .ok (.aload_n 1, 1) := by decide +kernel
theorem dX7_thingsOf_2 : decode cX7_thingsOf 2 = .ok (.getfield 37, 3) := by decide +kernel
theorem dX7_thingsOf_5 : decode cX7_thingsOf 5 = .ok (.ishl, 1) := by decide +kernel
theorem dX7_thingsOf_6 : decode cX7_thingsOf 6 = .ok (.iconst 1, 1) := by decide +kernel
theorem dX7_thingsOf_7 : decode cX7_thingsOf 7 = .ok (.isub, 1) := by decide +kernel
theorem dX7_thingsOf_8 : decode cX7_thingsOf 8 = .ok (.istore_n 3, 1) := by decide +kernel
theorem dX7_thingsOf_9 : decode cX7_thingsOf 9 = .ok (.iconst 0, 1) := by decide +kernel
theorem dX7_thingsOf_10 : decode cX7_thingsOf 10 = .ok (.istore 4, 2) := by decide +kernel
theorem dX7_thingsOf_12 : decode cX7_thingsOf 12 = .ok (.iconst 0, 1) := by decide +kernel
theorem dX7_thingsOf_13 : decode cX7_thingsOf 13 = .ok (.istore 5, 2) := by decide +kernel
theorem dX7_thingsOf_15 : decode cX7_thingsOf 15 = .ok (.iload 5, 2) := by decide +kernel
theorem dX7_thingsOf_17 : decode cX7_thingsOf 17 = .ok (.aload_n 0, 1) := by decide +kernel
theorem dX7_thingsOf_18 : decode cX7_thingsOf 18 = .ok (.getfield 24, 3) := by decide +kernel
theorem dX7_thingsOf_21 : decode cX7_thingsOf 21 = .ok (.if_icmp .ge 156, 3) := by decide +kernel
theorem dX7_thingsOf_24 : decode cX7_thingsOf 24 = .ok (.aload_n 0, 1) := by decide +kernel
theorem dX7_thingsOf_25 : decode cX7_thingsOf 25 = .ok (.getfield 11, 3) := by decide +kernel
theorem dX7_thingsOf_28 : decode cX7_thingsOf 28 = .ok (.iload 5, 2) := by decide +kernel
theorem dX7_thingsOf_30 : decode cX7_thingsOf 30 = .ok (.iaload, 1) := by decide +kernel
theorem dX7_thingsOf_31 : decode cX7_thingsOf 31 = .ok (.bipush 12, 2) := by decide +kernel
theorem dX7_thingsOf_33 : decode cX7_thingsOf 33 = .ok (.if_icmp .ne 34, 3) := by decide +kernel
theorem dX7_thingsOf_36 : decode cX7_thingsOf 36 = .ok (.iload 4, 2) := by decide +kernel
theorem dX7_thingsOf_38 : decode cX7_thingsOf 38 = .ok (.iconst 1, 1) := by decide +kernel
theorem dX7_thingsOf_39 : decode cX7_thingsOf 39 = .ok (.if_icmp .lt 28, 3) := by decide +kernel
theorem dX7_thingsOf_42 : decode cX7_thingsOf 42 = .ok (.aload_n 0, 1) := by decide +kernel
theorem dX7_thingsOf_43 : decode cX7_thingsOf 43 = .ok (.getfield 21, 3) := by decide +kernel
theorem dX7_thingsOf_46 : decode cX7_thingsOf 46 = .ok (.iload 4, 2) := by decide +kernel
theorem dX7_thingsOf_48 : decode cX7_thingsOf 48 = .ok (.iconst 1, 1) := by decide +kernel
theorem dX7_thingsOf_49 : decode cX7_thingsOf 49 = .ok (.isub, 1) := by decide +kernel
theorem dX7_thingsOf_50 : decode cX7_thingsOf 50 = .ok (.iload_n 3, 1) := by decide +kernel
theorem dX7_thingsOf_51 : decode cX7_thingsOf 51 = .ok (.aload_n 0, 1) := by decide +kernel
theorem dX7_thingsOf_52 : decode cX7_thingsOf 52 = .ok (.getfield 21, 3) := by decide +kernel
theorem dX7_thingsOf_55 : decode cX7_thingsOf 55 = .ok (.iload 4, 2) := by decide +kernel
theorem dX7_thingsOf_57 : decode cX7_thingsOf 57 = .ok (.iconst 1, 1) := by decide +kernel
theorem dX7_thingsOf_58 : decode cX7_thingsOf 58 = .ok (.isub, 1) := by decide +kernel
theorem dX7_thingsOf_59 : decode cX7_thingsOf 59 = .ok (.iaload, 1) := by decide +kernel
theorem dX7_thingsOf_60 : decode cX7_thingsOf 60 = .ok (.iconst (-1), 1) := by decide +kernel
theorem dX7_thingsOf_61 : decode cX7_thingsOf 61 = .ok (.ixor, 1) := by decide +kernel
theorem dX7_thingsOf_62 : decode cX7_thingsOf 62 = .ok (.iand, 1) := by decide +kernel
theorem dX7_thingsOf_63 : decode cX7_thingsOf 63 = .ok (.iastore, 1) := by decide +kernel
theorem dX7_thingsOf_64 : decode cX7_thingsOf 64 = .ok (.goto 107, 3) := by decide +kernel
theorem dX7_thingsOf_67 : decode cX7_thingsOf 67 = .ok (.aload_n 0, 1) := by decide +kernel
theorem dX7_thingsOf_68 : decode cX7_thingsOf 68 = .ok (.getfield 11, 3) := by decide +kernel
theorem dX7_thingsOf_71 : decode cX7_thingsOf 71 = .ok (.iload 5, 2) := by decide +kernel
theorem dX7_thingsOf_73 : decode cX7_thingsOf 73 = .ok (.iaload, 1) := by decide +kernel
theorem dX7_thingsOf_74 : decode cX7_thingsOf 74 = .ok (.bipush 11, 2) := by decide +kernel
theorem dX7_thingsOf_76 : decode cX7_thingsOf 76 = .ok (.if_icmp .ne 34, 3) := by decide +kernel
theorem dX7_thingsOf_79 : decode cX7_thingsOf 79 = .ok (.iload 4, 2) := by decide +kernel
theorem dX7_thingsOf_81 : decode cX7_thingsOf 81 = .ok (.iconst 2, 1) := by decide +kernel
theorem dX7_thingsOf_82 : decode cX7_thingsOf 82 = .ok (.if_icmp .lt 28, 3) := by decide +kernel
theorem dX7_thingsOf_85 : decode cX7_thingsOf 85 = .ok (.iinc 4 (-1), 3) := by decide +kernel
theorem dX7_thingsOf_88 : decode cX7_thingsOf 88 = .ok (.aload_n 0, 1) := by decide +kernel
theorem dX7_thingsOf_89 : decode cX7_thingsOf 89 = .ok (.getfield 21, 3) := by decide +kernel
theorem dX7_thingsOf_92 : decode cX7_thingsOf 92 = .ok (.iload 4, 2) := by decide +kernel
theorem dX7_thingsOf_94 : decode cX7_thingsOf 94 = .ok (.iconst 1, 1) := by decide +kernel
theorem dX7_thingsOf_95 : decode cX7_thingsOf 95 = .ok (.isub, 1) := by decide +kernel
theorem dX7_thingsOf_96 : decode cX7_thingsOf 96 = .ok (.dup2, 1) := by decide +kernel
theorem dX7_thingsOf_97 : decode cX7_thingsOf 97 = .ok (.iaload, 1) := by decide +kernel
theorem dX7_thingsOf_98 : decode cX7_thingsOf 98 = .ok (.aload_n 0, 1) := by decide +kernel
theorem dX7_thingsOf_99 : decode cX7_thingsOf 99 = .ok (.getfield 21, 3) := by decide +kernel
theorem dX7_thingsOf_102 : decode cX7_thingsOf 102 = .ok (.iload 4, 2) := by decide +kernel
theorem dX7_thingsOf_104 : decode cX7_thingsOf 104 = .ok (.iaload, 1) := by decide +kernel
theorem dX7_thingsOf_105 : decode cX7_thingsOf 105 = .ok (.iand, 1) := by decide +kernel
theorem dX7_thingsOf_106 : decode cX7_thingsOf 106 = .ok (.iastore, 1) := by decide +kernel
theorem dX7_thingsOf_107 : decode cX7_thingsOf 107 = .ok (.goto 64, 3) := by decide +kernel
theorem dX7_thingsOf_110 : decode cX7_thingsOf 110 = .ok (.aload_n 0, 1) := by decide +kernel
theorem dX7_thingsOf_111 : decode cX7_thingsOf 111 = .ok (.getfield 11, 3) := by decide +kernel
theorem dX7_thingsOf_114 : decode cX7_thingsOf 114 = .ok (.iload 5, 2) := by decide +kernel
theorem dX7_thingsOf_116 : decode cX7_thingsOf 116 = .ok (.iaload, 1) := by decide +kernel
theorem dX7_thingsOf_117 : decode cX7_thingsOf 117 = .ok (.bipush 10, 2) := by decide +kernel
theorem dX7_thingsOf_119 : decode cX7_thingsOf 119 = .ok (.if_icmp .ne 34, 3) := by decide +kernel
theorem dX7_thingsOf_122 : decode cX7_thingsOf 122 = .ok (.iload 4, 2) := by decide +kernel
theorem dX7_thingsOf_124 : decode cX7_thingsOf 124 = .ok (.iconst 2, 1) := by decide +kernel
theorem dX7_thingsOf_125 : decode cX7_thingsOf 125 = .ok (.if_icmp .lt 28, 3) := by decide +kernel
theorem dX7_thingsOf_128 : decode cX7_thingsOf 128 = .ok (.iinc 4 (-1), 3) := by decide +kernel
theorem dX7_thingsOf_131 : decode cX7_thingsOf 131 = .ok (.aload_n 0, 1) := by decide +kernel
theorem dX7_thingsOf_132 : decode cX7_thingsOf 132 = .ok (.getfield 21, 3) := by decide +kernel
theorem dX7_thingsOf_135 : decode cX7_thingsOf 135 = .ok (.iload 4, 2) := by decide +kernel
theorem dX7_thingsOf_137 : decode cX7_thingsOf 137 = .ok (.iconst 1, 1) := by decide +kernel
theorem dX7_thingsOf_138 : decode cX7_thingsOf 138 = .ok (.isub, 1) := by decide +kernel
theorem dX7_thingsOf_139 : decode cX7_thingsOf 139 = .ok (.dup2, 1) := by decide +kernel
theorem dX7_thingsOf_140 : decode cX7_thingsOf 140 = .ok (.iaload, 1) := by decide +kernel
theorem dX7_thingsOf_141 : decode cX7_thingsOf 141 = .ok (.aload_n 0, 1) := by decide +kernel
theorem dX7_thingsOf_142 : decode cX7_thingsOf 142 = .ok (.getfield 21, 3) := by decide +kernel
theorem dX7_thingsOf_145 : decode cX7_thingsOf 145 = .ok (.iload 4, 2) := by decide +kernel
theorem dX7_thingsOf_147 : decode cX7_thingsOf 147 = .ok (.iaload, 1) := by decide +kernel
theorem dX7_thingsOf_148 : decode cX7_thingsOf 148 = .ok (.ior, 1) := by decide +kernel
theorem dX7_thingsOf_149 : decode cX7_thingsOf 149 = .ok (.iastore, 1) := by decide +kernel
theorem dX7_thingsOf_150 : decode cX7_thingsOf 150 = .ok (.goto 21, 3) := by decide +kernel
theorem dX7_thingsOf_153 : decode cX7_thingsOf 153 = .ok (.aload_n 0, 1) := by decide +kernel
theorem dX7_thingsOf_154 : decode cX7_thingsOf 154 = .ok (.getfield 21, 3) := by decide +kernel
theorem dX7_thingsOf_157 : decode cX7_thingsOf 157 = .ok (.iload 4, 2) := by decide +kernel
theorem dX7_thingsOf_159 : decode cX7_thingsOf 159 = .ok (.aload_n 0, 1) := by decide +kernel
theorem dX7_thingsOf_160 : decode cX7_thingsOf 160 = .ok (.aload_n 1, 1) := by decide +kernel
theorem dX7_thingsOf_161 : decode cX7_thingsOf 161 = .ok (.aload_n 2, 1) := by decide +kernel
theorem dX7_thingsOf_162 : decode cX7_thingsOf 162 = .ok (.iload 5, 2) := by decide +kernel
theorem dX7_thingsOf_164 : decode cX7_thingsOf 164 = .ok (.invokevirtual 42, 3) := by decide +kernel
theorem dX7_thingsOf_167 : decode cX7_thingsOf 167 = .ok (.iastore, 1) := by decide +kernel
theorem dX7_thingsOf_168 : decode cX7_thingsOf 168 = .ok (.iinc 4 1, 3) := by decide +kernel
theorem dX7_thingsOf_171 : decode cX7_thingsOf 171 = .ok (.iinc 5 1, 3) := by decide +kernel
theorem dX7_thingsOf_174 : decode cX7_thingsOf 174 = .ok (.goto (-159), 3) := by decide +kernel
theorem dX7_thingsOf_177 : decode cX7_thingsOf 177 = .ok (.iload 4, 2) := by decide +kernel
theorem dX7_thingsOf_179 : decode cX7_thingsOf 179 = .ok (.ifCond .le 12, 3) := by decide +kernel
theorem dX7_thingsOf_182 : decode cX7_thingsOf 182 = .ok (.aload_n 0, 1) := by decide +kernel
theorem dX7_thingsOf_183 : decode cX7_thingsOf 183 = .ok (.getfield 21, 3) := by decide +kernel
theorem dX7_thingsOf_186 : decode cX7_thingsOf 186 = .ok (.iconst 0, 1) := by decide +kernel
theorem dX7_thingsOf_187 : decode cX7_thingsOf 187 = .ok (.iaload, 1) := by decide +kernel
theorem dX7_thingsOf_188 : decode cX7_thingsOf 188 = .ok (.goto 4, 3) := by decide +kernel
theorem dX7_thingsOf_191 : decode cX7_thingsOf 191 = .ok (.iconst 0, 1) := by decide +kernel
theorem dX7_thingsOf_192 : decode cX7_thingsOf 192 = .ok (.ireturn, 1) := by decide +kernel
theorem dX7_thingsOfStep_0 : decode cX7_thingsOfStep 0 = .ok (.aload_n 0, 1) := by decide +kernel
theorem dX7_thingsOfStep_1 : decode cX7_thingsOfStep 1 = .ok (.getfield 18, 3) := by decide +kernel
theorem dX7_thingsOfStep_4 : decode cX7_thingsOfStep 4 = .ok (.iload_n 3, 1) := by decide +kernel
theorem dX7_thingsOfStep_5 : decode cX7_thingsOfStep 5 = .ok (.iaload, 1) := by decide +kernel
theorem dX7_thingsOfStep_6 : decode cX7_thingsOfStep 6 = .ok (.istore 4, 2) := by decide +kernel
theorem dX7_thingsOfStep_8 : decode cX7_thingsOfStep 8 = .ok (.aload_n 0, 1) := by decide +kernel
theorem dX7_thingsOfStep_9 : decode cX7_thingsOfStep 9 = .ok (.getfield 11, 3) := by decide +kernel
theorem dX7_thingsOfStep_12 : decode cX7_thingsOfStep 12 = .ok (.iload_n 3, 1) := by decide +kernel
theorem dX7_thingsOfStep_13 : decode cX7_thingsOfStep 13 = .ok (.iaload, 1) := by decide +kernel
theorem dX7_thingsOfStep_14 : decode cX7_thingsOfStep 14 = .ok (.lookupswitch 96 #[(1, 88), (13, 50), (14, 56), (15, 63), (16, 70)], 50) := by decide +kernel
theorem dX7_thingsOfStep_64 : decode cX7_thingsOfStep 64 = .ok (.aload_n 2, 1) := by decide +kernel
theorem dX7_thingsOfStep_65 : decode cX7_thingsOfStep 65 = .ok (.aload_n 1, 1) := by decide +kernel
theorem dX7_thingsOfStep_66 : decode cX7_thingsOfStep 66 = .ok (.invokevirtual 46, 3) := by decide +kernel
theorem dX7_thingsOfStep_69 : decode cX7_thingsOfStep 69 = .ok (.ireturn, 1) := by decide +kernel
theorem dX7_thingsOfStep_70 : decode cX7_thingsOfStep 70 = .ok (.aload_n 2, 1) := by decide +kernel
theorem dX7_thingsOfStep_71 : decode cX7_thingsOfStep 71 = .ok (.aload_n 1, 1) := by decide +kernel
theorem dX7_thingsOfStep_72 : decode cX7_thingsOfStep 72 = .ok (.iconst 2, 1) := by decide +kernel
theorem dX7_thingsOfStep_73 : decode cX7_thingsOfStep 73 = .ok (.invokevirtual 52, 3) := by decide +kernel
theorem dX7_thingsOfStep_76 : decode cX7_thingsOfStep 76 = .ok (.ireturn, 1) := by decide +kernel
theorem dX7_thingsOfStep_77 : decode cX7_thingsOfStep 77 = .ok (.aload_n 2, 1) := by decide +kernel
theorem dX7_thingsOfStep_78 : decode cX7_thingsOfStep 78 = .ok (.aload_n 1, 1) := by decide +kernel
theorem dX7_thingsOfStep_79 : decode cX7_thingsOfStep 79 = .ok (.iconst 1, 1) := by decide +kernel
theorem dX7_thingsOfStep_80 : decode cX7_thingsOfStep 80 = .ok (.invokevirtual 52, 3) := by decide +kernel
theorem dX7_thingsOfStep_83 : decode cX7_thingsOfStep 83 = .ok (.ireturn, 1) := by decide +kernel
theorem dX7_thingsOfStep_84 : decode cX7_thingsOfStep 84 = .ok (.aload_n 2, 1) := by decide +kernel
theorem dX7_thingsOfStep_85 : decode cX7_thingsOfStep 85 = .ok (.getfield 56, 3) := by decide +kernel
theorem dX7_thingsOfStep_88 : decode cX7_thingsOfStep 88 = .ok (.iload 4, 2) := by decide +kernel
theorem dX7_thingsOfStep_90 : decode cX7_thingsOfStep 90 = .ok (.invokestatic 59, 3) := by decide +kernel
theorem dX7_thingsOfStep_93 : decode cX7_thingsOfStep 93 = .ok (.aload_n 1, 1) := by decide +kernel
theorem dX7_thingsOfStep_94 : decode cX7_thingsOfStep 94 = .ok (.getfield 63, 3) := by decide +kernel
theorem dX7_thingsOfStep_97 : decode cX7_thingsOfStep 97 = .ok (.iload 4, 2) := by decide +kernel
theorem dX7_thingsOfStep_99 : decode cX7_thingsOfStep 99 = .ok (.iaload, 1) := by decide +kernel
theorem dX7_thingsOfStep_100 : decode cX7_thingsOfStep 100 = .ok (.ishl, 1) := by decide +kernel
theorem dX7_thingsOfStep_101 : decode cX7_thingsOfStep 101 = .ok (.ireturn, 1) := by decide +kernel
theorem dX7_thingsOfStep_102 : decode cX7_thingsOfStep 102 = .ok (.aload_n 1, 1) := by decide +kernel
theorem dX7_thingsOfStep_103 : decode cX7_thingsOfStep 103 = .ok (.getfield 66, 3) := by decide +kernel
theorem dX7_thingsOfStep_106 : decode cX7_thingsOfStep 106 = .ok (.iload 4, 2) := by decide +kernel
theorem dX7_thingsOfStep_108 : decode cX7_thingsOfStep 108 = .ok (.iaload, 1) := by decide +kernel
theorem dX7_thingsOfStep_109 : decode cX7_thingsOfStep 109 = .ok (.ireturn, 1) := by decide +kernel
theorem dX7_thingsOfStep_110 : decode cX7_thingsOfStep 110 = .ok (.aload_n 0, 1) := by decide +kernel
theorem dX7_thingsOfStep_111 : decode cX7_thingsOfStep 111 = .ok (.aload_n 1, 1) := by decide +kernel
theorem dX7_thingsOfStep_112 : decode cX7_thingsOfStep 112 = .ok (.aload_n 2, 1) := by decide +kernel
theorem dX7_thingsOfStep_113 : decode cX7_thingsOfStep 113 = .ok (.iload_n 3, 1) := by decide +kernel
theorem dX7_thingsOfStep_114 : decode cX7_thingsOfStep 114 = .ok (.invokevirtual 69, 3) := by decide +kernel
theorem dX7_thingsOfStep_117 : decode cX7_thingsOfStep 117 = .ok (.ireturn, 1) := by decide +kernel
theorem dX7_thingsCompared_0 : decode cX7_thingsCompared 0 = .ok (.iconst 0, 1) := by decide +kernel
theorem dX7_thingsCompared_1 : decode cX7_thingsCompared 1 = .ok (.istore 4, 2) := by decide +kernel
theorem dX7_thingsCompared_3 : decode cX7_thingsCompared 3 = .ok (.iconst 0, 1) := by decide +kernel
theorem dX7_thingsCompared_4 : decode cX7_thingsCompared 4 = .ok (.istore 5, 2) := by decide +kernel
theorem dX7_thingsCompared_6 : decode cX7_thingsCompared 6 = .ok (.iload 5, 2) := by decide +kernel
theorem dX7_thingsCompared_8 : decode cX7_thingsCompared 8 = .ok (.aload_n 1, 1) := by decide +kernel
theorem dX7_thingsCompared_9 : decode cX7_thingsCompared 9 = .ok (.getfield 37, 3) := by decide +kernel
theorem dX7_thingsCompared_12 : decode cX7_thingsCompared 12 = .ok (.if_icmp .ge 45, 3) := by decide +kernel
theorem dX7_thingsCompared_15 : decode cX7_thingsCompared 15 = .ok (.aload_n 0, 1) := by decide +kernel
theorem dX7_thingsCompared_16 : decode cX7_thingsCompared 16 = .ok (.aload_n 1, 1) := by decide +kernel
theorem dX7_thingsCompared_17 : decode cX7_thingsCompared 17 = .ok (.aload_n 2, 1) := by decide +kernel
theorem dX7_thingsCompared_18 : decode cX7_thingsCompared 18 = .ok (.iload_n 3, 1) := by decide +kernel
theorem dX7_thingsCompared_19 : decode cX7_thingsCompared 19 = .ok (.iload 5, 2) := by decide +kernel
theorem dX7_thingsCompared_21 : decode cX7_thingsCompared 21 = .ok (.invokevirtual 72, 3) := by decide +kernel
theorem dX7_thingsCompared_24 : decode cX7_thingsCompared 24 = .ok (.aload_n 0, 1) := by decide +kernel
theorem dX7_thingsCompared_25 : decode cX7_thingsCompared 25 = .ok (.getfield 15, 3) := by decide +kernel
theorem dX7_thingsCompared_28 : decode cX7_thingsCompared 28 = .ok (.iload_n 3, 1) := by decide +kernel
theorem dX7_thingsCompared_29 : decode cX7_thingsCompared 29 = .ok (.iaload, 1) := by decide +kernel
theorem dX7_thingsCompared_30 : decode cX7_thingsCompared 30 = .ok (.aload_n 0, 1) := by decide +kernel
theorem dX7_thingsCompared_31 : decode cX7_thingsCompared 31 = .ok (.getfield 18, 3) := by decide +kernel
theorem dX7_thingsCompared_34 : decode cX7_thingsCompared 34 = .ok (.iload_n 3, 1) := by decide +kernel
theorem dX7_thingsCompared_35 : decode cX7_thingsCompared 35 = .ok (.iaload, 1) := by decide +kernel
theorem dX7_thingsCompared_36 : decode cX7_thingsCompared 36 = .ok (.invokestatic 76, 3) := by decide +kernel
theorem dX7_thingsCompared_39 : decode cX7_thingsCompared 39 = .ok (.ifCond .eq 12, 3) := by decide +kernel
theorem dX7_thingsCompared_42 : decode cX7_thingsCompared 42 = .ok (.iload 4, 2) := by decide +kernel
theorem dX7_thingsCompared_44 : decode cX7_thingsCompared 44 = .ok (.iconst 1, 1) := by decide +kernel
theorem dX7_thingsCompared_45 : decode cX7_thingsCompared 45 = .ok (.iload 5, 2) := by decide +kernel
theorem dX7_thingsCompared_47 : decode cX7_thingsCompared 47 = .ok (.ishl, 1) := by decide +kernel
theorem dX7_thingsCompared_48 : decode cX7_thingsCompared 48 = .ok (.ior, 1) := by decide +kernel
theorem dX7_thingsCompared_49 : decode cX7_thingsCompared 49 = .ok (.istore 4, 2) := by decide +kernel
theorem dX7_thingsCompared_51 : decode cX7_thingsCompared 51 = .ok (.iinc 5 1, 3) := by decide +kernel
theorem dX7_thingsCompared_54 : decode cX7_thingsCompared 54 = .ok (.goto (-48), 3) := by decide +kernel
theorem dX7_thingsCompared_57 : decode cX7_thingsCompared 57 = .ok (.iload 4, 2) := by decide +kernel
theorem dX7_thingsCompared_59 : decode cX7_thingsCompared 59 = .ok (.ireturn, 1) := by decide +kernel
theorem dX7_valueOf_0 : decode cX7_valueOf 0 = .ok (.aload_n 0, 1) := by decide +kernel
theorem dX7_valueOf_1 : decode cX7_valueOf 1 = .ok (.getfield 11, 3) := by decide +kernel
theorem dX7_valueOf_4 : decode cX7_valueOf 4 = .ok (.iload_n 3, 1) := by decide +kernel
theorem dX7_valueOf_5 : decode cX7_valueOf 5 = .ok (.iaload, 1) := by decide +kernel
theorem dX7_valueOf_6 : decode cX7_valueOf 6 = .ok (.lookupswitch 46 #[(17, 26), (18, 38)], 26) := by decide +kernel
theorem dX7_valueOf_32 : decode cX7_valueOf 32 = .ok (.aload_n 2, 1) := by decide +kernel
theorem dX7_valueOf_33 : decode cX7_valueOf 33 = .ok (.aload_n 1, 1) := by decide +kernel
theorem dX7_valueOf_34 : decode cX7_valueOf 34 = .ok (.iload 4, 2) := by decide +kernel
theorem dX7_valueOf_36 : decode cX7_valueOf 36 = .ok (.aload_n 2, 1) := by decide +kernel
theorem dX7_valueOf_37 : decode cX7_valueOf 37 = .ok (.getfield 56, 3) := by decide +kernel
theorem dX7_valueOf_40 : decode cX7_valueOf 40 = .ok (.invokevirtual 80, 3) := by decide +kernel
theorem dX7_valueOf_43 : decode cX7_valueOf 43 = .ok (.ireturn, 1) := by decide +kernel
theorem dX7_valueOf_44 : decode cX7_valueOf 44 = .ok (.aload_n 2, 1) := by decide +kernel
theorem dX7_valueOf_45 : decode cX7_valueOf 45 = .ok (.getfield 84, 3) := by decide +kernel
theorem dX7_valueOf_48 : decode cX7_valueOf 48 = .ok (.iload 4, 2) := by decide +kernel
theorem dX7_valueOf_50 : decode cX7_valueOf 50 = .ok (.iaload, 1) := by decide +kernel
theorem dX7_valueOf_51 : decode cX7_valueOf 51 = .ok (.ireturn, 1) := by decide +kernel
theorem dX7_valueOf_52 : decode cX7_valueOf 52 = .ok (.iload 4, 2) := by decide +kernel
theorem dX7_valueOf_54 : decode cX7_valueOf 54 = .ok (.ireturn, 1) := by decide +kernel
theorem dX7_holds_0 : decode cX7_holds 0 = .ok (.iload_n 1, 1) := by decide +kernel
theorem dX7_holds_1 : decode cX7_holds 1 = .ok (.lookupswitch 49 #[(60, 27), (61, 38)], 27) := by decide +kernel
theorem dX7_holds_28 : decode cX7_holds 28 = .ok (.iload_n 0, 1) := by decide +kernel
theorem dX7_holds_29 : decode cX7_holds 29 = .ok (.iload_n 2, 1) := by decide +kernel
theorem dX7_holds_30 : decode cX7_holds 30 = .ok (.if_icmp .ge 7, 3) := by decide +kernel
theorem dX7_holds_33 : decode cX7_holds 33 = .ok (.iconst 1, 1) := by decide +kernel
theorem dX7_holds_34 : decode cX7_holds 34 = .ok (.goto 4, 3) := by decide +kernel
theorem dX7_holds_37 : decode cX7_holds 37 = .ok (.iconst 0, 1) := by decide +kernel
theorem dX7_holds_38 : decode cX7_holds 38 = .ok (.ireturn, 1) := by decide +kernel
theorem dX7_holds_39 : decode cX7_holds 39 = .ok (.iload_n 0, 1) := by decide +kernel
theorem dX7_holds_40 : decode cX7_holds 40 = .ok (.iload_n 2, 1) := by decide +kernel
theorem dX7_holds_41 : decode cX7_holds 41 = .ok (.if_icmp .ne 7, 3) := by decide +kernel
theorem dX7_holds_44 : decode cX7_holds 44 = .ok (.iconst 1, 1) := by decide +kernel
theorem dX7_holds_45 : decode cX7_holds 45 = .ok (.goto 4, 3) := by decide +kernel
theorem dX7_holds_48 : decode cX7_holds 48 = .ok (.iconst 0, 1) := by decide +kernel
theorem dX7_holds_49 : decode cX7_holds 49 = .ok (.ireturn, 1) := by decide +kernel
theorem dX7_holds_50 : decode cX7_holds 50 = .ok (.iload_n 0, 1) := by decide +kernel
theorem dX7_holds_51 : decode cX7_holds 51 = .ok (.iload_n 2, 1) := by decide +kernel
theorem dX7_holds_52 : decode cX7_holds 52 = .ok (.if_icmp .le 7, 3) := by decide +kernel
theorem dX7_holds_55 : decode cX7_holds 55 = .ok (.iconst 1, 1) := by decide +kernel
theorem dX7_holds_56 : decode cX7_holds 56 = .ok (.goto 4, 3) := by decide +kernel
theorem dX7_holds_59 : decode cX7_holds 59 = .ok (.iconst 0, 1) := by decide +kernel
theorem dX7_holds_60 : decode cX7_holds 60 = .ok (.ireturn, 1) := by decide +kernel
theorem dX8_init_0 : decode cX8_init 0 = .ok (.aload_n 0, 1) := by decide +kernel
theorem dX8_init_1 : decode cX8_init 1 = .ok (.invokespecial 3, 3) := by decide +kernel
theorem dX8_init_4 : decode cX8_init 4 = .ok (.aload_n 0, 1) := by decide +kernel
theorem dX8_init_5 : decode cX8_init 5 = .ok (.new 9, 3) := by decide +kernel
theorem dX8_init_8 : decode cX8_init 8 = .ok (.dup, 1) := by decide +kernel
theorem dX8_init_9 : decode cX8_init 9 = .ok (.invokespecial 11, 3) := by decide +kernel
theorem dX8_init_12 : decode cX8_init 12 = .ok (.putfield 12, 3) := by decide +kernel
theorem dX8_init_15 : decode cX8_init 15 = .ok (.aload_n 0, 1) := by decide +kernel
theorem dX8_init_16 : decode cX8_init 16 = .ok (.new 18, 3) := by decide +kernel
theorem dX8_init_19 : decode cX8_init 19 = .ok (.dup, 1) := by decide +kernel
theorem dX8_init_20 : decode cX8_init 20 = .ok (.invokespecial 20, 3) := by decide +kernel
theorem dX8_init_23 : decode cX8_init 23 = .ok (.putfield 21, 3) := by decide +kernel
theorem dX8_init_26 : decode cX8_init 26 = .ok (.return_, 1) := by decide +kernel
theorem dX8_readSentence_0 : decode cX8_readSentence 0 = .ok (.aload_n 0, 1) := by decide +kernel
theorem dX8_readSentence_1 : decode cX8_readSentence 1 = .ok (.getfield 21, 3) := by decide +kernel
theorem dX8_readSentence_4 : decode cX8_readSentence 4 = .ok (.invokevirtual 25, 3) := by decide +kernel
theorem dX8_readSentence_7 : decode cX8_readSentence 7 = .ok (.aload_n 0, 1) := by decide +kernel
theorem dX8_readSentence_8 : decode cX8_readSentence 8 = .ok (.getfield 12, 3) := by decide +kernel
theorem dX8_readSentence_11 : decode cX8_readSentence 11 = .ok (.aload_n 1, 1) := by decide +kernel
theorem dX8_readSentence_12 : decode cX8_readSentence 12 = .ok (.sipush 200, 3) := by decide +kernel
theorem dX8_readSentence_15 : decode cX8_readSentence 15 = .ok (.invokevirtual 28, 3) := by decide +kernel
theorem dX8_readSentence_18 : decode cX8_readSentence 18 = .ok (.aload_n 0, 1) := by decide +kernel
theorem dX8_readSentence_19 : decode cX8_readSentence 19 = .ok (.aload_n 2, 1) := by decide +kernel
theorem dX8_readSentence_20 : decode cX8_readSentence 20 = .ok (.iconst 0, 1) := by decide +kernel
theorem dX8_readSentence_21 : decode cX8_readSentence 21 = .ok (.invokevirtual 32, 3) := by decide +kernel
theorem dX8_readSentence_24 : decode cX8_readSentence 24 = .ok (.ifCond .eq 28, 3) := by decide +kernel
theorem dX8_readSentence_27 : decode cX8_readSentence 27 = .ok (.aload_n 0, 1) := by decide +kernel
theorem dX8_readSentence_28 : decode cX8_readSentence 28 = .ok (.getfield 12, 3) := by decide +kernel
theorem dX8_readSentence_31 : decode cX8_readSentence 31 = .ok (.getfield 36, 3) := by decide +kernel
theorem dX8_readSentence_34 : decode cX8_readSentence 34 = .ok (.ifCond .eq 14, 3) := by decide +kernel
theorem dX8_readSentence_37 : decode cX8_readSentence 37 = .ok (.aload_n 0, 1) := by decide +kernel
theorem dX8_readSentence_38 : decode cX8_readSentence 38 = .ok (.getfield 12, 3) := by decide +kernel
theorem dX8_readSentence_41 : decode cX8_readSentence 41 = .ok (.iconst 1, 1) := by decide +kernel
theorem dX8_readSentence_42 : decode cX8_readSentence 42 = .ok (.invokevirtual 40, 3) := by decide +kernel
theorem dX8_readSentence_45 : decode cX8_readSentence 45 = .ok (.ifCond .eq 7, 3) := by decide +kernel
theorem dX8_readSentence_48 : decode cX8_readSentence 48 = .ok (.iconst 1, 1) := by decide +kernel
theorem dX8_readSentence_49 : decode cX8_readSentence 49 = .ok (.goto 4, 3) := by decide +kernel
theorem dX8_readSentence_52 : decode cX8_readSentence 52 = .ok (.iconst 0, 1) := by decide +kernel
theorem dX8_readSentence_53 : decode cX8_readSentence 53 = .ok (.ireturn, 1) := by decide +kernel
theorem dX8_readCond_0 : decode cX8_readCond 0 = .ok (.aload_n 0, 1) := by decide +kernel
theorem dX8_readCond_1 : decode cX8_readCond 1 = .ok (.aload_n 1, 1) := by decide +kernel
theorem dX8_readCond_2 : decode cX8_readCond 2 = .ok (.iload_n 2, 1) := by decide +kernel
theorem dX8_readCond_3 : decode cX8_readCond 3 = .ok (.invokevirtual 44, 3) := by decide +kernel
theorem dX8_readCond_6 : decode cX8_readCond 6 = .ok (.ifCond .ne 5, 3) := by decide +kernel
theorem dX8_readCond_9 : decode cX8_readCond 9 = .ok (.iconst 0, 1) := by decide +kernel
theorem dX8_readCond_10 : decode cX8_readCond 10 = .ok (.ireturn, 1) := by decide +kernel
theorem dX8_readCond_11 : decode cX8_readCond 11 = .ok (.iconst 0, 1) := by decide +kernel
theorem dX8_readCond_12 : decode cX8_readCond 12 = .ok (.istore_n 3, 1) := by decide +kernel
theorem dX8_readCond_13 : decode cX8_readCond 13 = .ok (.iload_n 3, 1) := by decide +kernel
theorem dX8_readCond_14 : decode cX8_readCond 14 = .ok (.bipush 20, 2) := by decide +kernel
theorem dX8_readCond_16 : decode cX8_readCond 16 = .ok (.if_icmp .ge 51, 3) := by decide +kernel
theorem dX8_readCond_19 : decode cX8_readCond 19 = .ok (.aload_n 0, 1) := by decide +kernel
