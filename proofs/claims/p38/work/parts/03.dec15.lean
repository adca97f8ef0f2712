theorem dX12_readNumber_5 : decode cX12_readNumber 5 = .ok (.if_icmp .eq 9, 3) := by decide +kernel
theorem dX12_readNumber_8 : decode cX12_readNumber 8 = .ok (.aload_n 0, 1) := by decide +kernel
theorem dX12_readNumber_9 : decode cX12_readNumber 9 = .ok (.iconst 1, 1) := by decide +kernel
theorem dX12_readNumber_10 : decode cX12_readNumber 10 = .ok (.invokevirtual 137, 3) := by decide +kernel
theorem dX12_readNumber_13 : decode cX12_readNumber 13 = .ok (.ireturn, 1) := by decide +kernel
theorem dX12_readNumber_14 : decode cX12_readNumber 14 = .ok (.aload_n 0, 1) := by decide +kernel
theorem dX12_readNumber_15 : decode cX12_readNumber 15 = .ok (.getfield 112, 3) := by decide +kernel
theorem dX12_readNumber_18 : decode cX12_readNumber 18 = .ok (.iload_n 1, 1) := by decide +kernel
theorem dX12_readNumber_19 : decode cX12_readNumber 19 = .ok (.iload_n 2, 1) := by decide +kernel
theorem dX12_readNumber_20 : decode cX12_readNumber 20 = .ok (.invokestatic 140, 3) := by decide +kernel
theorem dX12_readNumber_23 : decode cX12_readNumber 23 = .ok (.ifCond .ne 9, 3) := by decide +kernel
theorem dX12_readNumber_26 : decode cX12_readNumber 26 = .ok (.aload_n 0, 1) := by decide +kernel
theorem dX12_readNumber_27 : decode cX12_readNumber 27 = .ok (.iconst 2, 1) := by decide +kernel
theorem dX12_readNumber_28 : decode cX12_readNumber 28 = .ok (.invokevirtual 137, 3) := by decide +kernel
theorem dX12_readNumber_31 : decode cX12_readNumber 31 = .ok (.ireturn, 1) := by decide +kernel
theorem dX12_readNumber_32 : decode cX12_readNumber 32 = .ok (.aload_n 0, 1) := by decide +kernel
theorem dX12_readNumber_33 : decode cX12_readNumber 33 = .ok (.aload_n 0, 1) := by decide +kernel
theorem dX12_readNumber_34 : decode cX12_readNumber 34 = .ok (.getfield 112, 3) := by decide +kernel
theorem dX12_readNumber_37 : decode cX12_readNumber 37 = .ok (.putfield 144, 3) := by decide +kernel
theorem dX12_readNumber_40 : decode cX12_readNumber 40 = .ok (.aload_n 0, 1) := by decide +kernel
theorem dX12_readNumber_41 : decode cX12_readNumber 41 = .ok (.invokevirtual 147, 3) := by decide +kernel
theorem dX12_readNumber_44 : decode cX12_readNumber 44 = .ok (.iconst 1, 1) := by decide +kernel
theorem dX12_readNumber_45 : decode cX12_readNumber 45 = .ok (.ireturn, 1) := by decide +kernel
theorem dX12_readEnd_0 : decode cX12_readEnd 0 = .ok (.aload_n 0, 1) := by decide +kernel
theorem dX12_readEnd_1 : decode cX12_readEnd 1 = .ok (.bipush 59, 2) := by decide +kernel
theorem dX12_readEnd_3 : decode cX12_readEnd 3 = .ok (.invokevirtual 150, 3) := by decide +kernel
theorem dX12_readEnd_6 : decode cX12_readEnd 6 = .ok (.ifCond .ne 9, 3) := by decide +kernel
theorem dX12_readEnd_9 : decode cX12_readEnd 9 = .ok (.aload_n 0, 1) := by decide +kernel
theorem dX12_readEnd_10 : decode cX12_readEnd 10 = .ok (.iconst 1, 1) := by decide +kernel
theorem dX12_readEnd_11 : decode cX12_readEnd 11 = .ok (.invokevirtual 137, 3) := by decide +kernel
theorem dX12_readEnd_14 : decode cX12_readEnd 14 = .ok (.ireturn, 1) := by decide +kernel
theorem dX12_readEnd_15 : decode cX12_readEnd 15 = .ok (.aload_n 0, 1) := by decide +kernel
theorem dX12_readEnd_16 : decode cX12_readEnd 16 = .ok (.invokevirtual 147, 3) := by decide +kernel
theorem dX12_readEnd_19 : decode cX12_readEnd 19 = .ok (.iconst 1, 1) := by decide +kernel
theorem dX12_readEnd_20 : decode cX12_readEnd 20 = .ok (.ireturn, 1) := by decide +kernel
theorem dX12_begin_0 : decode cX12_begin 0 = .ok (.aload_n 0, 1) := by decide +kernel
theorem dX12_begin_1 : decode cX12_begin 1 = .ok (.iconst 0, 1) := by decide +kernel
theorem dX12_begin_2 : decode cX12_begin 2 = .ok (.putfield 73, 3) := by decide +kernel
theorem dX12_begin_5 : decode cX12_begin 5 = .ok (.aload_n 0, 1) := by decide +kernel
theorem dX12_begin_6 : decode cX12_begin 6 = .ok (.aload_n 0, 1) := by decide +kernel
theorem dX12_begin_7 : decode cX12_begin 7 = .ok (.invokevirtual 153, 3) := by decide +kernel
theorem dX12_begin_10 : decode cX12_begin 10 = .ok (.putfield 83, 3) := by decide +kernel
theorem dX12_begin_13 : decode cX12_begin 13 = .ok (.aload_n 0, 1) := by decide +kernel
theorem dX12_begin_14 : decode cX12_begin 14 = .ok (.iload_n 1, 1) := by decide +kernel
theorem dX12_begin_15 : decode cX12_begin 15 = .ok (.putfield 92, 3) := by decide +kernel
theorem dX12_begin_18 : decode cX12_begin 18 = .ok (.aload_n 0, 1) := by decide +kernel
theorem dX12_begin_19 : decode cX12_begin 19 = .ok (.iconst 0, 1) := by decide +kernel
theorem dX12_begin_20 : decode cX12_begin 20 = .ok (.putfield 131, 3) := by decide +kernel
theorem dX12_begin_23 : decode cX12_begin 23 = .ok (.aload_n 0, 1) := by decide +kernel
theorem dX12_begin_24 : decode cX12_begin 24 = .ok (.iconst 0, 1) := by decide +kernel
theorem dX12_begin_25 : decode cX12_begin 25 = .ok (.putfield 86, 3) := by decide +kernel
theorem dX12_begin_28 : decode cX12_begin 28 = .ok (.aload_n 0, 1) := by decide +kernel
theorem dX12_begin_29 : decode cX12_begin 29 = .ok (.invokevirtual 147, 3) := by decide +kernel
theorem dX12_begin_32 : decode cX12_begin 32 = .ok (.return_, 1) := by decide +kernel
theorem dX12_startSo_0 : decode cX12_startSo 0 = .ok (.bipush 77, 2) := by decide +kernel
theorem dX12_startSo_2 : decode cX12_startSo 2 = .ok (.istore_n 1, 1) := by decide +kernel
theorem dX12_startSo_3 : decode cX12_startSo 3 = .ok (.iload_n 1, 1) := by decide +kernel
theorem dX12_startSo_4 : decode cX12_startSo 4 = .ok (.sipush 379, 3) := by decide +kernel
theorem dX12_startSo_7 : decode cX12_startSo 7 = .ok (.if_icmp .ge 16, 3) := by decide +kernel
theorem dX12_startSo_10 : decode cX12_startSo 10 = .ok (.aload_n 0, 1) := by decide +kernel
theorem dX12_startSo_11 : decode cX12_startSo 11 = .ok (.getfield 13, 3) := by decide +kernel
theorem dX12_startSo_14 : decode cX12_startSo 14 = .ok (.iload_n 1, 1) := by decide +kernel
theorem dX12_startSo_15 : decode cX12_startSo 15 = .ok (.iconst 0, 1) := by decide +kernel
theorem dX12_startSo_16 : decode cX12_startSo 16 = .ok (.iastore, 1) := by decide +kernel
theorem dX12_startSo_17 : decode cX12_startSo 17 = .ok (.iinc 1 1, 3) := by decide +kernel
theorem dX12_startSo_20 : decode cX12_startSo 20 = .ok (.goto (-17), 3) := by decide +kernel
theorem dX12_startSo_23 : decode cX12_startSo 23 = .ok (.iconst 0, 1) := by decide +kernel
theorem dX12_startSo_24 : decode cX12_startSo 24 = .ok (.istore_n 1, 1) := by decide +kernel
theorem dX12_startSo_25 : decode cX12_startSo 25 = .ok (.iload_n 1, 1) := by decide +kernel
theorem dX12_startSo_26 : decode cX12_startSo 26 = .ok (.bipush 6, 2) := by decide +kernel
theorem dX12_startSo_28 : decode cX12_startSo 28 = .ok (.if_icmp .ge 29, 3) := by decide +kernel
theorem dX12_startSo_31 : decode cX12_startSo 31 = .ok (.aload_n 0, 1) := by decide +kernel
theorem dX12_startSo_32 : decode cX12_startSo 32 = .ok (.getfield 13, 3) := by decide +kernel
theorem dX12_startSo_35 : decode cX12_startSo 35 = .ok (.bipush 81, 2) := by decide +kernel
theorem dX12_startSo_37 : decode cX12_startSo 37 = .ok (.iload_n 1, 1) := by decide +kernel
theorem dX12_startSo_38 : decode cX12_startSo 38 = .ok (.iadd, 1) := by decide +kernel
theorem dX12_startSo_39 : decode cX12_startSo 39 = .ok (.iconst 2, 1) := by decide +kernel
theorem dX12_startSo_40 : decode cX12_startSo 40 = .ok (.iastore, 1) := by decide +kernel
theorem dX12_startSo_41 : decode cX12_startSo 41 = .ok (.aload_n 0, 1) := by decide +kernel
theorem dX12_startSo_42 : decode cX12_startSo 42 = .ok (.getfield 13, 3) := by decide +kernel
theorem dX12_startSo_45 : decode cX12_startSo 45 = .ok (.bipush 93, 2) := by decide +kernel
theorem dX12_startSo_47 : decode cX12_startSo 47 = .ok (.iload_n 1, 1) := by decide +kernel
theorem dX12_startSo_48 : decode cX12_startSo 48 = .ok (.iadd, 1) := by decide +kernel
theorem dX12_startSo_49 : decode cX12_startSo 49 = .ok (.iconst 1, 1) := by decide +kernel
theorem dX12_startSo_50 : decode cX12_startSo 50 = .ok (.iastore, 1) := by decide +kernel
theorem dX12_startSo_51 : decode cX12_startSo 51 = .ok (.iinc 1 1, 3) := by decide +kernel
theorem dX12_startSo_54 : decode cX12_startSo 54 = .ok (.goto (-29), 3) := by decide +kernel
theorem dX12_startSo_57 : decode cX12_startSo 57 = .ok (.return_, 1) := by decide +kernel
theorem dX12_findIn_0 : decode cX12_findIn 0 = .ok (.iconst 0, 1) := by decide +kernel
theorem dX12_findIn_1 : decode cX12_findIn 1 = .ok (.istore 5, 2) := by decide +kernel
theorem dX12_findIn_3 : decode cX12_findIn 3 = .ok (.iload 5, 2) := by decide +kernel
theorem dX12_findIn_5 : decode cX12_findIn 5 = .ok (.iload_n 2, 1) := by decide +kernel
theorem dX12_findIn_6 : decode cX12_findIn 6 = .ok (.if_icmp .ge 23, 3) := by decide +kernel
theorem dX12_findIn_9 : decode cX12_findIn 9 = .ok (.aload_n 0, 1) := by decide +kernel
theorem dX12_findIn_10 : decode cX12_findIn 10 = .ok (.iload_n 1, 1) := by decide +kernel
theorem dX12_findIn_11 : decode cX12_findIn 11 = .ok (.iload 5, 2) := by decide +kernel
theorem dX12_findIn_13 : decode cX12_findIn 13 = .ok (.iadd, 1) := by decide +kernel
theorem dX12_findIn_14 : decode cX12_findIn 14 = .ok (.laload, 1) := by decide +kernel
theorem dX12_findIn_15 : decode cX12_findIn 15 = .ok (.lload_n 3, 1) := by decide +kernel
theorem dX12_findIn_16 : decode cX12_findIn 16 = .ok (.lcmp, 1) := by decide +kernel
theorem dX12_findIn_17 : decode cX12_findIn 17 = .ok (.ifCond .ne 6, 3) := by decide +kernel
theorem dX12_findIn_20 : decode cX12_findIn 20 = .ok (.iload 5, 2) := by decide +kernel
theorem dX12_findIn_22 : decode cX12_findIn 22 = .ok (.ireturn, 1) := by decide +kernel
theorem dX12_findIn_23 : decode cX12_findIn 23 = .ok (.iinc 5 1, 3) := by decide +kernel
theorem dX12_findIn_26 : decode cX12_findIn 26 = .ok (.goto (-23), 3) := by decide +kernel
theorem dX12_findIn_29 : decode cX12_findIn 29 = .ok (.iconst (-1), 1) := by decide +kernel
theorem dX12_findIn_30 : decode cX12_findIn 30 = .ok (.ireturn, 1) := by decide +kernel
theorem dX12_readNew_0 : decode cX12_readNew 0 = .ok (.aload_n 0, 1) := by decide +kernel
theorem dX12_readNew_1 : decode cX12_readNew 1 = .ok (.invokevirtual 157, 3) := by decide +kernel
theorem dX12_readNew_4 : decode cX12_readNew 4 = .ok (.ifCond .ne 9, 3) := by decide +kernel
theorem dX12_readNew_7 : decode cX12_readNew 7 = .ok (.aload_n 0, 1) := by decide +kernel
theorem dX12_readNew_8 : decode cX12_readNew 8 = .ok (.iconst 1, 1) := by decide +kernel
theorem dX12_readNew_9 : decode cX12_readNew 9 = .ok (.invokevirtual 137, 3) := by decide +kernel
theorem dX12_readNew_12 : decode cX12_readNew 12 = .ok (.ireturn, 1) := by decide +kernel
theorem dX12_readNew_13 : decode cX12_readNew 13 = .ok (.aload_n 0, 1) := by decide +kernel
theorem dX12_readNew_14 : decode cX12_readNew 14 = .ok (.getfield 32, 3) := by decide +kernel
theorem dX12_readNew_17 : decode cX12_readNew 17 = .ok (.iconst 0, 1) := by decide +kernel
theorem dX12_readNew_18 : decode cX12_readNew 18 = .ok (.aload_n 0, 1) := by decide +kernel
theorem dX12_readNew_19 : decode cX12_readNew 19 = .ok (.getfield 16, 3) := by decide +kernel
theorem dX12_readNew_22 : decode cX12_readNew 22 = .ok (.iconst 0, 1) := by decide +kernel
theorem dX12_readNew_23 : decode cX12_readNew 23 = .ok (.iaload, 1) := by decide +kernel
theorem dX12_readNew_24 : decode cX12_readNew 24 = .ok (.aload_n 0, 1) := by decide +kernel
theorem dX12_readNew_25 : decode cX12_readNew 25 = .ok (.getfield 108, 3) := by decide +kernel
theorem dX12_readNew_28 : decode cX12_readNew 28 = .ok (.invokestatic 161, 3) := by decide +kernel
theorem dX12_readNew_31 : decode cX12_readNew 31 = .ok (.iconst (-1), 1) := by decide +kernel
theorem dX12_readNew_32 : decode cX12_readNew 32 = .ok (.if_icmp .ne 26, 3) := by decide +kernel
theorem dX12_readNew_35 : decode cX12_readNew 35 = .ok (.aload_n 0, 1) := by decide +kernel
theorem dX12_readNew_36 : decode cX12_readNew 36 = .ok (.getfield 32, 3) := by decide +kernel
theorem dX12_readNew_39 : decode cX12_readNew 39 = .ok (.bipush 6, 2) := by decide +kernel
theorem dX12_readNew_41 : decode cX12_readNew 41 = .ok (.aload_n 0, 1) := by decide +kernel
theorem dX12_readNew_42 : decode cX12_readNew 42 = .ok (.getfield 16, 3) := by decide +kernel
theorem dX12_readNew_45 : decode cX12_readNew 45 = .ok (.iconst 1, 1) := by decide +kernel
theorem dX12_readNew_46 : decode cX12_readNew 46 = .ok (.iaload, 1) := by decide +kernel
theorem dX12_readNew_47 : decode cX12_readNew 47 = .ok (.aload_n 0, 1) := by decide +kernel
theorem dX12_readNew_48 : decode cX12_readNew 48 = .ok (.getfield 108, 3) := by decide +kernel
theorem dX12_readNew_51 : decode cX12_readNew 51 = .ok (.invokestatic 161, 3) := by decide +kernel
theorem dX12_readNew_54 : decode cX12_readNew 54 = .ok (.iconst (-1), 1) := by decide +kernel
theorem dX12_readNew_55 : decode cX12_readNew 55 = .ok (.if_icmp .eq 9, 3) := by decide +kernel
theorem dX12_readNew_58 : decode cX12_readNew 58 = .ok (.aload_n 0, 1) := by decide +kernel
theorem dX12_readNew_59 : decode cX12_readNew 59 = .ok (.iconst 3, 1) := by decide +kernel
theorem dX12_readNew_60 : decode cX12_readNew 60 = .ok (.invokevirtual 137, 3) := by decide +kernel
theorem dX12_readNew_63 : decode cX12_readNew 63 = .ok (.ireturn, 1) := by decide +kernel
theorem dX12_readNew_64 : decode cX12_readNew 64 = .ok (.aload_n 0, 1) := by decide +kernel
theorem dX12_readNew_65 : decode cX12_readNew 65 = .ok (.getfield 32, 3) := by decide +kernel
theorem dX12_readNew_68 : decode cX12_readNew 68 = .ok (.iload_n 1, 1) := by decide +kernel
theorem dX12_readNew_69 : decode cX12_readNew 69 = .ok (.aload_n 0, 1) := by decide +kernel
theorem dX12_readNew_70 : decode cX12_readNew 70 = .ok (.getfield 108, 3) := by decide +kernel
theorem dX12_readNew_73 : decode cX12_readNew 73 = .ok (.lastore, 1) := by decide +kernel
theorem dX12_readNew_74 : decode cX12_readNew 74 = .ok (.aload_n 0, 1) := by decide +kernel
theorem dX12_readNew_75 : decode cX12_readNew 75 = .ok (.invokevirtual 147, 3) := by decide +kernel
theorem dX12_readNew_78 : decode cX12_readNew 78 = .ok (.iconst 1, 1) := by decide +kernel
theorem dX12_readNew_79 : decode cX12_readNew 79 = .ok (.ireturn, 1) := by decide +kernel
theorem dX12_readOne_0 : decode cX12_readOne 0 = .ok (.aload_n 0, 1) := by decide +kernel
theorem dX12_readOne_1 : decode cX12_readOne 1 = .ok (.invokevirtual 157, 3) := by decide +kernel
theorem dX12_readOne_4 : decode cX12_readOne 4 = .ok (.ifCond .ne 9, 3) := by decide +kernel
theorem dX12_readOne_7 : decode cX12_readOne 7 = .ok (.aload_n 0, 1) := by decide +kernel
theorem dX12_readOne_8 : decode cX12_readOne 8 = .ok (.iconst 1, 1) := by decide +kernel
theorem dX12_readOne_9 : decode cX12_readOne 9 = .ok (.invokevirtual 137, 3) := by decide +kernel
theorem dX12_readOne_12 : decode cX12_readOne 12 = .ok (.ireturn, 1) := by decide +kernel
theorem dX12_readOne_13 : decode cX12_readOne 13 = .ok (.aload_n 0, 1) := by decide +kernel
theorem dX12_readOne_14 : decode cX12_readOne 14 = .ok (.aload_n 0, 1) := by decide +kernel
theorem dX12_readOne_15 : decode cX12_readOne 15 = .ok (.getfield 32, 3) := by decide +kernel
theorem dX12_readOne_18 : decode cX12_readOne 18 = .ok (.iload_n 1, 1) := by decide +kernel
theorem dX12_readOne_19 : decode cX12_readOne 19 = .ok (.iload_n 2, 1) := by decide +kernel
theorem dX12_readOne_20 : decode cX12_readOne 20 = .ok (.aload_n 0, 1) := by decide +kernel
theorem dX12_readOne_21 : decode cX12_readOne 21 = .ok (.getfield 108, 3) := by decide +kernel
theorem dX12_readOne_24 : decode cX12_readOne 24 = .ok (.invokestatic 161, 3) := by decide +kernel
theorem dX12_readOne_27 : decode cX12_readOne 27 = .ok (.putfield 144, 3) := by decide +kernel
theorem dX12_readOne_30 : decode cX12_readOne 30 = .ok (.aload_n 0, 1) := by decide +kernel
theorem dX12_readOne_31 : decode cX12_readOne 31 = .ok (.getfield 144, 3) := by decide +kernel
theorem dX12_readOne_34 : decode cX12_readOne 34 = .ok (.iconst (-1), 1) := by decide +kernel
theorem dX12_readOne_35 : decode cX12_readOne 35 = .ok (.if_icmp .ne 9, 3) := by decide +kernel
theorem dX12_readOne_38 : decode cX12_readOne 38 = .ok (.aload_n 0, 1) := by decide +kernel
theorem dX12_readOne_39 : decode cX12_readOne 39 = .ok (.iconst 3, 1) := by decide +kernel
theorem dX12_readOne_40 : decode cX12_readOne 40 = .ok (.invokevirtual 137, 3) := by decide +kernel
theorem dX12_readOne_43 : decode cX12_readOne 43 = .ok (.ireturn, 1) := by decide +kernel
theorem dX12_readOne_44 : decode cX12_readOne 44 = .ok (.aload_n 0, 1) := by decide +kernel
theorem dX12_readOne_45 : decode cX12_readOne 45 = .ok (.invokevirtual 147, 3) := by decide +kernel
theorem dX12_readOne_48 : decode cX12_readOne 48 = .ok (.iconst 1, 1) := by decide +kernel
theorem dX12_readOne_49 : decode cX12_readOne 49 = .ok (.ireturn, 1) := by decide +kernel
theorem dX12_readFirst_0 : decode cX12_readFirst 0 = .ok (.aload_n 0, 1) := by decide +kernel
theorem dX12_readFirst_1 : decode cX12_readFirst 1 = .ok (.getfield 16, 3) := by decide +kernel
theorem dX12_readFirst_4 : decode cX12_readFirst 4 = .ok (.iload_n 1, 1) := by decide +kernel
theorem dX12_readFirst_5 : decode cX12_readFirst 5 = .ok (.iaload, 1) := by decide +kernel
theorem dX12_readFirst_6 : decode cX12_readFirst 6 = .ok (.iload_n 2, 1) := by decide +kernel
theorem dX12_readFirst_7 : decode cX12_readFirst 7 = .ok (.if_icmp .ne 9, 3) := by decide +kernel
theorem dX12_readFirst_10 : decode cX12_readFirst 10 = .ok (.aload_n 0, 1) := by decide +kernel
theorem dX12_readFirst_11 : decode cX12_readFirst 11 = .ok (.iconst 4, 1) := by decide +kernel
theorem dX12_readFirst_12 : decode cX12_readFirst 12 = .ok (.invokevirtual 137, 3) := by decide +kernel
theorem dX12_readFirst_15 : decode cX12_readFirst 15 = .ok (.ireturn, 1) := by decide +kernel
theorem dX12_readFirst_16 : decode cX12_readFirst 16 = .ok (.aload_n 0, 1) := by decide +kernel
theorem dX12_readFirst_17 : decode cX12_readFirst 17 = .ok (.invokevirtual 147, 3) := by decide +kernel
theorem dX12_readFirst_20 : decode cX12_readFirst 20 = .ok (.iconst 1, 1) := by decide +kernel
theorem dX12_readFirst_21 : decode cX12_readFirst 21 = .ok (.ireturn, 1) := by decide +kernel
theorem dX12_put_0 : decode cX12_put 0 = .ok (.iload_n 2, 1) := by decide +kernel
theorem dX12_put_1 : decode cX12_put 1 = .ok (.ifCond .eq 13, 3) := by decide +kernel
theorem dX12_put_4 : decode cX12_put 4 = .ok (.aload_n 0, 1) := by decide +kernel
theorem dX12_put_5 : decode cX12_put 5 = .ok (.getfield 16, 3) := by decide +kernel
theorem dX12_put_8 : decode cX12_put 8 = .ok (.iload_n 1, 1) := by decide +kernel
theorem dX12_put_9 : decode cX12_put 9 = .ok (.aload_n 0, 1) := by decide +kernel
theorem dX12_put_10 : decode cX12_put 10 = .ok (.getfield 144, 3) := by decide +kernel
theorem dX12_put_13 : decode cX12_put 13 = .ok (.iastore, 1) := by decide +kernel
theorem dX12_put_14 : decode cX12_put 14 = .ok (.iload_n 2, 1) := by decide +kernel
theorem dX12_put_15 : decode cX12_put 15 = .ok (.ireturn, 1) := by decide +kernel
theorem dX12_readThing_0 : decode cX12_readThing 0 = .ok (.aload_n 0, 1) := by decide +kernel
theorem dX12_readThing_1 : decode cX12_readThing 1 = .ok (.iconst 0, 1) := by decide +kernel
theorem dX12_readThing_2 : decode cX12_readThing 2 = .ok (.bipush 6, 2) := by decide +kernel
theorem dX12_readThing_4 : decode cX12_readThing 4 = .ok (.invokevirtual 165, 3) := by decide +kernel
theorem dX12_readThing_7 : decode cX12_readThing 7 = .ok (.ifCond .ne 5, 3) := by decide +kernel
theorem dX12_readThing_10 : decode cX12_readThing 10 = .ok (.iconst 0, 1) := by decide +kernel
theorem dX12_readThing_11 : decode cX12_readThing 11 = .ok (.ireturn, 1) := by decide +kernel
theorem dX12_readThing_12 : decode cX12_readThing 12 = .ok (.aload_n 0, 1) := by decide +kernel
theorem dX12_readThing_13 : decode cX12_readThing 13 = .ok (.getfield 16, 3) := by decide +kernel
theorem dX12_readThing_16 : decode cX12_readThing 16 = .ok (.iconst 0, 1) := by decide +kernel
theorem dX12_readThing_17 : decode cX12_readThing 17 = .ok (.iaload, 1) := by decide +kernel
theorem dX12_readThing_18 : decode cX12_readThing 18 = .ok (.istore_n 1, 1) := by decide +kernel
theorem dX12_readThing_19 : decode cX12_readThing 19 = .ok (.aload_n 0, 1) := by decide +kernel
theorem dX12_readThing_20 : decode cX12_readThing 20 = .ok (.iload_n 1, 1) := by decide +kernel
theorem dX12_readThing_21 : decode cX12_readThing 21 = .ok (.invokevirtual 169, 3) := by decide +kernel
theorem dX12_readThing_24 : decode cX12_readThing 24 = .ok (.ifCond .eq 38, 3) := by decide +kernel
theorem dX12_readThing_27 : decode cX12_readThing 27 = .ok (.aload_n 0, 1) := by decide +kernel
theorem dX12_readThing_28 : decode cX12_readThing 28 = .ok (.iconst 3, 1) := by decide +kernel
theorem dX12_readThing_29 : decode cX12_readThing 29 = .ok (.iload_n 1, 1) := by decide +kernel
theorem dX12_readThing_30 : decode cX12_readThing 30 = .ok (.iadd, 1) := by decide +kernel
theorem dX12_readThing_31 : decode cX12_readThing 31 = .ok (.aload_n 0, 1) := by decide +kernel
theorem dX12_readThing_32 : decode cX12_readThing 32 = .ok (.iconst 1, 1) := by decide +kernel
theorem dX12_readThing_33 : decode cX12_readThing 33 = .ok (.bipush 30, 2) := by decide +kernel
theorem dX12_readThing_35 : decode cX12_readThing 35 = .ok (.invokevirtual 172, 3) := by decide +kernel
theorem dX12_readThing_38 : decode cX12_readThing 38 = .ok (.invokevirtual 175, 3) := by decide +kernel
theorem dX12_readThing_41 : decode cX12_readThing 41 = .ok (.ifCond .eq 21, 3) := by decide +kernel
theorem dX12_readThing_44 : decode cX12_readThing 44 = .ok (.aload_n 0, 1) := by decide +kernel
theorem dX12_readThing_45 : decode cX12_readThing 45 = .ok (.bipush 9, 2) := by decide +kernel
theorem dX12_readThing_47 : decode cX12_readThing 47 = .ok (.iload_n 1, 1) := by decide +kernel
theorem dX12_readThing_48 : decode cX12_readThing 48 = .ok (.iadd, 1) := by decide +kernel
theorem dX12_readThing_49 : decode cX12_readThing 49 = .ok (.aload_n 0, 1) := by decide +kernel
theorem dX12_readThing_50 : decode cX12_readThing 50 = .ok (.iconst 0, 1) := by decide +kernel
theorem dX12_readThing_51 : decode cX12_readThing 51 = .ok (.bipush 20, 2) := by decide +kernel
theorem dX12_readThing_53 : decode cX12_readThing 53 = .ok (.invokevirtual 172, 3) := by decide +kernel
theorem dX12_readThing_56 : decode cX12_readThing 56 = .ok (.invokevirtual 175, 3) := by decide +kernel
theorem dX12_readThing_59 : decode cX12_readThing 59 = .ok (.ifCond .ne 5, 3) := by decide +kernel
theorem dX12_readThing_62 : decode cX12_readThing 62 = .ok (.iconst 0, 1) := by decide +kernel
theorem dX12_readThing_63 : decode cX12_readThing 63 = .ok (.ireturn, 1) := by decide +kernel
theorem dX12_readThing_64 : decode cX12_readThing 64 = .ok (.aload_n 0, 1) := by decide +kernel
theorem dX12_readThing_65 : decode cX12_readThing 65 = .ok (.getfield 16, 3) := by decide +kernel
theorem dX12_readThing_68 : decode cX12_readThing 68 = .ok (.bipush 15, 2) := by decide +kernel
theorem dX12_readThing_70 : decode cX12_readThing 70 = .ok (.iload_n 1, 1) := by decide +kernel
theorem dX12_readThing_71 : decode cX12_readThing 71 = .ok (.iadd, 1) := by decide +kernel
theorem dX12_readThing_72 : decode cX12_readThing 72 = .ok (.iconst (-1), 1) := by decide +kernel
theorem dX12_readThing_73 : decode cX12_readThing 73 = .ok (.iastore, 1) := by decide +kernel
theorem dX12_readThing_74 : decode cX12_readThing 74 = .ok (.aload_n 0, 1) := by decide +kernel
theorem dX12_readThing_75 : decode cX12_readThing 75 = .ok (.bipush 16, 2) := by decide +kernel
theorem dX12_readThing_77 : decode cX12_readThing 77 = .ok (.invokevirtual 179, 3) := by decide +kernel
theorem dX12_readThing_80 : decode cX12_readThing 80 = .ok (.ifCond .eq 26, 3) := by decide +kernel
theorem dX12_readThing_83 : decode cX12_readThing 83 = .ok (.aload_n 0, 1) := by decide +kernel
theorem dX12_readThing_84 : decode cX12_readThing 84 = .ok (.invokevirtual 147, 3) := by decide +kernel
theorem dX12_readThing_87 : decode cX12_readThing 87 = .ok (.aload_n 0, 1) := by decide +kernel
theorem dX12_readThing_88 : decode cX12_readThing 88 = .ok (.bipush 15, 2) := by decide +kernel
theorem dX12_readThing_90 : decode cX12_readThing 90 = .ok (.iload_n 1, 1) := by decide +kernel
theorem dX12_readThing_91 : decode cX12_readThing 91 = .ok (.iadd, 1) := by decide +kernel
theorem dX12_readThing_92 : decode cX12_readThing 92 = .ok (.aload_n 0, 1) := by decide +kernel
theorem dX12_readThing_93 : decode cX12_readThing 93 = .ok (.iconst 0, 1) := by decide +kernel
theorem dX12_readThing_94 : decode cX12_readThing 94 = .ok (.iload_n 1, 1) := by decide +kernel
theorem dX12_readThing_95 : decode cX12_readThing 95 = .ok (.invokevirtual 182, 3) := by decide +kernel
theorem dX12_readThing_98 : decode cX12_readThing 98 = .ok (.invokevirtual 175, 3) := by decide +kernel
theorem dX12_readThing_101 : decode cX12_readThing 101 = .ok (.ifCond .ne 5, 3) := by decide +kernel
theorem dX12_readThing_104 : decode cX12_readThing 104 = .ok (.iconst 0, 1) := by decide +kernel
theorem dX12_readThing_105 : decode cX12_readThing 105 = .ok (.ireturn, 1) := by decide +kernel
theorem dX12_readThing_106 : decode cX12_readThing 106 = .ok (.aload_n 0, 1) := by decide +kernel
theorem dX12_readThing_107 : decode cX12_readThing 107 = .ok (.getfield 16, 3) := by decide +kernel
theorem dX12_readThing_110 : decode cX12_readThing 110 = .ok (.iconst 0, 1) := by decide +kernel
theorem dX12_readThing_111 : decode cX12_readThing 111 = .ok (.dup2, 1) := by decide +kernel
theorem dX12_readThing_112 : decode cX12_readThing 112 = .ok (.iaload, 1) := by decide +kernel
theorem dX12_readThing_113 : decode cX12_readThing 113 = .ok (.iconst 1, 1) := by decide +kernel
theorem dX12_readThing_114 : decode cX12_readThing 114 = .ok (.iadd, 1) := by decide +kernel
theorem dX12_readThing_115 : decode cX12_readThing 115 = .ok (.iastore, 1) := by decide +kernel
theorem dX12_readThing_116 : decode cX12_readThing 116 = .ok (.iconst 1, 1) := by decide +kernel
theorem dX12_readThing_117 : decode cX12_readThing 117 = .ok (.ireturn, 1) := by decide +kernel
theorem dX12_readFault_0 : decode cX12_readFault 0 = .ok (.aload_n 0, 1) := by decide +kernel
theorem dX12_readFault_1 : decode cX12_readFault 1 = .ok (.iconst 1, 1) := by decide +kernel
theorem dX12_readFault_2 : decode cX12_readFault 2 = .ok (.bipush 8, 2) := by decide +kernel
theorem dX12_readFault_4 : decode cX12_readFault 4 = .ok (.invokevirtual 165, 3) := by decide +kernel
theorem dX12_readFault_7 : decode cX12_readFault 7 = .ok (.ifCond .ne 5, 3) := by decide +kernel
theorem dX12_readFault_10 : decode cX12_readFault 10 = .ok (.iconst 0, 1) := by decide +kernel
theorem dX12_readFault_11 : decode cX12_readFault 11 = .ok (.ireturn, 1) := by decide +kernel
theorem dX12_readFault_12 : decode cX12_readFault 12 = .ok (.aload_n 0, 1) := by decide +kernel
theorem dX12_readFault_13 : decode cX12_readFault 13 = .ok (.getfield 16, 3) := by decide +kernel
theorem dX12_readFault_16 : decode cX12_readFault 16 = .ok (.iconst 1, 1) := by decide +kernel
theorem dX12_readFault_17 : decode cX12_readFault 17 = .ok (.iaload, 1) := by decide +kernel
theorem dX12_readFault_18 : decode cX12_readFault 18 = .ok (.istore_n 1, 1) := by decide +kernel
theorem dX12_readFault_19 : decode cX12_readFault 19 = .ok (.aload_n 0, 1) := by decide +kernel
theorem dX12_readFault_20 : decode cX12_readFault 20 = .ok (.bipush 6, 2) := by decide +kernel
theorem dX12_readFault_22 : decode cX12_readFault 22 = .ok (.iload_n 1, 1) := by decide +kernel
theorem dX12_readFault_23 : decode cX12_readFault 23 = .ok (.iadd, 1) := by decide +kernel
theorem dX12_readFault_24 : decode cX12_readFault 24 = .ok (.invokevirtual 169, 3) := by decide +kernel
theorem dX12_readFault_27 : decode cX12_readFault 27 = .ok (.ifCond .eq 25, 3) := by decide +kernel
theorem dX12_readFault_30 : decode cX12_readFault 30 = .ok (.aload_n 0, 1) := by decide +kernel
theorem dX12_readFault_31 : decode cX12_readFault 31 = .ok (.bipush 21, 2) := by decide +kernel
theorem dX12_readFault_33 : decode cX12_readFault 33 = .ok (.iload_n 1, 1) := by decide +kernel
theorem dX12_readFault_34 : decode cX12_readFault 34 = .ok (.iadd, 1) := by decide +kernel
theorem dX12_readFault_35 : decode cX12_readFault 35 = .ok (.aload_n 0, 1) := by decide +kernel
theorem dX12_readFault_36 : decode cX12_readFault 36 = .ok (.iconst 0, 1) := by decide +kernel
theorem dX12_readFault_37 : decode cX12_readFault 37 = .ok (.aload_n 0, 1) := by decide +kernel
theorem dX12_readFault_38 : decode cX12_readFault 38 = .ok (.getfield 16, 3) := by decide +kernel
theorem dX12_readFault_41 : decode cX12_readFault 41 = .ok (.iconst 0, 1) := by decide +kernel
theorem dX12_readFault_42 : decode cX12_readFault 42 = .ok (.iaload, 1) := by decide +kernel
theorem dX12_readFault_43 : decode cX12_readFault 43 = .ok (.invokevirtual 182, 3) := by decide +kernel
theorem dX12_readFault_46 : decode cX12_readFault 46 = .ok (.invokevirtual 175, 3) := by decide +kernel
theorem dX12_readFault_49 : decode cX12_readFault 49 = .ok (.ifCond .ne 5, 3) := by decide +kernel
theorem dX12_readFault_52 : decode cX12_readFault 52 = .ok (.iconst 0, 1) := by decide +kernel
theorem dX12_readFault_53 : decode cX12_readFault 53 = .ok (.ireturn, 1) := by decide +kernel
theorem dX12_readFault_54 : decode cX12_readFault 54 = .ok (.aload_n 0, 1) := by decide +kernel
theorem dX12_readFault_55 : decode cX12_readFault 55 = .ok (.bipush 29, 2) := by decide +kernel
theorem dX12_readFault_57 : decode cX12_readFault 57 = .ok (.iload_n 1, 1) := by decide +kernel
theorem dX12_readFault_58 : decode cX12_readFault 58 = .ok (.iadd, 1) := by decide +kernel
theorem dX12_readFault_59 : decode cX12_readFault 59 = .ok (.aload_n 0, 1) := by decide +kernel
theorem dX12_readFault_60 : decode cX12_readFault 60 = .ok (.iconst 0, 1) := by decide +kernel
theorem dX12_readFault_61 : decode cX12_readFault 61 = .ok (.sipush 200, 3) := by decide +kernel
theorem dX12_readFault_64 : decode cX12_readFault 64 = .ok (.invokevirtual 172, 3) := by decide +kernel
theorem dX12_readFault_67 : decode cX12_readFault 67 = .ok (.invokevirtual 175, 3) := by decide +kernel
theorem dX12_readFault_70 : decode cX12_readFault 70 = .ok (.ifCond .eq 39, 3) := by decide +kernel
theorem dX12_readFault_73 : decode cX12_readFault 73 = .ok (.aload_n 0, 1) := by decide +kernel
theorem dX12_readFault_74 : decode cX12_readFault 74 = .ok (.bipush 37, 2) := by decide +kernel
theorem dX12_readFault_76 : decode cX12_readFault 76 = .ok (.iload_n 1, 1) := by decide +kernel
theorem dX12_readFault_77 : decode cX12_readFault 77 = .ok (.iadd, 1) := by decide +kernel
theorem dX12_readFault_78 : decode cX12_readFault 78 = .ok (.aload_n 0, 1) := by decide +kernel
theorem dX12_readFault_79 : decode cX12_readFault 79 = .ok (.iconst 1, 1) := by decide +kernel
theorem dX12_readFault_80 : decode cX12_readFault 80 = .ok (.bipush 99, 2) := by decide +kernel
theorem dX12_readFault_82 : decode cX12_readFault 82 = .ok (.invokevirtual 172, 3) := by decide +kernel
theorem dX12_readFault_85 : decode cX12_readFault 85 = .ok (.invokevirtual 175, 3) := by decide +kernel
theorem dX12_readFault_88 : decode cX12_readFault 88 = .ok (.ifCond .eq 21, 3) := by decide +kernel
theorem dX12_readFault_91 : decode cX12_readFault 91 = .ok (.aload_n 0, 1) := by decide +kernel
theorem dX12_readFault_92 : decode cX12_readFault 92 = .ok (.bipush 45, 2) := by decide +kernel
theorem dX12_readFault_94 : decode cX12_readFault 94 = .ok (.iload_n 1, 1) := by decide +kernel
theorem dX12_readFault_95 : decode cX12_readFault 95 = .ok (.iadd, 1) := by decide +kernel
theorem dX12_readFault_96 : decode cX12_readFault 96 = .ok (.aload_n 0, 1) := by decide +kernel
theorem dX12_readFault_97 : decode cX12_readFault 97 = .ok (.iconst 1, 1) := by decide +kernel
theorem dX12_readFault_98 : decode cX12_readFault 98 = .ok (.bipush 15, 2) := by decide +kernel
theorem dX12_readFault_100 : decode cX12_readFault 100 = .ok (.invokevirtual 172, 3) := by decide +kernel
theorem dX12_readFault_103 : decode cX12_readFault 103 = .ok (.invokevirtual 175, 3) := by decide +kernel
theorem dX12_readFault_106 : decode cX12_readFault 106 = .ok (.ifCond .ne 5, 3) := by decide +kernel
theorem dX12_readFault_109 : decode cX12_readFault 109 = .ok (.iconst 0, 1) := by decide +kernel
theorem dX12_readFault_110 : decode cX12_readFault 110 = .ok (.ireturn, 1) := by decide +kernel
theorem dX12_readFault_111 : decode cX12_readFault 111 = .ok (.aload_n 0, 1) := by decide +kernel
theorem dX12_readFault_112 : decode cX12_readFault 112 = .ok (.getfield 16, 3) := by decide +kernel
theorem dX12_readFault_115 : decode cX12_readFault 115 = .ok (.iconst 1, 1) := by decide +kernel
theorem dX12_readFault_116 : decode cX12_readFault 116 = .ok (.dup2, 1) := by decide +kernel
theorem dX12_readFault_117 : decode cX12_readFault 117 = .ok (.iaload, 1) := by decide +kernel
theorem dX12_readFault_118 : decode cX12_readFault 118 = .ok (.iconst 1, 1) := by decide +kernel
theorem dX12_readFault_119 : decode cX12_readFault 119 = .ok (.iadd, 1) := by decide +kernel
theorem dX12_readFault_120 : decode cX12_readFault 120 = .ok (.iastore, 1) := by decide +kernel
theorem dX12_readFault_121 : decode cX12_readFault 121 = .ok (.iconst 1, 1) := by decide +kernel
theorem dX12_readFault_122 : decode cX12_readFault 122 = .ok (.ireturn, 1) := by decide +kernel
theorem dX12_readCures_0 : decode cX12_readCures 0 = .ok (.aload_n 0, 1) := by decide +kernel
theorem dX12_readCures_1 : decode cX12_readCures 1 = .ok (.iconst 2, 1) := by decide +kernel
theorem dX12_readCures_2 : decode cX12_readCures 2 = .ok (.bipush 16, 2) := by decide +kernel
theorem dX12_readCures_4 : decode cX12_readCures 4 = .ok (.invokevirtual 165, 3) := by decide +kernel
theorem dX12_readCures_7 : decode cX12_readCures 7 = .ok (.ifCond .eq 18, 3) := by decide +kernel
theorem dX12_readCures_10 : decode cX12_readCures 10 = .ok (.aload_n 0, 1) := by decide +kernel
theorem dX12_readCures_11 : decode cX12_readCures 11 = .ok (.bipush 6, 2) := by decide +kernel
theorem dX12_readCures_13 : decode cX12_readCures 13 = .ok (.aload_n 0, 1) := by decide +kernel
theorem dX12_readCures_14 : decode cX12_readCures 14 = .ok (.getfield 16, 3) := by decide +kernel
theorem dX12_readCures_17 : decode cX12_readCures 17 = .ok (.iconst 1, 1) := by decide +kernel
theorem dX12_readCures_18 : decode cX12_readCures 18 = .ok (.iaload, 1) := by decide +kernel
theorem dX12_readCures_19 : decode cX12_readCures 19 = .ok (.invokevirtual 182, 3) := by decide +kernel
theorem dX12_readCures_22 : decode cX12_readCures 22 = .ok (.ifCond .ne 5, 3) := by decide +kernel
theorem dX12_readCures_25 : decode cX12_readCures 25 = .ok (.iconst 0, 1) := by decide +kernel
theorem dX12_readCures_26 : decode cX12_readCures 26 = .ok (.ireturn, 1) := by decide +kernel
theorem dX12_readCures_27 : decode cX12_readCures 27 = .ok (.bipush 53, 2) := by decide +kernel
theorem dX12_readCures_29 : decode cX12_readCures 29 = .ok (.iconst 3, 1) := by decide +kernel
theorem dX12_readCures_30 : decode cX12_readCures 30 = .ok (.aload_n 0, 1) := by decide +kernel
theorem dX12_readCures_31 : decode cX12_readCures 31 = .ok (.getfield 144, 3) := by decide +kernel
theorem dX12_readCures_34 : decode cX12_readCures 34 = .ok (.imul, 1) := by decide +kernel
theorem dX12_readCures_35 : decode cX12_readCures 35 = .ok (.iadd, 1) := by decide +kernel
theorem dX12_readCures_36 : decode cX12_readCures 36 = .ok (.istore_n 1, 1) := by decide +kernel
theorem dX12_readCures_37 : decode cX12_readCures 37 = .ok (.iconst 3, 1) := by decide +kernel
theorem dX12_readCures_38 : decode cX12_readCures 38 = .ok (.istore_n 2, 1) := by decide +kernel
theorem dX12_readCures_39 : decode cX12_readCures 39 = .ok (.iload_n 2, 1) := by decide +kernel
theorem dX12_readCures_40 : decode cX12_readCures 40 = .ok (.iconst 5, 1) := by decide +kernel
theorem dX12_readCures_41 : decode cX12_readCures 41 = .ok (.if_icmp .gt 17, 3) := by decide +kernel
theorem dX12_readCures_44 : decode cX12_readCures 44 = .ok (.aload_n 0, 1) := by decide +kernel
theorem dX12_readCures_45 : decode cX12_readCures 45 = .ok (.iload_n 2, 1) := by decide +kernel
theorem dX12_readCures_46 : decode cX12_readCures 46 = .ok (.invokevirtual 179, 3) := by decide +kernel
theorem dX12_readCures_49 : decode cX12_readCures 49 = .ok (.ifCond .ne 9, 3) := by decide +kernel
theorem dX12_readCures_52 : decode cX12_readCures 52 = .ok (.iinc 2 1, 3) := by decide +kernel
theorem dX12_readCures_55 : decode cX12_readCures 55 = .ok (.goto (-16), 3) := by decide +kernel
theorem dX12_readCures_58 : decode cX12_readCures 58 = .ok (.iload_n 2, 1) := by decide +kernel
theorem dX12_readCures_59 : decode cX12_readCures 59 = .ok (.iconst 5, 1) := by decide +kernel
theorem dX12_readCures_60 : decode cX12_readCures 60 = .ok (.if_icmp .le 9, 3) := by decide +kernel
theorem dX12_readCures_63 : decode cX12_readCures 63 = .ok (.aload_n 0, 1) := by decide +kernel
theorem dX12_readCures_64 : decode cX12_readCures 64 = .ok (.iconst 1, 1) := by decide +kernel
theorem dX12_readCures_65 : decode cX12_readCures 65 = .ok (.invokevirtual 137, 3) := by decide +kernel
theorem dX12_readCures_68 : decode cX12_readCures 68 = .ok (.ireturn, 1) := by decide +kernel
theorem dX12_readCures_69 : decode cX12_readCures 69 = .ok (.iload_n 1, 1) := by decide +kernel
theorem dX12_readCures_70 : decode cX12_readCures 70 = .ok (.iload_n 2, 1) := by decide +kernel
theorem dX12_readCures_71 : decode cX12_readCures 71 = .ok (.iconst 3, 1) := by decide +kernel
theorem dX12_readCures_72 : decode cX12_readCures 72 = .ok (.isub, 1) := by decide +kernel
theorem dX12_readCures_73 : decode cX12_readCures 73 = .ok (.iadd, 1) := by decide +kernel
theorem dX12_readCures_74 : decode cX12_readCures 74 = .ok (.istore_n 1, 1) := by decide +kernel
theorem dX12_readCures_75 : decode cX12_readCures 75 = .ok (.aload_n 0, 1) := by decide +kernel
theorem dX12_readCures_76 : decode cX12_readCures 76 = .ok (.getfield 16, 3) := by decide +kernel
