theorem dX9_lampOf_11 : decode cX9_lampOf 11 = .ok (.aload_n 0, 1) := by decide +kernel
theorem dX9_lampOf_12 : decode cX9_lampOf 12 = .ok (.getfield 9, 3) := by decide +kernel
theorem dX9_lampOf_15 : decode cX9_lampOf 15 = .ok (.iload_n 2, 1) := by decide +kernel
theorem dX9_lampOf_16 : decode cX9_lampOf 16 = .ok (.iaload, 1) := by decide +kernel
theorem dX9_lampOf_17 : decode cX9_lampOf 17 = .ok (.iconst 1, 1) := by decide +kernel
theorem dX9_lampOf_18 : decode cX9_lampOf 18 = .ok (.if_icmp .ne 6, 3) := by decide +kernel
theorem dX9_lampOf_21 : decode cX9_lampOf 21 = .ok (.bipush 16, 2) := by decide +kernel
theorem dX9_lampOf_23 : decode cX9_lampOf 23 = .ok (.ireturn, 1) := by decide +kernel
theorem dX9_lampOf_24 : decode cX9_lampOf 24 = .ok (.iconst 0, 1) := by decide +kernel
theorem dX9_lampOf_25 : decode cX9_lampOf 25 = .ok (.istore 4, 2) := by decide +kernel
theorem dX9_lampOf_27 : decode cX9_lampOf 27 = .ok (.iconst 0, 1) := by decide +kernel
theorem dX9_lampOf_28 : decode cX9_lampOf 28 = .ok (.istore 5, 2) := by decide +kernel
theorem dX9_lampOf_30 : decode cX9_lampOf 30 = .ok (.iload 5, 2) := by decide +kernel
theorem dX9_lampOf_32 : decode cX9_lampOf 32 = .ok (.aload_n 1, 1) := by decide +kernel
theorem dX9_lampOf_33 : decode cX9_lampOf 33 = .ok (.getfield 55, 3) := by decide +kernel
theorem dX9_lampOf_36 : decode cX9_lampOf 36 = .ok (.if_icmp .ge 40, 3) := by decide +kernel
theorem dX9_lampOf_39 : decode cX9_lampOf 39 = .ok (.iload_n 3, 1) := by decide +kernel
theorem dX9_lampOf_40 : decode cX9_lampOf 40 = .ok (.aload_n 1, 1) := by decide +kernel
theorem dX9_lampOf_41 : decode cX9_lampOf 41 = .ok (.getfield 60, 3) := by decide +kernel
theorem dX9_lampOf_44 : decode cX9_lampOf 44 = .ok (.iload_n 2, 1) := by decide +kernel
theorem dX9_lampOf_45 : decode cX9_lampOf 45 = .ok (.iaload, 1) := by decide +kernel
theorem dX9_lampOf_46 : decode cX9_lampOf 46 = .ok (.iand, 1) := by decide +kernel
theorem dX9_lampOf_47 : decode cX9_lampOf 47 = .ok (.iload 5, 2) := by decide +kernel
theorem dX9_lampOf_49 : decode cX9_lampOf 49 = .ok (.invokestatic 63, 3) := by decide +kernel
theorem dX9_lampOf_52 : decode cX9_lampOf 52 = .ok (.iconst 1, 1) := by decide +kernel
theorem dX9_lampOf_53 : decode cX9_lampOf 53 = .ok (.if_icmp .ne 17, 3) := by decide +kernel
theorem dX9_lampOf_56 : decode cX9_lampOf 56 = .ok (.iload 4, 2) := by decide +kernel
theorem dX9_lampOf_58 : decode cX9_lampOf 58 = .ok (.aload_n 1, 1) := by decide +kernel
theorem dX9_lampOf_59 : decode cX9_lampOf 59 = .ok (.getfield 67, 3) := by decide +kernel
theorem dX9_lampOf_62 : decode cX9_lampOf 62 = .ok (.iload 5, 2) := by decide +kernel
theorem dX9_lampOf_64 : decode cX9_lampOf 64 = .ok (.iaload, 1) := by decide +kernel
theorem dX9_lampOf_65 : decode cX9_lampOf 65 = .ok (.invokestatic 70, 3) := by decide +kernel
theorem dX9_lampOf_68 : decode cX9_lampOf 68 = .ok (.istore 4, 2) := by decide +kernel
theorem dX9_lampOf_70 : decode cX9_lampOf 70 = .ok (.iinc 5 1, 3) := by decide +kernel
theorem dX9_lampOf_73 : decode cX9_lampOf 73 = .ok (.goto (-43), 3) := by decide +kernel
theorem dX9_lampOf_76 : decode cX9_lampOf 76 = .ok (.iload 4, 2) := by decide +kernel
theorem dX9_lampOf_78 : decode cX9_lampOf 78 = .ok (.ifCond .le 6, 3) := by decide +kernel
theorem dX9_lampOf_81 : decode cX9_lampOf 81 = .ok (.iload 4, 2) := by decide +kernel
theorem dX9_lampOf_83 : decode cX9_lampOf 83 = .ok (.ireturn, 1) := by decide +kernel
theorem dX9_lampOf_84 : decode cX9_lampOf 84 = .ok (.aload_n 0, 1) := by decide +kernel
theorem dX9_lampOf_85 : decode cX9_lampOf 85 = .ok (.getfield 30, 3) := by decide +kernel
theorem dX9_lampOf_88 : decode cX9_lampOf 88 = .ok (.iload_n 2, 1) := by decide +kernel
theorem dX9_lampOf_89 : decode cX9_lampOf 89 = .ok (.invokestatic 63, 3) := by decide +kernel
theorem dX9_lampOf_92 : decode cX9_lampOf 92 = .ok (.iconst 1, 1) := by decide +kernel
theorem dX9_lampOf_93 : decode cX9_lampOf 93 = .ok (.if_icmp .ne 8, 3) := by decide +kernel
theorem dX9_lampOf_96 : decode cX9_lampOf 96 = .ok (.bipush 18, 2) := by decide +kernel
theorem dX9_lampOf_98 : decode cX9_lampOf 98 = .ok (.goto 5, 3) := by decide +kernel
theorem dX9_lampOf_101 : decode cX9_lampOf 101 = .ok (.bipush 17, 2) := by decide +kernel
theorem dX9_lampOf_103 : decode cX9_lampOf 103 = .ok (.ireturn, 1) := by decide +kernel
theorem dX9_working_0 : decode cX9_working 0 = .ok (.iconst 0, 1) := by decide +kernel
theorem dX9_working_1 : decode cX9_working 1 = .ok (.istore_n 2, 1) := by decide +kernel
theorem dX9_working_2 : decode cX9_working 2 = .ok (.iconst 0, 1) := by decide +kernel
theorem dX9_working_3 : decode cX9_working 3 = .ok (.istore_n 3, 1) := by decide +kernel
theorem dX9_working_4 : decode cX9_working 4 = .ok (.iload_n 3, 1) := by decide +kernel
theorem dX9_working_5 : decode cX9_working 5 = .ok (.aload_n 1, 1) := by decide +kernel
theorem dX9_working_6 : decode cX9_working 6 = .ok (.getfield 75, 3) := by decide +kernel
theorem dX9_working_9 : decode cX9_working 9 = .ok (.if_icmp .ge 87, 3) := by decide +kernel
theorem dX9_working_12 : decode cX9_working 12 = .ok (.aload_n 0, 1) := by decide +kernel
theorem dX9_working_13 : decode cX9_working 13 = .ok (.getfield 9, 3) := by decide +kernel
theorem dX9_working_16 : decode cX9_working 16 = .ok (.iload_n 3, 1) := by decide +kernel
theorem dX9_working_17 : decode cX9_working 17 = .ok (.iaload, 1) := by decide +kernel
theorem dX9_working_18 : decode cX9_working 18 = .ok (.iconst 2, 1) := by decide +kernel
theorem dX9_working_19 : decode cX9_working 19 = .ok (.if_icmp .ne 33, 3) := by decide +kernel
theorem dX9_working_22 : decode cX9_working 22 = .ok (.aload_n 0, 1) := by decide +kernel
theorem dX9_working_23 : decode cX9_working 23 = .ok (.getfield 30, 3) := by decide +kernel
theorem dX9_working_26 : decode cX9_working 26 = .ok (.iload_n 3, 1) := by decide +kernel
theorem dX9_working_27 : decode cX9_working 27 = .ok (.invokestatic 63, 3) := by decide +kernel
theorem dX9_working_30 : decode cX9_working 30 = .ok (.iconst 1, 1) := by decide +kernel
theorem dX9_working_31 : decode cX9_working 31 = .ok (.if_icmp .ne 21, 3) := by decide +kernel
theorem dX9_working_34 : decode cX9_working 34 = .ok (.aload_n 0, 1) := by decide +kernel
theorem dX9_working_35 : decode cX9_working 35 = .ok (.getfield 34, 3) := by decide +kernel
theorem dX9_working_38 : decode cX9_working 38 = .ok (.aload_n 1, 1) := by decide +kernel
theorem dX9_working_39 : decode cX9_working 39 = .ok (.getfield 60, 3) := by decide +kernel
theorem dX9_working_42 : decode cX9_working 42 = .ok (.iload_n 3, 1) := by decide +kernel
theorem dX9_working_43 : decode cX9_working 43 = .ok (.iaload, 1) := by decide +kernel
theorem dX9_working_44 : decode cX9_working 44 = .ok (.iand, 1) := by decide +kernel
theorem dX9_working_45 : decode cX9_working 45 = .ok (.ifCond .ne 7, 3) := by decide +kernel
theorem dX9_working_48 : decode cX9_working 48 = .ok (.iconst 1, 1) := by decide +kernel
theorem dX9_working_49 : decode cX9_working 49 = .ok (.goto 4, 3) := by decide +kernel
theorem dX9_working_52 : decode cX9_working 52 = .ok (.iconst 0, 1) := by decide +kernel
theorem dX9_working_53 : decode cX9_working 53 = .ok (.istore 4, 2) := by decide +kernel
theorem dX9_working_55 : decode cX9_working 55 = .ok (.iload 4, 2) := by decide +kernel
theorem dX9_working_57 : decode cX9_working 57 = .ok (.ifCond .eq 33, 3) := by decide +kernel
theorem dX9_working_60 : decode cX9_working 60 = .ok (.aload_n 1, 1) := by decide +kernel
theorem dX9_working_61 : decode cX9_working 61 = .ok (.getfield 78, 3) := by decide +kernel
theorem dX9_working_64 : decode cX9_working 64 = .ok (.iload_n 3, 1) := by decide +kernel
theorem dX9_working_65 : decode cX9_working 65 = .ok (.iaload, 1) := by decide +kernel
theorem dX9_working_66 : decode cX9_working 66 = .ok (.iconst (-1), 1) := by decide +kernel
theorem dX9_working_67 : decode cX9_working 67 = .ok (.if_icmp .eq 17, 3) := by decide +kernel
theorem dX9_working_70 : decode cX9_working 70 = .ok (.iload_n 2, 1) := by decide +kernel
theorem dX9_working_71 : decode cX9_working 71 = .ok (.aload_n 1, 1) := by decide +kernel
theorem dX9_working_72 : decode cX9_working 72 = .ok (.getfield 78, 3) := by decide +kernel
theorem dX9_working_75 : decode cX9_working 75 = .ok (.iload_n 3, 1) := by decide +kernel
theorem dX9_working_76 : decode cX9_working 76 = .ok (.iaload, 1) := by decide +kernel
theorem dX9_working_77 : decode cX9_working 77 = .ok (.invokestatic 63, 3) := by decide +kernel
theorem dX9_working_80 : decode cX9_working 80 = .ok (.iconst 1, 1) := by decide +kernel
theorem dX9_working_81 : decode cX9_working 81 = .ok (.if_icmp .ne 9, 3) := by decide +kernel
theorem dX9_working_84 : decode cX9_working 84 = .ok (.iload_n 2, 1) := by decide +kernel
theorem dX9_working_85 : decode cX9_working 85 = .ok (.iconst 1, 1) := by decide +kernel
theorem dX9_working_86 : decode cX9_working 86 = .ok (.iload_n 3, 1) := by decide +kernel
theorem dX9_working_87 : decode cX9_working 87 = .ok (.ishl, 1) := by decide +kernel
theorem dX9_working_88 : decode cX9_working 88 = .ok (.ior, 1) := by decide +kernel
theorem dX9_working_89 : decode cX9_working 89 = .ok (.istore_n 2, 1) := by decide +kernel
theorem dX9_working_90 : decode cX9_working 90 = .ok (.iinc 3 1, 3) := by decide +kernel
theorem dX9_working_93 : decode cX9_working 93 = .ok (.goto (-89), 3) := by decide +kernel
theorem dX9_working_96 : decode cX9_working 96 = .ok (.iload_n 2, 1) := by decide +kernel
theorem dX9_working_97 : decode cX9_working 97 = .ok (.ireturn, 1) := by decide +kernel
theorem dX9_thingsIn_0 : decode cX9_thingsIn 0 = .ok (.iconst 0, 1) := by decide +kernel
theorem dX9_thingsIn_1 : decode cX9_thingsIn 1 = .ok (.istore_n 3, 1) := by decide +kernel
theorem dX9_thingsIn_2 : decode cX9_thingsIn 2 = .ok (.iconst 0, 1) := by decide +kernel
theorem dX9_thingsIn_3 : decode cX9_thingsIn 3 = .ok (.istore 4, 2) := by decide +kernel
theorem dX9_thingsIn_5 : decode cX9_thingsIn 5 = .ok (.iload 4, 2) := by decide +kernel
theorem dX9_thingsIn_7 : decode cX9_thingsIn 7 = .ok (.aload_n 1, 1) := by decide +kernel
theorem dX9_thingsIn_8 : decode cX9_thingsIn 8 = .ok (.getfield 75, 3) := by decide +kernel
theorem dX9_thingsIn_11 : decode cX9_thingsIn 11 = .ok (.if_icmp .ge 27, 3) := by decide +kernel
theorem dX9_thingsIn_14 : decode cX9_thingsIn 14 = .ok (.aload_n 0, 1) := by decide +kernel
theorem dX9_thingsIn_15 : decode cX9_thingsIn 15 = .ok (.getfield 9, 3) := by decide +kernel
theorem dX9_thingsIn_18 : decode cX9_thingsIn 18 = .ok (.iload 4, 2) := by decide +kernel
theorem dX9_thingsIn_20 : decode cX9_thingsIn 20 = .ok (.iaload, 1) := by decide +kernel
theorem dX9_thingsIn_21 : decode cX9_thingsIn 21 = .ok (.iload_n 2, 1) := by decide +kernel
theorem dX9_thingsIn_22 : decode cX9_thingsIn 22 = .ok (.if_icmp .ne 10, 3) := by decide +kernel
theorem dX9_thingsIn_25 : decode cX9_thingsIn 25 = .ok (.iload_n 3, 1) := by decide +kernel
theorem dX9_thingsIn_26 : decode cX9_thingsIn 26 = .ok (.iconst 1, 1) := by decide +kernel
theorem dX9_thingsIn_27 : decode cX9_thingsIn 27 = .ok (.iload 4, 2) := by decide +kernel
theorem dX9_thingsIn_29 : decode cX9_thingsIn 29 = .ok (.ishl, 1) := by decide +kernel
theorem dX9_thingsIn_30 : decode cX9_thingsIn 30 = .ok (.ior, 1) := by decide +kernel
theorem dX9_thingsIn_31 : decode cX9_thingsIn 31 = .ok (.istore_n 3, 1) := by decide +kernel
theorem dX9_thingsIn_32 : decode cX9_thingsIn 32 = .ok (.iinc 4 1, 3) := by decide +kernel
theorem dX9_thingsIn_35 : decode cX9_thingsIn 35 = .ok (.goto (-30), 3) := by decide +kernel
theorem dX9_thingsIn_38 : decode cX9_thingsIn 38 = .ok (.iload_n 3, 1) := by decide +kernel
theorem dX9_thingsIn_39 : decode cX9_thingsIn 39 = .ok (.ireturn, 1) := by decide +kernel
theorem dX9_switchOff_0 : decode cX9_switchOff 0 = .ok (.aload_n 0, 1) := by decide +kernel
theorem dX9_switchOff_1 : decode cX9_switchOff 1 = .ok (.getfield 9, 3) := by decide +kernel
theorem dX9_switchOff_4 : decode cX9_switchOff 4 = .ok (.iload_n 2, 1) := by decide +kernel
theorem dX9_switchOff_5 : decode cX9_switchOff 5 = .ok (.iaload, 1) := by decide +kernel
theorem dX9_switchOff_6 : decode cX9_switchOff 6 = .ok (.ifCond .ne 5, 3) := by decide +kernel
theorem dX9_switchOff_9 : decode cX9_switchOff 9 = .ok (.iconst 1, 1) := by decide +kernel
theorem dX9_switchOff_10 : decode cX9_switchOff 10 = .ok (.ireturn, 1) := by decide +kernel
theorem dX9_switchOff_11 : decode cX9_switchOff 11 = .ok (.aload_n 0, 1) := by decide +kernel
theorem dX9_switchOff_12 : decode cX9_switchOff 12 = .ok (.aload_n 1, 1) := by decide +kernel
theorem dX9_switchOff_13 : decode cX9_switchOff 13 = .ok (.iload_n 2, 1) := by decide +kernel
theorem dX9_switchOff_14 : decode cX9_switchOff 14 = .ok (.invokevirtual 81, 3) := by decide +kernel
theorem dX9_switchOff_17 : decode cX9_switchOff 17 = .ok (.iconst 0, 1) := by decide +kernel
theorem dX9_switchOff_18 : decode cX9_switchOff 18 = .ok (.ireturn, 1) := by decide +kernel
theorem dX9_switchOn_0 : decode cX9_switchOn 0 = .ok (.aload_n 0, 1) := by decide +kernel
theorem dX9_switchOn_1 : decode cX9_switchOn 1 = .ok (.getfield 9, 3) := by decide +kernel
theorem dX9_switchOn_4 : decode cX9_switchOn 4 = .ok (.iload_n 2, 1) := by decide +kernel
theorem dX9_switchOn_5 : decode cX9_switchOn 5 = .ok (.iaload, 1) := by decide +kernel
theorem dX9_switchOn_6 : decode cX9_switchOn 6 = .ok (.ifCond .eq 5, 3) := by decide +kernel
theorem dX9_switchOn_9 : decode cX9_switchOn 9 = .ok (.iconst 1, 1) := by decide +kernel
theorem dX9_switchOn_10 : decode cX9_switchOn 10 = .ok (.ireturn, 1) := by decide +kernel
theorem dX9_switchOn_11 : decode cX9_switchOn 11 = .ok (.aload_n 0, 1) := by decide +kernel
theorem dX9_switchOn_12 : decode cX9_switchOn 12 = .ok (.getfield 15, 3) := by decide +kernel
theorem dX9_switchOn_15 : decode cX9_switchOn 15 = .ok (.iload_n 2, 1) := by decide +kernel
theorem dX9_switchOn_16 : decode cX9_switchOn 16 = .ok (.iaload, 1) := by decide +kernel
theorem dX9_switchOn_17 : decode cX9_switchOn 17 = .ok (.aload_n 1, 1) := by decide +kernel
theorem dX9_switchOn_18 : decode cX9_switchOn 18 = .ok (.getfield 85, 3) := by decide +kernel
theorem dX9_switchOn_21 : decode cX9_switchOn 21 = .ok (.iload_n 2, 1) := by decide +kernel
theorem dX9_switchOn_22 : decode cX9_switchOn 22 = .ok (.iaload, 1) := by decide +kernel
theorem dX9_switchOn_23 : decode cX9_switchOn 23 = .ok (.if_icmp .ge 5, 3) := by decide +kernel
theorem dX9_switchOn_26 : decode cX9_switchOn 26 = .ok (.iconst 2, 1) := by decide +kernel
theorem dX9_switchOn_27 : decode cX9_switchOn 27 = .ok (.ireturn, 1) := by decide +kernel
theorem dX9_switchOn_28 : decode cX9_switchOn 28 = .ok (.aload_n 0, 1) := by decide +kernel
theorem dX9_switchOn_29 : decode cX9_switchOn 29 = .ok (.aload_n 1, 1) := by decide +kernel
theorem dX9_switchOn_30 : decode cX9_switchOn 30 = .ok (.iload_n 2, 1) := by decide +kernel
theorem dX9_switchOn_31 : decode cX9_switchOn 31 = .ok (.invokevirtual 88, 3) := by decide +kernel
theorem dX9_switchOn_34 : decode cX9_switchOn 34 = .ok (.aload_n 0, 1) := by decide +kernel
theorem dX9_switchOn_35 : decode cX9_switchOn 35 = .ok (.aload_n 1, 1) := by decide +kernel
theorem dX9_switchOn_36 : decode cX9_switchOn 36 = .ok (.iload_n 2, 1) := by decide +kernel
theorem dX9_switchOn_37 : decode cX9_switchOn 37 = .ok (.iconst 0, 1) := by decide +kernel
theorem dX9_switchOn_38 : decode cX9_switchOn 38 = .ok (.invokevirtual 91, 3) := by decide +kernel
theorem dX9_switchOn_41 : decode cX9_switchOn 41 = .ok (.iconst 0, 1) := by decide +kernel
theorem dX9_switchOn_42 : decode cX9_switchOn 42 = .ok (.ireturn, 1) := by decide +kernel
theorem dX9_pullCable_0 : decode cX9_pullCable 0 = .ok (.aload_n 0, 1) := by decide +kernel
theorem dX9_pullCable_1 : decode cX9_pullCable 1 = .ok (.getfield 9, 3) := by decide +kernel
theorem dX9_pullCable_4 : decode cX9_pullCable 4 = .ok (.iload_n 2, 1) := by decide +kernel
theorem dX9_pullCable_5 : decode cX9_pullCable 5 = .ok (.iaload, 1) := by decide +kernel
theorem dX9_pullCable_6 : decode cX9_pullCable 6 = .ok (.ifCond .ne 5, 3) := by decide +kernel
theorem dX9_pullCable_9 : decode cX9_pullCable 9 = .ok (.iconst 1, 1) := by decide +kernel
theorem dX9_pullCable_10 : decode cX9_pullCable 10 = .ok (.ireturn, 1) := by decide +kernel
theorem dX9_pullCable_11 : decode cX9_pullCable 11 = .ok (.aload_n 0, 1) := by decide +kernel
theorem dX9_pullCable_12 : decode cX9_pullCable 12 = .ok (.aload_n 1, 1) := by decide +kernel
theorem dX9_pullCable_13 : decode cX9_pullCable 13 = .ok (.iload_n 2, 1) := by decide +kernel
theorem dX9_pullCable_14 : decode cX9_pullCable 14 = .ok (.iconst 1, 1) := by decide +kernel
theorem dX9_pullCable_15 : decode cX9_pullCable 15 = .ok (.invokevirtual 91, 3) := by decide +kernel
theorem dX9_pullCable_18 : decode cX9_pullCable 18 = .ok (.iconst 0, 1) := by decide +kernel
theorem dX9_pullCable_19 : decode cX9_pullCable 19 = .ok (.ireturn, 1) := by decide +kernel
theorem dX9_pushPin_0 : decode cX9_pushPin 0 = .ok (.aload_n 0, 1) := by decide +kernel
theorem dX9_pushPin_1 : decode cX9_pushPin 1 = .ok (.getfield 9, 3) := by decide +kernel
theorem dX9_pushPin_4 : decode cX9_pushPin 4 = .ok (.iload_n 2, 1) := by decide +kernel
theorem dX9_pushPin_5 : decode cX9_pushPin 5 = .ok (.iaload, 1) := by decide +kernel
theorem dX9_pushPin_6 : decode cX9_pushPin 6 = .ok (.ifCond .ne 5, 3) := by decide +kernel
theorem dX9_pushPin_9 : decode cX9_pushPin 9 = .ok (.iconst 1, 1) := by decide +kernel
theorem dX9_pushPin_10 : decode cX9_pushPin 10 = .ok (.ireturn, 1) := by decide +kernel
theorem dX9_pushPin_11 : decode cX9_pushPin 11 = .ok (.aload_n 0, 1) := by decide +kernel
theorem dX9_pushPin_12 : decode cX9_pushPin 12 = .ok (.aload_n 1, 1) := by decide +kernel
theorem dX9_pushPin_13 : decode cX9_pushPin 13 = .ok (.iload_n 2, 1) := by decide +kernel
theorem dX9_pushPin_14 : decode cX9_pushPin 14 = .ok (.invokevirtual 81, 3) := by decide +kernel
theorem dX9_pushPin_17 : decode cX9_pushPin 17 = .ok (.aload_n 0, 1) := by decide +kernel
theorem dX9_pushPin_18 : decode cX9_pushPin 18 = .ok (.aload_n 1, 1) := by decide +kernel
theorem dX9_pushPin_19 : decode cX9_pushPin 19 = .ok (.iload_n 2, 1) := by decide +kernel
theorem dX9_pushPin_20 : decode cX9_pushPin 20 = .ok (.invokevirtual 88, 3) := by decide +kernel
theorem dX9_pushPin_23 : decode cX9_pushPin 23 = .ok (.aload_n 0, 1) := by decide +kernel
theorem dX9_pushPin_24 : decode cX9_pushPin 24 = .ok (.aload_n 1, 1) := by decide +kernel
theorem dX9_pushPin_25 : decode cX9_pushPin 25 = .ok (.iload_n 2, 1) := by decide +kernel
theorem dX9_pushPin_26 : decode cX9_pushPin 26 = .ok (.iconst 2, 1) := by decide +kernel
theorem dX9_pushPin_27 : decode cX9_pushPin 27 = .ok (.invokevirtual 91, 3) := by decide +kernel
theorem dX9_pushPin_30 : decode cX9_pushPin 30 = .ok (.iconst 0, 1) := by decide +kernel
theorem dX9_pushPin_31 : decode cX9_pushPin 31 = .ok (.ireturn, 1) := by decide +kernel
theorem dX9_letStrike_0 : decode cX9_letStrike 0 = .ok (.aload_n 0, 1) := by decide +kernel
theorem dX9_letStrike_1 : decode cX9_letStrike 1 = .ok (.getfield 34, 3) := by decide +kernel
theorem dX9_letStrike_4 : decode cX9_letStrike 4 = .ok (.iload_n 1, 1) := by decide +kernel
theorem dX9_letStrike_5 : decode cX9_letStrike 5 = .ok (.invokestatic 63, 3) := by decide +kernel
theorem dX9_letStrike_8 : decode cX9_letStrike 8 = .ok (.iconst 1, 1) := by decide +kernel
theorem dX9_letStrike_9 : decode cX9_letStrike 9 = .ok (.if_icmp .ne 5, 3) := by decide +kernel
theorem dX9_letStrike_12 : decode cX9_letStrike 12 = .ok (.iconst 1, 1) := by decide +kernel
theorem dX9_letStrike_13 : decode cX9_letStrike 13 = .ok (.ireturn, 1) := by decide +kernel
theorem dX9_letStrike_14 : decode cX9_letStrike 14 = .ok (.aload_n 0, 1) := by decide +kernel
theorem dX9_letStrike_15 : decode cX9_letStrike 15 = .ok (.dup, 1) := by decide +kernel
theorem dX9_letStrike_16 : decode cX9_letStrike 16 = .ok (.getfield 34, 3) := by decide +kernel
theorem dX9_letStrike_19 : decode cX9_letStrike 19 = .ok (.iconst 1, 1) := by decide +kernel
theorem dX9_letStrike_20 : decode cX9_letStrike 20 = .ok (.iload_n 1, 1) := by decide +kernel
theorem dX9_letStrike_21 : decode cX9_letStrike 21 = .ok (.ishl, 1) := by decide +kernel
theorem dX9_letStrike_22 : decode cX9_letStrike 22 = .ok (.ior, 1) := by decide +kernel
theorem dX9_letStrike_23 : decode cX9_letStrike 23 = .ok (.putfield 34, 3) := by decide +kernel
theorem dX9_letStrike_26 : decode cX9_letStrike 26 = .ok (.aload_n 0, 1) := by decide +kernel
theorem dX9_letStrike_27 : decode cX9_letStrike 27 = .ok (.getfield 21, 3) := by decide +kernel
theorem dX9_letStrike_30 : decode cX9_letStrike 30 = .ok (.iload_n 1, 1) := by decide +kernel
theorem dX9_letStrike_31 : decode cX9_letStrike 31 = .ok (.iconst 0, 1) := by decide +kernel
theorem dX9_letStrike_32 : decode cX9_letStrike 32 = .ok (.iastore, 1) := by decide +kernel
theorem dX9_letStrike_33 : decode cX9_letStrike 33 = .ok (.aload_n 0, 1) := by decide +kernel
theorem dX9_letStrike_34 : decode cX9_letStrike 34 = .ok (.getfield 24, 3) := by decide +kernel
theorem dX9_letStrike_37 : decode cX9_letStrike 37 = .ok (.iload_n 1, 1) := by decide +kernel
theorem dX9_letStrike_38 : decode cX9_letStrike 38 = .ok (.dup2, 1) := by decide +kernel
theorem dX9_letStrike_39 : decode cX9_letStrike 39 = .ok (.iaload, 1) := by decide +kernel
theorem dX9_letStrike_40 : decode cX9_letStrike 40 = .ok (.iconst 1, 1) := by decide +kernel
theorem dX9_letStrike_41 : decode cX9_letStrike 41 = .ok (.iadd, 1) := by decide +kernel
theorem dX9_letStrike_42 : decode cX9_letStrike 42 = .ok (.iastore, 1) := by decide +kernel
theorem dX9_letStrike_43 : decode cX9_letStrike 43 = .ok (.iconst 0, 1) := by decide +kernel
theorem dX9_letStrike_44 : decode cX9_letStrike 44 = .ok (.ireturn, 1) := by decide +kernel
theorem dX9_cutOff_0 : decode cX9_cutOff 0 = .ok (.aload_n 0, 1) := by decide +kernel
theorem dX9_cutOff_1 : decode cX9_cutOff 1 = .ok (.getfield 9, 3) := by decide +kernel
theorem dX9_cutOff_4 : decode cX9_cutOff 4 = .ok (.iload_n 2, 1) := by decide +kernel
theorem dX9_cutOff_5 : decode cX9_cutOff 5 = .ok (.iconst 0, 1) := by decide +kernel
theorem dX9_cutOff_6 : decode cX9_cutOff 6 = .ok (.iastore, 1) := by decide +kernel
theorem dX9_cutOff_7 : decode cX9_cutOff 7 = .ok (.aload_n 0, 1) := by decide +kernel
theorem dX9_cutOff_8 : decode cX9_cutOff 8 = .ok (.getfield 15, 3) := by decide +kernel
theorem dX9_cutOff_11 : decode cX9_cutOff 11 = .ok (.iload_n 2, 1) := by decide +kernel
theorem dX9_cutOff_12 : decode cX9_cutOff 12 = .ok (.iconst 0, 1) := by decide +kernel
theorem dX9_cutOff_13 : decode cX9_cutOff 13 = .ok (.iastore, 1) := by decide +kernel
theorem dX9_cutOff_14 : decode cX9_cutOff 14 = .ok (.aload_n 0, 1) := by decide +kernel
theorem dX9_cutOff_15 : decode cX9_cutOff 15 = .ok (.dup, 1) := by decide +kernel
theorem dX9_cutOff_16 : decode cX9_cutOff 16 = .ok (.getfield 30, 3) := by decide +kernel
theorem dX9_cutOff_19 : decode cX9_cutOff 19 = .ok (.iconst 1, 1) := by decide +kernel
theorem dX9_cutOff_20 : decode cX9_cutOff 20 = .ok (.iload_n 2, 1) := by decide +kernel
theorem dX9_cutOff_21 : decode cX9_cutOff 21 = .ok (.ishl, 1) := by decide +kernel
theorem dX9_cutOff_22 : decode cX9_cutOff 22 = .ok (.aload_n 1, 1) := by decide +kernel
theorem dX9_cutOff_23 : decode cX9_cutOff 23 = .ok (.getfield 95, 3) := by decide +kernel
theorem dX9_cutOff_26 : decode cX9_cutOff 26 = .ok (.iload_n 2, 1) := by decide +kernel
theorem dX9_cutOff_27 : decode cX9_cutOff 27 = .ok (.iaload, 1) := by decide +kernel
theorem dX9_cutOff_28 : decode cX9_cutOff 28 = .ok (.ior, 1) := by decide +kernel
theorem dX9_cutOff_29 : decode cX9_cutOff 29 = .ok (.iconst (-1), 1) := by decide +kernel
theorem dX9_cutOff_30 : decode cX9_cutOff 30 = .ok (.ixor, 1) := by decide +kernel
theorem dX9_cutOff_31 : decode cX9_cutOff 31 = .ok (.iand, 1) := by decide +kernel
theorem dX9_cutOff_32 : decode cX9_cutOff 32 = .ok (.putfield 30, 3) := by decide +kernel
theorem dX9_cutOff_35 : decode cX9_cutOff 35 = .ok (.return_, 1) := by decide +kernel
theorem dX9_startBoot_0 : decode cX9_startBoot 0 = .ok (.aload_n 0, 1) := by decide +kernel
theorem dX9_startBoot_1 : decode cX9_startBoot 1 = .ok (.getfield 9, 3) := by decide +kernel
theorem dX9_startBoot_4 : decode cX9_startBoot 4 = .ok (.iload_n 2, 1) := by decide +kernel
theorem dX9_startBoot_5 : decode cX9_startBoot 5 = .ok (.iconst 1, 1) := by decide +kernel
theorem dX9_startBoot_6 : decode cX9_startBoot 6 = .ok (.iastore, 1) := by decide +kernel
theorem dX9_startBoot_7 : decode cX9_startBoot 7 = .ok (.aload_n 0, 1) := by decide +kernel
theorem dX9_startBoot_8 : decode cX9_startBoot 8 = .ok (.getfield 15, 3) := by decide +kernel
theorem dX9_startBoot_11 : decode cX9_startBoot 11 = .ok (.iload_n 2, 1) := by decide +kernel
theorem dX9_startBoot_12 : decode cX9_startBoot 12 = .ok (.aload_n 1, 1) := by decide +kernel
theorem dX9_startBoot_13 : decode cX9_startBoot 13 = .ok (.getfield 98, 3) := by decide +kernel
theorem dX9_startBoot_16 : decode cX9_startBoot 16 = .ok (.iload_n 2, 1) := by decide +kernel
theorem dX9_startBoot_17 : decode cX9_startBoot 17 = .ok (.iaload, 1) := by decide +kernel
theorem dX9_startBoot_18 : decode cX9_startBoot 18 = .ok (.iastore, 1) := by decide +kernel
theorem dX9_startBoot_19 : decode cX9_startBoot 19 = .ok (.return_, 1) := by decide +kernel
theorem dX9_doDeed_0 : decode cX9_doDeed 0 = .ok (.aload_n 0, 1) := by decide +kernel
theorem dX9_doDeed_1 : decode cX9_doDeed 1 = .ok (.dup, 1) := by decide +kernel
theorem dX9_doDeed_2 : decode cX9_doDeed 2 = .ok (.getfield 40, 3) := by decide +kernel
theorem dX9_doDeed_5 : decode cX9_doDeed 5 = .ok (.iconst 1, 1) := by decide +kernel
theorem dX9_doDeed_6 : decode cX9_doDeed 6 = .ok (.iadd, 1) := by decide +kernel
theorem dX9_doDeed_7 : decode cX9_doDeed 7 = .ok (.putfield 40, 3) := by decide +kernel
theorem dX9_doDeed_10 : decode cX9_doDeed 10 = .ok (.iconst 0, 1) := by decide +kernel
theorem dX9_doDeed_11 : decode cX9_doDeed 11 = .ok (.istore 4, 2) := by decide +kernel
theorem dX9_doDeed_13 : decode cX9_doDeed 13 = .ok (.iload 4, 2) := by decide +kernel
theorem dX9_doDeed_15 : decode cX9_doDeed 15 = .ok (.aload_n 1, 1) := by decide +kernel
theorem dX9_doDeed_16 : decode cX9_doDeed 16 = .ok (.getfield 55, 3) := by decide +kernel
theorem dX9_doDeed_19 : decode cX9_doDeed 19 = .ok (.if_icmp .ge 70, 3) := by decide +kernel
theorem dX9_doDeed_22 : decode cX9_doDeed 22 = .ok (.aload_n 1, 1) := by decide +kernel
theorem dX9_doDeed_23 : decode cX9_doDeed 23 = .ok (.iload 4, 2) := by decide +kernel
theorem dX9_doDeed_25 : decode cX9_doDeed 25 = .ok (.iload_n 3, 1) := by decide +kernel
theorem dX9_doDeed_26 : decode cX9_doDeed 26 = .ok (.invokevirtual 101, 3) := by decide +kernel
theorem dX9_doDeed_29 : decode cX9_doDeed 29 = .ok (.istore 5, 2) := by decide +kernel
theorem dX9_doDeed_31 : decode cX9_doDeed 31 = .ok (.iload 5, 2) := by decide +kernel
theorem dX9_doDeed_33 : decode cX9_doDeed 33 = .ok (.ifCond .le 50, 3) := by decide +kernel
theorem dX9_doDeed_36 : decode cX9_doDeed 36 = .ok (.aload_n 0, 1) := by decide +kernel
theorem dX9_doDeed_37 : decode cX9_doDeed 37 = .ok (.getfield 34, 3) := by decide +kernel
theorem dX9_doDeed_40 : decode cX9_doDeed 40 = .ok (.aload_n 1, 1) := by decide +kernel
theorem dX9_doDeed_41 : decode cX9_doDeed 41 = .ok (.getfield 60, 3) := by decide +kernel
theorem dX9_doDeed_44 : decode cX9_doDeed 44 = .ok (.iload_n 2, 1) := by decide +kernel
theorem dX9_doDeed_45 : decode cX9_doDeed 45 = .ok (.iaload, 1) := by decide +kernel
theorem dX9_doDeed_46 : decode cX9_doDeed 46 = .ok (.iand, 1) := by decide +kernel
theorem dX9_doDeed_47 : decode cX9_doDeed 47 = .ok (.iload 4, 2) := by decide +kernel
theorem dX9_doDeed_49 : decode cX9_doDeed 49 = .ok (.invokestatic 63, 3) := by decide +kernel
theorem dX9_doDeed_52 : decode cX9_doDeed 52 = .ok (.iconst 1, 1) := by decide +kernel
theorem dX9_doDeed_53 : decode cX9_doDeed 53 = .ok (.if_icmp .ne 30, 3) := by decide +kernel
theorem dX9_doDeed_56 : decode cX9_doDeed 56 = .ok (.aload_n 0, 1) := by decide +kernel
theorem dX9_doDeed_57 : decode cX9_doDeed 57 = .ok (.bipush 12, 2) := by decide +kernel
theorem dX9_doDeed_59 : decode cX9_doDeed 59 = .ok (.invokevirtual 104, 3) := by decide +kernel
theorem dX9_doDeed_62 : decode cX9_doDeed 62 = .ok (.iload 5, 2) := by decide +kernel
theorem dX9_doDeed_64 : decode cX9_doDeed 64 = .ok (.if_icmp .ge 19, 3) := by decide +kernel
theorem dX9_doDeed_67 : decode cX9_doDeed 67 = .ok (.aload_n 0, 1) := by decide +kernel
theorem dX9_doDeed_68 : decode cX9_doDeed 68 = .ok (.iload 4, 2) := by decide +kernel
theorem dX9_doDeed_70 : decode cX9_doDeed 70 = .ok (.invokevirtual 108, 3) := by decide +kernel
theorem dX9_doDeed_73 : decode cX9_doDeed 73 = .ok (.aload_n 0, 1) := by decide +kernel
theorem dX9_doDeed_74 : decode cX9_doDeed 74 = .ok (.dup, 1) := by decide +kernel
theorem dX9_doDeed_75 : decode cX9_doDeed 75 = .ok (.getfield 43, 3) := by decide +kernel
theorem dX9_doDeed_78 : decode cX9_doDeed 78 = .ok (.iconst 1, 1) := by decide +kernel
theorem dX9_doDeed_79 : decode cX9_doDeed 79 = .ok (.iadd, 1) := by decide +kernel
theorem dX9_doDeed_80 : decode cX9_doDeed 80 = .ok (.putfield 43, 3) := by decide +kernel
theorem dX9_doDeed_83 : decode cX9_doDeed 83 = .ok (.iinc 4 1, 3) := by decide +kernel
theorem dX9_doDeed_86 : decode cX9_doDeed 86 = .ok (.goto (-73), 3) := by decide +kernel
theorem dX9_doDeed_89 : decode cX9_doDeed 89 = .ok (.return_, 1) := by decide +kernel
theorem dX9_takeAway_0 : decode cX9_takeAway 0 = .ok (.aload_n 0, 1) := by decide +kernel
theorem dX9_takeAway_1 : decode cX9_takeAway 1 = .ok (.dup, 1) := by decide +kernel
theorem dX9_takeAway_2 : decode cX9_takeAway 2 = .ok (.getfield 34, 3) := by decide +kernel
theorem dX9_takeAway_5 : decode cX9_takeAway 5 = .ok (.iconst 1, 1) := by decide +kernel
theorem dX9_takeAway_6 : decode cX9_takeAway 6 = .ok (.iload_n 1, 1) := by decide +kernel
theorem dX9_takeAway_7 : decode cX9_takeAway 7 = .ok (.ishl, 1) := by decide +kernel
theorem dX9_takeAway_8 : decode cX9_takeAway 8 = .ok (.iconst (-1), 1) := by decide +kernel
theorem dX9_takeAway_9 : decode cX9_takeAway 9 = .ok (.ixor, 1) := by decide +kernel
theorem dX9_takeAway_10 : decode cX9_takeAway 10 = .ok (.iand, 1) := by decide +kernel
theorem dX9_takeAway_11 : decode cX9_takeAway 11 = .ok (.putfield 34, 3) := by decide +kernel
theorem dX9_takeAway_14 : decode cX9_takeAway 14 = .ok (.aload_n 0, 1) := by decide +kernel
theorem dX9_takeAway_15 : decode cX9_takeAway 15 = .ok (.getfield 21, 3) := by decide +kernel
theorem dX9_takeAway_18 : decode cX9_takeAway 18 = .ok (.iload_n 1, 1) := by decide +kernel
theorem dX9_takeAway_19 : decode cX9_takeAway 19 = .ok (.iconst 0, 1) := by decide +kernel
theorem dX9_takeAway_20 : decode cX9_takeAway 20 = .ok (.iastore, 1) := by decide +kernel
theorem dX9_takeAway_21 : decode cX9_takeAway 21 = .ok (.return_, 1) := by decide +kernel
theorem dX9_draw_0 : decode cX9_draw 0 = .ok (.aload_n 0, 1) := by decide +kernel
theorem dX9_draw_1 : decode cX9_draw 1 = .ok (.aload_n 0, 1) := by decide +kernel
theorem dX9_draw_2 : decode cX9_draw 2 = .ok (.getfield 112, 3) := by decide +kernel
theorem dX9_draw_5 : decode cX9_draw 5 = .ok (.ldc 115, 2) := by decide +kernel
theorem dX9_draw_7 : decode cX9_draw 7 = .ok (.imul, 1) := by decide +kernel
theorem dX9_draw_8 : decode cX9_draw 8 = .ok (.sipush 12345, 3) := by decide +kernel
theorem dX9_draw_11 : decode cX9_draw 11 = .ok (.iadd, 1) := by decide +kernel
theorem dX9_draw_12 : decode cX9_draw 12 = .ok (.putfield 112, 3) := by decide +kernel
theorem dX9_draw_15 : decode cX9_draw 15 = .ok (.iload_n 1, 1) := by decide +kernel
theorem dX9_draw_16 : decode cX9_draw 16 = .ok (.ifCond .le 15, 3) := by decide +kernel
theorem dX9_draw_19 : decode cX9_draw 19 = .ok (.aload_n 0, 1) := by decide +kernel
theorem dX9_draw_20 : decode cX9_draw 20 = .ok (.getfield 112, 3) := by decide +kernel
theorem dX9_draw_23 : decode cX9_draw 23 = .ok (.bipush 8, 2) := by decide +kernel
theorem dX9_draw_25 : decode cX9_draw 25 = .ok (.iushr, 1) := by decide +kernel
theorem dX9_draw_26 : decode cX9_draw 26 = .ok (.iload_n 1, 1) := by decide +kernel
theorem dX9_draw_27 : decode cX9_draw 27 = .ok (.irem, 1) := by decide +kernel
theorem dX9_draw_28 : decode cX9_draw 28 = .ok (.goto 4, 3) := by decide +kernel
theorem dX9_draw_31 : decode cX9_draw 31 = .ok (.iconst 0, 1) := by decide +kernel
theorem dX9_draw_32 : decode cX9_draw 32 = .ok (.ireturn, 1) := by decide +kernel
theorem dX9_passMinutes_0 : decode cX9_passMinutes 0 = .ok (.iconst 0, 1) := by decide +kernel
theorem dX9_passMinutes_1 : decode cX9_passMinutes 1 = .ok (.istore_n 3, 1) := by decide +kernel
theorem dX9_passMinutes_2 : decode cX9_passMinutes 2 = .ok (.iload_n 3, 1) := by decide +kernel
theorem dX9_passMinutes_3 : decode cX9_passMinutes 3 = .ok (.iload_n 2, 1) := by decide +kernel
theorem dX9_passMinutes_4 : decode cX9_passMinutes 4 = .ok (.if_icmp .ge 24, 3) := by decide +kernel
theorem dX9_passMinutes_7 : decode cX9_passMinutes 7 = .ok (.aload_n 0, 1) := by decide +kernel
theorem dX9_passMinutes_8 : decode cX9_passMinutes 8 = .ok (.getfield 37, 3) := by decide +kernel
theorem dX9_passMinutes_11 : decode cX9_passMinutes 11 = .ok (.sipush 1000, 3) := by decide +kernel
theorem dX9_passMinutes_14 : decode cX9_passMinutes 14 = .ok (.if_icmp .ge 14, 3) := by decide +kernel
theorem dX9_passMinutes_17 : decode cX9_passMinutes 17 = .ok (.aload_n 0, 1) := by decide +kernel
theorem dX9_passMinutes_18 : decode cX9_passMinutes 18 = .ok (.aload_n 1, 1) := by decide +kernel
theorem dX9_passMinutes_19 : decode cX9_passMinutes 19 = .ok (.invokevirtual 116, 3) := by decide +kernel
theorem dX9_passMinutes_22 : decode cX9_passMinutes 22 = .ok (.iinc 3 1, 3) := by decide +kernel
theorem dX9_passMinutes_25 : decode cX9_passMinutes 25 = .ok (.goto (-23), 3) := by decide +kernel
theorem dX9_passMinutes_28 : decode cX9_passMinutes 28 = .ok (.iload_n 3, 1) := by decide +kernel
theorem dX9_passMinutes_29 : decode cX9_passMinutes 29 = .ok (.ireturn, 1) := by decide +kernel
theorem dX9_passMinute_0 : decode cX9_passMinute 0 = .ok (.iconst 0, 1) := by decide +kernel
theorem dX9_passMinute_1 : decode cX9_passMinute 1 = .ok (.istore_n 2, 1) := by decide +kernel
theorem dX9_passMinute_2 : decode cX9_passMinute 2 = .ok (.iload_n 2, 1) := by decide +kernel
theorem dX9_passMinute_3 : decode cX9_passMinute 3 = .ok (.aload_n 1, 1) := by decide +kernel
theorem dX9_passMinute_4 : decode cX9_passMinute 4 = .ok (.getfield 75, 3) := by decide +kernel
theorem dX9_passMinute_7 : decode cX9_passMinute 7 = .ok (.if_icmp .ge 76, 3) := by decide +kernel
theorem dX9_passMinute_10 : decode cX9_passMinute 10 = .ok (.aload_n 0, 1) := by decide +kernel
theorem dX9_passMinute_11 : decode cX9_passMinute 11 = .ok (.getfield 9, 3) := by decide +kernel
theorem dX9_passMinute_14 : decode cX9_passMinute 14 = .ok (.iload_n 2, 1) := by decide +kernel
theorem dX9_passMinute_15 : decode cX9_passMinute 15 = .ok (.iaload, 1) := by decide +kernel
theorem dX9_passMinute_16 : decode cX9_passMinute 16 = .ok (.ifCond .ne 26, 3) := by decide +kernel
theorem dX9_passMinute_19 : decode cX9_passMinute 19 = .ok (.aload_n 0, 1) := by decide +kernel
theorem dX9_passMinute_20 : decode cX9_passMinute 20 = .ok (.getfield 15, 3) := by decide +kernel
theorem dX9_passMinute_23 : decode cX9_passMinute 23 = .ok (.iload_n 2, 1) := by decide +kernel
theorem dX9_passMinute_24 : decode cX9_passMinute 24 = .ok (.dup2, 1) := by decide +kernel
theorem dX9_passMinute_25 : decode cX9_passMinute 25 = .ok (.iaload, 1) := by decide +kernel
theorem dX9_passMinute_26 : decode cX9_passMinute 26 = .ok (.iconst 1, 1) := by decide +kernel
theorem dX9_passMinute_27 : decode cX9_passMinute 27 = .ok (.iadd, 1) := by decide +kernel
theorem dX9_passMinute_28 : decode cX9_passMinute 28 = .ok (.iastore, 1) := by decide +kernel
theorem dX9_passMinute_29 : decode cX9_passMinute 29 = .ok (.aload_n 0, 1) := by decide +kernel
theorem dX9_passMinute_30 : decode cX9_passMinute 30 = .ok (.getfield 18, 3) := by decide +kernel
theorem dX9_passMinute_33 : decode cX9_passMinute 33 = .ok (.iload_n 2, 1) := by decide +kernel
