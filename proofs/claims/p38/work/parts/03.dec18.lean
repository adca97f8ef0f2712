theorem dX12_why_45 : decode cX12_why 45 = .ok (.getfield 13, 3) := by decide +kernel
theorem dX12_why_48 : decode cX12_why 48 = .ok (.bipush 87, 2) := by decide +kernel
theorem dX12_why_50 : decode cX12_why 50 = .ok (.iload_n 2, 1) := by decide +kernel
theorem dX12_why_51 : decode cX12_why 51 = .ok (.iadd, 1) := by decide +kernel
theorem dX12_why_52 : decode cX12_why 52 = .ok (.iaload, 1) := by decide +kernel
theorem dX12_why_53 : decode cX12_why 53 = .ok (.aload_n 0, 1) := by decide +kernel
theorem dX12_why_54 : decode cX12_why 54 = .ok (.getfield 13, 3) := by decide +kernel
theorem dX12_why_57 : decode cX12_why 57 = .ok (.bipush 9, 2) := by decide +kernel
theorem dX12_why_59 : decode cX12_why 59 = .ok (.iload_n 2, 1) := by decide +kernel
theorem dX12_why_60 : decode cX12_why 60 = .ok (.iadd, 1) := by decide +kernel
theorem dX12_why_61 : decode cX12_why 61 = .ok (.iaload, 1) := by decide +kernel
theorem dX12_why_62 : decode cX12_why 62 = .ok (.if_icmp .ge 7, 3) := by decide +kernel
theorem dX12_why_65 : decode cX12_why 65 = .ok (.iconst 2, 1) := by decide +kernel
theorem dX12_why_66 : decode cX12_why 66 = .ok (.goto 4, 3) := by decide +kernel
theorem dX12_why_69 : decode cX12_why 69 = .ok (.iconst 0, 1) := by decide +kernel
theorem dX12_why_70 : decode cX12_why 70 = .ok (.ireturn, 1) := by decide +kernel
theorem dX12_why_71 : decode cX12_why 71 = .ok (.aload_n 0, 1) := by decide +kernel
theorem dX12_why_72 : decode cX12_why 72 = .ok (.iload_n 2, 1) := by decide +kernel
theorem dX12_why_73 : decode cX12_why 73 = .ok (.invokevirtual 209, 3) := by decide +kernel
theorem dX12_why_76 : decode cX12_why 76 = .ok (.ifCond .eq 7, 3) := by decide +kernel
theorem dX12_why_79 : decode cX12_why 79 = .ok (.iconst 1, 1) := by decide +kernel
theorem dX12_why_80 : decode cX12_why 80 = .ok (.goto 4, 3) := by decide +kernel
theorem dX12_why_83 : decode cX12_why 83 = .ok (.iconst 0, 1) := by decide +kernel
theorem dX12_why_84 : decode cX12_why 84 = .ok (.ireturn, 1) := by decide +kernel
theorem dX12_why_85 : decode cX12_why 85 = .ok (.aload_n 0, 1) := by decide +kernel
theorem dX12_why_86 : decode cX12_why 86 = .ok (.getfield 13, 3) := by decide +kernel
theorem dX12_why_89 : decode cX12_why 89 = .ok (.bipush 81, 2) := by decide +kernel
theorem dX12_why_91 : decode cX12_why 91 = .ok (.iload_n 2, 1) := by decide +kernel
theorem dX12_why_92 : decode cX12_why 92 = .ok (.iadd, 1) := by decide +kernel
theorem dX12_why_93 : decode cX12_why 93 = .ok (.iaload, 1) := by decide +kernel
theorem dX12_why_94 : decode cX12_why 94 = .ok (.ifCond .ne 7, 3) := by decide +kernel
theorem dX12_why_97 : decode cX12_why 97 = .ok (.iconst 1, 1) := by decide +kernel
theorem dX12_why_98 : decode cX12_why 98 = .ok (.goto 4, 3) := by decide +kernel
theorem dX12_why_101 : decode cX12_why 101 = .ok (.iconst 0, 1) := by decide +kernel
theorem dX12_why_102 : decode cX12_why 102 = .ok (.ireturn, 1) := by decide +kernel
theorem dX12_live_0 : decode cX12_live 0 = .ok (.iload_n 1, 1) := by decide +kernel
theorem dX12_live_1 : decode cX12_live 1 = .ok (.iconst 4, 1) := by decide +kernel
theorem dX12_live_2 : decode cX12_live 2 = .ok (.if_icmp .ne 37, 3) := by decide +kernel
theorem dX12_live_5 : decode cX12_live 5 = .ok (.aload_n 0, 1) := by decide +kernel
theorem dX12_live_6 : decode cX12_live 6 = .ok (.getfield 13, 3) := by decide +kernel
theorem dX12_live_9 : decode cX12_live 9 = .ok (.bipush 105, 2) := by decide +kernel
theorem dX12_live_11 : decode cX12_live 11 = .ok (.iload_n 2, 1) := by decide +kernel
theorem dX12_live_12 : decode cX12_live 12 = .ok (.iadd, 1) := by decide +kernel
theorem dX12_live_13 : decode cX12_live 13 = .ok (.iconst 1, 1) := by decide +kernel
theorem dX12_live_14 : decode cX12_live 14 = .ok (.iastore, 1) := by decide +kernel
theorem dX12_live_15 : decode cX12_live 15 = .ok (.aload_n 0, 1) := by decide +kernel
theorem dX12_live_16 : decode cX12_live 16 = .ok (.getfield 13, 3) := by decide +kernel
theorem dX12_live_19 : decode cX12_live 19 = .ok (.bipush 113, 2) := by decide +kernel
theorem dX12_live_21 : decode cX12_live 21 = .ok (.iload_n 2, 1) := by decide +kernel
theorem dX12_live_22 : decode cX12_live 22 = .ok (.iadd, 1) := by decide +kernel
theorem dX12_live_23 : decode cX12_live 23 = .ok (.iconst 0, 1) := by decide +kernel
theorem dX12_live_24 : decode cX12_live 24 = .ok (.iastore, 1) := by decide +kernel
theorem dX12_live_25 : decode cX12_live 25 = .ok (.aload_n 0, 1) := by decide +kernel
theorem dX12_live_26 : decode cX12_live 26 = .ok (.getfield 13, 3) := by decide +kernel
theorem dX12_live_29 : decode cX12_live 29 = .ok (.bipush 121, 2) := by decide +kernel
theorem dX12_live_31 : decode cX12_live 31 = .ok (.iload_n 2, 1) := by decide +kernel
theorem dX12_live_32 : decode cX12_live 32 = .ok (.iadd, 1) := by decide +kernel
theorem dX12_live_33 : decode cX12_live 33 = .ok (.dup2, 1) := by decide +kernel
theorem dX12_live_34 : decode cX12_live 34 = .ok (.iaload, 1) := by decide +kernel
theorem dX12_live_35 : decode cX12_live 35 = .ok (.iconst 1, 1) := by decide +kernel
theorem dX12_live_36 : decode cX12_live 36 = .ok (.iadd, 1) := by decide +kernel
theorem dX12_live_37 : decode cX12_live 37 = .ok (.iastore, 1) := by decide +kernel
theorem dX12_live_38 : decode cX12_live 38 = .ok (.return_, 1) := by decide +kernel
theorem dX12_live_39 : decode cX12_live 39 = .ok (.iload_n 1, 1) := by decide +kernel
theorem dX12_live_40 : decode cX12_live 40 = .ok (.ifCond .ne 10, 3) := by decide +kernel
theorem dX12_live_43 : decode cX12_live 43 = .ok (.aload_n 0, 1) := by decide +kernel
theorem dX12_live_44 : decode cX12_live 44 = .ok (.iload_n 2, 1) := by decide +kernel
theorem dX12_live_45 : decode cX12_live 45 = .ok (.iconst 0, 1) := by decide +kernel
theorem dX12_live_46 : decode cX12_live 46 = .ok (.iconst 0, 1) := by decide +kernel
theorem dX12_live_47 : decode cX12_live 47 = .ok (.invokevirtual 248, 3) := by decide +kernel
theorem dX12_live_50 : decode cX12_live 50 = .ok (.iload_n 1, 1) := by decide +kernel
theorem dX12_live_51 : decode cX12_live 51 = .ok (.iconst 1, 1) := by decide +kernel
theorem dX12_live_52 : decode cX12_live 52 = .ok (.if_icmp .eq 8, 3) := by decide +kernel
theorem dX12_live_55 : decode cX12_live 55 = .ok (.iload_n 1, 1) := by decide +kernel
theorem dX12_live_56 : decode cX12_live 56 = .ok (.iconst 3, 1) := by decide +kernel
theorem dX12_live_57 : decode cX12_live 57 = .ok (.if_icmp .ne 17, 3) := by decide +kernel
theorem dX12_live_60 : decode cX12_live 60 = .ok (.aload_n 0, 1) := by decide +kernel
theorem dX12_live_61 : decode cX12_live 61 = .ok (.iload_n 2, 1) := by decide +kernel
theorem dX12_live_62 : decode cX12_live 62 = .ok (.iconst 1, 1) := by decide +kernel
theorem dX12_live_63 : decode cX12_live 63 = .ok (.aload_n 0, 1) := by decide +kernel
theorem dX12_live_64 : decode cX12_live 64 = .ok (.getfield 13, 3) := by decide +kernel
theorem dX12_live_67 : decode cX12_live 67 = .ok (.iconst 3, 1) := by decide +kernel
theorem dX12_live_68 : decode cX12_live 68 = .ok (.iload_n 2, 1) := by decide +kernel
theorem dX12_live_69 : decode cX12_live 69 = .ok (.iadd, 1) := by decide +kernel
theorem dX12_live_70 : decode cX12_live 70 = .ok (.iaload, 1) := by decide +kernel
theorem dX12_live_71 : decode cX12_live 71 = .ok (.invokevirtual 248, 3) := by decide +kernel
theorem dX12_live_74 : decode cX12_live 74 = .ok (.iload_n 1, 1) := by decide +kernel
theorem dX12_live_75 : decode cX12_live 75 = .ok (.ifCond .eq 8, 3) := by decide +kernel
theorem dX12_live_78 : decode cX12_live 78 = .ok (.iload_n 1, 1) := by decide +kernel
theorem dX12_live_79 : decode cX12_live 79 = .ok (.iconst 3, 1) := by decide +kernel
theorem dX12_live_80 : decode cX12_live 80 = .ok (.if_icmp .ne 8, 3) := by decide +kernel
theorem dX12_live_83 : decode cX12_live 83 = .ok (.aload_n 0, 1) := by decide +kernel
theorem dX12_live_84 : decode cX12_live 84 = .ok (.iload_n 2, 1) := by decide +kernel
theorem dX12_live_85 : decode cX12_live 85 = .ok (.invokevirtual 252, 3) := by decide +kernel
theorem dX12_live_88 : decode cX12_live 88 = .ok (.iload_n 1, 1) := by decide +kernel
theorem dX12_live_89 : decode cX12_live 89 = .ok (.ifCond .eq 11, 3) := by decide +kernel
theorem dX12_live_92 : decode cX12_live 92 = .ok (.aload_n 0, 1) := by decide +kernel
theorem dX12_live_93 : decode cX12_live 93 = .ok (.iload_n 2, 1) := by decide +kernel
theorem dX12_live_94 : decode cX12_live 94 = .ok (.iload_n 1, 1) := by decide +kernel
theorem dX12_live_95 : decode cX12_live 95 = .ok (.iconst 1, 1) := by decide +kernel
theorem dX12_live_96 : decode cX12_live 96 = .ok (.isub, 1) := by decide +kernel
theorem dX12_live_97 : decode cX12_live 97 = .ok (.invokevirtual 255, 3) := by decide +kernel
theorem dX12_live_100 : decode cX12_live 100 = .ok (.return_, 1) := by decide +kernel
theorem dX12_act_0 : decode cX12_act 0 = .ok (.aload_n 0, 1) := by decide +kernel
theorem dX12_act_1 : decode cX12_act 1 = .ok (.iload_n 1, 1) := by decide +kernel
theorem dX12_act_2 : decode cX12_act 2 = .ok (.iload_n 2, 1) := by decide +kernel
theorem dX12_act_3 : decode cX12_act 3 = .ok (.invokevirtual 259, 3) := by decide +kernel
theorem dX12_act_6 : decode cX12_act 6 = .ok (.istore 4, 2) := by decide +kernel
theorem dX12_act_8 : decode cX12_act 8 = .ok (.iload 4, 2) := by decide +kernel
theorem dX12_act_10 : decode cX12_act 10 = .ok (.ifCond .eq 6, 3) := by decide +kernel
theorem dX12_act_13 : decode cX12_act 13 = .ok (.iload 4, 2) := by decide +kernel
theorem dX12_act_15 : decode cX12_act 15 = .ok (.ireturn, 1) := by decide +kernel
theorem dX12_act_16 : decode cX12_act 16 = .ok (.aload_n 0, 1) := by decide +kernel
theorem dX12_act_17 : decode cX12_act 17 = .ok (.invokevirtual 263, 3) := by decide +kernel
theorem dX12_act_20 : decode cX12_act 20 = .ok (.aload_n 0, 1) := by decide +kernel
theorem dX12_act_21 : decode cX12_act 21 = .ok (.iload_n 3, 1) := by decide +kernel
theorem dX12_act_22 : decode cX12_act 22 = .ok (.putfield 236, 3) := by decide +kernel
theorem dX12_act_25 : decode cX12_act 25 = .ok (.aload_n 0, 1) := by decide +kernel
theorem dX12_act_26 : decode cX12_act 26 = .ok (.iload_n 1, 1) := by decide +kernel
theorem dX12_act_27 : decode cX12_act 27 = .ok (.iload_n 2, 1) := by decide +kernel
theorem dX12_act_28 : decode cX12_act 28 = .ok (.invokevirtual 266, 3) := by decide +kernel
theorem dX12_act_31 : decode cX12_act 31 = .ok (.iconst 0, 1) := by decide +kernel
theorem dX12_act_32 : decode cX12_act 32 = .ok (.ireturn, 1) := by decide +kernel
theorem dX12_off_0 : decode cX12_off 0 = .ok (.aload_n 0, 1) := by decide +kernel
theorem dX12_off_1 : decode cX12_off 1 = .ok (.iconst 0, 1) := by decide +kernel
theorem dX12_off_2 : decode cX12_off 2 = .ok (.putfield 73, 3) := by decide +kernel
theorem dX12_off_5 : decode cX12_off 5 = .ok (.aload_n 0, 1) := by decide +kernel
theorem dX12_off_6 : decode cX12_off 6 = .ok (.iload_n 1, 1) := by decide +kernel
theorem dX12_off_7 : decode cX12_off 7 = .ok (.invokevirtual 221, 3) := by decide +kernel
theorem dX12_off_10 : decode cX12_off 10 = .ok (.ifCond .eq 13, 3) := by decide +kernel
theorem dX12_off_13 : decode cX12_off 13 = .ok (.aload_n 0, 1) := by decide +kernel
theorem dX12_off_14 : decode cX12_off 14 = .ok (.iconst 0, 1) := by decide +kernel
theorem dX12_off_15 : decode cX12_off 15 = .ok (.iload_n 1, 1) := by decide +kernel
theorem dX12_off_16 : decode cX12_off 16 = .ok (.iconst 0, 1) := by decide +kernel
theorem dX12_off_17 : decode cX12_off 17 = .ok (.invokevirtual 269, 3) := by decide +kernel
theorem dX12_off_20 : decode cX12_off 20 = .ok (.goto 4, 3) := by decide +kernel
theorem dX12_off_23 : decode cX12_off 23 = .ok (.iconst (-1), 1) := by decide +kernel
theorem dX12_off_24 : decode cX12_off 24 = .ok (.ireturn, 1) := by decide +kernel
theorem dX12_on_0 : decode cX12_on 0 = .ok (.aload_n 0, 1) := by decide +kernel
theorem dX12_on_1 : decode cX12_on 1 = .ok (.iconst 0, 1) := by decide +kernel
theorem dX12_on_2 : decode cX12_on 2 = .ok (.putfield 73, 3) := by decide +kernel
theorem dX12_on_5 : decode cX12_on 5 = .ok (.aload_n 0, 1) := by decide +kernel
theorem dX12_on_6 : decode cX12_on 6 = .ok (.iload_n 1, 1) := by decide +kernel
theorem dX12_on_7 : decode cX12_on 7 = .ok (.invokevirtual 221, 3) := by decide +kernel
theorem dX12_on_10 : decode cX12_on 10 = .ok (.ifCond .eq 13, 3) := by decide +kernel
theorem dX12_on_13 : decode cX12_on 13 = .ok (.aload_n 0, 1) := by decide +kernel
theorem dX12_on_14 : decode cX12_on 14 = .ok (.iconst 1, 1) := by decide +kernel
theorem dX12_on_15 : decode cX12_on 15 = .ok (.iload_n 1, 1) := by decide +kernel
theorem dX12_on_16 : decode cX12_on 16 = .ok (.iload_n 2, 1) := by decide +kernel
theorem dX12_on_17 : decode cX12_on 17 = .ok (.invokevirtual 269, 3) := by decide +kernel
theorem dX12_on_20 : decode cX12_on 20 = .ok (.goto 4, 3) := by decide +kernel
theorem dX12_on_23 : decode cX12_on 23 = .ok (.iconst (-1), 1) := by decide +kernel
theorem dX12_on_24 : decode cX12_on 24 = .ok (.ireturn, 1) := by decide +kernel
theorem dX12_cable_0 : decode cX12_cable 0 = .ok (.aload_n 0, 1) := by decide +kernel
theorem dX12_cable_1 : decode cX12_cable 1 = .ok (.iconst 0, 1) := by decide +kernel
theorem dX12_cable_2 : decode cX12_cable 2 = .ok (.putfield 73, 3) := by decide +kernel
theorem dX12_cable_5 : decode cX12_cable 5 = .ok (.aload_n 0, 1) := by decide +kernel
theorem dX12_cable_6 : decode cX12_cable 6 = .ok (.iload_n 1, 1) := by decide +kernel
theorem dX12_cable_7 : decode cX12_cable 7 = .ok (.invokevirtual 221, 3) := by decide +kernel
theorem dX12_cable_10 : decode cX12_cable 10 = .ok (.ifCond .eq 13, 3) := by decide +kernel
theorem dX12_cable_13 : decode cX12_cable 13 = .ok (.aload_n 0, 1) := by decide +kernel
theorem dX12_cable_14 : decode cX12_cable 14 = .ok (.iconst 2, 1) := by decide +kernel
theorem dX12_cable_15 : decode cX12_cable 15 = .ok (.iload_n 1, 1) := by decide +kernel
theorem dX12_cable_16 : decode cX12_cable 16 = .ok (.iload_n 2, 1) := by decide +kernel
theorem dX12_cable_17 : decode cX12_cable 17 = .ok (.invokevirtual 269, 3) := by decide +kernel
theorem dX12_cable_20 : decode cX12_cable 20 = .ok (.goto 4, 3) := by decide +kernel
theorem dX12_cable_23 : decode cX12_cable 23 = .ok (.iconst (-1), 1) := by decide +kernel
theorem dX12_cable_24 : decode cX12_cable 24 = .ok (.ireturn, 1) := by decide +kernel
theorem dX12_pin_0 : decode cX12_pin 0 = .ok (.aload_n 0, 1) := by decide +kernel
theorem dX12_pin_1 : decode cX12_pin 1 = .ok (.iconst 0, 1) := by decide +kernel
theorem dX12_pin_2 : decode cX12_pin 2 = .ok (.putfield 73, 3) := by decide +kernel
theorem dX12_pin_5 : decode cX12_pin 5 = .ok (.aload_n 0, 1) := by decide +kernel
theorem dX12_pin_6 : decode cX12_pin 6 = .ok (.iload_n 1, 1) := by decide +kernel
theorem dX12_pin_7 : decode cX12_pin 7 = .ok (.invokevirtual 221, 3) := by decide +kernel
theorem dX12_pin_10 : decode cX12_pin 10 = .ok (.ifCond .eq 13, 3) := by decide +kernel
theorem dX12_pin_13 : decode cX12_pin 13 = .ok (.aload_n 0, 1) := by decide +kernel
theorem dX12_pin_14 : decode cX12_pin 14 = .ok (.iconst 3, 1) := by decide +kernel
theorem dX12_pin_15 : decode cX12_pin 15 = .ok (.iload_n 1, 1) := by decide +kernel
theorem dX12_pin_16 : decode cX12_pin 16 = .ok (.iload_n 2, 1) := by decide +kernel
theorem dX12_pin_17 : decode cX12_pin 17 = .ok (.invokevirtual 269, 3) := by decide +kernel
theorem dX12_pin_20 : decode cX12_pin 20 = .ok (.goto 4, 3) := by decide +kernel
theorem dX12_pin_23 : decode cX12_pin 23 = .ok (.iconst (-1), 1) := by decide +kernel
theorem dX12_pin_24 : decode cX12_pin 24 = .ok (.ireturn, 1) := by decide +kernel
theorem dX12_strike_0 : decode cX12_strike 0 = .ok (.aload_n 0, 1) := by decide +kernel
theorem dX12_strike_1 : decode cX12_strike 1 = .ok (.iconst 0, 1) := by decide +kernel
theorem dX12_strike_2 : decode cX12_strike 2 = .ok (.putfield 73, 3) := by decide +kernel
theorem dX12_strike_5 : decode cX12_strike 5 = .ok (.aload_n 0, 1) := by decide +kernel
theorem dX12_strike_6 : decode cX12_strike 6 = .ok (.iload_n 1, 1) := by decide +kernel
theorem dX12_strike_7 : decode cX12_strike 7 = .ok (.invokevirtual 230, 3) := by decide +kernel
theorem dX12_strike_10 : decode cX12_strike 10 = .ok (.ifCond .eq 13, 3) := by decide +kernel
theorem dX12_strike_13 : decode cX12_strike 13 = .ok (.aload_n 0, 1) := by decide +kernel
theorem dX12_strike_14 : decode cX12_strike 14 = .ok (.iconst 4, 1) := by decide +kernel
theorem dX12_strike_15 : decode cX12_strike 15 = .ok (.iload_n 1, 1) := by decide +kernel
theorem dX12_strike_16 : decode cX12_strike 16 = .ok (.iconst 0, 1) := by decide +kernel
theorem dX12_strike_17 : decode cX12_strike 17 = .ok (.invokevirtual 269, 3) := by decide +kernel
theorem dX12_strike_20 : decode cX12_strike 20 = .ok (.goto 4, 3) := by decide +kernel
theorem dX12_strike_23 : decode cX12_strike 23 = .ok (.iconst (-1), 1) := by decide +kernel
theorem dX12_strike_24 : decode cX12_strike 24 = .ok (.ireturn, 1) := by decide +kernel
theorem dX12_undo_0 : decode cX12_undo 0 = .ok (.aload_n 0, 1) := by decide +kernel
theorem dX12_undo_1 : decode cX12_undo 1 = .ok (.iconst 0, 1) := by decide +kernel
theorem dX12_undo_2 : decode cX12_undo 2 = .ok (.putfield 73, 3) := by decide +kernel
theorem dX12_undo_5 : decode cX12_undo 5 = .ok (.aload_n 0, 1) := by decide +kernel
theorem dX12_undo_6 : decode cX12_undo 6 = .ok (.getfield 206, 3) := by decide +kernel
theorem dX12_undo_9 : decode cX12_undo 9 = .ok (.ifCond .ne 5, 3) := by decide +kernel
theorem dX12_undo_12 : decode cX12_undo 12 = .ok (.iconst (-1), 1) := by decide +kernel
theorem dX12_undo_13 : decode cX12_undo 13 = .ok (.ireturn, 1) := by decide +kernel
theorem dX12_undo_14 : decode cX12_undo 14 = .ok (.aload_n 0, 1) := by decide +kernel
theorem dX12_undo_15 : decode cX12_undo 15 = .ok (.dup, 1) := by decide +kernel
theorem dX12_undo_16 : decode cX12_undo 16 = .ok (.getfield 206, 3) := by decide +kernel
theorem dX12_undo_19 : decode cX12_undo 19 = .ok (.iconst 1, 1) := by decide +kernel
theorem dX12_undo_20 : decode cX12_undo 20 = .ok (.isub, 1) := by decide +kernel
theorem dX12_undo_21 : decode cX12_undo 21 = .ok (.putfield 206, 3) := by decide +kernel
theorem dX12_undo_24 : decode cX12_undo 24 = .ok (.iconst 0, 1) := by decide +kernel
theorem dX12_undo_25 : decode cX12_undo 25 = .ok (.istore_n 1, 1) := by decide +kernel
theorem dX12_undo_26 : decode cX12_undo 26 = .ok (.iload_n 1, 1) := by decide +kernel
theorem dX12_undo_27 : decode cX12_undo 27 = .ok (.bipush 60, 2) := by decide +kernel
theorem dX12_undo_29 : decode cX12_undo 29 = .ok (.if_icmp .ge 32, 3) := by decide +kernel
theorem dX12_undo_32 : decode cX12_undo 32 = .ok (.aload_n 0, 1) := by decide +kernel
theorem dX12_undo_33 : decode cX12_undo 33 = .ok (.getfield 13, 3) := by decide +kernel
theorem dX12_undo_36 : decode cX12_undo 36 = .ok (.bipush 77, 2) := by decide +kernel
theorem dX12_undo_38 : decode cX12_undo 38 = .ok (.iload_n 1, 1) := by decide +kernel
theorem dX12_undo_39 : decode cX12_undo 39 = .ok (.iadd, 1) := by decide +kernel
theorem dX12_undo_40 : decode cX12_undo 40 = .ok (.aload_n 0, 1) := by decide +kernel
theorem dX12_undo_41 : decode cX12_undo 41 = .ok (.getfield 22, 3) := by decide +kernel
theorem dX12_undo_44 : decode cX12_undo 44 = .ok (.bipush 60, 2) := by decide +kernel
theorem dX12_undo_46 : decode cX12_undo 46 = .ok (.aload_n 0, 1) := by decide +kernel
theorem dX12_undo_47 : decode cX12_undo 47 = .ok (.getfield 206, 3) := by decide +kernel
theorem dX12_undo_50 : decode cX12_undo 50 = .ok (.imul, 1) := by decide +kernel
theorem dX12_undo_51 : decode cX12_undo 51 = .ok (.iload_n 1, 1) := by decide +kernel
theorem dX12_undo_52 : decode cX12_undo 52 = .ok (.iadd, 1) := by decide +kernel
theorem dX12_undo_53 : decode cX12_undo 53 = .ok (.iaload, 1) := by decide +kernel
theorem dX12_undo_54 : decode cX12_undo 54 = .ok (.iastore, 1) := by decide +kernel
theorem dX12_undo_55 : decode cX12_undo 55 = .ok (.iinc 1 1, 3) := by decide +kernel
theorem dX12_undo_58 : decode cX12_undo 58 = .ok (.goto (-32), 3) := by decide +kernel
theorem dX12_undo_61 : decode cX12_undo 61 = .ok (.aload_n 0, 1) := by decide +kernel
theorem dX12_undo_62 : decode cX12_undo 62 = .ok (.getfield 206, 3) := by decide +kernel
theorem dX12_undo_65 : decode cX12_undo 65 = .ok (.ireturn, 1) := by decide +kernel
theorem dX12_oneMinute_0 : decode cX12_oneMinute 0 = .ok (.iconst 0, 1) := by decide +kernel
theorem dX12_oneMinute_1 : decode cX12_oneMinute 1 = .ok (.istore_n 1, 1) := by decide +kernel
theorem dX12_oneMinute_2 : decode cX12_oneMinute 2 = .ok (.iload_n 1, 1) := by decide +kernel
theorem dX12_oneMinute_3 : decode cX12_oneMinute 3 = .ok (.aload_n 0, 1) := by decide +kernel
theorem dX12_oneMinute_4 : decode cX12_oneMinute 4 = .ok (.getfield 13, 3) := by decide +kernel
theorem dX12_oneMinute_7 : decode cX12_oneMinute 7 = .ok (.iconst 0, 1) := by decide +kernel
theorem dX12_oneMinute_8 : decode cX12_oneMinute 8 = .ok (.iaload, 1) := by decide +kernel
theorem dX12_oneMinute_9 : decode cX12_oneMinute 9 = .ok (.if_icmp .ge 140, 3) := by decide +kernel
theorem dX12_oneMinute_12 : decode cX12_oneMinute 12 = .ok (.aload_n 0, 1) := by decide +kernel
theorem dX12_oneMinute_13 : decode cX12_oneMinute 13 = .ok (.getfield 13, 3) := by decide +kernel
theorem dX12_oneMinute_16 : decode cX12_oneMinute 16 = .ok (.bipush 81, 2) := by decide +kernel
theorem dX12_oneMinute_18 : decode cX12_oneMinute 18 = .ok (.iload_n 1, 1) := by decide +kernel
theorem dX12_oneMinute_19 : decode cX12_oneMinute 19 = .ok (.iadd, 1) := by decide +kernel
theorem dX12_oneMinute_20 : decode cX12_oneMinute 20 = .ok (.iaload, 1) := by decide +kernel
theorem dX12_oneMinute_21 : decode cX12_oneMinute 21 = .ok (.ifCond .ne 32, 3) := by decide +kernel
theorem dX12_oneMinute_24 : decode cX12_oneMinute 24 = .ok (.aload_n 0, 1) := by decide +kernel
theorem dX12_oneMinute_25 : decode cX12_oneMinute 25 = .ok (.getfield 13, 3) := by decide +kernel
theorem dX12_oneMinute_28 : decode cX12_oneMinute 28 = .ok (.bipush 87, 2) := by decide +kernel
theorem dX12_oneMinute_30 : decode cX12_oneMinute 30 = .ok (.iload_n 1, 1) := by decide +kernel
theorem dX12_oneMinute_31 : decode cX12_oneMinute 31 = .ok (.iadd, 1) := by decide +kernel
theorem dX12_oneMinute_32 : decode cX12_oneMinute 32 = .ok (.dup2, 1) := by decide +kernel
theorem dX12_oneMinute_33 : decode cX12_oneMinute 33 = .ok (.iaload, 1) := by decide +kernel
theorem dX12_oneMinute_34 : decode cX12_oneMinute 34 = .ok (.iconst 1, 1) := by decide +kernel
theorem dX12_oneMinute_35 : decode cX12_oneMinute 35 = .ok (.iadd, 1) := by decide +kernel
theorem dX12_oneMinute_36 : decode cX12_oneMinute 36 = .ok (.iastore, 1) := by decide +kernel
theorem dX12_oneMinute_37 : decode cX12_oneMinute 37 = .ok (.aload_n 0, 1) := by decide +kernel
theorem dX12_oneMinute_38 : decode cX12_oneMinute 38 = .ok (.getfield 13, 3) := by decide +kernel
theorem dX12_oneMinute_41 : decode cX12_oneMinute 41 = .ok (.bipush 99, 2) := by decide +kernel
theorem dX12_oneMinute_43 : decode cX12_oneMinute 43 = .ok (.iload_n 1, 1) := by decide +kernel
theorem dX12_oneMinute_44 : decode cX12_oneMinute 44 = .ok (.iadd, 1) := by decide +kernel
theorem dX12_oneMinute_45 : decode cX12_oneMinute 45 = .ok (.dup2, 1) := by decide +kernel
theorem dX12_oneMinute_46 : decode cX12_oneMinute 46 = .ok (.iaload, 1) := by decide +kernel
theorem dX12_oneMinute_47 : decode cX12_oneMinute 47 = .ok (.iconst 1, 1) := by decide +kernel
theorem dX12_oneMinute_48 : decode cX12_oneMinute 48 = .ok (.iadd, 1) := by decide +kernel
theorem dX12_oneMinute_49 : decode cX12_oneMinute 49 = .ok (.iastore, 1) := by decide +kernel
theorem dX12_oneMinute_50 : decode cX12_oneMinute 50 = .ok (.goto 93, 3) := by decide +kernel
theorem dX12_oneMinute_53 : decode cX12_oneMinute 53 = .ok (.aload_n 0, 1) := by decide +kernel
theorem dX12_oneMinute_54 : decode cX12_oneMinute 54 = .ok (.getfield 13, 3) := by decide +kernel
theorem dX12_oneMinute_57 : decode cX12_oneMinute 57 = .ok (.bipush 81, 2) := by decide +kernel
theorem dX12_oneMinute_59 : decode cX12_oneMinute 59 = .ok (.iload_n 1, 1) := by decide +kernel
theorem dX12_oneMinute_60 : decode cX12_oneMinute 60 = .ok (.iadd, 1) := by decide +kernel
theorem dX12_oneMinute_61 : decode cX12_oneMinute 61 = .ok (.iaload, 1) := by decide +kernel
theorem dX12_oneMinute_62 : decode cX12_oneMinute 62 = .ok (.iconst 1, 1) := by decide +kernel
theorem dX12_oneMinute_63 : decode cX12_oneMinute 63 = .ok (.if_icmp .ne 80, 3) := by decide +kernel
theorem dX12_oneMinute_66 : decode cX12_oneMinute 66 = .ok (.aload_n 0, 1) := by decide +kernel
theorem dX12_oneMinute_67 : decode cX12_oneMinute 67 = .ok (.getfield 13, 3) := by decide +kernel
theorem dX12_oneMinute_70 : decode cX12_oneMinute 70 = .ok (.bipush 87, 2) := by decide +kernel
theorem dX12_oneMinute_72 : decode cX12_oneMinute 72 = .ok (.iload_n 1, 1) := by decide +kernel
theorem dX12_oneMinute_73 : decode cX12_oneMinute 73 = .ok (.iadd, 1) := by decide +kernel
theorem dX12_oneMinute_74 : decode cX12_oneMinute 74 = .ok (.dup2, 1) := by decide +kernel
theorem dX12_oneMinute_75 : decode cX12_oneMinute 75 = .ok (.iaload, 1) := by decide +kernel
theorem dX12_oneMinute_76 : decode cX12_oneMinute 76 = .ok (.iconst 1, 1) := by decide +kernel
theorem dX12_oneMinute_77 : decode cX12_oneMinute 77 = .ok (.isub, 1) := by decide +kernel
theorem dX12_oneMinute_78 : decode cX12_oneMinute 78 = .ok (.iastore, 1) := by decide +kernel
theorem dX12_oneMinute_79 : decode cX12_oneMinute 79 = .ok (.aload_n 0, 1) := by decide +kernel
theorem dX12_oneMinute_80 : decode cX12_oneMinute 80 = .ok (.getfield 13, 3) := by decide +kernel
theorem dX12_oneMinute_83 : decode cX12_oneMinute 83 = .ok (.bipush 87, 2) := by decide +kernel
theorem dX12_oneMinute_85 : decode cX12_oneMinute 85 = .ok (.iload_n 1, 1) := by decide +kernel
theorem dX12_oneMinute_86 : decode cX12_oneMinute 86 = .ok (.iadd, 1) := by decide +kernel
theorem dX12_oneMinute_87 : decode cX12_oneMinute 87 = .ok (.iaload, 1) := by decide +kernel
theorem dX12_oneMinute_88 : decode cX12_oneMinute 88 = .ok (.ifCond .le 6, 3) := by decide +kernel
theorem dX12_oneMinute_91 : decode cX12_oneMinute 91 = .ok (.goto 52, 3) := by decide +kernel
theorem dX12_oneMinute_94 : decode cX12_oneMinute 94 = .ok (.aload_n 0, 1) := by decide +kernel
theorem dX12_oneMinute_95 : decode cX12_oneMinute 95 = .ok (.getfield 13, 3) := by decide +kernel
theorem dX12_oneMinute_98 : decode cX12_oneMinute 98 = .ok (.bipush 81, 2) := by decide +kernel
theorem dX12_oneMinute_100 : decode cX12_oneMinute 100 = .ok (.iload_n 1, 1) := by decide +kernel
theorem dX12_oneMinute_101 : decode cX12_oneMinute 101 = .ok (.iadd, 1) := by decide +kernel
theorem dX12_oneMinute_102 : decode cX12_oneMinute 102 = .ok (.iconst 2, 1) := by decide +kernel
theorem dX12_oneMinute_103 : decode cX12_oneMinute 103 = .ok (.iastore, 1) := by decide +kernel
theorem dX12_oneMinute_104 : decode cX12_oneMinute 104 = .ok (.aload_n 0, 1) := by decide +kernel
theorem dX12_oneMinute_105 : decode cX12_oneMinute 105 = .ok (.getfield 13, 3) := by decide +kernel
theorem dX12_oneMinute_108 : decode cX12_oneMinute 108 = .ok (.bipush 15, 2) := by decide +kernel
theorem dX12_oneMinute_110 : decode cX12_oneMinute 110 = .ok (.iload_n 1, 1) := by decide +kernel
theorem dX12_oneMinute_111 : decode cX12_oneMinute 111 = .ok (.iadd, 1) := by decide +kernel
theorem dX12_oneMinute_112 : decode cX12_oneMinute 112 = .ok (.iaload, 1) := by decide +kernel
theorem dX12_oneMinute_113 : decode cX12_oneMinute 113 = .ok (.iconst (-1), 1) := by decide +kernel
theorem dX12_oneMinute_114 : decode cX12_oneMinute 114 = .ok (.if_icmp .eq 19, 3) := by decide +kernel
theorem dX12_oneMinute_117 : decode cX12_oneMinute 117 = .ok (.aload_n 0, 1) := by decide +kernel
theorem dX12_oneMinute_118 : decode cX12_oneMinute 118 = .ok (.aload_n 0, 1) := by decide +kernel
theorem dX12_oneMinute_119 : decode cX12_oneMinute 119 = .ok (.getfield 13, 3) := by decide +kernel
theorem dX12_oneMinute_122 : decode cX12_oneMinute 122 = .ok (.bipush 15, 2) := by decide +kernel
theorem dX12_oneMinute_124 : decode cX12_oneMinute 124 = .ok (.iload_n 1, 1) := by decide +kernel
theorem dX12_oneMinute_125 : decode cX12_oneMinute 125 = .ok (.iadd, 1) := by decide +kernel
theorem dX12_oneMinute_126 : decode cX12_oneMinute 126 = .ok (.iaload, 1) := by decide +kernel
theorem dX12_oneMinute_127 : decode cX12_oneMinute 127 = .ok (.invokevirtual 215, 3) := by decide +kernel
theorem dX12_oneMinute_130 : decode cX12_oneMinute 130 = .ok (.ifCond .eq 13, 3) := by decide +kernel
theorem dX12_oneMinute_133 : decode cX12_oneMinute 133 = .ok (.aload_n 0, 1) := by decide +kernel
theorem dX12_oneMinute_134 : decode cX12_oneMinute 134 = .ok (.getfield 13, 3) := by decide +kernel
theorem dX12_oneMinute_137 : decode cX12_oneMinute 137 = .ok (.bipush 93, 2) := by decide +kernel
theorem dX12_oneMinute_139 : decode cX12_oneMinute 139 = .ok (.iload_n 1, 1) := by decide +kernel
theorem dX12_oneMinute_140 : decode cX12_oneMinute 140 = .ok (.iadd, 1) := by decide +kernel
theorem dX12_oneMinute_141 : decode cX12_oneMinute 141 = .ok (.iconst 1, 1) := by decide +kernel
theorem dX12_oneMinute_142 : decode cX12_oneMinute 142 = .ok (.iastore, 1) := by decide +kernel
theorem dX12_oneMinute_143 : decode cX12_oneMinute 143 = .ok (.iinc 1 1, 3) := by decide +kernel
theorem dX12_oneMinute_146 : decode cX12_oneMinute 146 = .ok (.goto (-144), 3) := by decide +kernel
theorem dX12_oneMinute_149 : decode cX12_oneMinute 149 = .ok (.iconst 0, 1) := by decide +kernel
theorem dX12_oneMinute_150 : decode cX12_oneMinute 150 = .ok (.istore_n 1, 1) := by decide +kernel
theorem dX12_oneMinute_151 : decode cX12_oneMinute 151 = .ok (.iload_n 1, 1) := by decide +kernel
theorem dX12_oneMinute_152 : decode cX12_oneMinute 152 = .ok (.aload_n 0, 1) := by decide +kernel
theorem dX12_oneMinute_153 : decode cX12_oneMinute 153 = .ok (.getfield 13, 3) := by decide +kernel
theorem dX12_oneMinute_156 : decode cX12_oneMinute 156 = .ok (.iconst 1, 1) := by decide +kernel
theorem dX12_oneMinute_157 : decode cX12_oneMinute 157 = .ok (.iaload, 1) := by decide +kernel
theorem dX12_oneMinute_158 : decode cX12_oneMinute 158 = .ok (.if_icmp .ge 87, 3) := by decide +kernel
theorem dX12_oneMinute_161 : decode cX12_oneMinute 161 = .ok (.aload_n 0, 1) := by decide +kernel
theorem dX12_oneMinute_162 : decode cX12_oneMinute 162 = .ok (.iload_n 1, 1) := by decide +kernel
theorem dX12_oneMinute_163 : decode cX12_oneMinute 163 = .ok (.invokevirtual 209, 3) := by decide +kernel
theorem dX12_oneMinute_166 : decode cX12_oneMinute 166 = .ok (.ifCond .ne 6, 3) := by decide +kernel
theorem dX12_oneMinute_169 : decode cX12_oneMinute 169 = .ok (.goto 70, 3) := by decide +kernel
theorem dX12_oneMinute_172 : decode cX12_oneMinute 172 = .ok (.aload_n 0, 1) := by decide +kernel
theorem dX12_oneMinute_173 : decode cX12_oneMinute 173 = .ok (.getfield 13, 3) := by decide +kernel
theorem dX12_oneMinute_176 : decode cX12_oneMinute 176 = .ok (.bipush 113, 2) := by decide +kernel
theorem dX12_oneMinute_178 : decode cX12_oneMinute 178 = .ok (.iload_n 1, 1) := by decide +kernel
theorem dX12_oneMinute_179 : decode cX12_oneMinute 179 = .ok (.iadd, 1) := by decide +kernel
theorem dX12_oneMinute_180 : decode cX12_oneMinute 180 = .ok (.dup2, 1) := by decide +kernel
theorem dX12_oneMinute_181 : decode cX12_oneMinute 181 = .ok (.iaload, 1) := by decide +kernel
theorem dX12_oneMinute_182 : decode cX12_oneMinute 182 = .ok (.iconst 1, 1) := by decide +kernel
theorem dX12_oneMinute_183 : decode cX12_oneMinute 183 = .ok (.iadd, 1) := by decide +kernel
theorem dX12_oneMinute_184 : decode cX12_oneMinute 184 = .ok (.iastore, 1) := by decide +kernel
theorem dX12_oneMinute_185 : decode cX12_oneMinute 185 = .ok (.aload_n 0, 1) := by decide +kernel
theorem dX12_oneMinute_186 : decode cX12_oneMinute 186 = .ok (.getfield 13, 3) := by decide +kernel
theorem dX12_oneMinute_189 : decode cX12_oneMinute 189 = .ok (.bipush 113, 2) := by decide +kernel
theorem dX12_oneMinute_191 : decode cX12_oneMinute 191 = .ok (.iload_n 1, 1) := by decide +kernel
theorem dX12_oneMinute_192 : decode cX12_oneMinute 192 = .ok (.iadd, 1) := by decide +kernel
theorem dX12_oneMinute_193 : decode cX12_oneMinute 193 = .ok (.iaload, 1) := by decide +kernel
theorem dX12_oneMinute_194 : decode cX12_oneMinute 194 = .ok (.aload_n 0, 1) := by decide +kernel
theorem dX12_oneMinute_195 : decode cX12_oneMinute 195 = .ok (.getfield 13, 3) := by decide +kernel
theorem dX12_oneMinute_198 : decode cX12_oneMinute 198 = .ok (.bipush 29, 2) := by decide +kernel
theorem dX12_oneMinute_200 : decode cX12_oneMinute 200 = .ok (.iload_n 1, 1) := by decide +kernel
theorem dX12_oneMinute_201 : decode cX12_oneMinute 201 = .ok (.iadd, 1) := by decide +kernel
theorem dX12_oneMinute_202 : decode cX12_oneMinute 202 = .ok (.iaload, 1) := by decide +kernel
theorem dX12_oneMinute_203 : decode cX12_oneMinute 203 = .ok (.if_icmp .eq 6, 3) := by decide +kernel
theorem dX12_oneMinute_206 : decode cX12_oneMinute 206 = .ok (.goto 33, 3) := by decide +kernel
theorem dX12_oneMinute_209 : decode cX12_oneMinute 209 = .ok (.aload_n 0, 1) := by decide +kernel
theorem dX12_oneMinute_210 : decode cX12_oneMinute 210 = .ok (.iload_n 1, 1) := by decide +kernel
theorem dX12_oneMinute_211 : decode cX12_oneMinute 211 = .ok (.invokevirtual 243, 3) := by decide +kernel
theorem dX12_oneMinute_214 : decode cX12_oneMinute 214 = .ok (.aload_n 0, 1) := by decide +kernel
theorem dX12_oneMinute_215 : decode cX12_oneMinute 215 = .ok (.getfield 13, 3) := by decide +kernel
theorem dX12_oneMinute_218 : decode cX12_oneMinute 218 = .ok (.sipush 129, 3) := by decide +kernel
theorem dX12_oneMinute_221 : decode cX12_oneMinute 221 = .ok (.iload_n 1, 1) := by decide +kernel
theorem dX12_oneMinute_222 : decode cX12_oneMinute 222 = .ok (.iadd, 1) := by decide +kernel
theorem dX12_oneMinute_223 : decode cX12_oneMinute 223 = .ok (.dup2, 1) := by decide +kernel
theorem dX12_oneMinute_224 : decode cX12_oneMinute 224 = .ok (.iaload, 1) := by decide +kernel
theorem dX12_oneMinute_225 : decode cX12_oneMinute 225 = .ok (.iconst 1, 1) := by decide +kernel
theorem dX12_oneMinute_226 : decode cX12_oneMinute 226 = .ok (.iadd, 1) := by decide +kernel
theorem dX12_oneMinute_227 : decode cX12_oneMinute 227 = .ok (.iastore, 1) := by decide +kernel
theorem dX12_oneMinute_228 : decode cX12_oneMinute 228 = .ok (.aload_n 0, 1) := by decide +kernel
theorem dX12_oneMinute_229 : decode cX12_oneMinute 229 = .ok (.getfield 13, 3) := by decide +kernel
theorem dX12_oneMinute_232 : decode cX12_oneMinute 232 = .ok (.bipush 80, 2) := by decide +kernel
theorem dX12_oneMinute_234 : decode cX12_oneMinute 234 = .ok (.dup2, 1) := by decide +kernel
theorem dX12_oneMinute_235 : decode cX12_oneMinute 235 = .ok (.iaload, 1) := by decide +kernel
theorem dX12_oneMinute_236 : decode cX12_oneMinute 236 = .ok (.iconst 1, 1) := by decide +kernel
theorem dX12_oneMinute_237 : decode cX12_oneMinute 237 = .ok (.iadd, 1) := by decide +kernel
theorem dX12_oneMinute_238 : decode cX12_oneMinute 238 = .ok (.iastore, 1) := by decide +kernel
theorem dX12_oneMinute_239 : decode cX12_oneMinute 239 = .ok (.iinc 1 1, 3) := by decide +kernel
theorem dX12_oneMinute_242 : decode cX12_oneMinute 242 = .ok (.goto (-91), 3) := by decide +kernel
theorem dX12_oneMinute_245 : decode cX12_oneMinute 245 = .ok (.aload_n 0, 1) := by decide +kernel
theorem dX12_oneMinute_246 : decode cX12_oneMinute 246 = .ok (.getfield 13, 3) := by decide +kernel
theorem dX12_oneMinute_249 : decode cX12_oneMinute 249 = .ok (.bipush 77, 2) := by decide +kernel
theorem dX12_oneMinute_251 : decode cX12_oneMinute 251 = .ok (.dup2, 1) := by decide +kernel
theorem dX12_oneMinute_252 : decode cX12_oneMinute 252 = .ok (.iaload, 1) := by decide +kernel
theorem dX12_oneMinute_253 : decode cX12_oneMinute 253 = .ok (.iconst 1, 1) := by decide +kernel
theorem dX12_oneMinute_254 : decode cX12_oneMinute 254 = .ok (.iadd, 1) := by decide +kernel
theorem dX12_oneMinute_255 : decode cX12_oneMinute 255 = .ok (.iastore, 1) := by decide +kernel
