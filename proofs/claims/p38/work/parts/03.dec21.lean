theorem dX12_kinds_8 : decode cX12_kinds 8 = .ok (.istore_n 2, 1) := by decide +kernel
theorem dX12_kinds_9 : decode cX12_kinds 9 = .ok (.iload_n 2, 1) := by decide +kernel
theorem dX12_kinds_10 : decode cX12_kinds 10 = .ok (.aload_n 0, 1) := by decide +kernel
theorem dX12_kinds_11 : decode cX12_kinds 11 = .ok (.getfield 13, 3) := by decide +kernel
theorem dX12_kinds_14 : decode cX12_kinds 14 = .ok (.iconst 1, 1) := by decide +kernel
theorem dX12_kinds_15 : decode cX12_kinds 15 = .ok (.iaload, 1) := by decide +kernel
theorem dX12_kinds_16 : decode cX12_kinds 16 = .ok (.if_icmp .ge 34, 3) := by decide +kernel
theorem dX12_kinds_19 : decode cX12_kinds 19 = .ok (.iconst 0, 1) := by decide +kernel
theorem dX12_kinds_20 : decode cX12_kinds 20 = .ok (.istore_n 3, 1) := by decide +kernel
theorem dX12_kinds_21 : decode cX12_kinds 21 = .ok (.aload_n 0, 1) := by decide +kernel
theorem dX12_kinds_22 : decode cX12_kinds 22 = .ok (.iload_n 2, 1) := by decide +kernel
theorem dX12_kinds_23 : decode cX12_kinds 23 = .ok (.iload_n 3, 1) := by decide +kernel
theorem dX12_kinds_24 : decode cX12_kinds 24 = .ok (.invokevirtual 320, 3) := by decide +kernel
theorem dX12_kinds_27 : decode cX12_kinds 27 = .ok (.ifCond .ne 9, 3) := by decide +kernel
theorem dX12_kinds_30 : decode cX12_kinds 30 = .ok (.iinc 3 1, 3) := by decide +kernel
theorem dX12_kinds_33 : decode cX12_kinds 33 = .ok (.goto (-12), 3) := by decide +kernel
theorem dX12_kinds_36 : decode cX12_kinds 36 = .ok (.iload_n 3, 1) := by decide +kernel
theorem dX12_kinds_37 : decode cX12_kinds 37 = .ok (.iload_n 2, 1) := by decide +kernel
theorem dX12_kinds_38 : decode cX12_kinds 38 = .ok (.if_icmp .ne 6, 3) := by decide +kernel
theorem dX12_kinds_41 : decode cX12_kinds 41 = .ok (.iinc 1 1, 3) := by decide +kernel
theorem dX12_kinds_44 : decode cX12_kinds 44 = .ok (.iinc 2 1, 3) := by decide +kernel
theorem dX12_kinds_47 : decode cX12_kinds 47 = .ok (.goto (-38), 3) := by decide +kernel
theorem dX12_kinds_50 : decode cX12_kinds 50 = .ok (.iload_n 1, 1) := by decide +kernel
theorem dX12_kinds_51 : decode cX12_kinds 51 = .ok (.ireturn, 1) := by decide +kernel
theorem dX12_groupAt_0 : decode cX12_groupAt 0 = .ok (.iconst 0, 1) := by decide +kernel
theorem dX12_groupAt_1 : decode cX12_groupAt 1 = .ok (.istore_n 3, 1) := by decide +kernel
theorem dX12_groupAt_2 : decode cX12_groupAt 2 = .ok (.iconst 0, 1) := by decide +kernel
theorem dX12_groupAt_3 : decode cX12_groupAt 3 = .ok (.istore 4, 2) := by decide +kernel
theorem dX12_groupAt_5 : decode cX12_groupAt 5 = .ok (.iload 4, 2) := by decide +kernel
theorem dX12_groupAt_7 : decode cX12_groupAt 7 = .ok (.aload_n 0, 1) := by decide +kernel
theorem dX12_groupAt_8 : decode cX12_groupAt 8 = .ok (.getfield 13, 3) := by decide +kernel
theorem dX12_groupAt_11 : decode cX12_groupAt 11 = .ok (.iconst 1, 1) := by decide +kernel
theorem dX12_groupAt_12 : decode cX12_groupAt 12 = .ok (.iaload, 1) := by decide +kernel
theorem dX12_groupAt_13 : decode cX12_groupAt 13 = .ok (.if_icmp .ge 115, 3) := by decide +kernel
theorem dX12_groupAt_16 : decode cX12_groupAt 16 = .ok (.iconst 0, 1) := by decide +kernel
theorem dX12_groupAt_17 : decode cX12_groupAt 17 = .ok (.istore 5, 2) := by decide +kernel
theorem dX12_groupAt_19 : decode cX12_groupAt 19 = .ok (.iconst 0, 1) := by decide +kernel
theorem dX12_groupAt_20 : decode cX12_groupAt 20 = .ok (.istore 6, 2) := by decide +kernel
theorem dX12_groupAt_22 : decode cX12_groupAt 22 = .ok (.iload 6, 2) := by decide +kernel
theorem dX12_groupAt_24 : decode cX12_groupAt 24 = .ok (.aload_n 0, 1) := by decide +kernel
theorem dX12_groupAt_25 : decode cX12_groupAt 25 = .ok (.getfield 13, 3) := by decide +kernel
theorem dX12_groupAt_28 : decode cX12_groupAt 28 = .ok (.iconst 1, 1) := by decide +kernel
theorem dX12_groupAt_29 : decode cX12_groupAt 29 = .ok (.iaload, 1) := by decide +kernel
theorem dX12_groupAt_30 : decode cX12_groupAt 30 = .ok (.if_icmp .ge 83, 3) := by decide +kernel
theorem dX12_groupAt_33 : decode cX12_groupAt 33 = .ok (.iload_n 2, 1) := by decide +kernel
theorem dX12_groupAt_34 : decode cX12_groupAt 34 = .ok (.iload 4, 2) := by decide +kernel
theorem dX12_groupAt_36 : decode cX12_groupAt 36 = .ok (.invokestatic 288, 3) := by decide +kernel
theorem dX12_groupAt_39 : decode cX12_groupAt 39 = .ok (.ifCond .eq 68, 3) := by decide +kernel
theorem dX12_groupAt_42 : decode cX12_groupAt 42 = .ok (.iload_n 2, 1) := by decide +kernel
theorem dX12_groupAt_43 : decode cX12_groupAt 43 = .ok (.iload 6, 2) := by decide +kernel
theorem dX12_groupAt_45 : decode cX12_groupAt 45 = .ok (.invokestatic 288, 3) := by decide +kernel
theorem dX12_groupAt_48 : decode cX12_groupAt 48 = .ok (.ifCond .eq 59, 3) := by decide +kernel
theorem dX12_groupAt_51 : decode cX12_groupAt 51 = .ok (.aload_n 0, 1) := by decide +kernel
theorem dX12_groupAt_52 : decode cX12_groupAt 52 = .ok (.iload 4, 2) := by decide +kernel
theorem dX12_groupAt_54 : decode cX12_groupAt 54 = .ok (.iload 6, 2) := by decide +kernel
theorem dX12_groupAt_56 : decode cX12_groupAt 56 = .ok (.invokevirtual 320, 3) := by decide +kernel
theorem dX12_groupAt_59 : decode cX12_groupAt 59 = .ok (.ifCond .eq 17, 3) := by decide +kernel
theorem dX12_groupAt_62 : decode cX12_groupAt 62 = .ok (.aload_n 0, 1) := by decide +kernel
theorem dX12_groupAt_63 : decode cX12_groupAt 63 = .ok (.getfield 13, 3) := by decide +kernel
theorem dX12_groupAt_66 : decode cX12_groupAt 66 = .ok (.bipush 21, 2) := by decide +kernel
theorem dX12_groupAt_68 : decode cX12_groupAt 68 = .ok (.iload 4, 2) := by decide +kernel
theorem dX12_groupAt_70 : decode cX12_groupAt 70 = .ok (.iadd, 1) := by decide +kernel
theorem dX12_groupAt_71 : decode cX12_groupAt 71 = .ok (.iaload, 1) := by decide +kernel
theorem dX12_groupAt_72 : decode cX12_groupAt 72 = .ok (.iload_n 1, 1) := by decide +kernel
theorem dX12_groupAt_73 : decode cX12_groupAt 73 = .ok (.if_icmp .eq 31, 3) := by decide +kernel
theorem dX12_groupAt_76 : decode cX12_groupAt 76 = .ok (.aload_n 0, 1) := by decide +kernel
theorem dX12_groupAt_77 : decode cX12_groupAt 77 = .ok (.getfield 13, 3) := by decide +kernel
theorem dX12_groupAt_80 : decode cX12_groupAt 80 = .ok (.bipush 21, 2) := by decide +kernel
theorem dX12_groupAt_82 : decode cX12_groupAt 82 = .ok (.iload 4, 2) := by decide +kernel
theorem dX12_groupAt_84 : decode cX12_groupAt 84 = .ok (.iadd, 1) := by decide +kernel
theorem dX12_groupAt_85 : decode cX12_groupAt 85 = .ok (.iaload, 1) := by decide +kernel
theorem dX12_groupAt_86 : decode cX12_groupAt 86 = .ok (.iload_n 1, 1) := by decide +kernel
theorem dX12_groupAt_87 : decode cX12_groupAt 87 = .ok (.if_icmp .eq 20, 3) := by decide +kernel
theorem dX12_groupAt_90 : decode cX12_groupAt 90 = .ok (.aload_n 0, 1) := by decide +kernel
theorem dX12_groupAt_91 : decode cX12_groupAt 91 = .ok (.getfield 13, 3) := by decide +kernel
theorem dX12_groupAt_94 : decode cX12_groupAt 94 = .ok (.bipush 21, 2) := by decide +kernel
theorem dX12_groupAt_96 : decode cX12_groupAt 96 = .ok (.iload 6, 2) := by decide +kernel
theorem dX12_groupAt_98 : decode cX12_groupAt 98 = .ok (.iadd, 1) := by decide +kernel
theorem dX12_groupAt_99 : decode cX12_groupAt 99 = .ok (.iaload, 1) := by decide +kernel
theorem dX12_groupAt_100 : decode cX12_groupAt 100 = .ok (.iload_n 1, 1) := by decide +kernel
theorem dX12_groupAt_101 : decode cX12_groupAt 101 = .ok (.if_icmp .eq 6, 3) := by decide +kernel
theorem dX12_groupAt_104 : decode cX12_groupAt 104 = .ok (.iinc 5 1, 3) := by decide +kernel
theorem dX12_groupAt_107 : decode cX12_groupAt 107 = .ok (.iinc 6 1, 3) := by decide +kernel
theorem dX12_groupAt_110 : decode cX12_groupAt 110 = .ok (.goto (-88), 3) := by decide +kernel
theorem dX12_groupAt_113 : decode cX12_groupAt 113 = .ok (.iload 5, 2) := by decide +kernel
theorem dX12_groupAt_115 : decode cX12_groupAt 115 = .ok (.iload_n 3, 1) := by decide +kernel
theorem dX12_groupAt_116 : decode cX12_groupAt 116 = .ok (.if_icmp .le 6, 3) := by decide +kernel
theorem dX12_groupAt_119 : decode cX12_groupAt 119 = .ok (.iload 5, 2) := by decide +kernel
theorem dX12_groupAt_121 : decode cX12_groupAt 121 = .ok (.istore_n 3, 1) := by decide +kernel
theorem dX12_groupAt_122 : decode cX12_groupAt 122 = .ok (.iinc 4 1, 3) := by decide +kernel
theorem dX12_groupAt_125 : decode cX12_groupAt 125 = .ok (.goto (-120), 3) := by decide +kernel
theorem dX12_groupAt_128 : decode cX12_groupAt 128 = .ok (.iload_n 3, 1) := by decide +kernel
theorem dX12_groupAt_129 : decode cX12_groupAt 129 = .ok (.ireturn, 1) := by decide +kernel
theorem dX12_look_0 : decode cX12_look 0 = .ok (.aload_n 0, 1) := by decide +kernel
theorem dX12_look_1 : decode cX12_look 1 = .ok (.iconst 0, 1) := by decide +kernel
theorem dX12_look_2 : decode cX12_look 2 = .ok (.putfield 73, 3) := by decide +kernel
theorem dX12_look_5 : decode cX12_look 5 = .ok (.iload_n 1, 1) := by decide +kernel
theorem dX12_look_6 : decode cX12_look 6 = .ok (.iconst 1, 1) := by decide +kernel
theorem dX12_look_7 : decode cX12_look 7 = .ok (.if_icmp .lt 15, 3) := by decide +kernel
theorem dX12_look_10 : decode cX12_look 10 = .ok (.iload_n 1, 1) := by decide +kernel
theorem dX12_look_11 : decode cX12_look 11 = .ok (.iconst 1, 1) := by decide +kernel
theorem dX12_look_12 : decode cX12_look 12 = .ok (.aload_n 0, 1) := by decide +kernel
theorem dX12_look_13 : decode cX12_look 13 = .ok (.getfield 13, 3) := by decide +kernel
theorem dX12_look_16 : decode cX12_look 16 = .ok (.iconst 1, 1) := by decide +kernel
theorem dX12_look_17 : decode cX12_look 17 = .ok (.iaload, 1) := by decide +kernel
theorem dX12_look_18 : decode cX12_look 18 = .ok (.ishl, 1) := by decide +kernel
theorem dX12_look_19 : decode cX12_look 19 = .ok (.if_icmp .lt 5, 3) := by decide +kernel
theorem dX12_look_22 : decode cX12_look 22 = .ok (.iconst (-1), 1) := by decide +kernel
theorem dX12_look_23 : decode cX12_look 23 = .ok (.ireturn, 1) := by decide +kernel
theorem dX12_look_24 : decode cX12_look 24 = .ok (.iconst (-1), 1) := by decide +kernel
theorem dX12_look_25 : decode cX12_look 25 = .ok (.istore_n 2, 1) := by decide +kernel
theorem dX12_look_26 : decode cX12_look 26 = .ok (.iconst 0, 1) := by decide +kernel
theorem dX12_look_27 : decode cX12_look 27 = .ok (.istore_n 3, 1) := by decide +kernel
theorem dX12_look_28 : decode cX12_look 28 = .ok (.iload_n 3, 1) := by decide +kernel
theorem dX12_look_29 : decode cX12_look 29 = .ok (.aload_n 0, 1) := by decide +kernel
theorem dX12_look_30 : decode cX12_look 30 = .ok (.getfield 13, 3) := by decide +kernel
theorem dX12_look_33 : decode cX12_look 33 = .ok (.iconst 0, 1) := by decide +kernel
theorem dX12_look_34 : decode cX12_look 34 = .ok (.iaload, 1) := by decide +kernel
theorem dX12_look_35 : decode cX12_look 35 = .ok (.if_icmp .ge 31, 3) := by decide +kernel
theorem dX12_look_38 : decode cX12_look 38 = .ok (.iload_n 2, 1) := by decide +kernel
theorem dX12_look_39 : decode cX12_look 39 = .ok (.iconst (-1), 1) := by decide +kernel
theorem dX12_look_40 : decode cX12_look 40 = .ok (.if_icmp .eq 18, 3) := by decide +kernel
theorem dX12_look_43 : decode cX12_look 43 = .ok (.aload_n 0, 1) := by decide +kernel
theorem dX12_look_44 : decode cX12_look 44 = .ok (.iload_n 3, 1) := by decide +kernel
theorem dX12_look_45 : decode cX12_look 45 = .ok (.iload_n 1, 1) := by decide +kernel
theorem dX12_look_46 : decode cX12_look 46 = .ok (.invokevirtual 323, 3) := by decide +kernel
theorem dX12_look_49 : decode cX12_look 49 = .ok (.aload_n 0, 1) := by decide +kernel
theorem dX12_look_50 : decode cX12_look 50 = .ok (.iload_n 2, 1) := by decide +kernel
theorem dX12_look_51 : decode cX12_look 51 = .ok (.iload_n 1, 1) := by decide +kernel
theorem dX12_look_52 : decode cX12_look 52 = .ok (.invokevirtual 323, 3) := by decide +kernel
theorem dX12_look_55 : decode cX12_look 55 = .ok (.if_icmp .ge 5, 3) := by decide +kernel
theorem dX12_look_58 : decode cX12_look 58 = .ok (.iload_n 3, 1) := by decide +kernel
theorem dX12_look_59 : decode cX12_look 59 = .ok (.istore_n 2, 1) := by decide +kernel
theorem dX12_look_60 : decode cX12_look 60 = .ok (.iinc 3 1, 3) := by decide +kernel
theorem dX12_look_63 : decode cX12_look 63 = .ok (.goto (-35), 3) := by decide +kernel
theorem dX12_look_66 : decode cX12_look 66 = .ok (.aload_n 0, 1) := by decide +kernel
theorem dX12_look_67 : decode cX12_look 67 = .ok (.aload_n 0, 1) := by decide +kernel
theorem dX12_look_68 : decode cX12_look 68 = .ok (.iload_n 2, 1) := by decide +kernel
theorem dX12_look_69 : decode cX12_look 69 = .ok (.iload_n 1, 1) := by decide +kernel
theorem dX12_look_70 : decode cX12_look 70 = .ok (.invokevirtual 323, 3) := by decide +kernel
theorem dX12_look_73 : decode cX12_look 73 = .ok (.putfield 58, 3) := by decide +kernel
theorem dX12_look_76 : decode cX12_look 76 = .ok (.iload_n 2, 1) := by decide +kernel
theorem dX12_look_77 : decode cX12_look 77 = .ok (.ireturn, 1) := by decide +kernel
theorem dX12_left_0 : decode cX12_left 0 = .ok (.aload_n 0, 1) := by decide +kernel
theorem dX12_left_1 : decode cX12_left 1 = .ok (.iconst 0, 1) := by decide +kernel
theorem dX12_left_2 : decode cX12_left 2 = .ok (.putfield 73, 3) := by decide +kernel
theorem dX12_left_5 : decode cX12_left 5 = .ok (.aload_n 0, 1) := by decide +kernel
theorem dX12_left_6 : decode cX12_left 6 = .ok (.getfield 58, 3) := by decide +kernel
theorem dX12_left_9 : decode cX12_left 9 = .ok (.ireturn, 1) := by decide +kernel
theorem dX12_layAside_0 : decode cX12_layAside 0 = .ok (.iconst 0, 1) := by decide +kernel
theorem dX12_layAside_1 : decode cX12_layAside 1 = .ok (.istore_n 1, 1) := by decide +kernel
theorem dX12_layAside_2 : decode cX12_layAside 2 = .ok (.iload_n 1, 1) := by decide +kernel
theorem dX12_layAside_3 : decode cX12_layAside 3 = .ok (.bipush 60, 2) := by decide +kernel
theorem dX12_layAside_5 : decode cX12_layAside 5 = .ok (.if_icmp .ge 24, 3) := by decide +kernel
theorem dX12_layAside_8 : decode cX12_layAside 8 = .ok (.aload_n 0, 1) := by decide +kernel
theorem dX12_layAside_9 : decode cX12_layAside 9 = .ok (.getfield 25, 3) := by decide +kernel
theorem dX12_layAside_12 : decode cX12_layAside 12 = .ok (.iload_n 1, 1) := by decide +kernel
theorem dX12_layAside_13 : decode cX12_layAside 13 = .ok (.aload_n 0, 1) := by decide +kernel
theorem dX12_layAside_14 : decode cX12_layAside 14 = .ok (.getfield 13, 3) := by decide +kernel
theorem dX12_layAside_17 : decode cX12_layAside 17 = .ok (.bipush 77, 2) := by decide +kernel
theorem dX12_layAside_19 : decode cX12_layAside 19 = .ok (.iload_n 1, 1) := by decide +kernel
theorem dX12_layAside_20 : decode cX12_layAside 20 = .ok (.iadd, 1) := by decide +kernel
theorem dX12_layAside_21 : decode cX12_layAside 21 = .ok (.iaload, 1) := by decide +kernel
theorem dX12_layAside_22 : decode cX12_layAside 22 = .ok (.iastore, 1) := by decide +kernel
theorem dX12_layAside_23 : decode cX12_layAside 23 = .ok (.iinc 1 1, 3) := by decide +kernel
theorem dX12_layAside_26 : decode cX12_layAside 26 = .ok (.goto (-24), 3) := by decide +kernel
theorem dX12_layAside_29 : decode cX12_layAside 29 = .ok (.return_, 1) := by decide +kernel
theorem dX12_takeBack_0 : decode cX12_takeBack 0 = .ok (.iconst 0, 1) := by decide +kernel
theorem dX12_takeBack_1 : decode cX12_takeBack 1 = .ok (.istore_n 1, 1) := by decide +kernel
theorem dX12_takeBack_2 : decode cX12_takeBack 2 = .ok (.iload_n 1, 1) := by decide +kernel
theorem dX12_takeBack_3 : decode cX12_takeBack 3 = .ok (.bipush 60, 2) := by decide +kernel
theorem dX12_takeBack_5 : decode cX12_takeBack 5 = .ok (.if_icmp .ge 24, 3) := by decide +kernel
theorem dX12_takeBack_8 : decode cX12_takeBack 8 = .ok (.aload_n 0, 1) := by decide +kernel
theorem dX12_takeBack_9 : decode cX12_takeBack 9 = .ok (.getfield 13, 3) := by decide +kernel
theorem dX12_takeBack_12 : decode cX12_takeBack 12 = .ok (.bipush 77, 2) := by decide +kernel
theorem dX12_takeBack_14 : decode cX12_takeBack 14 = .ok (.iload_n 1, 1) := by decide +kernel
theorem dX12_takeBack_15 : decode cX12_takeBack 15 = .ok (.iadd, 1) := by decide +kernel
theorem dX12_takeBack_16 : decode cX12_takeBack 16 = .ok (.aload_n 0, 1) := by decide +kernel
theorem dX12_takeBack_17 : decode cX12_takeBack 17 = .ok (.getfield 25, 3) := by decide +kernel
theorem dX12_takeBack_20 : decode cX12_takeBack 20 = .ok (.iload_n 1, 1) := by decide +kernel
theorem dX12_takeBack_21 : decode cX12_takeBack 21 = .ok (.iaload, 1) := by decide +kernel
theorem dX12_takeBack_22 : decode cX12_takeBack 22 = .ok (.iastore, 1) := by decide +kernel
theorem dX12_takeBack_23 : decode cX12_takeBack 23 = .ok (.iinc 1 1, 3) := by decide +kernel
theorem dX12_takeBack_26 : decode cX12_takeBack 26 = .ok (.goto (-24), 3) := by decide +kernel
theorem dX12_takeBack_29 : decode cX12_takeBack 29 = .ok (.return_, 1) := by decide +kernel
theorem dX12_showsOn_0 : decode cX12_showsOn 0 = .ok (.iconst 0, 1) := by decide +kernel
theorem dX12_showsOn_1 : decode cX12_showsOn 1 = .ok (.istore 4, 2) := by decide +kernel
theorem dX12_showsOn_3 : decode cX12_showsOn 3 = .ok (.iload 4, 2) := by decide +kernel
theorem dX12_showsOn_5 : decode cX12_showsOn 5 = .ok (.bipush 8, 2) := by decide +kernel
theorem dX12_showsOn_7 : decode cX12_showsOn 7 = .ok (.if_icmp .ge 15, 3) := by decide +kernel
theorem dX12_showsOn_10 : decode cX12_showsOn 10 = .ok (.aload_n 0, 1) := by decide +kernel
theorem dX12_showsOn_11 : decode cX12_showsOn 11 = .ok (.iload 4, 2) := by decide +kernel
theorem dX12_showsOn_13 : decode cX12_showsOn 13 = .ok (.invokevirtual 243, 3) := by decide +kernel
theorem dX12_showsOn_16 : decode cX12_showsOn 16 = .ok (.iinc 4 1, 3) := by decide +kernel
theorem dX12_showsOn_19 : decode cX12_showsOn 19 = .ok (.goto (-16), 3) := by decide +kernel
theorem dX12_showsOn_22 : decode cX12_showsOn 22 = .ok (.iload_n 3, 1) := by decide +kernel
theorem dX12_showsOn_23 : decode cX12_showsOn 23 = .ok (.iconst (-1), 1) := by decide +kernel
theorem dX12_showsOn_24 : decode cX12_showsOn 24 = .ok (.if_icmp .eq 13, 3) := by decide +kernel
theorem dX12_showsOn_27 : decode cX12_showsOn 27 = .ok (.aload_n 0, 1) := by decide +kernel
theorem dX12_showsOn_28 : decode cX12_showsOn 28 = .ok (.getfield 13, 3) := by decide +kernel
theorem dX12_showsOn_31 : decode cX12_showsOn 31 = .ok (.bipush 105, 2) := by decide +kernel
theorem dX12_showsOn_33 : decode cX12_showsOn 33 = .ok (.iload_n 3, 1) := by decide +kernel
theorem dX12_showsOn_34 : decode cX12_showsOn 34 = .ok (.iadd, 1) := by decide +kernel
theorem dX12_showsOn_35 : decode cX12_showsOn 35 = .ok (.iconst 1, 1) := by decide +kernel
theorem dX12_showsOn_36 : decode cX12_showsOn 36 = .ok (.iastore, 1) := by decide +kernel
theorem dX12_showsOn_37 : decode cX12_showsOn 37 = .ok (.iconst 1, 1) := by decide +kernel
theorem dX12_showsOn_38 : decode cX12_showsOn 38 = .ok (.istore 4, 2) := by decide +kernel
theorem dX12_showsOn_40 : decode cX12_showsOn 40 = .ok (.iconst 0, 1) := by decide +kernel
theorem dX12_showsOn_41 : decode cX12_showsOn 41 = .ok (.istore 5, 2) := by decide +kernel
theorem dX12_showsOn_43 : decode cX12_showsOn 43 = .ok (.iload 5, 2) := by decide +kernel
theorem dX12_showsOn_45 : decode cX12_showsOn 45 = .ok (.iload_n 2, 1) := by decide +kernel
theorem dX12_showsOn_46 : decode cX12_showsOn 46 = .ok (.if_icmp .ge 42, 3) := by decide +kernel
theorem dX12_showsOn_49 : decode cX12_showsOn 49 = .ok (.iload 4, 2) := by decide +kernel
theorem dX12_showsOn_51 : decode cX12_showsOn 51 = .ok (.ifCond .eq 37, 3) := by decide +kernel
theorem dX12_showsOn_54 : decode cX12_showsOn 54 = .ok (.aload_n 0, 1) := by decide +kernel
theorem dX12_showsOn_55 : decode cX12_showsOn 55 = .ok (.iload_n 1, 1) := by decide +kernel
theorem dX12_showsOn_56 : decode cX12_showsOn 56 = .ok (.invokevirtual 227, 3) := by decide +kernel
theorem dX12_showsOn_59 : decode cX12_showsOn 59 = .ok (.aload_n 0, 1) := by decide +kernel
theorem dX12_showsOn_60 : decode cX12_showsOn 60 = .ok (.getfield 7, 3) := by decide +kernel
theorem dX12_showsOn_63 : decode cX12_showsOn 63 = .ok (.iload 5, 2) := by decide +kernel
theorem dX12_showsOn_65 : decode cX12_showsOn 65 = .ok (.iaload, 1) := by decide +kernel
theorem dX12_showsOn_66 : decode cX12_showsOn 66 = .ok (.if_icmp .ne 7, 3) := by decide +kernel
theorem dX12_showsOn_69 : decode cX12_showsOn 69 = .ok (.iconst 1, 1) := by decide +kernel
theorem dX12_showsOn_70 : decode cX12_showsOn 70 = .ok (.goto 4, 3) := by decide +kernel
theorem dX12_showsOn_73 : decode cX12_showsOn 73 = .ok (.iconst 0, 1) := by decide +kernel
theorem dX12_showsOn_74 : decode cX12_showsOn 74 = .ok (.istore 4, 2) := by decide +kernel
theorem dX12_showsOn_76 : decode cX12_showsOn 76 = .ok (.aload_n 0, 1) := by decide +kernel
theorem dX12_showsOn_77 : decode cX12_showsOn 77 = .ok (.iconst 1, 1) := by decide +kernel
theorem dX12_showsOn_78 : decode cX12_showsOn 78 = .ok (.invokevirtual 279, 3) := by decide +kernel
theorem dX12_showsOn_81 : decode cX12_showsOn 81 = .ok (.pop, 1) := by decide +kernel
theorem dX12_showsOn_82 : decode cX12_showsOn 82 = .ok (.iinc 5 1, 3) := by decide +kernel
theorem dX12_showsOn_85 : decode cX12_showsOn 85 = .ok (.goto (-42), 3) := by decide +kernel
theorem dX12_showsOn_88 : decode cX12_showsOn 88 = .ok (.aload_n 0, 1) := by decide +kernel
theorem dX12_showsOn_89 : decode cX12_showsOn 89 = .ok (.invokevirtual 326, 3) := by decide +kernel
theorem dX12_showsOn_92 : decode cX12_showsOn 92 = .ok (.iload 4, 2) := by decide +kernel
theorem dX12_showsOn_94 : decode cX12_showsOn 94 = .ok (.ireturn, 1) := by decide +kernel
theorem dX12_fits_0 : decode cX12_fits 0 = .ok (.aload_n 0, 1) := by decide +kernel
theorem dX12_fits_1 : decode cX12_fits 1 = .ok (.iconst 0, 1) := by decide +kernel
theorem dX12_fits_2 : decode cX12_fits 2 = .ok (.putfield 73, 3) := by decide +kernel
theorem dX12_fits_5 : decode cX12_fits 5 = .ok (.aload_n 0, 1) := by decide +kernel
theorem dX12_fits_6 : decode cX12_fits 6 = .ok (.invokevirtual 153, 3) := by decide +kernel
theorem dX12_fits_9 : decode cX12_fits 9 = .ok (.istore_n 2, 1) := by decide +kernel
theorem dX12_fits_10 : decode cX12_fits 10 = .ok (.aload_n 0, 1) := by decide +kernel
theorem dX12_fits_11 : decode cX12_fits 11 = .ok (.iload_n 1, 1) := by decide +kernel
theorem dX12_fits_12 : decode cX12_fits 12 = .ok (.invokevirtual 221, 3) := by decide +kernel
theorem dX12_fits_15 : decode cX12_fits 15 = .ok (.ifCond .eq 13, 3) := by decide +kernel
theorem dX12_fits_18 : decode cX12_fits 18 = .ok (.iload_n 2, 1) := by decide +kernel
theorem dX12_fits_19 : decode cX12_fits 19 = .ok (.iconst 1, 1) := by decide +kernel
theorem dX12_fits_20 : decode cX12_fits 20 = .ok (.bipush 60, 2) := by decide +kernel
theorem dX12_fits_22 : decode cX12_fits 22 = .ok (.invokestatic 140, 3) := by decide +kernel
theorem dX12_fits_25 : decode cX12_fits 25 = .ok (.ifCond .ne 5, 3) := by decide +kernel
theorem dX12_fits_28 : decode cX12_fits 28 = .ok (.iconst (-1), 1) := by decide +kernel
theorem dX12_fits_29 : decode cX12_fits 29 = .ok (.ireturn, 1) := by decide +kernel
theorem dX12_fits_30 : decode cX12_fits 30 = .ok (.aload_n 0, 1) := by decide +kernel
theorem dX12_fits_31 : decode cX12_fits 31 = .ok (.invokevirtual 329, 3) := by decide +kernel
theorem dX12_fits_34 : decode cX12_fits 34 = .ok (.aload_n 0, 1) := by decide +kernel
theorem dX12_fits_35 : decode cX12_fits 35 = .ok (.iload_n 1, 1) := by decide +kernel
theorem dX12_fits_36 : decode cX12_fits 36 = .ok (.iload_n 2, 1) := by decide +kernel
theorem dX12_fits_37 : decode cX12_fits 37 = .ok (.iconst (-1), 1) := by decide +kernel
theorem dX12_fits_38 : decode cX12_fits 38 = .ok (.invokevirtual 332, 3) := by decide +kernel
theorem dX12_fits_41 : decode cX12_fits 41 = .ok (.ifCond .eq 9, 3) := by decide +kernel
theorem dX12_fits_44 : decode cX12_fits 44 = .ok (.sipush 256, 3) := by decide +kernel
theorem dX12_fits_47 : decode cX12_fits 47 = .ok (.goto 4, 3) := by decide +kernel
theorem dX12_fits_50 : decode cX12_fits 50 = .ok (.iconst 0, 1) := by decide +kernel
theorem dX12_fits_51 : decode cX12_fits 51 = .ok (.istore_n 3, 1) := by decide +kernel
theorem dX12_fits_52 : decode cX12_fits 52 = .ok (.iconst 0, 1) := by decide +kernel
theorem dX12_fits_53 : decode cX12_fits 53 = .ok (.istore 4, 2) := by decide +kernel
theorem dX12_fits_55 : decode cX12_fits 55 = .ok (.iload 4, 2) := by decide +kernel
theorem dX12_fits_57 : decode cX12_fits 57 = .ok (.aload_n 0, 1) := by decide +kernel
theorem dX12_fits_58 : decode cX12_fits 58 = .ok (.getfield 13, 3) := by decide +kernel
theorem dX12_fits_61 : decode cX12_fits 61 = .ok (.iconst 1, 1) := by decide +kernel
theorem dX12_fits_62 : decode cX12_fits 62 = .ok (.iaload, 1) := by decide +kernel
theorem dX12_fits_63 : decode cX12_fits 63 = .ok (.if_icmp .ge 41, 3) := by decide +kernel
theorem dX12_fits_66 : decode cX12_fits 66 = .ok (.aload_n 0, 1) := by decide +kernel
theorem dX12_fits_67 : decode cX12_fits 67 = .ok (.getfield 13, 3) := by decide +kernel
theorem dX12_fits_70 : decode cX12_fits 70 = .ok (.bipush 21, 2) := by decide +kernel
theorem dX12_fits_72 : decode cX12_fits 72 = .ok (.iload 4, 2) := by decide +kernel
theorem dX12_fits_74 : decode cX12_fits 74 = .ok (.iadd, 1) := by decide +kernel
theorem dX12_fits_75 : decode cX12_fits 75 = .ok (.iaload, 1) := by decide +kernel
theorem dX12_fits_76 : decode cX12_fits 76 = .ok (.iload_n 1, 1) := by decide +kernel
theorem dX12_fits_77 : decode cX12_fits 77 = .ok (.if_icmp .ne 21, 3) := by decide +kernel
theorem dX12_fits_80 : decode cX12_fits 80 = .ok (.aload_n 0, 1) := by decide +kernel
theorem dX12_fits_81 : decode cX12_fits 81 = .ok (.iload_n 1, 1) := by decide +kernel
theorem dX12_fits_82 : decode cX12_fits 82 = .ok (.iload_n 2, 1) := by decide +kernel
theorem dX12_fits_83 : decode cX12_fits 83 = .ok (.iload 4, 2) := by decide +kernel
theorem dX12_fits_85 : decode cX12_fits 85 = .ok (.invokevirtual 332, 3) := by decide +kernel
theorem dX12_fits_88 : decode cX12_fits 88 = .ok (.ifCond .eq 10, 3) := by decide +kernel
theorem dX12_fits_91 : decode cX12_fits 91 = .ok (.iload_n 3, 1) := by decide +kernel
theorem dX12_fits_92 : decode cX12_fits 92 = .ok (.iconst 1, 1) := by decide +kernel
theorem dX12_fits_93 : decode cX12_fits 93 = .ok (.iload 4, 2) := by decide +kernel
theorem dX12_fits_95 : decode cX12_fits 95 = .ok (.ishl, 1) := by decide +kernel
theorem dX12_fits_96 : decode cX12_fits 96 = .ok (.ior, 1) := by decide +kernel
theorem dX12_fits_97 : decode cX12_fits 97 = .ok (.istore_n 3, 1) := by decide +kernel
theorem dX12_fits_98 : decode cX12_fits 98 = .ok (.iinc 4 1, 3) := by decide +kernel
theorem dX12_fits_101 : decode cX12_fits 101 = .ok (.goto (-46), 3) := by decide +kernel
theorem dX12_fits_104 : decode cX12_fits 104 = .ok (.iload_n 3, 1) := by decide +kernel
theorem dX12_fits_105 : decode cX12_fits 105 = .ok (.ireturn, 1) := by decide +kernel
theorem dX12_heals_0 : decode cX12_heals 0 = .ok (.aload_n 0, 1) := by decide +kernel
theorem dX12_heals_1 : decode cX12_heals 1 = .ok (.iconst 0, 1) := by decide +kernel
theorem dX12_heals_2 : decode cX12_heals 2 = .ok (.putfield 73, 3) := by decide +kernel
theorem dX12_heals_5 : decode cX12_heals 5 = .ok (.aload_n 0, 1) := by decide +kernel
theorem dX12_heals_6 : decode cX12_heals 6 = .ok (.iload_n 1, 1) := by decide +kernel
theorem dX12_heals_7 : decode cX12_heals 7 = .ok (.invokevirtual 230, 3) := by decide +kernel
theorem dX12_heals_10 : decode cX12_heals 10 = .ok (.ifCond .eq 45, 3) := by decide +kernel
theorem dX12_heals_13 : decode cX12_heals 13 = .ok (.aload_n 0, 1) := by decide +kernel
theorem dX12_heals_14 : decode cX12_heals 14 = .ok (.iload_n 1, 1) := by decide +kernel
theorem dX12_heals_15 : decode cX12_heals 15 = .ok (.invokevirtual 209, 3) := by decide +kernel
theorem dX12_heals_18 : decode cX12_heals 18 = .ok (.ifCond .eq 37, 3) := by decide +kernel
theorem dX12_heals_21 : decode cX12_heals 21 = .ok (.aload_n 0, 1) := by decide +kernel
theorem dX12_heals_22 : decode cX12_heals 22 = .ok (.getfield 13, 3) := by decide +kernel
theorem dX12_heals_25 : decode cX12_heals 25 = .ok (.bipush 29, 2) := by decide +kernel
theorem dX12_heals_27 : decode cX12_heals 27 = .ok (.iload_n 1, 1) := by decide +kernel
theorem dX12_heals_28 : decode cX12_heals 28 = .ok (.iadd, 1) := by decide +kernel
theorem dX12_heals_29 : decode cX12_heals 29 = .ok (.iaload, 1) := by decide +kernel
theorem dX12_heals_30 : decode cX12_heals 30 = .ok (.ifCond .le 25, 3) := by decide +kernel
theorem dX12_heals_33 : decode cX12_heals 33 = .ok (.aload_n 0, 1) := by decide +kernel
theorem dX12_heals_34 : decode cX12_heals 34 = .ok (.getfield 13, 3) := by decide +kernel
theorem dX12_heals_37 : decode cX12_heals 37 = .ok (.bipush 29, 2) := by decide +kernel
theorem dX12_heals_39 : decode cX12_heals 39 = .ok (.iload_n 1, 1) := by decide +kernel
theorem dX12_heals_40 : decode cX12_heals 40 = .ok (.iadd, 1) := by decide +kernel
theorem dX12_heals_41 : decode cX12_heals 41 = .ok (.iaload, 1) := by decide +kernel
theorem dX12_heals_42 : decode cX12_heals 42 = .ok (.aload_n 0, 1) := by decide +kernel
theorem dX12_heals_43 : decode cX12_heals 43 = .ok (.getfield 13, 3) := by decide +kernel
theorem dX12_heals_46 : decode cX12_heals 46 = .ok (.bipush 113, 2) := by decide +kernel
theorem dX12_heals_48 : decode cX12_heals 48 = .ok (.iload_n 1, 1) := by decide +kernel
theorem dX12_heals_49 : decode cX12_heals 49 = .ok (.iadd, 1) := by decide +kernel
theorem dX12_heals_50 : decode cX12_heals 50 = .ok (.iaload, 1) := by decide +kernel
theorem dX12_heals_51 : decode cX12_heals 51 = .ok (.isub, 1) := by decide +kernel
theorem dX12_heals_52 : decode cX12_heals 52 = .ok (.goto 4, 3) := by decide +kernel
theorem dX12_heals_55 : decode cX12_heals 55 = .ok (.iconst (-1), 1) := by decide +kernel
theorem dX12_heals_56 : decode cX12_heals 56 = .ok (.ireturn, 1) := by decide +kernel
theorem dX12_worksIn_0 : decode cX12_worksIn 0 = .ok (.aload_n 0, 1) := by decide +kernel
theorem dX12_worksIn_1 : decode cX12_worksIn 1 = .ok (.iconst 0, 1) := by decide +kernel
theorem dX12_worksIn_2 : decode cX12_worksIn 2 = .ok (.putfield 73, 3) := by decide +kernel
theorem dX12_worksIn_5 : decode cX12_worksIn 5 = .ok (.aload_n 0, 1) := by decide +kernel
theorem dX12_worksIn_6 : decode cX12_worksIn 6 = .ok (.iload_n 1, 1) := by decide +kernel
theorem dX12_worksIn_7 : decode cX12_worksIn 7 = .ok (.invokevirtual 221, 3) := by decide +kernel
theorem dX12_worksIn_10 : decode cX12_worksIn 10 = .ok (.ifCond .ne 5, 3) := by decide +kernel
theorem dX12_worksIn_13 : decode cX12_worksIn 13 = .ok (.iconst (-1), 1) := by decide +kernel
theorem dX12_worksIn_14 : decode cX12_worksIn 14 = .ok (.ireturn, 1) := by decide +kernel
theorem dX12_worksIn_15 : decode cX12_worksIn 15 = .ok (.aload_n 0, 1) := by decide +kernel
theorem dX12_worksIn_16 : decode cX12_worksIn 16 = .ok (.invokevirtual 329, 3) := by decide +kernel
theorem dX12_worksIn_19 : decode cX12_worksIn 19 = .ok (.iconst (-1), 1) := by decide +kernel
theorem dX12_worksIn_20 : decode cX12_worksIn 20 = .ok (.istore_n 2, 1) := by decide +kernel
theorem dX12_worksIn_21 : decode cX12_worksIn 21 = .ok (.iconst 0, 1) := by decide +kernel
theorem dX12_worksIn_22 : decode cX12_worksIn 22 = .ok (.istore_n 3, 1) := by decide +kernel
theorem dX12_worksIn_23 : decode cX12_worksIn 23 = .ok (.iload_n 3, 1) := by decide +kernel
theorem dX12_worksIn_24 : decode cX12_worksIn 24 = .ok (.sipush 240, 3) := by decide +kernel
theorem dX12_worksIn_27 : decode cX12_worksIn 27 = .ok (.sipush 1000, 3) := by decide +kernel
theorem dX12_worksIn_30 : decode cX12_worksIn 30 = .ok (.aload_n 0, 1) := by decide +kernel
theorem dX12_worksIn_31 : decode cX12_worksIn 31 = .ok (.getfield 25, 3) := by decide +kernel
theorem dX12_worksIn_34 : decode cX12_worksIn 34 = .ok (.iconst 0, 1) := by decide +kernel
theorem dX12_worksIn_35 : decode cX12_worksIn 35 = .ok (.iaload, 1) := by decide +kernel
theorem dX12_worksIn_36 : decode cX12_worksIn 36 = .ok (.isub, 1) := by decide +kernel
theorem dX12_worksIn_37 : decode cX12_worksIn 37 = .ok (.invokestatic 273, 3) := by decide +kernel
theorem dX12_worksIn_40 : decode cX12_worksIn 40 = .ok (.if_icmp .gt 44, 3) := by decide +kernel
theorem dX12_worksIn_43 : decode cX12_worksIn 43 = .ok (.iload_n 2, 1) := by decide +kernel
theorem dX12_worksIn_44 : decode cX12_worksIn 44 = .ok (.iconst (-1), 1) := by decide +kernel
theorem dX12_worksIn_45 : decode cX12_worksIn 45 = .ok (.if_icmp .ne 39, 3) := by decide +kernel
theorem dX12_worksIn_48 : decode cX12_worksIn 48 = .ok (.aload_n 0, 1) := by decide +kernel
theorem dX12_worksIn_49 : decode cX12_worksIn 49 = .ok (.iload_n 1, 1) := by decide +kernel
theorem dX12_worksIn_50 : decode cX12_worksIn 50 = .ok (.invokevirtual 218, 3) := by decide +kernel
theorem dX12_worksIn_53 : decode cX12_worksIn 53 = .ok (.ifCond .eq 8, 3) := by decide +kernel
theorem dX12_worksIn_56 : decode cX12_worksIn 56 = .ok (.iload_n 3, 1) := by decide +kernel
theorem dX12_worksIn_57 : decode cX12_worksIn 57 = .ok (.istore_n 2, 1) := by decide +kernel
theorem dX12_worksIn_58 : decode cX12_worksIn 58 = .ok (.goto 20, 3) := by decide +kernel
theorem dX12_worksIn_61 : decode cX12_worksIn 61 = .ok (.aload_n 0, 1) := by decide +kernel
theorem dX12_worksIn_62 : decode cX12_worksIn 62 = .ok (.getfield 13, 3) := by decide +kernel
theorem dX12_worksIn_65 : decode cX12_worksIn 65 = .ok (.bipush 77, 2) := by decide +kernel
theorem dX12_worksIn_67 : decode cX12_worksIn 67 = .ok (.iaload, 1) := by decide +kernel
theorem dX12_worksIn_68 : decode cX12_worksIn 68 = .ok (.sipush 1000, 3) := by decide +kernel
theorem dX12_worksIn_71 : decode cX12_worksIn 71 = .ok (.if_icmp .ge 7, 3) := by decide +kernel
theorem dX12_worksIn_74 : decode cX12_worksIn 74 = .ok (.aload_n 0, 1) := by decide +kernel
theorem dX12_worksIn_75 : decode cX12_worksIn 75 = .ok (.invokevirtual 276, 3) := by decide +kernel
theorem dX12_worksIn_78 : decode cX12_worksIn 78 = .ok (.iinc 3 1, 3) := by decide +kernel
theorem dX12_worksIn_81 : decode cX12_worksIn 81 = .ok (.goto (-58), 3) := by decide +kernel
theorem dX12_worksIn_84 : decode cX12_worksIn 84 = .ok (.aload_n 0, 1) := by decide +kernel
theorem dX12_worksIn_85 : decode cX12_worksIn 85 = .ok (.invokevirtual 326, 3) := by decide +kernel
theorem dX12_worksIn_88 : decode cX12_worksIn 88 = .ok (.iload_n 2, 1) := by decide +kernel
theorem dX12_worksIn_89 : decode cX12_worksIn 89 = .ok (.ireturn, 1) := by decide +kernel
theorem dX12_write_0 : decode cX12_write 0 = .ok (.aload_n 0, 1) := by decide +kernel
theorem dX12_write_1 : decode cX12_write 1 = .ok (.getfield 61, 3) := by decide +kernel
theorem dX12_write_4 : decode cX12_write 4 = .ok (.aload_n 0, 1) := by decide +kernel
theorem dX12_write_5 : decode cX12_write 5 = .ok (.getfield 335, 3) := by decide +kernel
theorem dX12_write_8 : decode cX12_write 8 = .ok (.iload_n 1, 1) := by decide +kernel
theorem dX12_write_9 : decode cX12_write 9 = .ok (.iastore, 1) := by decide +kernel
theorem dX12_write_10 : decode cX12_write 10 = .ok (.aload_n 0, 1) := by decide +kernel
theorem dX12_write_11 : decode cX12_write 11 = .ok (.dup, 1) := by decide +kernel
theorem dX12_write_12 : decode cX12_write 12 = .ok (.getfield 335, 3) := by decide +kernel
theorem dX12_write_15 : decode cX12_write 15 = .ok (.iconst 1, 1) := by decide +kernel
theorem dX12_write_16 : decode cX12_write 16 = .ok (.iadd, 1) := by decide +kernel
theorem dX12_write_17 : decode cX12_write 17 = .ok (.putfield 335, 3) := by decide +kernel
theorem dX12_write_20 : decode cX12_write 20 = .ok (.return_, 1) := by decide +kernel
theorem dX12_writeWord_0 : decode cX12_writeWord 0 = .ok (.lload_n 1, 1) := by decide +kernel
theorem dX12_writeWord_1 : decode cX12_writeWord 1 = .ok (.ldc2_w 119, 3) := by decide +kernel
theorem dX12_writeWord_4 : decode cX12_writeWord 4 = .ok (.lcmp, 1) := by decide +kernel
theorem dX12_writeWord_5 : decode cX12_writeWord 5 = .ok (.ifCond .lt 12, 3) := by decide +kernel
theorem dX12_writeWord_8 : decode cX12_writeWord 8 = .ok (.aload_n 0, 1) := by decide +kernel
theorem dX12_writeWord_9 : decode cX12_writeWord 9 = .ok (.lload_n 1, 1) := by decide +kernel
theorem dX12_writeWord_10 : decode cX12_writeWord 10 = .ok (.ldc2_w 119, 3) := by decide +kernel
