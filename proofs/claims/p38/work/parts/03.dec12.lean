theorem dX11_isThing_4 : decode cX11_isThing 4 = .ok (.iload_n 1, 1) := by decide +kernel
theorem dX11_isThing_5 : decode cX11_isThing 5 = .ok (.aload_n 0, 1) := by decide +kernel
theorem dX11_isThing_6 : decode cX11_isThing 6 = .ok (.getfield 21, 3) := by decide +kernel
theorem dX11_isThing_9 : decode cX11_isThing 9 = .ok (.getfield 111, 3) := by decide +kernel
theorem dX11_isThing_12 : decode cX11_isThing 12 = .ok (.getfield 322, 3) := by decide +kernel
theorem dX11_isThing_15 : decode cX11_isThing 15 = .ok (.if_icmp .ge 7, 3) := by decide +kernel
theorem dX11_isThing_18 : decode cX11_isThing 18 = .ok (.iconst 1, 1) := by decide +kernel
theorem dX11_isThing_19 : decode cX11_isThing 19 = .ok (.goto 4, 3) := by decide +kernel
theorem dX11_isThing_22 : decode cX11_isThing 22 = .ok (.iconst 0, 1) := by decide +kernel
theorem dX11_isThing_23 : decode cX11_isThing 23 = .ok (.ireturn, 1) := by decide +kernel
theorem dX11_isFault_0 : decode cX11_isFault 0 = .ok (.iload_n 1, 1) := by decide +kernel
theorem dX11_isFault_1 : decode cX11_isFault 1 = .ok (.ifCond .lt 21, 3) := by decide +kernel
theorem dX11_isFault_4 : decode cX11_isFault 4 = .ok (.iload_n 1, 1) := by decide +kernel
theorem dX11_isFault_5 : decode cX11_isFault 5 = .ok (.aload_n 0, 1) := by decide +kernel
theorem dX11_isFault_6 : decode cX11_isFault 6 = .ok (.getfield 21, 3) := by decide +kernel
theorem dX11_isFault_9 : decode cX11_isFault 9 = .ok (.getfield 111, 3) := by decide +kernel
theorem dX11_isFault_12 : decode cX11_isFault 12 = .ok (.getfield 316, 3) := by decide +kernel
theorem dX11_isFault_15 : decode cX11_isFault 15 = .ok (.if_icmp .ge 7, 3) := by decide +kernel
theorem dX11_isFault_18 : decode cX11_isFault 18 = .ok (.iconst 1, 1) := by decide +kernel
theorem dX11_isFault_19 : decode cX11_isFault 19 = .ok (.goto 4, 3) := by decide +kernel
theorem dX11_isFault_22 : decode cX11_isFault 22 = .ok (.iconst 0, 1) := by decide +kernel
theorem dX11_isFault_23 : decode cX11_isFault 23 = .ok (.ireturn, 1) := by decide +kernel
theorem dX11_takeText_0 : decode cX11_takeText 0 = .ok (.aload_n 0, 1) := by decide +kernel
theorem dX11_takeText_1 : decode cX11_takeText 1 = .ok (.getfield 14, 3) := by decide +kernel
theorem dX11_takeText_4 : decode cX11_takeText 4 = .ok (.iconst 0, 1) := by decide +kernel
theorem dX11_takeText_5 : decode cX11_takeText 5 = .ok (.putfield 88, 3) := by decide +kernel
theorem dX11_takeText_8 : decode cX11_takeText 8 = .ok (.aload_n 0, 1) := by decide +kernel
theorem dX11_takeText_9 : decode cX11_takeText 9 = .ok (.aload_n 1, 1) := by decide +kernel
theorem dX11_takeText_10 : decode cX11_takeText 10 = .ok (.getfield 414, 3) := by decide +kernel
theorem dX11_takeText_13 : decode cX11_takeText 13 = .ok (.putfield 143, 3) := by decide +kernel
theorem dX11_takeText_16 : decode cX11_takeText 16 = .ok (.return_, 1) := by decide +kernel
theorem dX11_settle_0 : decode cX11_settle 0 = .ok (.iload_n 1, 1) := by decide +kernel
theorem dX11_settle_1 : decode cX11_settle 1 = .ok (.ifCond .ne 10, 3) := by decide +kernel
theorem dX11_settle_4 : decode cX11_settle 4 = .ok (.aload_n 0, 1) := by decide +kernel
theorem dX11_settle_5 : decode cX11_settle 5 = .ok (.getfield 32, 3) := by decide +kernel
theorem dX11_settle_8 : decode cX11_settle 8 = .ok (.invokevirtual 261, 3) := by decide +kernel
theorem dX11_settle_11 : decode cX11_settle 11 = .ok (.iload_n 1, 1) := by decide +kernel
theorem dX11_settle_12 : decode cX11_settle 12 = .ok (.ireturn, 1) := by decide +kernel
theorem dX11_faultsByLamps_0 : decode cX11_faultsByLamps 0 = .ok (.aload_n 0, 1) := by decide +kernel
theorem dX11_faultsByLamps_1 : decode cX11_faultsByLamps 1 = .ok (.getfield 21, 3) := by decide +kernel
theorem dX11_faultsByLamps_4 : decode cX11_faultsByLamps 4 = .ok (.getfield 111, 3) := by decide +kernel
theorem dX11_faultsByLamps_7 : decode cX11_faultsByLamps 7 = .ok (.astore_n 1, 1) := by decide +kernel
theorem dX11_faultsByLamps_8 : decode cX11_faultsByLamps 8 = .ok (.aload_n 0, 1) := by decide +kernel
theorem dX11_faultsByLamps_9 : decode cX11_faultsByLamps 9 = .ok (.getfield 14, 3) := by decide +kernel
theorem dX11_faultsByLamps_12 : decode cX11_faultsByLamps 12 = .ok (.getfield 88, 3) := by decide +kernel
theorem dX11_faultsByLamps_15 : decode cX11_faultsByLamps 15 = .ok (.iconst 2, 1) := by decide +kernel
theorem dX11_faultsByLamps_16 : decode cX11_faultsByLamps 16 = .ok (.if_icmp .lt 27, 3) := by decide +kernel
theorem dX11_faultsByLamps_19 : decode cX11_faultsByLamps 19 = .ok (.aload_n 0, 1) := by decide +kernel
theorem dX11_faultsByLamps_20 : decode cX11_faultsByLamps 20 = .ok (.getfield 14, 3) := by decide +kernel
theorem dX11_faultsByLamps_23 : decode cX11_faultsByLamps 23 = .ok (.getfield 88, 3) := by decide +kernel
theorem dX11_faultsByLamps_26 : decode cX11_faultsByLamps 26 = .ok (.bipush 12, 2) := by decide +kernel
theorem dX11_faultsByLamps_28 : decode cX11_faultsByLamps 28 = .ok (.if_icmp .gt 15, 3) := by decide +kernel
theorem dX11_faultsByLamps_31 : decode cX11_faultsByLamps 31 = .ok (.aload_n 0, 1) := by decide +kernel
theorem dX11_faultsByLamps_32 : decode cX11_faultsByLamps 32 = .ok (.getfield 14, 3) := by decide +kernel
theorem dX11_faultsByLamps_35 : decode cX11_faultsByLamps 35 = .ok (.getfield 88, 3) := by decide +kernel
theorem dX11_faultsByLamps_38 : decode cX11_faultsByLamps 38 = .ok (.iconst 2, 1) := by decide +kernel
theorem dX11_faultsByLamps_39 : decode cX11_faultsByLamps 39 = .ok (.irem, 1) := by decide +kernel
theorem dX11_faultsByLamps_40 : decode cX11_faultsByLamps 40 = .ok (.ifCond .eq 5, 3) := by decide +kernel
theorem dX11_faultsByLamps_43 : decode cX11_faultsByLamps 43 = .ok (.iconst (-1), 1) := by decide +kernel
theorem dX11_faultsByLamps_44 : decode cX11_faultsByLamps 44 = .ok (.ireturn, 1) := by decide +kernel
theorem dX11_faultsByLamps_45 : decode cX11_faultsByLamps 45 = .ok (.iconst 1, 1) := by decide +kernel
theorem dX11_faultsByLamps_46 : decode cX11_faultsByLamps 46 = .ok (.aload_n 1, 1) := by decide +kernel
theorem dX11_faultsByLamps_47 : decode cX11_faultsByLamps 47 = .ok (.getfield 316, 3) := by decide +kernel
theorem dX11_faultsByLamps_50 : decode cX11_faultsByLamps 50 = .ok (.ishl, 1) := by decide +kernel
theorem dX11_faultsByLamps_51 : decode cX11_faultsByLamps 51 = .ok (.iconst 1, 1) := by decide +kernel
theorem dX11_faultsByLamps_52 : decode cX11_faultsByLamps 52 = .ok (.isub, 1) := by decide +kernel
theorem dX11_faultsByLamps_53 : decode cX11_faultsByLamps 53 = .ok (.istore_n 2, 1) := by decide +kernel
theorem dX11_faultsByLamps_54 : decode cX11_faultsByLamps 54 = .ok (.iconst 0, 1) := by decide +kernel
theorem dX11_faultsByLamps_55 : decode cX11_faultsByLamps 55 = .ok (.istore_n 3, 1) := by decide +kernel
theorem dX11_faultsByLamps_56 : decode cX11_faultsByLamps 56 = .ok (.iload_n 3, 1) := by decide +kernel
theorem dX11_faultsByLamps_57 : decode cX11_faultsByLamps 57 = .ok (.aload_n 0, 1) := by decide +kernel
theorem dX11_faultsByLamps_58 : decode cX11_faultsByLamps 58 = .ok (.getfield 14, 3) := by decide +kernel
theorem dX11_faultsByLamps_61 : decode cX11_faultsByLamps 61 = .ok (.getfield 88, 3) := by decide +kernel
theorem dX11_faultsByLamps_64 : decode cX11_faultsByLamps 64 = .ok (.if_icmp .ge 49, 3) := by decide +kernel
theorem dX11_faultsByLamps_67 : decode cX11_faultsByLamps 67 = .ok (.aload_n 0, 1) := by decide +kernel
theorem dX11_faultsByLamps_68 : decode cX11_faultsByLamps 68 = .ok (.getfield 14, 3) := by decide +kernel
theorem dX11_faultsByLamps_71 : decode cX11_faultsByLamps 71 = .ok (.iload_n 3, 1) := by decide +kernel
theorem dX11_faultsByLamps_72 : decode cX11_faultsByLamps 72 = .ok (.invokevirtual 363, 3) := by decide +kernel
theorem dX11_faultsByLamps_75 : decode cX11_faultsByLamps 75 = .ok (.istore 4, 2) := by decide +kernel
theorem dX11_faultsByLamps_77 : decode cX11_faultsByLamps 77 = .ok (.aload_n 0, 1) := by decide +kernel
theorem dX11_faultsByLamps_78 : decode cX11_faultsByLamps 78 = .ok (.iload 4, 2) := by decide +kernel
theorem dX11_faultsByLamps_80 : decode cX11_faultsByLamps 80 = .ok (.invokevirtual 146, 3) := by decide +kernel
theorem dX11_faultsByLamps_83 : decode cX11_faultsByLamps 83 = .ok (.ifCond .ne 5, 3) := by decide +kernel
theorem dX11_faultsByLamps_86 : decode cX11_faultsByLamps 86 = .ok (.iconst (-1), 1) := by decide +kernel
theorem dX11_faultsByLamps_87 : decode cX11_faultsByLamps 87 = .ok (.ireturn, 1) := by decide +kernel
theorem dX11_faultsByLamps_88 : decode cX11_faultsByLamps 88 = .ok (.iload_n 2, 1) := by decide +kernel
theorem dX11_faultsByLamps_89 : decode cX11_faultsByLamps 89 = .ok (.aload_n 1, 1) := by decide +kernel
theorem dX11_faultsByLamps_90 : decode cX11_faultsByLamps 90 = .ok (.iload 4, 2) := by decide +kernel
theorem dX11_faultsByLamps_92 : decode cX11_faultsByLamps 92 = .ok (.aload_n 0, 1) := by decide +kernel
theorem dX11_faultsByLamps_93 : decode cX11_faultsByLamps 93 = .ok (.getfield 14, 3) := by decide +kernel
theorem dX11_faultsByLamps_96 : decode cX11_faultsByLamps 96 = .ok (.iload_n 3, 1) := by decide +kernel
theorem dX11_faultsByLamps_97 : decode cX11_faultsByLamps 97 = .ok (.iconst 1, 1) := by decide +kernel
theorem dX11_faultsByLamps_98 : decode cX11_faultsByLamps 98 = .ok (.iadd, 1) := by decide +kernel
theorem dX11_faultsByLamps_99 : decode cX11_faultsByLamps 99 = .ok (.invokevirtual 363, 3) := by decide +kernel
theorem dX11_faultsByLamps_102 : decode cX11_faultsByLamps 102 = .ok (.invokevirtual 417, 3) := by decide +kernel
theorem dX11_faultsByLamps_105 : decode cX11_faultsByLamps 105 = .ok (.iand, 1) := by decide +kernel
theorem dX11_faultsByLamps_106 : decode cX11_faultsByLamps 106 = .ok (.istore_n 2, 1) := by decide +kernel
theorem dX11_faultsByLamps_107 : decode cX11_faultsByLamps 107 = .ok (.iinc 3 2, 3) := by decide +kernel
theorem dX11_faultsByLamps_110 : decode cX11_faultsByLamps 110 = .ok (.goto (-54), 3) := by decide +kernel
theorem dX11_faultsByLamps_113 : decode cX11_faultsByLamps 113 = .ok (.iload_n 2, 1) := by decide +kernel
theorem dX11_faultsByLamps_114 : decode cX11_faultsByLamps 114 = .ok (.ireturn, 1) := by decide +kernel
theorem dX11_eveningsWithDeed_0 : decode cX11_eveningsWithDeed 0 = .ok (.aload_n 0, 1) := by decide +kernel
theorem dX11_eveningsWithDeed_1 : decode cX11_eveningsWithDeed 1 = .ok (.getfield 14, 3) := by decide +kernel
theorem dX11_eveningsWithDeed_4 : decode cX11_eveningsWithDeed 4 = .ok (.getfield 88, 3) := by decide +kernel
theorem dX11_eveningsWithDeed_7 : decode cX11_eveningsWithDeed 7 = .ok (.iconst 4, 1) := by decide +kernel
theorem dX11_eveningsWithDeed_8 : decode cX11_eveningsWithDeed 8 = .ok (.if_icmp .lt 27, 3) := by decide +kernel
theorem dX11_eveningsWithDeed_11 : decode cX11_eveningsWithDeed 11 = .ok (.aload_n 0, 1) := by decide +kernel
theorem dX11_eveningsWithDeed_12 : decode cX11_eveningsWithDeed 12 = .ok (.getfield 14, 3) := by decide +kernel
theorem dX11_eveningsWithDeed_15 : decode cX11_eveningsWithDeed 15 = .ok (.getfield 88, 3) := by decide +kernel
theorem dX11_eveningsWithDeed_18 : decode cX11_eveningsWithDeed 18 = .ok (.bipush 20, 2) := by decide +kernel
theorem dX11_eveningsWithDeed_20 : decode cX11_eveningsWithDeed 20 = .ok (.if_icmp .gt 15, 3) := by decide +kernel
theorem dX11_eveningsWithDeed_23 : decode cX11_eveningsWithDeed 23 = .ok (.aload_n 0, 1) := by decide +kernel
theorem dX11_eveningsWithDeed_24 : decode cX11_eveningsWithDeed 24 = .ok (.getfield 14, 3) := by decide +kernel
theorem dX11_eveningsWithDeed_27 : decode cX11_eveningsWithDeed 27 = .ok (.getfield 88, 3) := by decide +kernel
theorem dX11_eveningsWithDeed_30 : decode cX11_eveningsWithDeed 30 = .ok (.iconst 2, 1) := by decide +kernel
theorem dX11_eveningsWithDeed_31 : decode cX11_eveningsWithDeed 31 = .ok (.irem, 1) := by decide +kernel
theorem dX11_eveningsWithDeed_32 : decode cX11_eveningsWithDeed 32 = .ok (.ifCond .eq 5, 3) := by decide +kernel
theorem dX11_eveningsWithDeed_35 : decode cX11_eveningsWithDeed 35 = .ok (.iconst (-1), 1) := by decide +kernel
theorem dX11_eveningsWithDeed_36 : decode cX11_eveningsWithDeed 36 = .ok (.ireturn, 1) := by decide +kernel
theorem dX11_eveningsWithDeed_37 : decode cX11_eveningsWithDeed 37 = .ok (.iconst 0, 1) := by decide +kernel
theorem dX11_eveningsWithDeed_38 : decode cX11_eveningsWithDeed 38 = .ok (.istore_n 1, 1) := by decide +kernel
theorem dX11_eveningsWithDeed_39 : decode cX11_eveningsWithDeed 39 = .ok (.iconst 0, 1) := by decide +kernel
theorem dX11_eveningsWithDeed_40 : decode cX11_eveningsWithDeed 40 = .ok (.istore_n 2, 1) := by decide +kernel
theorem dX11_eveningsWithDeed_41 : decode cX11_eveningsWithDeed 41 = .ok (.iload_n 2, 1) := by decide +kernel
theorem dX11_eveningsWithDeed_42 : decode cX11_eveningsWithDeed 42 = .ok (.aload_n 0, 1) := by decide +kernel
theorem dX11_eveningsWithDeed_43 : decode cX11_eveningsWithDeed 43 = .ok (.getfield 14, 3) := by decide +kernel
theorem dX11_eveningsWithDeed_46 : decode cX11_eveningsWithDeed 46 = .ok (.getfield 88, 3) := by decide +kernel
theorem dX11_eveningsWithDeed_49 : decode cX11_eveningsWithDeed 49 = .ok (.if_icmp .ge 29, 3) := by decide +kernel
theorem dX11_eveningsWithDeed_52 : decode cX11_eveningsWithDeed 52 = .ok (.aload_n 0, 1) := by decide +kernel
theorem dX11_eveningsWithDeed_53 : decode cX11_eveningsWithDeed 53 = .ok (.getfield 14, 3) := by decide +kernel
theorem dX11_eveningsWithDeed_56 : decode cX11_eveningsWithDeed 56 = .ok (.iload_n 2, 1) := by decide +kernel
theorem dX11_eveningsWithDeed_57 : decode cX11_eveningsWithDeed 57 = .ok (.invokevirtual 363, 3) := by decide +kernel
theorem dX11_eveningsWithDeed_60 : decode cX11_eveningsWithDeed 60 = .ok (.istore_n 3, 1) := by decide +kernel
theorem dX11_eveningsWithDeed_61 : decode cX11_eveningsWithDeed 61 = .ok (.iload_n 3, 1) := by decide +kernel
theorem dX11_eveningsWithDeed_62 : decode cX11_eveningsWithDeed 62 = .ok (.iconst 1, 1) := by decide +kernel
theorem dX11_eveningsWithDeed_63 : decode cX11_eveningsWithDeed 63 = .ok (.if_icmp .le 5, 3) := by decide +kernel
theorem dX11_eveningsWithDeed_66 : decode cX11_eveningsWithDeed 66 = .ok (.iconst (-1), 1) := by decide +kernel
theorem dX11_eveningsWithDeed_67 : decode cX11_eveningsWithDeed 67 = .ok (.ireturn, 1) := by decide +kernel
theorem dX11_eveningsWithDeed_68 : decode cX11_eveningsWithDeed 68 = .ok (.iload_n 1, 1) := by decide +kernel
theorem dX11_eveningsWithDeed_69 : decode cX11_eveningsWithDeed 69 = .ok (.iload_n 3, 1) := by decide +kernel
theorem dX11_eveningsWithDeed_70 : decode cX11_eveningsWithDeed 70 = .ok (.iadd, 1) := by decide +kernel
theorem dX11_eveningsWithDeed_71 : decode cX11_eveningsWithDeed 71 = .ok (.istore_n 1, 1) := by decide +kernel
theorem dX11_eveningsWithDeed_72 : decode cX11_eveningsWithDeed 72 = .ok (.iinc 2 2, 3) := by decide +kernel
theorem dX11_eveningsWithDeed_75 : decode cX11_eveningsWithDeed 75 = .ok (.goto (-34), 3) := by decide +kernel
theorem dX11_eveningsWithDeed_78 : decode cX11_eveningsWithDeed 78 = .ok (.iload_n 1, 1) := by decide +kernel
theorem dX11_eveningsWithDeed_79 : decode cX11_eveningsWithDeed 79 = .ok (.ifCond .eq 16, 3) := by decide +kernel
theorem dX11_eveningsWithDeed_82 : decode cX11_eveningsWithDeed 82 = .ok (.iload_n 1, 1) := by decide +kernel
theorem dX11_eveningsWithDeed_83 : decode cX11_eveningsWithDeed 83 = .ok (.aload_n 0, 1) := by decide +kernel
theorem dX11_eveningsWithDeed_84 : decode cX11_eveningsWithDeed 84 = .ok (.getfield 14, 3) := by decide +kernel
theorem dX11_eveningsWithDeed_87 : decode cX11_eveningsWithDeed 87 = .ok (.getfield 88, 3) := by decide +kernel
theorem dX11_eveningsWithDeed_90 : decode cX11_eveningsWithDeed 90 = .ok (.iconst 2, 1) := by decide +kernel
theorem dX11_eveningsWithDeed_91 : decode cX11_eveningsWithDeed 91 = .ok (.idiv, 1) := by decide +kernel
theorem dX11_eveningsWithDeed_92 : decode cX11_eveningsWithDeed 92 = .ok (.if_icmp .ne 7, 3) := by decide +kernel
theorem dX11_eveningsWithDeed_95 : decode cX11_eveningsWithDeed 95 = .ok (.iconst (-1), 1) := by decide +kernel
theorem dX11_eveningsWithDeed_96 : decode cX11_eveningsWithDeed 96 = .ok (.goto 4, 3) := by decide +kernel
theorem dX11_eveningsWithDeed_99 : decode cX11_eveningsWithDeed 99 = .ok (.iload_n 1, 1) := by decide +kernel
theorem dX11_eveningsWithDeed_100 : decode cX11_eveningsWithDeed 100 = .ok (.ireturn, 1) := by decide +kernel
theorem dX11_countWays_0 : decode cX11_countWays 0 = .ok (.iconst 0, 1) := by decide +kernel
theorem dX11_countWays_1 : decode cX11_countWays 1 = .ok (.istore_n 3, 1) := by decide +kernel
theorem dX11_countWays_2 : decode cX11_countWays 2 = .ok (.iconst 0, 1) := by decide +kernel
theorem dX11_countWays_3 : decode cX11_countWays 3 = .ok (.istore 4, 2) := by decide +kernel
theorem dX11_countWays_5 : decode cX11_countWays 5 = .ok (.iload 4, 2) := by decide +kernel
theorem dX11_countWays_7 : decode cX11_countWays 7 = .ok (.iload_n 1, 1) := by decide +kernel
theorem dX11_countWays_8 : decode cX11_countWays 8 = .ok (.if_icmp .ge 26, 3) := by decide +kernel
theorem dX11_countWays_11 : decode cX11_countWays 11 = .ok (.iload_n 3, 1) := by decide +kernel
theorem dX11_countWays_12 : decode cX11_countWays 12 = .ok (.aload_n 0, 1) := by decide +kernel
theorem dX11_countWays_13 : decode cX11_countWays 13 = .ok (.getfield 14, 3) := by decide +kernel
theorem dX11_countWays_16 : decode cX11_countWays 16 = .ok (.iconst 2, 1) := by decide +kernel
theorem dX11_countWays_17 : decode cX11_countWays 17 = .ok (.iload 4, 2) := by decide +kernel
theorem dX11_countWays_19 : decode cX11_countWays 19 = .ok (.imul, 1) := by decide +kernel
theorem dX11_countWays_20 : decode cX11_countWays 20 = .ok (.invokevirtual 363, 3) := by decide +kernel
theorem dX11_countWays_23 : decode cX11_countWays 23 = .ok (.iload 4, 2) := by decide +kernel
theorem dX11_countWays_25 : decode cX11_countWays 25 = .ok (.ishl, 1) := by decide +kernel
theorem dX11_countWays_26 : decode cX11_countWays 26 = .ok (.ior, 1) := by decide +kernel
theorem dX11_countWays_27 : decode cX11_countWays 27 = .ok (.istore_n 3, 1) := by decide +kernel
theorem dX11_countWays_28 : decode cX11_countWays 28 = .ok (.iinc 4 1, 3) := by decide +kernel
theorem dX11_countWays_31 : decode cX11_countWays 31 = .ok (.goto (-26), 3) := by decide +kernel
theorem dX11_countWays_34 : decode cX11_countWays 34 = .ok (.aload_n 0, 1) := by decide +kernel
theorem dX11_countWays_35 : decode cX11_countWays 35 = .ok (.iload_n 3, 1) := by decide +kernel
theorem dX11_countWays_36 : decode cX11_countWays 36 = .ok (.iload_n 1, 1) := by decide +kernel
theorem dX11_countWays_37 : decode cX11_countWays 37 = .ok (.invokevirtual 420, 3) := by decide +kernel
theorem dX11_countWays_40 : decode cX11_countWays 40 = .ok (.istore 4, 2) := by decide +kernel
theorem dX11_countWays_42 : decode cX11_countWays 42 = .ok (.iconst 0, 1) := by decide +kernel
theorem dX11_countWays_43 : decode cX11_countWays 43 = .ok (.istore 5, 2) := by decide +kernel
theorem dX11_countWays_45 : decode cX11_countWays 45 = .ok (.aload_n 0, 1) := by decide +kernel
theorem dX11_countWays_46 : decode cX11_countWays 46 = .ok (.iconst 0, 1) := by decide +kernel
theorem dX11_countWays_47 : decode cX11_countWays 47 = .ok (.putfield 81, 3) := by decide +kernel
theorem dX11_countWays_50 : decode cX11_countWays 50 = .ok (.iconst 0, 1) := by decide +kernel
theorem dX11_countWays_51 : decode cX11_countWays 51 = .ok (.istore 6, 2) := by decide +kernel
theorem dX11_countWays_53 : decode cX11_countWays 53 = .ok (.iload 6, 2) := by decide +kernel
theorem dX11_countWays_55 : decode cX11_countWays 55 = .ok (.iconst 1, 1) := by decide +kernel
theorem dX11_countWays_56 : decode cX11_countWays 56 = .ok (.iload_n 1, 1) := by decide +kernel
theorem dX11_countWays_57 : decode cX11_countWays 57 = .ok (.ishl, 1) := by decide +kernel
theorem dX11_countWays_58 : decode cX11_countWays 58 = .ok (.if_icmp .ge 43, 3) := by decide +kernel
theorem dX11_countWays_61 : decode cX11_countWays 61 = .ok (.iload 6, 2) := by decide +kernel
theorem dX11_countWays_63 : decode cX11_countWays 63 = .ok (.invokestatic 400, 3) := by decide +kernel
theorem dX11_countWays_66 : decode cX11_countWays 66 = .ok (.iload_n 2, 1) := by decide +kernel
theorem dX11_countWays_67 : decode cX11_countWays 67 = .ok (.if_icmp .ne 28, 3) := by decide +kernel
theorem dX11_countWays_70 : decode cX11_countWays 70 = .ok (.aload_n 0, 1) := by decide +kernel
theorem dX11_countWays_71 : decode cX11_countWays 71 = .ok (.dup, 1) := by decide +kernel
theorem dX11_countWays_72 : decode cX11_countWays 72 = .ok (.getfield 81, 3) := by decide +kernel
theorem dX11_countWays_75 : decode cX11_countWays 75 = .ok (.iconst 1, 1) := by decide +kernel
theorem dX11_countWays_76 : decode cX11_countWays 76 = .ok (.iadd, 1) := by decide +kernel
theorem dX11_countWays_77 : decode cX11_countWays 77 = .ok (.putfield 81, 3) := by decide +kernel
theorem dX11_countWays_80 : decode cX11_countWays 80 = .ok (.aload_n 0, 1) := by decide +kernel
theorem dX11_countWays_81 : decode cX11_countWays 81 = .ok (.iload 6, 2) := by decide +kernel
theorem dX11_countWays_83 : decode cX11_countWays 83 = .ok (.iload_n 1, 1) := by decide +kernel
theorem dX11_countWays_84 : decode cX11_countWays 84 = .ok (.invokevirtual 420, 3) := by decide +kernel
theorem dX11_countWays_87 : decode cX11_countWays 87 = .ok (.iload 4, 2) := by decide +kernel
theorem dX11_countWays_89 : decode cX11_countWays 89 = .ok (.if_icmp .gt 6, 3) := by decide +kernel
theorem dX11_countWays_92 : decode cX11_countWays 92 = .ok (.iinc 5 1, 3) := by decide +kernel
theorem dX11_countWays_95 : decode cX11_countWays 95 = .ok (.iinc 6 1, 3) := by decide +kernel
theorem dX11_countWays_98 : decode cX11_countWays 98 = .ok (.goto (-45), 3) := by decide +kernel
theorem dX11_countWays_101 : decode cX11_countWays 101 = .ok (.iload 5, 2) := by decide +kernel
theorem dX11_countWays_103 : decode cX11_countWays 103 = .ok (.ireturn, 1) := by decide +kernel
theorem dX11_minutesOfWay_0 : decode cX11_minutesOfWay 0 = .ok (.iconst 0, 1) := by decide +kernel
theorem dX11_minutesOfWay_1 : decode cX11_minutesOfWay 1 = .ok (.istore_n 3, 1) := by decide +kernel
theorem dX11_minutesOfWay_2 : decode cX11_minutesOfWay 2 = .ok (.iconst 0, 1) := by decide +kernel
theorem dX11_minutesOfWay_3 : decode cX11_minutesOfWay 3 = .ok (.istore 4, 2) := by decide +kernel
theorem dX11_minutesOfWay_5 : decode cX11_minutesOfWay 5 = .ok (.iload 4, 2) := by decide +kernel
theorem dX11_minutesOfWay_7 : decode cX11_minutesOfWay 7 = .ok (.iload_n 2, 1) := by decide +kernel
theorem dX11_minutesOfWay_8 : decode cX11_minutesOfWay 8 = .ok (.if_icmp .ge 35, 3) := by decide +kernel
theorem dX11_minutesOfWay_11 : decode cX11_minutesOfWay 11 = .ok (.iload_n 1, 1) := by decide +kernel
theorem dX11_minutesOfWay_12 : decode cX11_minutesOfWay 12 = .ok (.iload 4, 2) := by decide +kernel
theorem dX11_minutesOfWay_14 : decode cX11_minutesOfWay 14 = .ok (.invokestatic 171, 3) := by decide +kernel
theorem dX11_minutesOfWay_17 : decode cX11_minutesOfWay 17 = .ok (.iconst 1, 1) := by decide +kernel
theorem dX11_minutesOfWay_18 : decode cX11_minutesOfWay 18 = .ok (.if_icmp .ne 19, 3) := by decide +kernel
theorem dX11_minutesOfWay_21 : decode cX11_minutesOfWay 21 = .ok (.iload_n 3, 1) := by decide +kernel
theorem dX11_minutesOfWay_22 : decode cX11_minutesOfWay 22 = .ok (.aload_n 0, 1) := by decide +kernel
theorem dX11_minutesOfWay_23 : decode cX11_minutesOfWay 23 = .ok (.getfield 14, 3) := by decide +kernel
theorem dX11_minutesOfWay_26 : decode cX11_minutesOfWay 26 = .ok (.iconst 2, 1) := by decide +kernel
theorem dX11_minutesOfWay_27 : decode cX11_minutesOfWay 27 = .ok (.iload 4, 2) := by decide +kernel
theorem dX11_minutesOfWay_29 : decode cX11_minutesOfWay 29 = .ok (.imul, 1) := by decide +kernel
theorem dX11_minutesOfWay_30 : decode cX11_minutesOfWay 30 = .ok (.iconst 1, 1) := by decide +kernel
theorem dX11_minutesOfWay_31 : decode cX11_minutesOfWay 31 = .ok (.iadd, 1) := by decide +kernel
theorem dX11_minutesOfWay_32 : decode cX11_minutesOfWay 32 = .ok (.invokevirtual 363, 3) := by decide +kernel
theorem dX11_minutesOfWay_35 : decode cX11_minutesOfWay 35 = .ok (.iadd, 1) := by decide +kernel
theorem dX11_minutesOfWay_36 : decode cX11_minutesOfWay 36 = .ok (.istore_n 3, 1) := by decide +kernel
theorem dX11_minutesOfWay_37 : decode cX11_minutesOfWay 37 = .ok (.iinc 4 1, 3) := by decide +kernel
theorem dX11_minutesOfWay_40 : decode cX11_minutesOfWay 40 = .ok (.goto (-35), 3) := by decide +kernel
theorem dX11_minutesOfWay_43 : decode cX11_minutesOfWay 43 = .ok (.iload_n 3, 1) := by decide +kernel
theorem dX11_minutesOfWay_44 : decode cX11_minutesOfWay 44 = .ok (.ireturn, 1) := by decide +kernel
theorem dX11_faultsByMinutes_0 : decode cX11_faultsByMinutes 0 = .ok (.aload_n 0, 1) := by decide +kernel
theorem dX11_faultsByMinutes_1 : decode cX11_faultsByMinutes 1 = .ok (.getfield 21, 3) := by decide +kernel
theorem dX11_faultsByMinutes_4 : decode cX11_faultsByMinutes 4 = .ok (.getfield 111, 3) := by decide +kernel
theorem dX11_faultsByMinutes_7 : decode cX11_faultsByMinutes 7 = .ok (.astore_n 2, 1) := by decide +kernel
theorem dX11_faultsByMinutes_8 : decode cX11_faultsByMinutes 8 = .ok (.aload_n 2, 1) := by decide +kernel
theorem dX11_faultsByMinutes_9 : decode cX11_faultsByMinutes 9 = .ok (.getfield 285, 3) := by decide +kernel
theorem dX11_faultsByMinutes_12 : decode cX11_faultsByMinutes 12 = .ok (.iload_n 1, 1) := by decide +kernel
theorem dX11_faultsByMinutes_13 : decode cX11_faultsByMinutes 13 = .ok (.iaload, 1) := by decide +kernel
theorem dX11_faultsByMinutes_14 : decode cX11_faultsByMinutes 14 = .ok (.istore_n 3, 1) := by decide +kernel
theorem dX11_faultsByMinutes_15 : decode cX11_faultsByMinutes 15 = .ok (.iload_n 3, 1) := by decide +kernel
theorem dX11_faultsByMinutes_16 : decode cX11_faultsByMinutes 16 = .ok (.sipush 256, 3) := by decide +kernel
theorem dX11_faultsByMinutes_19 : decode cX11_faultsByMinutes 19 = .ok (.ior, 1) := by decide +kernel
theorem dX11_faultsByMinutes_20 : decode cX11_faultsByMinutes 20 = .ok (.istore 4, 2) := by decide +kernel
theorem dX11_faultsByMinutes_22 : decode cX11_faultsByMinutes 22 = .ok (.aload_n 0, 1) := by decide +kernel
theorem dX11_faultsByMinutes_23 : decode cX11_faultsByMinutes 23 = .ok (.getfield 39, 3) := by decide +kernel
theorem dX11_faultsByMinutes_26 : decode cX11_faultsByMinutes 26 = .ok (.aload_n 0, 1) := by decide +kernel
theorem dX11_faultsByMinutes_27 : decode cX11_faultsByMinutes 27 = .ok (.getfield 21, 3) := by decide +kernel
theorem dX11_faultsByMinutes_30 : decode cX11_faultsByMinutes 30 = .ok (.getfield 124, 3) := by decide +kernel
theorem dX11_faultsByMinutes_33 : decode cX11_faultsByMinutes 33 = .ok (.invokevirtual 328, 3) := by decide +kernel
theorem dX11_faultsByMinutes_36 : decode cX11_faultsByMinutes 36 = .ok (.aload_n 0, 1) := by decide +kernel
theorem dX11_faultsByMinutes_37 : decode cX11_faultsByMinutes 37 = .ok (.getfield 39, 3) := by decide +kernel
theorem dX11_faultsByMinutes_40 : decode cX11_faultsByMinutes 40 = .ok (.iload_n 3, 1) := by decide +kernel
theorem dX11_faultsByMinutes_41 : decode cX11_faultsByMinutes 41 = .ok (.putfield 175, 3) := by decide +kernel
theorem dX11_faultsByMinutes_44 : decode cX11_faultsByMinutes 44 = .ok (.iconst 0, 1) := by decide +kernel
theorem dX11_faultsByMinutes_45 : decode cX11_faultsByMinutes 45 = .ok (.istore 5, 2) := by decide +kernel
theorem dX11_faultsByMinutes_47 : decode cX11_faultsByMinutes 47 = .ok (.iload 5, 2) := by decide +kernel
theorem dX11_faultsByMinutes_49 : decode cX11_faultsByMinutes 49 = .ok (.aload_n 2, 1) := by decide +kernel
theorem dX11_faultsByMinutes_50 : decode cX11_faultsByMinutes 50 = .ok (.getfield 316, 3) := by decide +kernel
theorem dX11_faultsByMinutes_53 : decode cX11_faultsByMinutes 53 = .ok (.if_icmp .ge 20, 3) := by decide +kernel
theorem dX11_faultsByMinutes_56 : decode cX11_faultsByMinutes 56 = .ok (.aload_n 0, 1) := by decide +kernel
theorem dX11_faultsByMinutes_57 : decode cX11_faultsByMinutes 57 = .ok (.getfield 39, 3) := by decide +kernel
theorem dX11_faultsByMinutes_60 : decode cX11_faultsByMinutes 60 = .ok (.getfield 204, 3) := by decide +kernel
theorem dX11_faultsByMinutes_63 : decode cX11_faultsByMinutes 63 = .ok (.iload 5, 2) := by decide +kernel
theorem dX11_faultsByMinutes_65 : decode cX11_faultsByMinutes 65 = .ok (.iconst 0, 1) := by decide +kernel
theorem dX11_faultsByMinutes_66 : decode cX11_faultsByMinutes 66 = .ok (.iastore, 1) := by decide +kernel
theorem dX11_faultsByMinutes_67 : decode cX11_faultsByMinutes 67 = .ok (.iinc 5 1, 3) := by decide +kernel
theorem dX11_faultsByMinutes_70 : decode cX11_faultsByMinutes 70 = .ok (.goto (-23), 3) := by decide +kernel
theorem dX11_faultsByMinutes_73 : decode cX11_faultsByMinutes 73 = .ok (.iconst 0, 1) := by decide +kernel
theorem dX11_faultsByMinutes_74 : decode cX11_faultsByMinutes 74 = .ok (.istore 5, 2) := by decide +kernel
theorem dX11_faultsByMinutes_76 : decode cX11_faultsByMinutes 76 = .ok (.iload 5, 2) := by decide +kernel
theorem dX11_faultsByMinutes_78 : decode cX11_faultsByMinutes 78 = .ok (.aload_n 0, 1) := by decide +kernel
theorem dX11_faultsByMinutes_79 : decode cX11_faultsByMinutes 79 = .ok (.getfield 14, 3) := by decide +kernel
theorem dX11_faultsByMinutes_82 : decode cX11_faultsByMinutes 82 = .ok (.getfield 88, 3) := by decide +kernel
theorem dX11_faultsByMinutes_85 : decode cX11_faultsByMinutes 85 = .ok (.if_icmp .ge 94, 3) := by decide +kernel
theorem dX11_faultsByMinutes_88 : decode cX11_faultsByMinutes 88 = .ok (.aload_n 0, 1) := by decide +kernel
theorem dX11_faultsByMinutes_89 : decode cX11_faultsByMinutes 89 = .ok (.getfield 14, 3) := by decide +kernel
theorem dX11_faultsByMinutes_92 : decode cX11_faultsByMinutes 92 = .ok (.iload 5, 2) := by decide +kernel
theorem dX11_faultsByMinutes_94 : decode cX11_faultsByMinutes 94 = .ok (.invokevirtual 363, 3) := by decide +kernel
theorem dX11_faultsByMinutes_97 : decode cX11_faultsByMinutes 97 = .ok (.istore 6, 2) := by decide +kernel
theorem dX11_faultsByMinutes_99 : decode cX11_faultsByMinutes 99 = .ok (.iconst 0, 1) := by decide +kernel
theorem dX11_faultsByMinutes_100 : decode cX11_faultsByMinutes 100 = .ok (.istore 7, 2) := by decide +kernel
theorem dX11_faultsByMinutes_102 : decode cX11_faultsByMinutes 102 = .ok (.iload 7, 2) := by decide +kernel
theorem dX11_faultsByMinutes_104 : decode cX11_faultsByMinutes 104 = .ok (.bipush 8, 2) := by decide +kernel
theorem dX11_faultsByMinutes_106 : decode cX11_faultsByMinutes 106 = .ok (.if_icmp .gt 57, 3) := by decide +kernel
theorem dX11_faultsByMinutes_109 : decode cX11_faultsByMinutes 109 = .ok (.iload 4, 2) := by decide +kernel
theorem dX11_faultsByMinutes_111 : decode cX11_faultsByMinutes 111 = .ok (.iload 7, 2) := by decide +kernel
theorem dX11_faultsByMinutes_113 : decode cX11_faultsByMinutes 113 = .ok (.invokestatic 171, 3) := by decide +kernel
theorem dX11_faultsByMinutes_116 : decode cX11_faultsByMinutes 116 = .ok (.iconst 1, 1) := by decide +kernel
theorem dX11_faultsByMinutes_117 : decode cX11_faultsByMinutes 117 = .ok (.if_icmp .ne 40, 3) := by decide +kernel
theorem dX11_faultsByMinutes_120 : decode cX11_faultsByMinutes 120 = .ok (.aload_n 0, 1) := by decide +kernel
theorem dX11_faultsByMinutes_121 : decode cX11_faultsByMinutes 121 = .ok (.getfield 39, 3) := by decide +kernel
theorem dX11_faultsByMinutes_124 : decode cX11_faultsByMinutes 124 = .ok (.aload_n 2, 1) := by decide +kernel
theorem dX11_faultsByMinutes_125 : decode cX11_faultsByMinutes 125 = .ok (.iload_n 1, 1) := by decide +kernel
theorem dX11_faultsByMinutes_126 : decode cX11_faultsByMinutes 126 = .ok (.aload_n 0, 1) := by decide +kernel
theorem dX11_faultsByMinutes_127 : decode cX11_faultsByMinutes 127 = .ok (.getfield 39, 3) := by decide +kernel
theorem dX11_faultsByMinutes_130 : decode cX11_faultsByMinutes 130 = .ok (.getfield 175, 3) := by decide +kernel
theorem dX11_faultsByMinutes_133 : decode cX11_faultsByMinutes 133 = .ok (.iconst 1, 1) := by decide +kernel
theorem dX11_faultsByMinutes_134 : decode cX11_faultsByMinutes 134 = .ok (.iload 7, 2) := by decide +kernel
theorem dX11_faultsByMinutes_136 : decode cX11_faultsByMinutes 136 = .ok (.ishl, 1) := by decide +kernel
theorem dX11_faultsByMinutes_137 : decode cX11_faultsByMinutes 137 = .ok (.iand, 1) := by decide +kernel
theorem dX11_faultsByMinutes_138 : decode cX11_faultsByMinutes 138 = .ok (.invokevirtual 178, 3) := by decide +kernel
theorem dX11_faultsByMinutes_141 : decode cX11_faultsByMinutes 141 = .ok (.iload 6, 2) := by decide +kernel
theorem dX11_faultsByMinutes_143 : decode cX11_faultsByMinutes 143 = .ok (.if_icmp .eq 14, 3) := by decide +kernel
theorem dX11_faultsByMinutes_146 : decode cX11_faultsByMinutes 146 = .ok (.iload 4, 2) := by decide +kernel
theorem dX11_faultsByMinutes_148 : decode cX11_faultsByMinutes 148 = .ok (.iconst 1, 1) := by decide +kernel
theorem dX11_faultsByMinutes_149 : decode cX11_faultsByMinutes 149 = .ok (.iload 7, 2) := by decide +kernel
theorem dX11_faultsByMinutes_151 : decode cX11_faultsByMinutes 151 = .ok (.ishl, 1) := by decide +kernel
theorem dX11_faultsByMinutes_152 : decode cX11_faultsByMinutes 152 = .ok (.iconst (-1), 1) := by decide +kernel
theorem dX11_faultsByMinutes_153 : decode cX11_faultsByMinutes 153 = .ok (.ixor, 1) := by decide +kernel
theorem dX11_faultsByMinutes_154 : decode cX11_faultsByMinutes 154 = .ok (.iand, 1) := by decide +kernel
theorem dX11_faultsByMinutes_155 : decode cX11_faultsByMinutes 155 = .ok (.istore 4, 2) := by decide +kernel
theorem dX11_faultsByMinutes_157 : decode cX11_faultsByMinutes 157 = .ok (.iinc 7 1, 3) := by decide +kernel
theorem dX11_faultsByMinutes_160 : decode cX11_faultsByMinutes 160 = .ok (.goto (-58), 3) := by decide +kernel
theorem dX11_faultsByMinutes_163 : decode cX11_faultsByMinutes 163 = .ok (.aload_n 0, 1) := by decide +kernel
theorem dX11_faultsByMinutes_164 : decode cX11_faultsByMinutes 164 = .ok (.getfield 39, 3) := by decide +kernel
theorem dX11_faultsByMinutes_167 : decode cX11_faultsByMinutes 167 = .ok (.aload_n 2, 1) := by decide +kernel
theorem dX11_faultsByMinutes_168 : decode cX11_faultsByMinutes 168 = .ok (.iconst 1, 1) := by decide +kernel
theorem dX11_faultsByMinutes_169 : decode cX11_faultsByMinutes 169 = .ok (.invokevirtual 258, 3) := by decide +kernel
theorem dX11_faultsByMinutes_172 : decode cX11_faultsByMinutes 172 = .ok (.pop, 1) := by decide +kernel
theorem dX11_faultsByMinutes_173 : decode cX11_faultsByMinutes 173 = .ok (.iinc 5 1, 3) := by decide +kernel
theorem dX11_faultsByMinutes_176 : decode cX11_faultsByMinutes 176 = .ok (.goto (-100), 3) := by decide +kernel
theorem dX11_faultsByMinutes_179 : decode cX11_faultsByMinutes 179 = .ok (.iload 4, 2) := by decide +kernel
theorem dX11_faultsByMinutes_181 : decode cX11_faultsByMinutes 181 = .ok (.ireturn, 1) := by decide +kernel
theorem dX11_shownFault_0 : decode cX11_shownFault 0 = .ok (.iconst 0, 1) := by decide +kernel
theorem dX11_shownFault_1 : decode cX11_shownFault 1 = .ok (.istore_n 2, 1) := by decide +kernel
theorem dX11_shownFault_2 : decode cX11_shownFault 2 = .ok (.iconst 0, 1) := by decide +kernel
theorem dX11_shownFault_3 : decode cX11_shownFault 3 = .ok (.istore_n 3, 1) := by decide +kernel
theorem dX11_shownFault_4 : decode cX11_shownFault 4 = .ok (.iconst 0, 1) := by decide +kernel
theorem dX11_shownFault_5 : decode cX11_shownFault 5 = .ok (.istore 4, 2) := by decide +kernel
theorem dX11_shownFault_7 : decode cX11_shownFault 7 = .ok (.iload 4, 2) := by decide +kernel
theorem dX11_shownFault_9 : decode cX11_shownFault 9 = .ok (.aload_n 0, 1) := by decide +kernel
theorem dX11_shownFault_10 : decode cX11_shownFault 10 = .ok (.getfield 21, 3) := by decide +kernel
theorem dX11_shownFault_13 : decode cX11_shownFault 13 = .ok (.getfield 111, 3) := by decide +kernel
theorem dX11_shownFault_16 : decode cX11_shownFault 16 = .ok (.getfield 316, 3) := by decide +kernel
theorem dX11_shownFault_19 : decode cX11_shownFault 19 = .ok (.if_icmp .ge 75, 3) := by decide +kernel
theorem dX11_shownFault_22 : decode cX11_shownFault 22 = .ok (.aload_n 0, 1) := by decide +kernel
theorem dX11_shownFault_23 : decode cX11_shownFault 23 = .ok (.getfield 21, 3) := by decide +kernel
theorem dX11_shownFault_26 : decode cX11_shownFault 26 = .ok (.getfield 124, 3) := by decide +kernel
theorem dX11_shownFault_29 : decode cX11_shownFault 29 = .ok (.getfield 175, 3) := by decide +kernel
theorem dX11_shownFault_32 : decode cX11_shownFault 32 = .ok (.aload_n 0, 1) := by decide +kernel
theorem dX11_shownFault_33 : decode cX11_shownFault 33 = .ok (.getfield 21, 3) := by decide +kernel
theorem dX11_shownFault_36 : decode cX11_shownFault 36 = .ok (.getfield 111, 3) := by decide +kernel
theorem dX11_shownFault_39 : decode cX11_shownFault 39 = .ok (.getfield 285, 3) := by decide +kernel
theorem dX11_shownFault_42 : decode cX11_shownFault 42 = .ok (.iload_n 1, 1) := by decide +kernel
theorem dX11_shownFault_43 : decode cX11_shownFault 43 = .ok (.iaload, 1) := by decide +kernel
theorem dX11_shownFault_44 : decode cX11_shownFault 44 = .ok (.iand, 1) := by decide +kernel
theorem dX11_shownFault_45 : decode cX11_shownFault 45 = .ok (.iload 4, 2) := by decide +kernel
theorem dX11_shownFault_47 : decode cX11_shownFault 47 = .ok (.invokestatic 171, 3) := by decide +kernel
theorem dX11_shownFault_50 : decode cX11_shownFault 50 = .ok (.iconst 1, 1) := by decide +kernel
theorem dX11_shownFault_51 : decode cX11_shownFault 51 = .ok (.if_icmp .ne 37, 3) := by decide +kernel
theorem dX11_shownFault_54 : decode cX11_shownFault 54 = .ok (.aload_n 0, 1) := by decide +kernel
theorem dX11_shownFault_55 : decode cX11_shownFault 55 = .ok (.getfield 21, 3) := by decide +kernel
theorem dX11_shownFault_58 : decode cX11_shownFault 58 = .ok (.getfield 111, 3) := by decide +kernel
theorem dX11_shownFault_61 : decode cX11_shownFault 61 = .ok (.getfield 201, 3) := by decide +kernel
theorem dX11_shownFault_64 : decode cX11_shownFault 64 = .ok (.iload 4, 2) := by decide +kernel
theorem dX11_shownFault_66 : decode cX11_shownFault 66 = .ok (.iaload, 1) := by decide +kernel
theorem dX11_shownFault_67 : decode cX11_shownFault 67 = .ok (.iload_n 3, 1) := by decide +kernel
theorem dX11_shownFault_68 : decode cX11_shownFault 68 = .ok (.if_icmp .le 20, 3) := by decide +kernel
theorem dX11_shownFault_71 : decode cX11_shownFault 71 = .ok (.aload_n 0, 1) := by decide +kernel
theorem dX11_shownFault_72 : decode cX11_shownFault 72 = .ok (.getfield 21, 3) := by decide +kernel
theorem dX11_shownFault_75 : decode cX11_shownFault 75 = .ok (.getfield 111, 3) := by decide +kernel
theorem dX11_shownFault_78 : decode cX11_shownFault 78 = .ok (.getfield 201, 3) := by decide +kernel
theorem dX11_shownFault_81 : decode cX11_shownFault 81 = .ok (.iload 4, 2) := by decide +kernel
theorem dX11_shownFault_83 : decode cX11_shownFault 83 = .ok (.iaload, 1) := by decide +kernel
theorem dX11_shownFault_84 : decode cX11_shownFault 84 = .ok (.istore_n 3, 1) := by decide +kernel
theorem dX11_shownFault_85 : decode cX11_shownFault 85 = .ok (.iload 4, 2) := by decide +kernel
theorem dX11_shownFault_87 : decode cX11_shownFault 87 = .ok (.istore_n 2, 1) := by decide +kernel
theorem dX11_shownFault_88 : decode cX11_shownFault 88 = .ok (.iinc 4 1, 3) := by decide +kernel
theorem dX11_shownFault_91 : decode cX11_shownFault 91 = .ok (.goto (-84), 3) := by decide +kernel
theorem dX11_shownFault_94 : decode cX11_shownFault 94 = .ok (.iload_n 2, 1) := by decide +kernel
theorem dX11_shownFault_95 : decode cX11_shownFault 95 = .ok (.ireturn, 1) := by decide +kernel
theorem dX11_bit_0 : decode cX11_bit 0 = .ok (.iload_n 0, 1) := by decide +kernel
theorem dX11_bit_1 : decode cX11_bit 1 = .ok (.iload_n 1, 1) := by decide +kernel
theorem dX11_bit_2 : decode cX11_bit 2 = .ok (.ishr, 1) := by decide +kernel
theorem dX11_bit_3 : decode cX11_bit 3 = .ok (.iconst 1, 1) := by decide +kernel
theorem dX11_bit_4 : decode cX11_bit 4 = .ok (.iand, 1) := by decide +kernel
theorem dX11_bit_5 : decode cX11_bit 5 = .ok (.ireturn, 1) := by decide +kernel
theorem dX11_leastTerm_0 : decode cX11_leastTerm 0 = .ok (.iload_n 0, 1) := by decide +kernel
theorem dX11_leastTerm_1 : decode cX11_leastTerm 1 = .ok (.istore_n 3, 1) := by decide +kernel
theorem dX11_leastTerm_2 : decode cX11_leastTerm 2 = .ok (.iload_n 1, 1) := by decide +kernel
theorem dX11_leastTerm_3 : decode cX11_leastTerm 3 = .ok (.istore 4, 2) := by decide +kernel
theorem dX11_leastTerm_5 : decode cX11_leastTerm 5 = .ok (.iconst 0, 1) := by decide +kernel
theorem dX11_leastTerm_6 : decode cX11_leastTerm 6 = .ok (.istore 5, 2) := by decide +kernel
theorem dX11_leastTerm_8 : decode cX11_leastTerm 8 = .ok (.iload 5, 2) := by decide +kernel
theorem dX11_leastTerm_10 : decode cX11_leastTerm 10 = .ok (.ldc_w 423, 3) := by decide +kernel
theorem dX11_leastTerm_13 : decode cX11_leastTerm 13 = .ok (.if_icmp .ge 27, 3) := by decide +kernel
theorem dX11_leastTerm_16 : decode cX11_leastTerm 16 = .ok (.iload 4, 2) := by decide +kernel
theorem dX11_leastTerm_18 : decode cX11_leastTerm 18 = .ok (.ifCond .eq 22, 3) := by decide +kernel
