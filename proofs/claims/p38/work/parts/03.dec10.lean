theorem dX11_likely_62 : decode cX11_likely 62 = .ok (.iload 4, 2) := by decide +kernel
theorem dX11_likely_64 : decode cX11_likely 64 = .ok (.iaload, 1) := by decide +kernel
theorem dX11_likely_65 : decode cX11_likely 65 = .ok (.imul, 1) := by decide +kernel
theorem dX11_likely_66 : decode cX11_likely 66 = .ok (.iadd, 1) := by decide +kernel
theorem dX11_likely_67 : decode cX11_likely 67 = .ok (.istore_n 3, 1) := by decide +kernel
theorem dX11_likely_68 : decode cX11_likely 68 = .ok (.iinc 4 1, 3) := by decide +kernel
theorem dX11_likely_71 : decode cX11_likely 71 = .ok (.goto (-30), 3) := by decide +kernel
theorem dX11_likely_74 : decode cX11_likely 74 = .ok (.aload_n 0, 1) := by decide +kernel
theorem dX11_likely_75 : decode cX11_likely 75 = .ok (.getfield 74, 3) := by decide +kernel
theorem dX11_likely_78 : decode cX11_likely 78 = .ok (.iload_n 1, 1) := by decide +kernel
theorem dX11_likely_79 : decode cX11_likely 79 = .ok (.iaload, 1) := by decide +kernel
theorem dX11_likely_80 : decode cX11_likely 80 = .ok (.iload_n 3, 1) := by decide +kernel
theorem dX11_likely_81 : decode cX11_likely 81 = .ok (.iload_n 2, 1) := by decide +kernel
theorem dX11_likely_82 : decode cX11_likely 82 = .ok (.invokestatic 281, 3) := by decide +kernel
theorem dX11_likely_85 : decode cX11_likely 85 = .ok (.ireturn, 1) := by decide +kernel
theorem dX11_plan_0 : decode cX11_plan 0 = .ok (.aload_n 0, 1) := by decide +kernel
theorem dX11_plan_1 : decode cX11_plan 1 = .ok (.iload_n 1, 1) := by decide +kernel
theorem dX11_plan_2 : decode cX11_plan 2 = .ok (.invokevirtual 146, 3) := by decide +kernel
theorem dX11_plan_5 : decode cX11_plan 5 = .ok (.ifCond .eq 35, 3) := by decide +kernel
theorem dX11_plan_8 : decode cX11_plan 8 = .ok (.iload_n 2, 1) := by decide +kernel
theorem dX11_plan_9 : decode cX11_plan 9 = .ok (.ifCond .eq 31, 3) := by decide +kernel
theorem dX11_plan_12 : decode cX11_plan 12 = .ok (.iload_n 3, 1) := by decide +kernel
theorem dX11_plan_13 : decode cX11_plan 13 = .ok (.ifCond .lt 27, 3) := by decide +kernel
theorem dX11_plan_16 : decode cX11_plan 16 = .ok (.iload_n 3, 1) := by decide +kernel
theorem dX11_plan_17 : decode cX11_plan 17 = .ok (.iconst 1, 1) := by decide +kernel
theorem dX11_plan_18 : decode cX11_plan 18 = .ok (.if_icmp .gt 22, 3) := by decide +kernel
theorem dX11_plan_21 : decode cX11_plan 21 = .ok (.iload_n 2, 1) := by decide +kernel
theorem dX11_plan_22 : decode cX11_plan 22 = .ok (.aload_n 0, 1) := by decide +kernel
theorem dX11_plan_23 : decode cX11_plan 23 = .ok (.getfield 21, 3) := by decide +kernel
theorem dX11_plan_26 : decode cX11_plan 26 = .ok (.getfield 111, 3) := by decide +kernel
theorem dX11_plan_29 : decode cX11_plan 29 = .ok (.getfield 285, 3) := by decide +kernel
theorem dX11_plan_32 : decode cX11_plan 32 = .ok (.iload_n 1, 1) := by decide +kernel
theorem dX11_plan_33 : decode cX11_plan 33 = .ok (.iaload, 1) := by decide +kernel
theorem dX11_plan_34 : decode cX11_plan 34 = .ok (.iconst (-1), 1) := by decide +kernel
theorem dX11_plan_35 : decode cX11_plan 35 = .ok (.ixor, 1) := by decide +kernel
theorem dX11_plan_36 : decode cX11_plan 36 = .ok (.iand, 1) := by decide +kernel
theorem dX11_plan_37 : decode cX11_plan 37 = .ok (.ifCond .eq 11, 3) := by decide +kernel
theorem dX11_plan_40 : decode cX11_plan 40 = .ok (.new 150, 3) := by decide +kernel
theorem dX11_plan_43 : decode cX11_plan 43 = .ok (.dup, 1) := by decide +kernel
theorem dX11_plan_44 : decode cX11_plan 44 = .ok (.invokespecial 152, 3) := by decide +kernel
theorem dX11_plan_47 : decode cX11_plan 47 = .ok (.athrow, 1) := by decide +kernel
theorem dX11_plan_48 : decode cX11_plan 48 = .ok (.aload_n 0, 1) := by decide +kernel
theorem dX11_plan_49 : decode cX11_plan 49 = .ok (.getfield 67, 3) := by decide +kernel
theorem dX11_plan_52 : decode cX11_plan 52 = .ok (.aload_n 0, 1) := by decide +kernel
theorem dX11_plan_53 : decode cX11_plan 53 = .ok (.getfield 21, 3) := by decide +kernel
theorem dX11_plan_56 : decode cX11_plan 56 = .ok (.getfield 111, 3) := by decide +kernel
theorem dX11_plan_59 : decode cX11_plan 59 = .ok (.iload_n 1, 1) := by decide +kernel
theorem dX11_plan_60 : decode cX11_plan 60 = .ok (.iload_n 2, 1) := by decide +kernel
theorem dX11_plan_61 : decode cX11_plan 61 = .ok (.invokevirtual 288, 3) := by decide +kernel
theorem dX11_plan_64 : decode cX11_plan 64 = .ok (.aload_n 0, 1) := by decide +kernel
theorem dX11_plan_65 : decode cX11_plan 65 = .ok (.getfield 67, 3) := by decide +kernel
theorem dX11_plan_68 : decode cX11_plan 68 = .ok (.getfield 292, 3) := by decide +kernel
theorem dX11_plan_71 : decode cX11_plan 71 = .ok (.aload_n 0, 1) := by decide +kernel
theorem dX11_plan_72 : decode cX11_plan 72 = .ok (.getfield 67, 3) := by decide +kernel
theorem dX11_plan_75 : decode cX11_plan 75 = .ok (.getfield 295, 3) := by decide +kernel
theorem dX11_plan_78 : decode cX11_plan 78 = .ok (.iload_n 3, 1) := by decide +kernel
theorem dX11_plan_79 : decode cX11_plan 79 = .ok (.invokestatic 281, 3) := by decide +kernel
theorem dX11_plan_82 : decode cX11_plan 82 = .ok (.ireturn, 1) := by decide +kernel
theorem dX11_planAt_0 : decode cX11_planAt 0 = .ok (.iload_n 1, 1) := by decide +kernel
theorem dX11_planAt_1 : decode cX11_planAt 1 = .ok (.ifCond .lt 26, 3) := by decide +kernel
theorem dX11_planAt_4 : decode cX11_planAt 4 = .ok (.iload_n 1, 1) := by decide +kernel
theorem dX11_planAt_5 : decode cX11_planAt 5 = .ok (.aload_n 0, 1) := by decide +kernel
theorem dX11_planAt_6 : decode cX11_planAt 6 = .ok (.getfield 67, 3) := by decide +kernel
theorem dX11_planAt_9 : decode cX11_planAt 9 = .ok (.getfield 298, 3) := by decide +kernel
theorem dX11_planAt_12 : decode cX11_planAt 12 = .ok (.if_icmp .ge 15, 3) := by decide +kernel
theorem dX11_planAt_15 : decode cX11_planAt 15 = .ok (.aload_n 0, 1) := by decide +kernel
theorem dX11_planAt_16 : decode cX11_planAt 16 = .ok (.getfield 67, 3) := by decide +kernel
theorem dX11_planAt_19 : decode cX11_planAt 19 = .ok (.getfield 301, 3) := by decide +kernel
theorem dX11_planAt_22 : decode cX11_planAt 22 = .ok (.iload_n 1, 1) := by decide +kernel
theorem dX11_planAt_23 : decode cX11_planAt 23 = .ok (.iaload, 1) := by decide +kernel
theorem dX11_planAt_24 : decode cX11_planAt 24 = .ok (.goto 4, 3) := by decide +kernel
theorem dX11_planAt_27 : decode cX11_planAt 27 = .ok (.iconst (-1), 1) := by decide +kernel
theorem dX11_planAt_28 : decode cX11_planAt 28 = .ok (.ireturn, 1) := by decide +kernel
theorem dX11_ready_0 : decode cX11_ready 0 = .ok (.aload_n 0, 1) := by decide +kernel
theorem dX11_ready_1 : decode cX11_ready 1 = .ok (.iload_n 1, 1) := by decide +kernel
theorem dX11_ready_2 : decode cX11_ready 2 = .ok (.invokevirtual 146, 3) := by decide +kernel
theorem dX11_ready_5 : decode cX11_ready 5 = .ok (.ifCond .eq 17, 3) := by decide +kernel
theorem dX11_ready_8 : decode cX11_ready 8 = .ok (.aload_n 0, 1) := by decide +kernel
theorem dX11_ready_9 : decode cX11_ready 9 = .ok (.getfield 21, 3) := by decide +kernel
theorem dX11_ready_12 : decode cX11_ready 12 = .ok (.getfield 111, 3) := by decide +kernel
theorem dX11_ready_15 : decode cX11_ready 15 = .ok (.iload_n 1, 1) := by decide +kernel
theorem dX11_ready_16 : decode cX11_ready 16 = .ok (.invokevirtual 304, 3) := by decide +kernel
theorem dX11_ready_19 : decode cX11_ready 19 = .ok (.goto 4, 3) := by decide +kernel
theorem dX11_ready_22 : decode cX11_ready 22 = .ok (.iconst (-1), 1) := by decide +kernel
theorem dX11_ready_23 : decode cX11_ready 23 = .ok (.ireturn, 1) := by decide +kernel
theorem dX11_starts_0 : decode cX11_starts 0 = .ok (.aload_n 0, 1) := by decide +kernel
theorem dX11_starts_1 : decode cX11_starts 1 = .ok (.iload_n 1, 1) := by decide +kernel
theorem dX11_starts_2 : decode cX11_starts 2 = .ok (.invokevirtual 146, 3) := by decide +kernel
theorem dX11_starts_5 : decode cX11_starts 5 = .ok (.ifCond .eq 30, 3) := by decide +kernel
theorem dX11_starts_8 : decode cX11_starts 8 = .ok (.aload_n 0, 1) := by decide +kernel
theorem dX11_starts_9 : decode cX11_starts 9 = .ok (.getfield 21, 3) := by decide +kernel
theorem dX11_starts_12 : decode cX11_starts 12 = .ok (.getfield 111, 3) := by decide +kernel
theorem dX11_starts_15 : decode cX11_starts 15 = .ok (.iload_n 1, 1) := by decide +kernel
theorem dX11_starts_16 : decode cX11_starts 16 = .ok (.invokevirtual 304, 3) := by decide +kernel
theorem dX11_starts_19 : decode cX11_starts 19 = .ok (.aload_n 0, 1) := by decide +kernel
theorem dX11_starts_20 : decode cX11_starts 20 = .ok (.getfield 21, 3) := by decide +kernel
theorem dX11_starts_23 : decode cX11_starts 23 = .ok (.getfield 111, 3) := by decide +kernel
theorem dX11_starts_26 : decode cX11_starts 26 = .ok (.getfield 153, 3) := by decide +kernel
theorem dX11_starts_29 : decode cX11_starts 29 = .ok (.iload_n 1, 1) := by decide +kernel
theorem dX11_starts_30 : decode cX11_starts 30 = .ok (.iaload, 1) := by decide +kernel
theorem dX11_starts_31 : decode cX11_starts 31 = .ok (.isub, 1) := by decide +kernel
theorem dX11_starts_32 : decode cX11_starts 32 = .ok (.goto 4, 3) := by decide +kernel
theorem dX11_starts_35 : decode cX11_starts 35 = .ok (.iconst (-1), 1) := by decide +kernel
theorem dX11_starts_36 : decode cX11_starts 36 = .ok (.ireturn, 1) := by decide +kernel
theorem dX11_helped_0 : decode cX11_helped 0 = .ok (.aload_n 0, 1) := by decide +kernel
theorem dX11_helped_1 : decode cX11_helped 1 = .ok (.invokevirtual 307, 3) := by decide +kernel
theorem dX11_helped_4 : decode cX11_helped 4 = .ok (.istore_n 1, 1) := by decide +kernel
theorem dX11_helped_5 : decode cX11_helped 5 = .ok (.iload_n 1, 1) := by decide +kernel
theorem dX11_helped_6 : decode cX11_helped 6 = .ok (.iconst (-1), 1) := by decide +kernel
theorem dX11_helped_7 : decode cX11_helped 7 = .ok (.if_icmp .ne 19, 3) := by decide +kernel
theorem dX11_helped_10 : decode cX11_helped 10 = .ok (.aload_n 0, 1) := by decide +kernel
theorem dX11_helped_11 : decode cX11_helped 11 = .ok (.getfield 14, 3) := by decide +kernel
theorem dX11_helped_14 : decode cX11_helped 14 = .ok (.iconst 0, 1) := by decide +kernel
theorem dX11_helped_15 : decode cX11_helped 15 = .ok (.putfield 88, 3) := by decide +kernel
theorem dX11_helped_18 : decode cX11_helped 18 = .ok (.new 150, 3) := by decide +kernel
theorem dX11_helped_21 : decode cX11_helped 21 = .ok (.dup, 1) := by decide +kernel
theorem dX11_helped_22 : decode cX11_helped 22 = .ok (.invokespecial 152, 3) := by decide +kernel
theorem dX11_helped_25 : decode cX11_helped 25 = .ok (.athrow, 1) := by decide +kernel
theorem dX11_helped_26 : decode cX11_helped 26 = .ok (.aload_n 0, 1) := by decide +kernel
theorem dX11_helped_27 : decode cX11_helped 27 = .ok (.aload_n 0, 1) := by decide +kernel
theorem dX11_helped_28 : decode cX11_helped 28 = .ok (.getfield 14, 3) := by decide +kernel
theorem dX11_helped_31 : decode cX11_helped 31 = .ok (.getfield 88, 3) := by decide +kernel
theorem dX11_helped_34 : decode cX11_helped 34 = .ok (.iconst 2, 1) := by decide +kernel
theorem dX11_helped_35 : decode cX11_helped 35 = .ok (.idiv, 1) := by decide +kernel
theorem dX11_helped_36 : decode cX11_helped 36 = .ok (.iload_n 1, 1) := by decide +kernel
theorem dX11_helped_37 : decode cX11_helped 37 = .ok (.invokevirtual 310, 3) := by decide +kernel
theorem dX11_helped_40 : decode cX11_helped 40 = .ok (.istore_n 2, 1) := by decide +kernel
theorem dX11_helped_41 : decode cX11_helped 41 = .ok (.aload_n 0, 1) := by decide +kernel
theorem dX11_helped_42 : decode cX11_helped 42 = .ok (.getfield 14, 3) := by decide +kernel
theorem dX11_helped_45 : decode cX11_helped 45 = .ok (.iconst 0, 1) := by decide +kernel
theorem dX11_helped_46 : decode cX11_helped 46 = .ok (.putfield 88, 3) := by decide +kernel
theorem dX11_helped_49 : decode cX11_helped 49 = .ok (.iload_n 2, 1) := by decide +kernel
theorem dX11_helped_50 : decode cX11_helped 50 = .ok (.ireturn, 1) := by decide +kernel
theorem dX11_lots_0 : decode cX11_lots 0 = .ok (.aload_n 0, 1) := by decide +kernel
theorem dX11_lots_1 : decode cX11_lots 1 = .ok (.getfield 81, 3) := by decide +kernel
theorem dX11_lots_4 : decode cX11_lots 4 = .ok (.ireturn, 1) := by decide +kernel
theorem dX11_alike_0 : decode cX11_alike 0 = .ok (.aload_n 0, 1) := by decide +kernel
theorem dX11_alike_1 : decode cX11_alike 1 = .ok (.iload_n 1, 1) := by decide +kernel
theorem dX11_alike_2 : decode cX11_alike 2 = .ok (.invokevirtual 189, 3) := by decide +kernel
theorem dX11_alike_5 : decode cX11_alike 5 = .ok (.ifCond .eq 23, 3) := by decide +kernel
theorem dX11_alike_8 : decode cX11_alike 8 = .ok (.aload_n 0, 1) := by decide +kernel
theorem dX11_alike_9 : decode cX11_alike 9 = .ok (.getfield 21, 3) := by decide +kernel
theorem dX11_alike_12 : decode cX11_alike 12 = .ok (.getfield 111, 3) := by decide +kernel
theorem dX11_alike_15 : decode cX11_alike 15 = .ok (.iload_n 1, 1) := by decide +kernel
theorem dX11_alike_16 : decode cX11_alike 16 = .ok (.invokevirtual 313, 3) := by decide +kernel
theorem dX11_alike_19 : decode cX11_alike 19 = .ok (.iconst 1, 1) := by decide +kernel
theorem dX11_alike_20 : decode cX11_alike 20 = .ok (.iload_n 1, 1) := by decide +kernel
theorem dX11_alike_21 : decode cX11_alike 21 = .ok (.ishl, 1) := by decide +kernel
theorem dX11_alike_22 : decode cX11_alike 22 = .ok (.iconst (-1), 1) := by decide +kernel
theorem dX11_alike_23 : decode cX11_alike 23 = .ok (.ixor, 1) := by decide +kernel
theorem dX11_alike_24 : decode cX11_alike 24 = .ok (.iand, 1) := by decide +kernel
theorem dX11_alike_25 : decode cX11_alike 25 = .ok (.goto 4, 3) := by decide +kernel
theorem dX11_alike_28 : decode cX11_alike 28 = .ok (.iconst (-1), 1) := by decide +kernel
theorem dX11_alike_29 : decode cX11_alike 29 = .ok (.ireturn, 1) := by decide +kernel
theorem dX11_kinds_0 : decode cX11_kinds 0 = .ok (.iconst 0, 1) := by decide +kernel
theorem dX11_kinds_1 : decode cX11_kinds 1 = .ok (.istore_n 1, 1) := by decide +kernel
theorem dX11_kinds_2 : decode cX11_kinds 2 = .ok (.iconst 0, 1) := by decide +kernel
theorem dX11_kinds_3 : decode cX11_kinds 3 = .ok (.istore_n 2, 1) := by decide +kernel
theorem dX11_kinds_4 : decode cX11_kinds 4 = .ok (.iload_n 2, 1) := by decide +kernel
theorem dX11_kinds_5 : decode cX11_kinds 5 = .ok (.aload_n 0, 1) := by decide +kernel
theorem dX11_kinds_6 : decode cX11_kinds 6 = .ok (.getfield 21, 3) := by decide +kernel
theorem dX11_kinds_9 : decode cX11_kinds 9 = .ok (.getfield 111, 3) := by decide +kernel
theorem dX11_kinds_12 : decode cX11_kinds 12 = .ok (.getfield 316, 3) := by decide +kernel
theorem dX11_kinds_15 : decode cX11_kinds 15 = .ok (.if_icmp .ge 32, 3) := by decide +kernel
theorem dX11_kinds_18 : decode cX11_kinds 18 = .ok (.aload_n 0, 1) := by decide +kernel
theorem dX11_kinds_19 : decode cX11_kinds 19 = .ok (.getfield 21, 3) := by decide +kernel
theorem dX11_kinds_22 : decode cX11_kinds 22 = .ok (.getfield 111, 3) := by decide +kernel
theorem dX11_kinds_25 : decode cX11_kinds 25 = .ok (.iload_n 2, 1) := by decide +kernel
theorem dX11_kinds_26 : decode cX11_kinds 26 = .ok (.invokevirtual 313, 3) := by decide +kernel
theorem dX11_kinds_29 : decode cX11_kinds 29 = .ok (.iconst 1, 1) := by decide +kernel
theorem dX11_kinds_30 : decode cX11_kinds 30 = .ok (.iload_n 2, 1) := by decide +kernel
theorem dX11_kinds_31 : decode cX11_kinds 31 = .ok (.ishl, 1) := by decide +kernel
theorem dX11_kinds_32 : decode cX11_kinds 32 = .ok (.iconst 1, 1) := by decide +kernel
theorem dX11_kinds_33 : decode cX11_kinds 33 = .ok (.isub, 1) := by decide +kernel
theorem dX11_kinds_34 : decode cX11_kinds 34 = .ok (.iand, 1) := by decide +kernel
theorem dX11_kinds_35 : decode cX11_kinds 35 = .ok (.ifCond .ne 6, 3) := by decide +kernel
theorem dX11_kinds_38 : decode cX11_kinds 38 = .ok (.iinc 1 1, 3) := by decide +kernel
theorem dX11_kinds_41 : decode cX11_kinds 41 = .ok (.iinc 2 1, 3) := by decide +kernel
theorem dX11_kinds_44 : decode cX11_kinds 44 = .ok (.goto (-40), 3) := by decide +kernel
theorem dX11_kinds_47 : decode cX11_kinds 47 = .ok (.iload_n 1, 1) := by decide +kernel
theorem dX11_kinds_48 : decode cX11_kinds 48 = .ok (.ireturn, 1) := by decide +kernel
theorem dX11_look_0 : decode cX11_look 0 = .ok (.aload_n 0, 1) := by decide +kernel
theorem dX11_look_1 : decode cX11_look 1 = .ok (.getfield 21, 3) := by decide +kernel
theorem dX11_look_4 : decode cX11_look 4 = .ok (.getfield 111, 3) := by decide +kernel
theorem dX11_look_7 : decode cX11_look 7 = .ok (.astore_n 2, 1) := by decide +kernel
theorem dX11_look_8 : decode cX11_look 8 = .ok (.iload_n 1, 1) := by decide +kernel
theorem dX11_look_9 : decode cX11_look 9 = .ok (.ifCond .eq 18, 3) := by decide +kernel
theorem dX11_look_12 : decode cX11_look 12 = .ok (.iload_n 1, 1) := by decide +kernel
theorem dX11_look_13 : decode cX11_look 13 = .ok (.iconst 1, 1) := by decide +kernel
theorem dX11_look_14 : decode cX11_look 14 = .ok (.aload_n 2, 1) := by decide +kernel
theorem dX11_look_15 : decode cX11_look 15 = .ok (.getfield 316, 3) := by decide +kernel
theorem dX11_look_18 : decode cX11_look 18 = .ok (.ishl, 1) := by decide +kernel
theorem dX11_look_19 : decode cX11_look 19 = .ok (.iconst 1, 1) := by decide +kernel
theorem dX11_look_20 : decode cX11_look 20 = .ok (.isub, 1) := by decide +kernel
theorem dX11_look_21 : decode cX11_look 21 = .ok (.iconst (-1), 1) := by decide +kernel
theorem dX11_look_22 : decode cX11_look 22 = .ok (.ixor, 1) := by decide +kernel
theorem dX11_look_23 : decode cX11_look 23 = .ok (.iand, 1) := by decide +kernel
theorem dX11_look_24 : decode cX11_look 24 = .ok (.ifCond .eq 5, 3) := by decide +kernel
theorem dX11_look_27 : decode cX11_look 27 = .ok (.iconst (-1), 1) := by decide +kernel
theorem dX11_look_28 : decode cX11_look 28 = .ok (.ireturn, 1) := by decide +kernel
theorem dX11_look_29 : decode cX11_look 29 = .ok (.iconst 0, 1) := by decide +kernel
theorem dX11_look_30 : decode cX11_look 30 = .ok (.istore_n 3, 1) := by decide +kernel
theorem dX11_look_31 : decode cX11_look 31 = .ok (.aload_n 2, 1) := by decide +kernel
theorem dX11_look_32 : decode cX11_look 32 = .ok (.iconst 0, 1) := by decide +kernel
theorem dX11_look_33 : decode cX11_look 33 = .ok (.iload_n 1, 1) := by decide +kernel
theorem dX11_look_34 : decode cX11_look 34 = .ok (.invokevirtual 319, 3) := by decide +kernel
theorem dX11_look_37 : decode cX11_look 37 = .ok (.istore 4, 2) := by decide +kernel
theorem dX11_look_39 : decode cX11_look 39 = .ok (.iconst 1, 1) := by decide +kernel
theorem dX11_look_40 : decode cX11_look 40 = .ok (.istore 5, 2) := by decide +kernel
theorem dX11_look_42 : decode cX11_look 42 = .ok (.iload 5, 2) := by decide +kernel
theorem dX11_look_44 : decode cX11_look 44 = .ok (.aload_n 2, 1) := by decide +kernel
theorem dX11_look_45 : decode cX11_look 45 = .ok (.getfield 322, 3) := by decide +kernel
theorem dX11_look_48 : decode cX11_look 48 = .ok (.if_icmp .ge 32, 3) := by decide +kernel
theorem dX11_look_51 : decode cX11_look 51 = .ok (.aload_n 2, 1) := by decide +kernel
theorem dX11_look_52 : decode cX11_look 52 = .ok (.iload 5, 2) := by decide +kernel
theorem dX11_look_54 : decode cX11_look 54 = .ok (.iload_n 1, 1) := by decide +kernel
theorem dX11_look_55 : decode cX11_look 55 = .ok (.invokevirtual 319, 3) := by decide +kernel
theorem dX11_look_58 : decode cX11_look 58 = .ok (.istore 6, 2) := by decide +kernel
theorem dX11_look_60 : decode cX11_look 60 = .ok (.iload 6, 2) := by decide +kernel
theorem dX11_look_62 : decode cX11_look 62 = .ok (.iload 4, 2) := by decide +kernel
theorem dX11_look_64 : decode cX11_look 64 = .ok (.if_icmp .ge 10, 3) := by decide +kernel
theorem dX11_look_67 : decode cX11_look 67 = .ok (.iload 5, 2) := by decide +kernel
theorem dX11_look_69 : decode cX11_look 69 = .ok (.istore_n 3, 1) := by decide +kernel
theorem dX11_look_70 : decode cX11_look 70 = .ok (.iload 6, 2) := by decide +kernel
theorem dX11_look_72 : decode cX11_look 72 = .ok (.istore 4, 2) := by decide +kernel
theorem dX11_look_74 : decode cX11_look 74 = .ok (.iinc 5 1, 3) := by decide +kernel
theorem dX11_look_77 : decode cX11_look 77 = .ok (.goto (-35), 3) := by decide +kernel
theorem dX11_look_80 : decode cX11_look 80 = .ok (.aload_n 0, 1) := by decide +kernel
theorem dX11_look_81 : decode cX11_look 81 = .ok (.iload 4, 2) := by decide +kernel
theorem dX11_look_83 : decode cX11_look 83 = .ok (.putfield 85, 3) := by decide +kernel
theorem dX11_look_86 : decode cX11_look 86 = .ok (.iload_n 3, 1) := by decide +kernel
theorem dX11_look_87 : decode cX11_look 87 = .ok (.ireturn, 1) := by decide +kernel
theorem dX11_left_0 : decode cX11_left 0 = .ok (.aload_n 0, 1) := by decide +kernel
theorem dX11_left_1 : decode cX11_left 1 = .ok (.getfield 85, 3) := by decide +kernel
theorem dX11_left_4 : decode cX11_left 4 = .ok (.ireturn, 1) := by decide +kernel
theorem dX11_fits_0 : decode cX11_fits 0 = .ok (.iconst (-1), 1) := by decide +kernel
theorem dX11_fits_1 : decode cX11_fits 1 = .ok (.istore_n 2, 1) := by decide +kernel
theorem dX11_fits_2 : decode cX11_fits 2 = .ok (.aload_n 0, 1) := by decide +kernel
theorem dX11_fits_3 : decode cX11_fits 3 = .ok (.iload_n 1, 1) := by decide +kernel
theorem dX11_fits_4 : decode cX11_fits 4 = .ok (.invokevirtual 146, 3) := by decide +kernel
theorem dX11_fits_7 : decode cX11_fits 7 = .ok (.ifCond .eq 32, 3) := by decide +kernel
theorem dX11_fits_10 : decode cX11_fits 10 = .ok (.aload_n 0, 1) := by decide +kernel
theorem dX11_fits_11 : decode cX11_fits 11 = .ok (.getfield 14, 3) := by decide +kernel
theorem dX11_fits_14 : decode cX11_fits 14 = .ok (.getfield 88, 3) := by decide +kernel
theorem dX11_fits_17 : decode cX11_fits 17 = .ok (.iconst 1, 1) := by decide +kernel
theorem dX11_fits_18 : decode cX11_fits 18 = .ok (.if_icmp .lt 21, 3) := by decide +kernel
theorem dX11_fits_21 : decode cX11_fits 21 = .ok (.aload_n 0, 1) := by decide +kernel
theorem dX11_fits_22 : decode cX11_fits 22 = .ok (.getfield 14, 3) := by decide +kernel
theorem dX11_fits_25 : decode cX11_fits 25 = .ok (.getfield 88, 3) := by decide +kernel
theorem dX11_fits_28 : decode cX11_fits 28 = .ok (.bipush 60, 2) := by decide +kernel
theorem dX11_fits_30 : decode cX11_fits 30 = .ok (.if_icmp .gt 9, 3) := by decide +kernel
theorem dX11_fits_33 : decode cX11_fits 33 = .ok (.aload_n 0, 1) := by decide +kernel
theorem dX11_fits_34 : decode cX11_fits 34 = .ok (.iload_n 1, 1) := by decide +kernel
theorem dX11_fits_35 : decode cX11_fits 35 = .ok (.invokevirtual 325, 3) := by decide +kernel
theorem dX11_fits_38 : decode cX11_fits 38 = .ok (.istore_n 2, 1) := by decide +kernel
theorem dX11_fits_39 : decode cX11_fits 39 = .ok (.aload_n 0, 1) := by decide +kernel
theorem dX11_fits_40 : decode cX11_fits 40 = .ok (.getfield 14, 3) := by decide +kernel
theorem dX11_fits_43 : decode cX11_fits 43 = .ok (.iconst 0, 1) := by decide +kernel
theorem dX11_fits_44 : decode cX11_fits 44 = .ok (.putfield 88, 3) := by decide +kernel
theorem dX11_fits_47 : decode cX11_fits 47 = .ok (.iload_n 2, 1) := by decide +kernel
theorem dX11_fits_48 : decode cX11_fits 48 = .ok (.ireturn, 1) := by decide +kernel
theorem dX11_heals_0 : decode cX11_heals 0 = .ok (.aload_n 0, 1) := by decide +kernel
theorem dX11_heals_1 : decode cX11_heals 1 = .ok (.iload_n 1, 1) := by decide +kernel
theorem dX11_heals_2 : decode cX11_heals 2 = .ok (.invokevirtual 189, 3) := by decide +kernel
theorem dX11_heals_5 : decode cX11_heals 5 = .ok (.ifCond .eq 35, 3) := by decide +kernel
theorem dX11_heals_8 : decode cX11_heals 8 = .ok (.aload_n 0, 1) := by decide +kernel
theorem dX11_heals_9 : decode cX11_heals 9 = .ok (.getfield 21, 3) := by decide +kernel
theorem dX11_heals_12 : decode cX11_heals 12 = .ok (.getfield 124, 3) := by decide +kernel
theorem dX11_heals_15 : decode cX11_heals 15 = .ok (.getfield 175, 3) := by decide +kernel
theorem dX11_heals_18 : decode cX11_heals 18 = .ok (.iload_n 1, 1) := by decide +kernel
theorem dX11_heals_19 : decode cX11_heals 19 = .ok (.invokestatic 171, 3) := by decide +kernel
theorem dX11_heals_22 : decode cX11_heals 22 = .ok (.ifCond .eq 18, 3) := by decide +kernel
theorem dX11_heals_25 : decode cX11_heals 25 = .ok (.aload_n 0, 1) := by decide +kernel
theorem dX11_heals_26 : decode cX11_heals 26 = .ok (.getfield 21, 3) := by decide +kernel
theorem dX11_heals_29 : decode cX11_heals 29 = .ok (.getfield 111, 3) := by decide +kernel
theorem dX11_heals_32 : decode cX11_heals 32 = .ok (.getfield 195, 3) := by decide +kernel
theorem dX11_heals_35 : decode cX11_heals 35 = .ok (.iload_n 1, 1) := by decide +kernel
theorem dX11_heals_36 : decode cX11_heals 36 = .ok (.iaload, 1) := by decide +kernel
theorem dX11_heals_37 : decode cX11_heals 37 = .ok (.ifCond .ne 5, 3) := by decide +kernel
theorem dX11_heals_40 : decode cX11_heals 40 = .ok (.iconst (-1), 1) := by decide +kernel
theorem dX11_heals_41 : decode cX11_heals 41 = .ok (.ireturn, 1) := by decide +kernel
theorem dX11_heals_42 : decode cX11_heals 42 = .ok (.aload_n 0, 1) := by decide +kernel
theorem dX11_heals_43 : decode cX11_heals 43 = .ok (.getfield 21, 3) := by decide +kernel
theorem dX11_heals_46 : decode cX11_heals 46 = .ok (.getfield 111, 3) := by decide +kernel
theorem dX11_heals_49 : decode cX11_heals 49 = .ok (.getfield 195, 3) := by decide +kernel
theorem dX11_heals_52 : decode cX11_heals 52 = .ok (.iload_n 1, 1) := by decide +kernel
theorem dX11_heals_53 : decode cX11_heals 53 = .ok (.iaload, 1) := by decide +kernel
theorem dX11_heals_54 : decode cX11_heals 54 = .ok (.aload_n 0, 1) := by decide +kernel
theorem dX11_heals_55 : decode cX11_heals 55 = .ok (.getfield 21, 3) := by decide +kernel
theorem dX11_heals_58 : decode cX11_heals 58 = .ok (.getfield 124, 3) := by decide +kernel
theorem dX11_heals_61 : decode cX11_heals 61 = .ok (.getfield 204, 3) := by decide +kernel
theorem dX11_heals_64 : decode cX11_heals 64 = .ok (.iload_n 1, 1) := by decide +kernel
theorem dX11_heals_65 : decode cX11_heals 65 = .ok (.iaload, 1) := by decide +kernel
theorem dX11_heals_66 : decode cX11_heals 66 = .ok (.isub, 1) := by decide +kernel
theorem dX11_heals_67 : decode cX11_heals 67 = .ok (.ireturn, 1) := by decide +kernel
theorem dX11_worksIn_0 : decode cX11_worksIn 0 = .ok (.aload_n 0, 1) := by decide +kernel
theorem dX11_worksIn_1 : decode cX11_worksIn 1 = .ok (.iload_n 1, 1) := by decide +kernel
theorem dX11_worksIn_2 : decode cX11_worksIn 2 = .ok (.invokevirtual 146, 3) := by decide +kernel
theorem dX11_worksIn_5 : decode cX11_worksIn 5 = .ok (.ifCond .ne 5, 3) := by decide +kernel
theorem dX11_worksIn_8 : decode cX11_worksIn 8 = .ok (.iconst (-1), 1) := by decide +kernel
theorem dX11_worksIn_9 : decode cX11_worksIn 9 = .ok (.ireturn, 1) := by decide +kernel
theorem dX11_worksIn_10 : decode cX11_worksIn 10 = .ok (.aload_n 0, 1) := by decide +kernel
theorem dX11_worksIn_11 : decode cX11_worksIn 11 = .ok (.getfield 39, 3) := by decide +kernel
theorem dX11_worksIn_14 : decode cX11_worksIn 14 = .ok (.aload_n 0, 1) := by decide +kernel
theorem dX11_worksIn_15 : decode cX11_worksIn 15 = .ok (.getfield 21, 3) := by decide +kernel
theorem dX11_worksIn_18 : decode cX11_worksIn 18 = .ok (.getfield 124, 3) := by decide +kernel
theorem dX11_worksIn_21 : decode cX11_worksIn 21 = .ok (.invokevirtual 328, 3) := by decide +kernel
theorem dX11_worksIn_24 : decode cX11_worksIn 24 = .ok (.iconst 0, 1) := by decide +kernel
theorem dX11_worksIn_25 : decode cX11_worksIn 25 = .ok (.istore_n 2, 1) := by decide +kernel
theorem dX11_worksIn_26 : decode cX11_worksIn 26 = .ok (.iload_n 2, 1) := by decide +kernel
theorem dX11_worksIn_27 : decode cX11_worksIn 27 = .ok (.sipush 240, 3) := by decide +kernel
theorem dX11_worksIn_30 : decode cX11_worksIn 30 = .ok (.if_icmp .gt 53, 3) := by decide +kernel
theorem dX11_worksIn_33 : decode cX11_worksIn 33 = .ok (.aload_n 0, 1) := by decide +kernel
theorem dX11_worksIn_34 : decode cX11_worksIn 34 = .ok (.getfield 39, 3) := by decide +kernel
theorem dX11_worksIn_37 : decode cX11_worksIn 37 = .ok (.aload_n 0, 1) := by decide +kernel
theorem dX11_worksIn_38 : decode cX11_worksIn 38 = .ok (.getfield 21, 3) := by decide +kernel
theorem dX11_worksIn_41 : decode cX11_worksIn 41 = .ok (.getfield 111, 3) := by decide +kernel
theorem dX11_worksIn_44 : decode cX11_worksIn 44 = .ok (.invokevirtual 182, 3) := by decide +kernel
theorem dX11_worksIn_47 : decode cX11_worksIn 47 = .ok (.iload_n 1, 1) := by decide +kernel
theorem dX11_worksIn_48 : decode cX11_worksIn 48 = .ok (.invokestatic 171, 3) := by decide +kernel
theorem dX11_worksIn_51 : decode cX11_worksIn 51 = .ok (.iconst 1, 1) := by decide +kernel
theorem dX11_worksIn_52 : decode cX11_worksIn 52 = .ok (.if_icmp .ne 5, 3) := by decide +kernel
theorem dX11_worksIn_55 : decode cX11_worksIn 55 = .ok (.iload_n 2, 1) := by decide +kernel
theorem dX11_worksIn_56 : decode cX11_worksIn 56 = .ok (.ireturn, 1) := by decide +kernel
theorem dX11_worksIn_57 : decode cX11_worksIn 57 = .ok (.aload_n 0, 1) := by decide +kernel
theorem dX11_worksIn_58 : decode cX11_worksIn 58 = .ok (.getfield 39, 3) := by decide +kernel
theorem dX11_worksIn_61 : decode cX11_worksIn 61 = .ok (.aload_n 0, 1) := by decide +kernel
theorem dX11_worksIn_62 : decode cX11_worksIn 62 = .ok (.getfield 21, 3) := by decide +kernel
theorem dX11_worksIn_65 : decode cX11_worksIn 65 = .ok (.getfield 111, 3) := by decide +kernel
theorem dX11_worksIn_68 : decode cX11_worksIn 68 = .ok (.iconst 1, 1) := by decide +kernel
theorem dX11_worksIn_69 : decode cX11_worksIn 69 = .ok (.invokevirtual 258, 3) := by decide +kernel
theorem dX11_worksIn_72 : decode cX11_worksIn 72 = .ok (.ifCond .ne 5, 3) := by decide +kernel
theorem dX11_worksIn_75 : decode cX11_worksIn 75 = .ok (.iconst (-1), 1) := by decide +kernel
theorem dX11_worksIn_76 : decode cX11_worksIn 76 = .ok (.ireturn, 1) := by decide +kernel
theorem dX11_worksIn_77 : decode cX11_worksIn 77 = .ok (.iinc 2 1, 3) := by decide +kernel
theorem dX11_worksIn_80 : decode cX11_worksIn 80 = .ok (.goto (-54), 3) := by decide +kernel
theorem dX11_worksIn_83 : decode cX11_worksIn 83 = .ok (.iconst (-1), 1) := by decide +kernel
theorem dX11_worksIn_84 : decode cX11_worksIn 84 = .ok (.ireturn, 1) := by decide +kernel
theorem dX11_tell_0 : decode cX11_tell 0 = .ok (.aload_n 0, 1) := by decide +kernel
theorem dX11_tell_1 : decode cX11_tell 1 = .ok (.iload_n 1, 1) := by decide +kernel
theorem dX11_tell_2 : decode cX11_tell 2 = .ok (.invokevirtual 146, 3) := by decide +kernel
theorem dX11_tell_5 : decode cX11_tell 5 = .ok (.ifCond .ne 5, 3) := by decide +kernel
theorem dX11_tell_8 : decode cX11_tell 8 = .ok (.iconst (-1), 1) := by decide +kernel
theorem dX11_tell_9 : decode cX11_tell 9 = .ok (.ireturn, 1) := by decide +kernel
theorem dX11_tell_10 : decode cX11_tell 10 = .ok (.aload_n 0, 1) := by decide +kernel
theorem dX11_tell_11 : decode cX11_tell 11 = .ok (.getfield 21, 3) := by decide +kernel
theorem dX11_tell_14 : decode cX11_tell 14 = .ok (.getfield 124, 3) := by decide +kernel
theorem dX11_tell_17 : decode cX11_tell 17 = .ok (.astore_n 2, 1) := by decide +kernel
theorem dX11_tell_18 : decode cX11_tell 18 = .ok (.aload_n 0, 1) := by decide +kernel
theorem dX11_tell_19 : decode cX11_tell 19 = .ok (.getfield 71, 3) := by decide +kernel
theorem dX11_tell_22 : decode cX11_tell 22 = .ok (.iconst 0, 1) := by decide +kernel
theorem dX11_tell_23 : decode cX11_tell 23 = .ok (.putfield 88, 3) := by decide +kernel
theorem dX11_tell_26 : decode cX11_tell 26 = .ok (.aload_n 0, 1) := by decide +kernel
theorem dX11_tell_27 : decode cX11_tell 27 = .ok (.getfield 71, 3) := by decide +kernel
theorem dX11_tell_30 : decode cX11_tell 30 = .ok (.aload_n 0, 1) := by decide +kernel
theorem dX11_tell_31 : decode cX11_tell 31 = .ok (.getfield 21, 3) := by decide +kernel
theorem dX11_tell_34 : decode cX11_tell 34 = .ok (.getfield 111, 3) := by decide +kernel
theorem dX11_tell_37 : decode cX11_tell 37 = .ok (.getfield 330, 3) := by decide +kernel
theorem dX11_tell_40 : decode cX11_tell 40 = .ok (.iload_n 1, 1) := by decide +kernel
theorem dX11_tell_41 : decode cX11_tell 41 = .ok (.laload, 1) := by decide +kernel
theorem dX11_tell_42 : decode cX11_tell 42 = .ok (.invokevirtual 334, 3) := by decide +kernel
theorem dX11_tell_45 : decode cX11_tell 45 = .ok (.aload_n 2, 1) := by decide +kernel
theorem dX11_tell_46 : decode cX11_tell 46 = .ok (.aload_n 0, 1) := by decide +kernel
theorem dX11_tell_47 : decode cX11_tell 47 = .ok (.getfield 21, 3) := by decide +kernel
theorem dX11_tell_50 : decode cX11_tell 50 = .ok (.getfield 111, 3) := by decide +kernel
theorem dX11_tell_53 : decode cX11_tell 53 = .ok (.iload_n 1, 1) := by decide +kernel
theorem dX11_tell_54 : decode cX11_tell 54 = .ok (.aload_n 2, 1) := by decide +kernel
theorem dX11_tell_55 : decode cX11_tell 55 = .ok (.getfield 175, 3) := by decide +kernel
theorem dX11_tell_58 : decode cX11_tell 58 = .ok (.invokevirtual 178, 3) := by decide +kernel
theorem dX11_tell_61 : decode cX11_tell 61 = .ok (.lookupswitch 133 #[(0, 43), (16, 56), (17, 82), (18, 95)], 43) := by decide +kernel
theorem dX11_tell_104 : decode cX11_tell 104 = .ok (.aload_n 0, 1) := by decide +kernel
theorem dX11_tell_105 : decode cX11_tell 105 = .ok (.getfield 71, 3) := by decide +kernel
theorem dX11_tell_108 : decode cX11_tell 108 = .ok (.ldc_w 338, 3) := by decide +kernel
theorem dX11_tell_111 : decode cX11_tell 111 = .ok (.invokevirtual 340, 3) := by decide +kernel
theorem dX11_tell_114 : decode cX11_tell 114 = .ok (.goto 113, 3) := by decide +kernel
theorem dX11_tell_117 : decode cX11_tell 117 = .ok (.aload_n 0, 1) := by decide +kernel
theorem dX11_tell_118 : decode cX11_tell 118 = .ok (.getfield 71, 3) := by decide +kernel
theorem dX11_tell_121 : decode cX11_tell 121 = .ok (.ldc_w 344, 3) := by decide +kernel
theorem dX11_tell_124 : decode cX11_tell 124 = .ok (.invokevirtual 340, 3) := by decide +kernel
theorem dX11_tell_127 : decode cX11_tell 127 = .ok (.aload_n 0, 1) := by decide +kernel
theorem dX11_tell_128 : decode cX11_tell 128 = .ok (.getfield 71, 3) := by decide +kernel
theorem dX11_tell_131 : decode cX11_tell 131 = .ok (.aload_n 2, 1) := by decide +kernel
theorem dX11_tell_132 : decode cX11_tell 132 = .ok (.getfield 165, 3) := by decide +kernel
theorem dX11_tell_135 : decode cX11_tell 135 = .ok (.iload_n 1, 1) := by decide +kernel
theorem dX11_tell_136 : decode cX11_tell 136 = .ok (.iaload, 1) := by decide +kernel
theorem dX11_tell_137 : decode cX11_tell 137 = .ok (.invokevirtual 346, 3) := by decide +kernel
theorem dX11_tell_140 : decode cX11_tell 140 = .ok (.goto 87, 3) := by decide +kernel
theorem dX11_tell_143 : decode cX11_tell 143 = .ok (.aload_n 0, 1) := by decide +kernel
theorem dX11_tell_144 : decode cX11_tell 144 = .ok (.getfield 71, 3) := by decide +kernel
theorem dX11_tell_147 : decode cX11_tell 147 = .ok (.ldc_w 349, 3) := by decide +kernel
theorem dX11_tell_150 : decode cX11_tell 150 = .ok (.invokevirtual 340, 3) := by decide +kernel
theorem dX11_tell_153 : decode cX11_tell 153 = .ok (.goto 74, 3) := by decide +kernel
theorem dX11_tell_156 : decode cX11_tell 156 = .ok (.aload_n 0, 1) := by decide +kernel
theorem dX11_tell_157 : decode cX11_tell 157 = .ok (.getfield 71, 3) := by decide +kernel
theorem dX11_tell_160 : decode cX11_tell 160 = .ok (.aload_n 2, 1) := by decide +kernel
theorem dX11_tell_161 : decode cX11_tell 161 = .ok (.aload_n 0, 1) := by decide +kernel
theorem dX11_tell_162 : decode cX11_tell 162 = .ok (.getfield 21, 3) := by decide +kernel
theorem dX11_tell_165 : decode cX11_tell 165 = .ok (.getfield 111, 3) := by decide +kernel
theorem dX11_tell_168 : decode cX11_tell 168 = .ok (.invokevirtual 182, 3) := by decide +kernel
theorem dX11_tell_171 : decode cX11_tell 171 = .ok (.iload_n 1, 1) := by decide +kernel
