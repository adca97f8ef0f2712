theorem dX0_init_0 : decode cX0_init 0 = .ok (.aload_n 0, 1) := by decide +kernel
theorem dX0_init_1 : decode cX0_init 1 = .ok (.invokespecial 3, 3) := by decide +kernel
theorem dX0_init_4 : decode cX0_init 4 = .ok (.aload_n 0, 1) := by decide +kernel
theorem dX0_init_5 : decode cX0_init 5 = .ok (.iload_n 1, 1) := by decide +kernel
theorem dX0_init_6 : decode cX0_init 6 = .ok (.newarray .byte, 2) := by decide +kernel
theorem dX0_init_8 : decode cX0_init 8 = .ok (.putfield 9, 3) := by decide +kernel
theorem dX0_init_11 : decode cX0_init 11 = .ok (.return_, 1) := by decide +kernel
theorem dX0_at_0 : decode cX0_at 0 = .ok (.iload_n 1, 1) := by decide +kernel
theorem dX0_at_1 : decode cX0_at 1 = .ok (.ifCond .lt 24, 3) := by decide +kernel
theorem dX0_at_4 : decode cX0_at 4 = .ok (.iload_n 1, 1) := by decide +kernel
theorem dX0_at_5 : decode cX0_at 5 = .ok (.aload_n 0, 1) := by decide +kernel
theorem dX0_at_6 : decode cX0_at 6 = .ok (.getfield 15, 3) := by decide +kernel
theorem dX0_at_9 : decode cX0_at 9 = .ok (.if_icmp .ge 16, 3) := by decide +kernel
theorem dX0_at_12 : decode cX0_at 12 = .ok (.aload_n 0, 1) := by decide +kernel
theorem dX0_at_13 : decode cX0_at 13 = .ok (.getfield 9, 3) := by decide +kernel
theorem dX0_at_16 : decode cX0_at 16 = .ok (.iload_n 1, 1) := by decide +kernel
theorem dX0_at_17 : decode cX0_at 17 = .ok (.baload, 1) := by decide +kernel
theorem dX0_at_18 : decode cX0_at 18 = .ok (.sipush 255, 3) := by decide +kernel
theorem dX0_at_21 : decode cX0_at 21 = .ok (.iand, 1) := by decide +kernel
theorem dX0_at_22 : decode cX0_at 22 = .ok (.goto 4, 3) := by decide +kernel
theorem dX0_at_25 : decode cX0_at 25 = .ok (.iconst (-1), 1) := by decide +kernel
theorem dX0_at_26 : decode cX0_at 26 = .ok (.ireturn, 1) := by decide +kernel
theorem dX0_add_0 : decode cX0_add 0 = .ok (.aload_n 0, 1) := by decide +kernel
theorem dX0_add_1 : decode cX0_add 1 = .ok (.getfield 15, 3) := by decide +kernel
theorem dX0_add_4 : decode cX0_add 4 = .ok (.aload_n 0, 1) := by decide +kernel
theorem dX0_add_5 : decode cX0_add 5 = .ok (.getfield 9, 3) := by decide +kernel
theorem dX0_add_8 : decode cX0_add 8 = .ok (.arraylength, 1) := by decide +kernel
theorem dX0_add_9 : decode cX0_add 9 = .ok (.if_icmp .ge 24, 3) := by decide +kernel
theorem dX0_add_12 : decode cX0_add 12 = .ok (.aload_n 0, 1) := by decide +kernel
theorem dX0_add_13 : decode cX0_add 13 = .ok (.getfield 9, 3) := by decide +kernel
theorem dX0_add_16 : decode cX0_add 16 = .ok (.aload_n 0, 1) := by decide +kernel
theorem dX0_add_17 : decode cX0_add 17 = .ok (.getfield 15, 3) := by decide +kernel
theorem dX0_add_20 : decode cX0_add 20 = .ok (.iload_n 1, 1) := by decide +kernel
theorem dX0_add_21 : decode cX0_add 21 = .ok (.i2b, 1) := by decide +kernel
theorem dX0_add_22 : decode cX0_add 22 = .ok (.bastore, 1) := by decide +kernel
theorem dX0_add_23 : decode cX0_add 23 = .ok (.aload_n 0, 1) := by decide +kernel
theorem dX0_add_24 : decode cX0_add 24 = .ok (.dup, 1) := by decide +kernel
theorem dX0_add_25 : decode cX0_add 25 = .ok (.getfield 15, 3) := by decide +kernel
theorem dX0_add_28 : decode cX0_add 28 = .ok (.iconst 1, 1) := by decide +kernel
theorem dX0_add_29 : decode cX0_add 29 = .ok (.iadd, 1) := by decide +kernel
theorem dX0_add_30 : decode cX0_add 30 = .ok (.putfield 15, 3) := by decide +kernel
theorem dX0_add_33 : decode cX0_add 33 = .ok (.return_, 1) := by decide +kernel
theorem dX0_addInt_0 : decode cX0_addInt 0 = .ok (.aload_n 0, 1) := by decide +kernel
theorem dX0_addInt_1 : decode cX0_addInt 1 = .ok (.iload_n 1, 1) := by decide +kernel
theorem dX0_addInt_2 : decode cX0_addInt 2 = .ok (.bipush 24, 2) := by decide +kernel
theorem dX0_addInt_4 : decode cX0_addInt 4 = .ok (.iushr, 1) := by decide +kernel
theorem dX0_addInt_5 : decode cX0_addInt 5 = .ok (.invokevirtual 19, 3) := by decide +kernel
theorem dX0_addInt_8 : decode cX0_addInt 8 = .ok (.aload_n 0, 1) := by decide +kernel
theorem dX0_addInt_9 : decode cX0_addInt 9 = .ok (.iload_n 1, 1) := by decide +kernel
theorem dX0_addInt_10 : decode cX0_addInt 10 = .ok (.bipush 16, 2) := by decide +kernel
theorem dX0_addInt_12 : decode cX0_addInt 12 = .ok (.iushr, 1) := by decide +kernel
theorem dX0_addInt_13 : decode cX0_addInt 13 = .ok (.invokevirtual 19, 3) := by decide +kernel
theorem dX0_addInt_16 : decode cX0_addInt 16 = .ok (.aload_n 0, 1) := by decide +kernel
theorem dX0_addInt_17 : decode cX0_addInt 17 = .ok (.iload_n 1, 1) := by decide +kernel
theorem dX0_addInt_18 : decode cX0_addInt 18 = .ok (.bipush 8, 2) := by decide +kernel
theorem dX0_addInt_20 : decode cX0_addInt 20 = .ok (.iushr, 1) := by decide +kernel
theorem dX0_addInt_21 : decode cX0_addInt 21 = .ok (.invokevirtual 19, 3) := by decide +kernel
theorem dX0_addInt_24 : decode cX0_addInt 24 = .ok (.aload_n 0, 1) := by decide +kernel
theorem dX0_addInt_25 : decode cX0_addInt 25 = .ok (.iload_n 1, 1) := by decide +kernel
theorem dX0_addInt_26 : decode cX0_addInt 26 = .ok (.invokevirtual 19, 3) := by decide +kernel
theorem dX0_addInt_29 : decode cX0_addInt 29 = .ok (.return_, 1) := by decide +kernel
theorem dX0_addWord_0 : decode cX0_addWord 0 = .ok (.bipush 48, 2) := by decide +kernel
theorem dX0_addWord_2 : decode cX0_addWord 2 = .ok (.istore_n 3, 1) := by decide +kernel
theorem dX0_addWord_3 : decode cX0_addWord 3 = .ok (.iload_n 3, 1) := by decide +kernel
theorem dX0_addWord_4 : decode cX0_addWord 4 = .ok (.ifCond .lt 30, 3) := by decide +kernel
theorem dX0_addWord_7 : decode cX0_addWord 7 = .ok (.lload_n 1, 1) := by decide +kernel
theorem dX0_addWord_8 : decode cX0_addWord 8 = .ok (.iload_n 3, 1) := by decide +kernel
theorem dX0_addWord_9 : decode cX0_addWord 9 = .ok (.lushr, 1) := by decide +kernel
theorem dX0_addWord_10 : decode cX0_addWord 10 = .ok (.l2i, 1) := by decide +kernel
theorem dX0_addWord_11 : decode cX0_addWord 11 = .ok (.sipush 255, 3) := by decide +kernel
theorem dX0_addWord_14 : decode cX0_addWord 14 = .ok (.iand, 1) := by decide +kernel
theorem dX0_addWord_15 : decode cX0_addWord 15 = .ok (.istore 4, 2) := by decide +kernel
theorem dX0_addWord_17 : decode cX0_addWord 17 = .ok (.iload 4, 2) := by decide +kernel
theorem dX0_addWord_19 : decode cX0_addWord 19 = .ok (.ifCond .eq 9, 3) := by decide +kernel
theorem dX0_addWord_22 : decode cX0_addWord 22 = .ok (.aload_n 0, 1) := by decide +kernel
theorem dX0_addWord_23 : decode cX0_addWord 23 = .ok (.iload 4, 2) := by decide +kernel
theorem dX0_addWord_25 : decode cX0_addWord 25 = .ok (.invokevirtual 19, 3) := by decide +kernel
theorem dX0_addWord_28 : decode cX0_addWord 28 = .ok (.iinc 3 (-8), 3) := by decide +kernel
theorem dX0_addWord_31 : decode cX0_addWord 31 = .ok (.goto (-28), 3) := by decide +kernel
theorem dX0_addWord_34 : decode cX0_addWord 34 = .ok (.return_, 1) := by decide +kernel
theorem dX0_addText_0 : decode cX0_addText 0 = .ok (.iconst 0, 1) := by decide +kernel
theorem dX0_addText_1 : decode cX0_addText 1 = .ok (.istore_n 2, 1) := by decide +kernel
theorem dX0_addText_2 : decode cX0_addText 2 = .ok (.iload_n 2, 1) := by decide +kernel
theorem dX0_addText_3 : decode cX0_addText 3 = .ok (.aload_n 1, 1) := by decide +kernel
theorem dX0_addText_4 : decode cX0_addText 4 = .ok (.invokevirtual 23, 3) := by decide +kernel
theorem dX0_addText_7 : decode cX0_addText 7 = .ok (.if_icmp .ge 18, 3) := by decide +kernel
theorem dX0_addText_10 : decode cX0_addText 10 = .ok (.aload_n 0, 1) := by decide +kernel
theorem dX0_addText_11 : decode cX0_addText 11 = .ok (.aload_n 1, 1) := by decide +kernel
theorem dX0_addText_12 : decode cX0_addText 12 = .ok (.iload_n 2, 1) := by decide +kernel
theorem dX0_addText_13 : decode cX0_addText 13 = .ok (.invokevirtual 29, 3) := by decide +kernel
theorem dX0_addText_16 : decode cX0_addText 16 = .ok (.invokevirtual 19, 3) := by decide +kernel
theorem dX0_addText_19 : decode cX0_addText 19 = .ok (.iinc 2 1, 3) := by decide +kernel
theorem dX0_addText_22 : decode cX0_addText 22 = .ok (.goto (-20), 3) := by decide +kernel
theorem dX0_addText_25 : decode cX0_addText 25 = .ok (.return_, 1) := by decide +kernel
theorem dX0_addNumber_0 : decode cX0_addNumber 0 = .ok (.iload_n 1, 1) := by decide +kernel
theorem dX0_addNumber_1 : decode cX0_addNumber 1 = .ok (.bipush 10, 2) := by decide +kernel
theorem dX0_addNumber_3 : decode cX0_addNumber 3 = .ok (.if_icmp .lt 17, 3) := by decide +kernel
theorem dX0_addNumber_6 : decode cX0_addNumber 6 = .ok (.aload_n 0, 1) := by decide +kernel
theorem dX0_addNumber_7 : decode cX0_addNumber 7 = .ok (.bipush 48, 2) := by decide +kernel
theorem dX0_addNumber_9 : decode cX0_addNumber 9 = .ok (.iload_n 1, 1) := by decide +kernel
theorem dX0_addNumber_10 : decode cX0_addNumber 10 = .ok (.bipush 10, 2) := by decide +kernel
theorem dX0_addNumber_12 : decode cX0_addNumber 12 = .ok (.idiv, 1) := by decide +kernel
theorem dX0_addNumber_13 : decode cX0_addNumber 13 = .ok (.bipush 10, 2) := by decide +kernel
theorem dX0_addNumber_15 : decode cX0_addNumber 15 = .ok (.irem, 1) := by decide +kernel
theorem dX0_addNumber_16 : decode cX0_addNumber 16 = .ok (.iadd, 1) := by decide +kernel
theorem dX0_addNumber_17 : decode cX0_addNumber 17 = .ok (.invokevirtual 19, 3) := by decide +kernel
theorem dX0_addNumber_20 : decode cX0_addNumber 20 = .ok (.aload_n 0, 1) := by decide +kernel
theorem dX0_addNumber_21 : decode cX0_addNumber 21 = .ok (.bipush 48, 2) := by decide +kernel
theorem dX0_addNumber_23 : decode cX0_addNumber 23 = .ok (.iload_n 1, 1) := by decide +kernel
theorem dX0_addNumber_24 : decode cX0_addNumber 24 = .ok (.bipush 10, 2) := by decide +kernel
theorem dX0_addNumber_26 : decode cX0_addNumber 26 = .ok (.irem, 1) := by decide +kernel
theorem dX0_addNumber_27 : decode cX0_addNumber 27 = .ok (.iadd, 1) := by decide +kernel
theorem dX0_addNumber_28 : decode cX0_addNumber 28 = .ok (.invokevirtual 19, 3) := by decide +kernel
theorem dX0_addNumber_31 : decode cX0_addNumber 31 = .ok (.return_, 1) := by decide +kernel
theorem dX1_init_0 : decode cX1_init 0 = .ok (.aload_n 0, 1) := by decide +kernel
theorem dX1_init_1 : decode cX1_init 1 = .ok (.invokespecial 3, 3) := by decide +kernel
theorem dX1_init_4 : decode cX1_init 4 = .ok (.aload_n 0, 1) := by decide +kernel
theorem dX1_init_5 : decode cX1_init 5 = .ok (.bipush 9, 2) := by decide +kernel
theorem dX1_init_7 : decode cX1_init 7 = .ok (.anewarray 11, 3) := by decide +kernel
theorem dX1_init_10 : decode cX1_init 10 = .ok (.putfield 13, 3) := by decide +kernel
theorem dX1_init_13 : decode cX1_init 13 = .ok (.iconst 0, 1) := by decide +kernel
theorem dX1_init_14 : decode cX1_init 14 = .ok (.istore_n 1, 1) := by decide +kernel
theorem dX1_init_15 : decode cX1_init 15 = .ok (.iload_n 1, 1) := by decide +kernel
theorem dX1_init_16 : decode cX1_init 16 = .ok (.bipush 9, 2) := by decide +kernel
theorem dX1_init_18 : decode cX1_init 18 = .ok (.if_icmp .ge 22, 3) := by decide +kernel
theorem dX1_init_21 : decode cX1_init 21 = .ok (.aload_n 0, 1) := by decide +kernel
theorem dX1_init_22 : decode cX1_init 22 = .ok (.getfield 13, 3) := by decide +kernel
theorem dX1_init_25 : decode cX1_init 25 = .ok (.iload_n 1, 1) := by decide +kernel
theorem dX1_init_26 : decode cX1_init 26 = .ok (.new 11, 3) := by decide +kernel
theorem dX1_init_29 : decode cX1_init 29 = .ok (.dup, 1) := by decide +kernel
theorem dX1_init_30 : decode cX1_init 30 = .ok (.invokespecial 17, 3) := by decide +kernel
theorem dX1_init_33 : decode cX1_init 33 = .ok (.aastore, 1) := by decide +kernel
theorem dX1_init_34 : decode cX1_init 34 = .ok (.iinc 1 1, 3) := by decide +kernel
theorem dX1_init_37 : decode cX1_init 37 = .ok (.goto (-22), 3) := by decide +kernel
theorem dX1_init_40 : decode cX1_init 40 = .ok (.return_, 1) := by decide +kernel
theorem dX1_clear_0 : decode cX1_clear 0 = .ok (.aload_n 0, 1) := by decide +kernel
theorem dX1_clear_1 : decode cX1_clear 1 = .ok (.iconst 0, 1) := by decide +kernel
theorem dX1_clear_2 : decode cX1_clear 2 = .ok (.putfield 18, 3) := by decide +kernel
theorem dX1_clear_5 : decode cX1_clear 5 = .ok (.return_, 1) := by decide +kernel
theorem dX1_prepare_0 : decode cX1_prepare 0 = .ok (.aload_n 0, 1) := by decide +kernel
theorem dX1_prepare_1 : decode cX1_prepare 1 = .ok (.getfield 13, 3) := by decide +kernel
theorem dX1_prepare_4 : decode cX1_prepare 4 = .ok (.aload_n 0, 1) := by decide +kernel
theorem dX1_prepare_5 : decode cX1_prepare 5 = .ok (.getfield 22, 3) := by decide +kernel
theorem dX1_prepare_8 : decode cX1_prepare 8 = .ok (.aload_n 0, 1) := by decide +kernel
theorem dX1_prepare_9 : decode cX1_prepare 9 = .ok (.getfield 18, 3) := by decide +kernel
theorem dX1_prepare_12 : decode cX1_prepare 12 = .ok (.iadd, 1) := by decide +kernel
theorem dX1_prepare_13 : decode cX1_prepare 13 = .ok (.bipush 9, 2) := by decide +kernel
theorem dX1_prepare_15 : decode cX1_prepare 15 = .ok (.irem, 1) := by decide +kernel
theorem dX1_prepare_16 : decode cX1_prepare 16 = .ok (.aaload, 1) := by decide +kernel
theorem dX1_prepare_17 : decode cX1_prepare 17 = .ok (.aload_n 1, 1) := by decide +kernel
theorem dX1_prepare_18 : decode cX1_prepare 18 = .ok (.invokevirtual 25, 3) := by decide +kernel
theorem dX1_prepare_21 : decode cX1_prepare 21 = .ok (.return_, 1) := by decide +kernel
theorem dX1_commit_0 : decode cX1_commit 0 = .ok (.aload_n 0, 1) := by decide +kernel
theorem dX1_commit_1 : decode cX1_commit 1 = .ok (.getfield 18, 3) := by decide +kernel
theorem dX1_commit_4 : decode cX1_commit 4 = .ok (.bipush 8, 2) := by decide +kernel
theorem dX1_commit_6 : decode cX1_commit 6 = .ok (.if_icmp .ge 16, 3) := by decide +kernel
theorem dX1_commit_9 : decode cX1_commit 9 = .ok (.aload_n 0, 1) := by decide +kernel
theorem dX1_commit_10 : decode cX1_commit 10 = .ok (.dup, 1) := by decide +kernel
theorem dX1_commit_11 : decode cX1_commit 11 = .ok (.getfield 18, 3) := by decide +kernel
theorem dX1_commit_14 : decode cX1_commit 14 = .ok (.iconst 1, 1) := by decide +kernel
theorem dX1_commit_15 : decode cX1_commit 15 = .ok (.iadd, 1) := by decide +kernel
theorem dX1_commit_16 : decode cX1_commit 16 = .ok (.putfield 18, 3) := by decide +kernel
theorem dX1_commit_19 : decode cX1_commit 19 = .ok (.goto 16, 3) := by decide +kernel
theorem dX1_commit_22 : decode cX1_commit 22 = .ok (.aload_n 0, 1) := by decide +kernel
theorem dX1_commit_23 : decode cX1_commit 23 = .ok (.aload_n 0, 1) := by decide +kernel
theorem dX1_commit_24 : decode cX1_commit 24 = .ok (.getfield 22, 3) := by decide +kernel
theorem dX1_commit_27 : decode cX1_commit 27 = .ok (.iconst 1, 1) := by decide +kernel
theorem dX1_commit_28 : decode cX1_commit 28 = .ok (.iadd, 1) := by decide +kernel
theorem dX1_commit_29 : decode cX1_commit 29 = .ok (.bipush 9, 2) := by decide +kernel
theorem dX1_commit_31 : decode cX1_commit 31 = .ok (.irem, 1) := by decide +kernel
theorem dX1_commit_32 : decode cX1_commit 32 = .ok (.putfield 22, 3) := by decide +kernel
theorem dX1_commit_35 : decode cX1_commit 35 = .ok (.return_, 1) := by decide +kernel
theorem dX1_takeBack_0 : decode cX1_takeBack 0 = .ok (.aload_n 0, 1) := by decide +kernel
theorem dX1_takeBack_1 : decode cX1_takeBack 1 = .ok (.getfield 18, 3) := by decide +kernel
theorem dX1_takeBack_4 : decode cX1_takeBack 4 = .ok (.ifCond .ne 5, 3) := by decide +kernel
theorem dX1_takeBack_7 : decode cX1_takeBack 7 = .ok (.iconst (-1), 1) := by decide +kernel
theorem dX1_takeBack_8 : decode cX1_takeBack 8 = .ok (.ireturn, 1) := by decide +kernel
theorem dX1_takeBack_9 : decode cX1_takeBack 9 = .ok (.aload_n 0, 1) := by decide +kernel
theorem dX1_takeBack_10 : decode cX1_takeBack 10 = .ok (.dup, 1) := by decide +kernel
theorem dX1_takeBack_11 : decode cX1_takeBack 11 = .ok (.getfield 18, 3) := by decide +kernel
theorem dX1_takeBack_14 : decode cX1_takeBack 14 = .ok (.iconst 1, 1) := by decide +kernel
theorem dX1_takeBack_15 : decode cX1_takeBack 15 = .ok (.isub, 1) := by decide +kernel
theorem dX1_takeBack_16 : decode cX1_takeBack 16 = .ok (.putfield 18, 3) := by decide +kernel
theorem dX1_takeBack_19 : decode cX1_takeBack 19 = .ok (.aload_n 1, 1) := by decide +kernel
theorem dX1_takeBack_20 : decode cX1_takeBack 20 = .ok (.aload_n 0, 1) := by decide +kernel
theorem dX1_takeBack_21 : decode cX1_takeBack 21 = .ok (.getfield 13, 3) := by decide +kernel
theorem dX1_takeBack_24 : decode cX1_takeBack 24 = .ok (.aload_n 0, 1) := by decide +kernel
theorem dX1_takeBack_25 : decode cX1_takeBack 25 = .ok (.getfield 22, 3) := by decide +kernel
theorem dX1_takeBack_28 : decode cX1_takeBack 28 = .ok (.aload_n 0, 1) := by decide +kernel
theorem dX1_takeBack_29 : decode cX1_takeBack 29 = .ok (.getfield 18, 3) := by decide +kernel
theorem dX1_takeBack_32 : decode cX1_takeBack 32 = .ok (.iadd, 1) := by decide +kernel
theorem dX1_takeBack_33 : decode cX1_takeBack 33 = .ok (.bipush 9, 2) := by decide +kernel
theorem dX1_takeBack_35 : decode cX1_takeBack 35 = .ok (.irem, 1) := by decide +kernel
theorem dX1_takeBack_36 : decode cX1_takeBack 36 = .ok (.aaload, 1) := by decide +kernel
theorem dX1_takeBack_37 : decode cX1_takeBack 37 = .ok (.invokevirtual 25, 3) := by decide +kernel
theorem dX1_takeBack_40 : decode cX1_takeBack 40 = .ok (.aload_n 0, 1) := by decide +kernel
theorem dX1_takeBack_41 : decode cX1_takeBack 41 = .ok (.getfield 18, 3) := by decide +kernel
theorem dX1_takeBack_44 : decode cX1_takeBack 44 = .ok (.ireturn, 1) := by decide +kernel
theorem dX2_init_0 : decode cX2_init 0 = .ok (.aload_n 0, 1) := by decide +kernel
theorem dX2_init_1 : decode cX2_init 1 = .ok (.invokespecial 3, 3) := by decide +kernel
theorem dX2_init_4 : decode cX2_init 4 = .ok (.aload_n 0, 1) := by decide +kernel
theorem dX2_init_5 : decode cX2_init 5 = .ok (.bipush 6, 2) := by decide +kernel
theorem dX2_init_7 : decode cX2_init 7 = .ok (.newarray .long, 2) := by decide +kernel
theorem dX2_init_9 : decode cX2_init 9 = .ok (.putfield 9, 3) := by decide +kernel
theorem dX2_init_12 : decode cX2_init 12 = .ok (.aload_n 0, 1) := by decide +kernel
theorem dX2_init_13 : decode cX2_init 13 = .ok (.bipush 6, 2) := by decide +kernel
theorem dX2_init_15 : decode cX2_init 15 = .ok (.newarray .int, 2) := by decide +kernel
theorem dX2_init_17 : decode cX2_init 17 = .ok (.putfield 15, 3) := by decide +kernel
theorem dX2_init_20 : decode cX2_init 20 = .ok (.aload_n 0, 1) := by decide +kernel
theorem dX2_init_21 : decode cX2_init 21 = .ok (.bipush 6, 2) := by decide +kernel
theorem dX2_init_23 : decode cX2_init 23 = .ok (.newarray .int, 2) := by decide +kernel
theorem dX2_init_25 : decode cX2_init 25 = .ok (.putfield 19, 3) := by decide +kernel
theorem dX2_init_28 : decode cX2_init 28 = .ok (.aload_n 0, 1) := by decide +kernel
theorem dX2_init_29 : decode cX2_init 29 = .ok (.bipush 6, 2) := by decide +kernel
theorem dX2_init_31 : decode cX2_init 31 = .ok (.newarray .int, 2) := by decide +kernel
theorem dX2_init_33 : decode cX2_init 33 = .ok (.putfield 22, 3) := by decide +kernel
theorem dX2_init_36 : decode cX2_init 36 = .ok (.aload_n 0, 1) := by decide +kernel
theorem dX2_init_37 : decode cX2_init 37 = .ok (.bipush 6, 2) := by decide +kernel
theorem dX2_init_39 : decode cX2_init 39 = .ok (.newarray .int, 2) := by decide +kernel
theorem dX2_init_41 : decode cX2_init 41 = .ok (.putfield 25, 3) := by decide +kernel
theorem dX2_init_44 : decode cX2_init 44 = .ok (.aload_n 0, 1) := by decide +kernel
theorem dX2_init_45 : decode cX2_init 45 = .ok (.bipush 6, 2) := by decide +kernel
theorem dX2_init_47 : decode cX2_init 47 = .ok (.newarray .int, 2) := by decide +kernel
theorem dX2_init_49 : decode cX2_init 49 = .ok (.putfield 28, 3) := by decide +kernel
theorem dX2_init_52 : decode cX2_init 52 = .ok (.aload_n 0, 1) := by decide +kernel
theorem dX2_init_53 : decode cX2_init 53 = .ok (.bipush 6, 2) := by decide +kernel
theorem dX2_init_55 : decode cX2_init 55 = .ok (.newarray .int, 2) := by decide +kernel
theorem dX2_init_57 : decode cX2_init 57 = .ok (.putfield 31, 3) := by decide +kernel
theorem dX2_init_60 : decode cX2_init 60 = .ok (.aload_n 0, 1) := by decide +kernel
theorem dX2_init_61 : decode cX2_init 61 = .ok (.bipush 8, 2) := by decide +kernel
theorem dX2_init_63 : decode cX2_init 63 = .ok (.newarray .long, 2) := by decide +kernel
theorem dX2_init_65 : decode cX2_init 65 = .ok (.putfield 34, 3) := by decide +kernel
theorem dX2_init_68 : decode cX2_init 68 = .ok (.aload_n 0, 1) := by decide +kernel
theorem dX2_init_69 : decode cX2_init 69 = .ok (.bipush 8, 2) := by decide +kernel
theorem dX2_init_71 : decode cX2_init 71 = .ok (.newarray .int, 2) := by decide +kernel
theorem dX2_init_73 : decode cX2_init 73 = .ok (.putfield 37, 3) := by decide +kernel
theorem dX2_init_76 : decode cX2_init 76 = .ok (.aload_n 0, 1) := by decide +kernel
theorem dX2_init_77 : decode cX2_init 77 = .ok (.bipush 8, 2) := by decide +kernel
theorem dX2_init_79 : decode cX2_init 79 = .ok (.newarray .int, 2) := by decide +kernel
theorem dX2_init_81 : decode cX2_init 81 = .ok (.putfield 40, 3) := by decide +kernel
theorem dX2_init_84 : decode cX2_init 84 = .ok (.aload_n 0, 1) := by decide +kernel
theorem dX2_init_85 : decode cX2_init 85 = .ok (.bipush 8, 2) := by decide +kernel
theorem dX2_init_87 : decode cX2_init 87 = .ok (.newarray .int, 2) := by decide +kernel
theorem dX2_init_89 : decode cX2_init 89 = .ok (.putfield 43, 3) := by decide +kernel
theorem dX2_init_92 : decode cX2_init 92 = .ok (.aload_n 0, 1) := by decide +kernel
theorem dX2_init_93 : decode cX2_init 93 = .ok (.bipush 8, 2) := by decide +kernel
theorem dX2_init_95 : decode cX2_init 95 = .ok (.newarray .int, 2) := by decide +kernel
theorem dX2_init_97 : decode cX2_init 97 = .ok (.putfield 46, 3) := by decide +kernel
theorem dX2_init_100 : decode cX2_init 100 = .ok (.aload_n 0, 1) := by decide +kernel
theorem dX2_init_101 : decode cX2_init 101 = .ok (.bipush 24, 2) := by decide +kernel
theorem dX2_init_103 : decode cX2_init 103 = .ok (.newarray .int, 2) := by decide +kernel
theorem dX2_init_105 : decode cX2_init 105 = .ok (.putfield 49, 3) := by decide +kernel
theorem dX2_init_108 : decode cX2_init 108 = .ok (.return_, 1) := by decide +kernel
theorem dX2_clear_0 : decode cX2_clear 0 = .ok (.aload_n 0, 1) := by decide +kernel
theorem dX2_clear_1 : decode cX2_clear 1 = .ok (.iconst 0, 1) := by decide +kernel
theorem dX2_clear_2 : decode cX2_clear 2 = .ok (.putfield 52, 3) := by decide +kernel
theorem dX2_clear_5 : decode cX2_clear 5 = .ok (.aload_n 0, 1) := by decide +kernel
theorem dX2_clear_6 : decode cX2_clear 6 = .ok (.iconst 0, 1) := by decide +kernel
theorem dX2_clear_7 : decode cX2_clear 7 = .ok (.putfield 56, 3) := by decide +kernel
theorem dX2_clear_10 : decode cX2_clear 10 = .ok (.aload_n 0, 1) := by decide +kernel
theorem dX2_clear_11 : decode cX2_clear 11 = .ok (.iconst 0, 1) := by decide +kernel
theorem dX2_clear_12 : decode cX2_clear 12 = .ok (.putfield 59, 3) := by decide +kernel
theorem dX2_clear_15 : decode cX2_clear 15 = .ok (.iconst 0, 1) := by decide +kernel
theorem dX2_clear_16 : decode cX2_clear 16 = .ok (.istore_n 1, 1) := by decide +kernel
theorem dX2_clear_17 : decode cX2_clear 17 = .ok (.iload_n 1, 1) := by decide +kernel
theorem dX2_clear_18 : decode cX2_clear 18 = .ok (.aload_n 0, 1) := by decide +kernel
theorem dX2_clear_19 : decode cX2_clear 19 = .ok (.getfield 49, 3) := by decide +kernel
theorem dX2_clear_22 : decode cX2_clear 22 = .ok (.arraylength, 1) := by decide +kernel
theorem dX2_clear_23 : decode cX2_clear 23 = .ok (.if_icmp .ge 16, 3) := by decide +kernel
theorem dX2_clear_26 : decode cX2_clear 26 = .ok (.aload_n 0, 1) := by decide +kernel
theorem dX2_clear_27 : decode cX2_clear 27 = .ok (.getfield 49, 3) := by decide +kernel
theorem dX2_clear_30 : decode cX2_clear 30 = .ok (.iload_n 1, 1) := by decide +kernel
theorem dX2_clear_31 : decode cX2_clear 31 = .ok (.iconst 0, 1) := by decide +kernel
theorem dX2_clear_32 : decode cX2_clear 32 = .ok (.iastore, 1) := by decide +kernel
theorem dX2_clear_33 : decode cX2_clear 33 = .ok (.iinc 1 1, 3) := by decide +kernel
theorem dX2_clear_36 : decode cX2_clear 36 = .ok (.goto (-19), 3) := by decide +kernel
theorem dX2_clear_39 : decode cX2_clear 39 = .ok (.return_, 1) := by decide +kernel
theorem dX2_copyFrom_0 : decode cX2_copyFrom 0 = .ok (.aload_n 1, 1) := by decide +kernel
theorem dX2_copyFrom_1 : decode cX2_copyFrom 1 = .ok (.getfield 9, 3) := by decide +kernel
theorem dX2_copyFrom_4 : decode cX2_copyFrom 4 = .ok (.iconst 0, 1) := by decide +kernel
theorem dX2_copyFrom_5 : decode cX2_copyFrom 5 = .ok (.aload_n 0, 1) := by decide +kernel
theorem dX2_copyFrom_6 : decode cX2_copyFrom 6 = .ok (.getfield 9, 3) := by decide +kernel
theorem dX2_copyFrom_9 : decode cX2_copyFrom 9 = .ok (.iconst 0, 1) := by decide +kernel
theorem dX2_copyFrom_10 : decode cX2_copyFrom 10 = .ok (.bipush 6, 2) := by decide +kernel
theorem dX2_copyFrom_12 : decode cX2_copyFrom 12 = .ok (.invokestatic 62, 3) := by decide +kernel
theorem dX2_copyFrom_15 : decode cX2_copyFrom 15 = .ok (.aload_n 1, 1) := by decide +kernel
theorem dX2_copyFrom_16 : decode cX2_copyFrom 16 = .ok (.getfield 15, 3) := by decide +kernel
theorem dX2_copyFrom_19 : decode cX2_copyFrom 19 = .ok (.iconst 0, 1) := by decide +kernel
theorem dX2_copyFrom_20 : decode cX2_copyFrom 20 = .ok (.aload_n 0, 1) := by decide +kernel
theorem dX2_copyFrom_21 : decode cX2_copyFrom 21 = .ok (.getfield 15, 3) := by decide +kernel
theorem dX2_copyFrom_24 : decode cX2_copyFrom 24 = .ok (.iconst 0, 1) := by decide +kernel
theorem dX2_copyFrom_25 : decode cX2_copyFrom 25 = .ok (.bipush 6, 2) := by decide +kernel
theorem dX2_copyFrom_27 : decode cX2_copyFrom 27 = .ok (.invokestatic 62, 3) := by decide +kernel
theorem dX2_copyFrom_30 : decode cX2_copyFrom 30 = .ok (.aload_n 1, 1) := by decide +kernel
theorem dX2_copyFrom_31 : decode cX2_copyFrom 31 = .ok (.getfield 19, 3) := by decide +kernel
theorem dX2_copyFrom_34 : decode cX2_copyFrom 34 = .ok (.iconst 0, 1) := by decide +kernel
theorem dX2_copyFrom_35 : decode cX2_copyFrom 35 = .ok (.aload_n 0, 1) := by decide +kernel
theorem dX2_copyFrom_36 : decode cX2_copyFrom 36 = .ok (.getfield 19, 3) := by decide +kernel
theorem dX2_copyFrom_39 : decode cX2_copyFrom 39 = .ok (.iconst 0, 1) := by decide +kernel
theorem dX2_copyFrom_40 : decode cX2_copyFrom 40 = .ok (.bipush 6, 2) := by decide +kernel
theorem dX2_copyFrom_42 : decode cX2_copyFrom 42 = .ok (.invokestatic 62, 3) := by decide +kernel
theorem dX2_copyFrom_45 : decode cX2_copyFrom 45 = .ok (.aload_n 1, 1) := by decide +kernel
theorem dX2_copyFrom_46 : decode cX2_copyFrom 46 = .ok (.getfield 22, 3) := by decide +kernel
theorem dX2_copyFrom_49 : decode cX2_copyFrom 49 = .ok (.iconst 0, 1) := by decide +kernel
theorem dX2_copyFrom_50 : decode cX2_copyFrom 50 = .ok (.aload_n 0, 1) := by decide +kernel
theorem dX2_copyFrom_51 : decode cX2_copyFrom 51 = .ok (.getfield 22, 3) := by decide +kernel
theorem dX2_copyFrom_54 : decode cX2_copyFrom 54 = .ok (.iconst 0, 1) := by decide +kernel
theorem dX2_copyFrom_55 : decode cX2_copyFrom 55 = .ok (.bipush 6, 2) := by decide +kernel
theorem dX2_copyFrom_57 : decode cX2_copyFrom 57 = .ok (.invokestatic 62, 3) := by decide +kernel
theorem dX2_copyFrom_60 : decode cX2_copyFrom 60 = .ok (.aload_n 1, 1) := by decide +kernel
theorem dX2_copyFrom_61 : decode cX2_copyFrom 61 = .ok (.getfield 25, 3) := by decide +kernel
theorem dX2_copyFrom_64 : decode cX2_copyFrom 64 = .ok (.iconst 0, 1) := by decide +kernel
theorem dX2_copyFrom_65 : decode cX2_copyFrom 65 = .ok (.aload_n 0, 1) := by decide +kernel
theorem dX2_copyFrom_66 : decode cX2_copyFrom 66 = .ok (.getfield 25, 3) := by decide +kernel
theorem dX2_copyFrom_69 : decode cX2_copyFrom 69 = .ok (.iconst 0, 1) := by decide +kernel
theorem dX2_copyFrom_70 : decode cX2_copyFrom 70 = .ok (.bipush 6, 2) := by decide +kernel
theorem dX2_copyFrom_72 : decode cX2_copyFrom 72 = .ok (.invokestatic 62, 3) := by decide +kernel
theorem dX2_copyFrom_75 : decode cX2_copyFrom 75 = .ok (.aload_n 1, 1) := by decide +kernel
theorem dX2_copyFrom_76 : decode cX2_copyFrom 76 = .ok (.getfield 28, 3) := by decide +kernel
theorem dX2_copyFrom_79 : decode cX2_copyFrom 79 = .ok (.iconst 0, 1) := by decide +kernel
theorem dX2_copyFrom_80 : decode cX2_copyFrom 80 = .ok (.aload_n 0, 1) := by decide +kernel
theorem dX2_copyFrom_81 : decode cX2_copyFrom 81 = .ok (.getfield 28, 3) := by decide +kernel
theorem dX2_copyFrom_84 : decode cX2_copyFrom 84 = .ok (.iconst 0, 1) := by decide +kernel
theorem dX2_copyFrom_85 : decode cX2_copyFrom 85 = .ok (.bipush 6, 2) := by decide +kernel
theorem dX2_copyFrom_87 : decode cX2_copyFrom 87 = .ok (.invokestatic 62, 3) := by decide +kernel
theorem dX2_copyFrom_90 : decode cX2_copyFrom 90 = .ok (.aload_n 1, 1) := by decide +kernel
theorem dX2_copyFrom_91 : decode cX2_copyFrom 91 = .ok (.getfield 31, 3) := by decide +kernel
theorem dX2_copyFrom_94 : decode cX2_copyFrom 94 = .ok (.iconst 0, 1) := by decide +kernel
theorem dX2_copyFrom_95 : decode cX2_copyFrom 95 = .ok (.aload_n 0, 1) := by decide +kernel
theorem dX2_copyFrom_96 : decode cX2_copyFrom 96 = .ok (.getfield 31, 3) := by decide +kernel
theorem dX2_copyFrom_99 : decode cX2_copyFrom 99 = .ok (.iconst 0, 1) := by decide +kernel
theorem dX2_copyFrom_100 : decode cX2_copyFrom 100 = .ok (.bipush 6, 2) := by decide +kernel
theorem dX2_copyFrom_102 : decode cX2_copyFrom 102 = .ok (.invokestatic 62, 3) := by decide +kernel
theorem dX2_copyFrom_105 : decode cX2_copyFrom 105 = .ok (.aload_n 1, 1) := by decide +kernel
theorem dX2_copyFrom_106 : decode cX2_copyFrom 106 = .ok (.getfield 34, 3) := by decide +kernel
theorem dX2_copyFrom_109 : decode cX2_copyFrom 109 = .ok (.iconst 0, 1) := by decide +kernel
theorem dX2_copyFrom_110 : decode cX2_copyFrom 110 = .ok (.aload_n 0, 1) := by decide +kernel
theorem dX2_copyFrom_111 : decode cX2_copyFrom 111 = .ok (.getfield 34, 3) := by decide +kernel
theorem dX2_copyFrom_114 : decode cX2_copyFrom 114 = .ok (.iconst 0, 1) := by decide +kernel
theorem dX2_copyFrom_115 : decode cX2_copyFrom 115 = .ok (.bipush 8, 2) := by decide +kernel
theorem dX2_copyFrom_117 : decode cX2_copyFrom 117 = .ok (.invokestatic 62, 3) := by decide +kernel
theorem dX2_copyFrom_120 : decode cX2_copyFrom 120 = .ok (.aload_n 1, 1) := by decide +kernel
theorem dX2_copyFrom_121 : decode cX2_copyFrom 121 = .ok (.getfield 37, 3) := by decide +kernel
theorem dX2_copyFrom_124 : decode cX2_copyFrom 124 = .ok (.iconst 0, 1) := by decide +kernel
theorem dX2_copyFrom_125 : decode cX2_copyFrom 125 = .ok (.aload_n 0, 1) := by decide +kernel
theorem dX2_copyFrom_126 : decode cX2_copyFrom 126 = .ok (.getfield 37, 3) := by decide +kernel
theorem dX2_copyFrom_129 : decode cX2_copyFrom 129 = .ok (.iconst 0, 1) := by decide +kernel
theorem dX2_copyFrom_130 : decode cX2_copyFrom 130 = .ok (.bipush 8, 2) := by decide +kernel
theorem dX2_copyFrom_132 : decode cX2_copyFrom 132 = .ok (.invokestatic 62, 3) := by decide +kernel
theorem dX2_copyFrom_135 : decode cX2_copyFrom 135 = .ok (.aload_n 1, 1) := by decide +kernel
theorem dX2_copyFrom_136 : decode cX2_copyFrom 136 = .ok (.getfield 40, 3) := by decide +kernel
theorem dX2_copyFrom_139 : decode cX2_copyFrom 139 = .ok (.iconst 0, 1) := by decide +kernel
theorem dX2_copyFrom_140 : decode cX2_copyFrom 140 = .ok (.aload_n 0, 1) := by decide +kernel
theorem dX2_copyFrom_141 : decode cX2_copyFrom 141 = .ok (.getfield 40, 3) := by decide +kernel
theorem dX2_copyFrom_144 : decode cX2_copyFrom 144 = .ok (.iconst 0, 1) := by decide +kernel
theorem dX2_copyFrom_145 : decode cX2_copyFrom 145 = .ok (.bipush 8, 2) := by decide +kernel
theorem dX2_copyFrom_147 : decode cX2_copyFrom 147 = .ok (.invokestatic 62, 3) := by decide +kernel
theorem dX2_copyFrom_150 : decode cX2_copyFrom 150 = .ok (.aload_n 1, 1) := by decide +kernel
theorem dX2_copyFrom_151 : decode cX2_copyFrom 151 = .ok (.getfield 43, 3) := by decide +kernel
theorem dX2_copyFrom_154 : decode cX2_copyFrom 154 = .ok (.iconst 0, 1) := by decide +kernel
theorem dX2_copyFrom_155 : decode cX2_copyFrom 155 = .ok (.aload_n 0, 1) := by decide +kernel
theorem dX2_copyFrom_156 : decode cX2_copyFrom 156 = .ok (.getfield 43, 3) := by decide +kernel
theorem dX2_copyFrom_159 : decode cX2_copyFrom 159 = .ok (.iconst 0, 1) := by decide +kernel
theorem dX2_copyFrom_160 : decode cX2_copyFrom 160 = .ok (.bipush 8, 2) := by decide +kernel
theorem dX2_copyFrom_162 : decode cX2_copyFrom 162 = .ok (.invokestatic 62, 3) := by decide +kernel
theorem dX2_copyFrom_165 : decode cX2_copyFrom 165 = .ok (.aload_n 1, 1) := by decide +kernel
theorem dX2_copyFrom_166 : decode cX2_copyFrom 166 = .ok (.getfield 46, 3) := by decide +kernel
theorem dX2_copyFrom_169 : decode cX2_copyFrom 169 = .ok (.iconst 0, 1) := by decide +kernel
theorem dX2_copyFrom_170 : decode cX2_copyFrom 170 = .ok (.aload_n 0, 1) := by decide +kernel
theorem dX2_copyFrom_171 : decode cX2_copyFrom 171 = .ok (.getfield 46, 3) := by decide +kernel
theorem dX2_copyFrom_174 : decode cX2_copyFrom 174 = .ok (.iconst 0, 1) := by decide +kernel
theorem dX2_copyFrom_175 : decode cX2_copyFrom 175 = .ok (.bipush 8, 2) := by decide +kernel
theorem dX2_copyFrom_177 : decode cX2_copyFrom 177 = .ok (.invokestatic 62, 3) := by decide +kernel
theorem dX2_copyFrom_180 : decode cX2_copyFrom 180 = .ok (.aload_n 1, 1) := by decide +kernel
theorem dX2_copyFrom_181 : decode cX2_copyFrom 181 = .ok (.getfield 49, 3) := by decide +kernel
theorem dX2_copyFrom_184 : decode cX2_copyFrom 184 = .ok (.iconst 0, 1) := by decide +kernel
theorem dX2_copyFrom_185 : decode cX2_copyFrom 185 = .ok (.aload_n 0, 1) := by decide +kernel
theorem dX2_copyFrom_186 : decode cX2_copyFrom 186 = .ok (.getfield 49, 3) := by decide +kernel
theorem dX2_copyFrom_189 : decode cX2_copyFrom 189 = .ok (.iconst 0, 1) := by decide +kernel
theorem dX2_copyFrom_190 : decode cX2_copyFrom 190 = .ok (.bipush 24, 2) := by decide +kernel
theorem dX2_copyFrom_192 : decode cX2_copyFrom 192 = .ok (.invokestatic 62, 3) := by decide +kernel
theorem dX2_copyFrom_195 : decode cX2_copyFrom 195 = .ok (.aload_n 0, 1) := by decide +kernel
theorem dX2_copyFrom_196 : decode cX2_copyFrom 196 = .ok (.aload_n 1, 1) := by decide +kernel
theorem dX2_copyFrom_197 : decode cX2_copyFrom 197 = .ok (.getfield 52, 3) := by decide +kernel
theorem dX2_copyFrom_200 : decode cX2_copyFrom 200 = .ok (.putfield 52, 3) := by decide +kernel
theorem dX2_copyFrom_203 : decode cX2_copyFrom 203 = .ok (.aload_n 0, 1) := by decide +kernel
theorem dX2_copyFrom_204 : decode cX2_copyFrom 204 = .ok (.aload_n 1, 1) := by decide +kernel
theorem dX2_copyFrom_205 : decode cX2_copyFrom 205 = .ok (.getfield 56, 3) := by decide +kernel
theorem dX2_copyFrom_208 : decode cX2_copyFrom 208 = .ok (.putfield 56, 3) := by decide +kernel
theorem dX2_copyFrom_211 : decode cX2_copyFrom 211 = .ok (.aload_n 0, 1) := by decide +kernel
theorem dX2_copyFrom_212 : decode cX2_copyFrom 212 = .ok (.aload_n 1, 1) := by decide +kernel
theorem dX2_copyFrom_213 : decode cX2_copyFrom 213 = .ok (.getfield 59, 3) := by decide +kernel
theorem dX2_copyFrom_216 : decode cX2_copyFrom 216 = .ok (.putfield 59, 3) := by decide +kernel
theorem dX2_copyFrom_219 : decode cX2_copyFrom 219 = .ok (.return_, 1) := by decide +kernel
theorem dX2_addThing_0 : decode cX2_addThing 0 = .ok (.aload_n 0, 1) := by decide +kernel
theorem dX2_addThing_1 : decode cX2_addThing 1 = .ok (.getfield 52, 3) := by decide +kernel
theorem dX2_addThing_4 : decode cX2_addThing 4 = .ok (.istore 6, 2) := by decide +kernel
theorem dX2_addThing_6 : decode cX2_addThing 6 = .ok (.aload_n 0, 1) := by decide +kernel
theorem dX2_addThing_7 : decode cX2_addThing 7 = .ok (.getfield 9, 3) := by decide +kernel
theorem dX2_addThing_10 : decode cX2_addThing 10 = .ok (.iload 6, 2) := by decide +kernel
