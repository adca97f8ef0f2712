theorem dX12_go_328 : decode cX12_go 328 = .ok (.iload 4, 2) := by decide +kernel
theorem dX12_go_330 : decode cX12_go 330 = .ok (.iadd, 1) := by decide +kernel
theorem dX12_go_331 : decode cX12_go 331 = .ok (.bipush 48, 2) := by decide +kernel
theorem dX12_go_333 : decode cX12_go 333 = .ok (.isub, 1) := by decide +kernel
theorem dX12_go_334 : decode cX12_go 334 = .ok (.putfield 112, 3) := by decide +kernel
theorem dX12_go_337 : decode cX12_go 337 = .ok (.aload_n 0, 1) := by decide +kernel
theorem dX12_go_338 : decode cX12_go 338 = .ok (.dup, 1) := by decide +kernel
theorem dX12_go_339 : decode cX12_go 339 = .ok (.getfield 86, 3) := by decide +kernel
theorem dX12_go_342 : decode cX12_go 342 = .ok (.iconst 1, 1) := by decide +kernel
theorem dX12_go_343 : decode cX12_go 343 = .ok (.iadd, 1) := by decide +kernel
theorem dX12_go_344 : decode cX12_go 344 = .ok (.putfield 86, 3) := by decide +kernel
theorem dX12_go_347 : decode cX12_go 347 = .ok (.goto (-132), 3) := by decide +kernel
theorem dX12_go_350 : decode cX12_go 350 = .ok (.aload_n 0, 1) := by decide +kernel
theorem dX12_go_351 : decode cX12_go 351 = .ok (.iload_n 3, 1) := by decide +kernel
theorem dX12_go_352 : decode cX12_go 352 = .ok (.ifCond .eq 25, 3) := by decide +kernel
theorem dX12_go_355 : decode cX12_go 355 = .ok (.aload_n 0, 1) := by decide +kernel
theorem dX12_go_356 : decode cX12_go 356 = .ok (.getfield 86, 3) := by decide +kernel
theorem dX12_go_359 : decode cX12_go 359 = .ok (.aload_n 0, 1) := by decide +kernel
theorem dX12_go_360 : decode cX12_go 360 = .ok (.getfield 89, 3) := by decide +kernel
theorem dX12_go_363 : decode cX12_go 363 = .ok (.isub, 1) := by decide +kernel
theorem dX12_go_364 : decode cX12_go 364 = .ok (.iload_n 2, 1) := by decide +kernel
theorem dX12_go_365 : decode cX12_go 365 = .ok (.ifCond .eq 8, 3) := by decide +kernel
theorem dX12_go_368 : decode cX12_go 368 = .ok (.bipush 7, 2) := by decide +kernel
theorem dX12_go_370 : decode cX12_go 370 = .ok (.goto 4, 3) := by decide +kernel
theorem dX12_go_373 : decode cX12_go 373 = .ok (.iconst 3, 1) := by decide +kernel
theorem dX12_go_374 : decode cX12_go 374 = .ok (.if_icmp .le 7, 3) := by decide +kernel
theorem dX12_go_377 : decode cX12_go 377 = .ok (.iconst 1, 1) := by decide +kernel
theorem dX12_go_378 : decode cX12_go 378 = .ok (.goto 12, 3) := by decide +kernel
theorem dX12_go_381 : decode cX12_go 381 = .ok (.iload_n 2, 1) := by decide +kernel
theorem dX12_go_382 : decode cX12_go 382 = .ok (.ifCond .eq 7, 3) := by decide +kernel
theorem dX12_go_385 : decode cX12_go 385 = .ok (.iconst 2, 1) := by decide +kernel
theorem dX12_go_386 : decode cX12_go 386 = .ok (.goto 4, 3) := by decide +kernel
theorem dX12_go_389 : decode cX12_go 389 = .ok (.iconst 3, 1) := by decide +kernel
theorem dX12_go_390 : decode cX12_go 390 = .ok (.putfield 95, 3) := by decide +kernel
theorem dX12_go_393 : decode cX12_go 393 = .ok (.return_, 1) := by decide +kernel
theorem dX12_isWord_0 : decode cX12_isWord 0 = .ok (.aload_n 0, 1) := by decide +kernel
theorem dX12_isWord_1 : decode cX12_isWord 1 = .ok (.getfield 95, 3) := by decide +kernel
theorem dX12_isWord_4 : decode cX12_isWord 4 = .ok (.iconst 2, 1) := by decide +kernel
theorem dX12_isWord_5 : decode cX12_isWord 5 = .ok (.if_icmp .ne 19, 3) := by decide +kernel
theorem dX12_isWord_8 : decode cX12_isWord 8 = .ok (.aload_n 0, 1) := by decide +kernel
theorem dX12_isWord_9 : decode cX12_isWord 9 = .ok (.getfield 108, 3) := by decide +kernel
theorem dX12_isWord_12 : decode cX12_isWord 12 = .ok (.iload_n 1, 1) := by decide +kernel
theorem dX12_isWord_13 : decode cX12_isWord 13 = .ok (.invokestatic 127, 3) := by decide +kernel
theorem dX12_isWord_16 : decode cX12_isWord 16 = .ok (.lcmp, 1) := by decide +kernel
theorem dX12_isWord_17 : decode cX12_isWord 17 = .ok (.ifCond .ne 7, 3) := by decide +kernel
theorem dX12_isWord_20 : decode cX12_isWord 20 = .ok (.iconst 1, 1) := by decide +kernel
theorem dX12_isWord_21 : decode cX12_isWord 21 = .ok (.goto 4, 3) := by decide +kernel
theorem dX12_isWord_24 : decode cX12_isWord 24 = .ok (.iconst 0, 1) := by decide +kernel
theorem dX12_isWord_25 : decode cX12_isWord 25 = .ok (.ireturn, 1) := by decide +kernel
theorem dX12_isSign_0 : decode cX12_isSign 0 = .ok (.aload_n 0, 1) := by decide +kernel
theorem dX12_isSign_1 : decode cX12_isSign 1 = .ok (.getfield 95, 3) := by decide +kernel
theorem dX12_isSign_4 : decode cX12_isSign 4 = .ok (.iconst 4, 1) := by decide +kernel
theorem dX12_isSign_5 : decode cX12_isSign 5 = .ok (.if_icmp .ne 15, 3) := by decide +kernel
theorem dX12_isSign_8 : decode cX12_isSign 8 = .ok (.aload_n 0, 1) := by decide +kernel
theorem dX12_isSign_9 : decode cX12_isSign 9 = .ok (.getfield 105, 3) := by decide +kernel
theorem dX12_isSign_12 : decode cX12_isSign 12 = .ok (.iload_n 1, 1) := by decide +kernel
theorem dX12_isSign_13 : decode cX12_isSign 13 = .ok (.if_icmp .ne 7, 3) := by decide +kernel
theorem dX12_isSign_16 : decode cX12_isSign 16 = .ok (.iconst 1, 1) := by decide +kernel
theorem dX12_isSign_17 : decode cX12_isSign 17 = .ok (.goto 4, 3) := by decide +kernel
theorem dX12_isSign_20 : decode cX12_isSign 20 = .ok (.iconst 0, 1) := by decide +kernel
theorem dX12_isSign_21 : decode cX12_isSign 21 = .ok (.ireturn, 1) := by decide +kernel
theorem dX12_bad_0 : decode cX12_bad 0 = .ok (.aload_n 0, 1) := by decide +kernel
theorem dX12_bad_1 : decode cX12_bad 1 = .ok (.aload_n 0, 1) := by decide +kernel
theorem dX12_bad_2 : decode cX12_bad 2 = .ok (.getfield 95, 3) := by decide +kernel
theorem dX12_bad_5 : decode cX12_bad 5 = .ok (.iconst 1, 1) := by decide +kernel
theorem dX12_bad_6 : decode cX12_bad 6 = .ok (.if_icmp .ne 7, 3) := by decide +kernel
theorem dX12_bad_9 : decode cX12_bad 9 = .ok (.iconst 1, 1) := by decide +kernel
theorem dX12_bad_10 : decode cX12_bad 10 = .ok (.goto 4, 3) := by decide +kernel
theorem dX12_bad_13 : decode cX12_bad 13 = .ok (.iload_n 1, 1) := by decide +kernel
theorem dX12_bad_14 : decode cX12_bad 14 = .ok (.putfield 131, 3) := by decide +kernel
theorem dX12_bad_17 : decode cX12_bad 17 = .ok (.aload_n 0, 1) := by decide +kernel
theorem dX12_bad_18 : decode cX12_bad 18 = .ok (.aload_n 0, 1) := by decide +kernel
theorem dX12_bad_19 : decode cX12_bad 19 = .ok (.getfield 89, 3) := by decide +kernel
theorem dX12_bad_22 : decode cX12_bad 22 = .ok (.putfield 134, 3) := by decide +kernel
theorem dX12_bad_25 : decode cX12_bad 25 = .ok (.iconst 0, 1) := by decide +kernel
theorem dX12_bad_26 : decode cX12_bad 26 = .ok (.ireturn, 1) := by decide +kernel
theorem dX12_begin_0 : decode cX12_begin 0 = .ok (.aload_n 0, 1) := by decide +kernel
theorem dX12_begin_1 : decode cX12_begin 1 = .ok (.iconst 0, 1) := by decide +kernel
theorem dX12_begin_2 : decode cX12_begin 2 = .ok (.putfield 73, 3) := by decide +kernel
theorem dX12_begin_5 : decode cX12_begin 5 = .ok (.aload_n 0, 1) := by decide +kernel
theorem dX12_begin_6 : decode cX12_begin 6 = .ok (.aload_n 0, 1) := by decide +kernel
theorem dX12_begin_7 : decode cX12_begin 7 = .ok (.invokevirtual 153, 3) := by decide +kernel
theorem dX12_begin_10 : decode cX12_begin 10 = .ok (.putfield 83, 3) := by decide +kernel
theorem dX12_begin_13 : decode cX12_begin 13 = .ok (.aload_n 0, 1) := by decide +kernel
theorem dX12_begin_14 : decode cX12_begin 14 = .ok (.iload_n 1, 1) := by decide +kernel
theorem dX12_begin_15 : decode cX12_begin 15 = .ok (.putfield 92, 3) := by decide +kernel
theorem dX12_begin_18 : decode cX12_begin 18 = .ok (.aload_n 0, 1) := by decide +kernel
theorem dX12_begin_19 : decode cX12_begin 19 = .ok (.iconst 0, 1) := by decide +kernel
theorem dX12_begin_20 : decode cX12_begin 20 = .ok (.putfield 131, 3) := by decide +kernel
theorem dX12_begin_23 : decode cX12_begin 23 = .ok (.aload_n 0, 1) := by decide +kernel
theorem dX12_begin_24 : decode cX12_begin 24 = .ok (.iconst 0, 1) := by decide +kernel
theorem dX12_begin_25 : decode cX12_begin 25 = .ok (.putfield 86, 3) := by decide +kernel
theorem dX12_begin_28 : decode cX12_begin 28 = .ok (.aload_n 0, 1) := by decide +kernel
theorem dX12_begin_29 : decode cX12_begin 29 = .ok (.invokevirtual 147, 3) := by decide +kernel
theorem dX12_begin_32 : decode cX12_begin 32 = .ok (.return_, 1) := by decide +kernel
theorem dX12_startSo_0 : decode cX12_startSo 0 = .ok (.bipush 77, 2) := by decide +kernel
theorem dX12_startSo_2 : decode cX12_startSo 2 = .ok (.istore_n 1, 1) := by decide +kernel
theorem dX12_startSo_3 : decode cX12_startSo 3 = .ok (.iload_n 1, 1) := by decide +kernel
theorem dX12_startSo_4 : decode cX12_startSo 4 = .ok (.sipush 379, 3) := by decide +kernel
theorem dX12_startSo_7 : decode cX12_startSo 7 = .ok (.if_icmp .ge 16, 3) := by decide +kernel
theorem dX12_startSo_10 : decode cX12_startSo 10 = .ok (.aload_n 0, 1) := by decide +kernel
theorem dX12_startSo_11 : decode cX12_startSo 11 = .ok (.getfield 13, 3) := by decide +kernel
theorem dX12_startSo_14 : decode cX12_startSo 14 = .ok (.iload_n 1, 1) := by decide +kernel
theorem dX12_startSo_15 : decode cX12_startSo 15 = .ok (.iconst 0, 1) := by decide +kernel
theorem dX12_startSo_16 : decode cX12_startSo 16 = .ok (.iastore, 1) := by decide +kernel
theorem dX12_startSo_17 : decode cX12_startSo 17 = .ok (.iinc 1 1, 3) := by decide +kernel
theorem dX12_startSo_20 : decode cX12_startSo 20 = .ok (.goto (-17), 3) := by decide +kernel
theorem dX12_startSo_23 : decode cX12_startSo 23 = .ok (.iconst 0, 1) := by decide +kernel
theorem dX12_startSo_24 : decode cX12_startSo 24 = .ok (.istore_n 1, 1) := by decide +kernel
theorem dX12_startSo_25 : decode cX12_startSo 25 = .ok (.iload_n 1, 1) := by decide +kernel
theorem dX12_startSo_26 : decode cX12_startSo 26 = .ok (.bipush 6, 2) := by decide +kernel
theorem dX12_startSo_28 : decode cX12_startSo 28 = .ok (.if_icmp .ge 29, 3) := by decide +kernel
theorem dX12_startSo_31 : decode cX12_startSo 31 = .ok (.aload_n 0, 1) := by decide +kernel
theorem dX12_startSo_32 : decode cX12_startSo 32 = .ok (.getfield 13, 3) := by decide +kernel
theorem dX12_startSo_35 : decode cX12_startSo 35 = .ok (.bipush 81, 2) := by decide +kernel
theorem dX12_startSo_37 : decode cX12_startSo 37 = .ok (.iload_n 1, 1) := by decide +kernel
theorem dX12_startSo_38 : decode cX12_startSo 38 = .ok (.iadd, 1) := by decide +kernel
theorem dX12_startSo_39 : decode cX12_startSo 39 = .ok (.iconst 2, 1) := by decide +kernel
theorem dX12_startSo_40 : decode cX12_startSo 40 = .ok (.iastore, 1) := by decide +kernel
theorem dX12_startSo_41 : decode cX12_startSo 41 = .ok (.aload_n 0, 1) := by decide +kernel
theorem dX12_startSo_42 : decode cX12_startSo 42 = .ok (.getfield 13, 3) := by decide +kernel
theorem dX12_startSo_45 : decode cX12_startSo 45 = .ok (.bipush 93, 2) := by decide +kernel
theorem dX12_startSo_47 : decode cX12_startSo 47 = .ok (.iload_n 1, 1) := by decide +kernel
theorem dX12_startSo_48 : decode cX12_startSo 48 = .ok (.iadd, 1) := by decide +kernel
theorem dX12_startSo_49 : decode cX12_startSo 49 = .ok (.iconst 1, 1) := by decide +kernel
theorem dX12_startSo_50 : decode cX12_startSo 50 = .ok (.iastore, 1) := by decide +kernel
theorem dX12_startSo_51 : decode cX12_startSo 51 = .ok (.iinc 1 1, 3) := by decide +kernel
theorem dX12_startSo_54 : decode cX12_startSo 54 = .ok (.goto (-29), 3) := by decide +kernel
theorem dX12_startSo_57 : decode cX12_startSo 57 = .ok (.return_, 1) := by decide +kernel
theorem dX12_house_0 : decode cX12_house 0 = .ok (.aload_n 0, 1) := by decide +kernel
theorem dX12_house_1 : decode cX12_house 1 = .ok (.sipush 900, 3) := by decide +kernel
theorem dX12_house_4 : decode cX12_house 4 = .ok (.invokevirtual 194, 3) := by decide +kernel
theorem dX12_house_7 : decode cX12_house 7 = .ok (.iconst 0, 1) := by decide +kernel
theorem dX12_house_8 : decode cX12_house 8 = .ok (.istore_n 1, 1) := by decide +kernel
theorem dX12_house_9 : decode cX12_house 9 = .ok (.iload_n 1, 1) := by decide +kernel
theorem dX12_house_10 : decode cX12_house 10 = .ok (.bipush 77, 2) := by decide +kernel
theorem dX12_house_12 : decode cX12_house 12 = .ok (.if_icmp .ge 16, 3) := by decide +kernel
theorem dX12_house_15 : decode cX12_house 15 = .ok (.aload_n 0, 1) := by decide +kernel
theorem dX12_house_16 : decode cX12_house 16 = .ok (.getfield 16, 3) := by decide +kernel
theorem dX12_house_19 : decode cX12_house 19 = .ok (.iload_n 1, 1) := by decide +kernel
theorem dX12_house_20 : decode cX12_house 20 = .ok (.iconst 0, 1) := by decide +kernel
theorem dX12_house_21 : decode cX12_house 21 = .ok (.iastore, 1) := by decide +kernel
theorem dX12_house_22 : decode cX12_house 22 = .ok (.iinc 1 1, 3) := by decide +kernel
theorem dX12_house_25 : decode cX12_house 25 = .ok (.goto (-16), 3) := by decide +kernel
theorem dX12_house_28 : decode cX12_house 28 = .ok (.iconst 0, 1) := by decide +kernel
theorem dX12_house_29 : decode cX12_house 29 = .ok (.istore_n 1, 1) := by decide +kernel
theorem dX12_house_30 : decode cX12_house 30 = .ok (.aload_n 0, 1) := by decide +kernel
theorem dX12_house_31 : decode cX12_house 31 = .ok (.getfield 95, 3) := by decide +kernel
theorem dX12_house_34 : decode cX12_house 34 = .ok (.ifCond .eq 30, 3) := by decide +kernel
theorem dX12_house_37 : decode cX12_house 37 = .ok (.aload_n 0, 1) := by decide +kernel
theorem dX12_house_38 : decode cX12_house 38 = .ok (.invokevirtual 197, 3) := by decide +kernel
theorem dX12_house_41 : decode cX12_house 41 = .ok (.ifCond .eq 10, 3) := by decide +kernel
theorem dX12_house_44 : decode cX12_house 44 = .ok (.aload_n 0, 1) := by decide +kernel
theorem dX12_house_45 : decode cX12_house 45 = .ok (.invokevirtual 200, 3) := by decide +kernel
theorem dX12_house_48 : decode cX12_house 48 = .ok (.ifCond .ne 10, 3) := by decide +kernel
theorem dX12_house_51 : decode cX12_house 51 = .ok (.iconst (-1), 1) := by decide +kernel
theorem dX12_house_52 : decode cX12_house 52 = .ok (.aload_n 0, 1) := by decide +kernel
theorem dX12_house_53 : decode cX12_house 53 = .ok (.getfield 134, 3) := by decide +kernel
theorem dX12_house_56 : decode cX12_house 56 = .ok (.isub, 1) := by decide +kernel
theorem dX12_house_57 : decode cX12_house 57 = .ok (.ireturn, 1) := by decide +kernel
theorem dX12_house_58 : decode cX12_house 58 = .ok (.iinc 1 1, 3) := by decide +kernel
theorem dX12_house_61 : decode cX12_house 61 = .ok (.goto (-31), 3) := by decide +kernel
theorem dX12_house_64 : decode cX12_house 64 = .ok (.iconst 0, 1) := by decide +kernel
theorem dX12_house_65 : decode cX12_house 65 = .ok (.istore_n 2, 1) := by decide +kernel
theorem dX12_house_66 : decode cX12_house 66 = .ok (.iload_n 2, 1) := by decide +kernel
theorem dX12_house_67 : decode cX12_house 67 = .ok (.bipush 77, 2) := by decide +kernel
theorem dX12_house_69 : decode cX12_house 69 = .ok (.if_icmp .ge 21, 3) := by decide +kernel
theorem dX12_house_72 : decode cX12_house 72 = .ok (.aload_n 0, 1) := by decide +kernel
theorem dX12_house_73 : decode cX12_house 73 = .ok (.getfield 13, 3) := by decide +kernel
theorem dX12_house_76 : decode cX12_house 76 = .ok (.iload_n 2, 1) := by decide +kernel
theorem dX12_house_77 : decode cX12_house 77 = .ok (.aload_n 0, 1) := by decide +kernel
theorem dX12_house_78 : decode cX12_house 78 = .ok (.getfield 16, 3) := by decide +kernel
theorem dX12_house_81 : decode cX12_house 81 = .ok (.iload_n 2, 1) := by decide +kernel
theorem dX12_house_82 : decode cX12_house 82 = .ok (.iaload, 1) := by decide +kernel
theorem dX12_house_83 : decode cX12_house 83 = .ok (.iastore, 1) := by decide +kernel
theorem dX12_house_84 : decode cX12_house 84 = .ok (.iinc 2 1, 3) := by decide +kernel
theorem dX12_house_87 : decode cX12_house 87 = .ok (.goto (-21), 3) := by decide +kernel
theorem dX12_house_90 : decode cX12_house 90 = .ok (.iconst 0, 1) := by decide +kernel
theorem dX12_house_91 : decode cX12_house 91 = .ok (.istore_n 2, 1) := by decide +kernel
theorem dX12_house_92 : decode cX12_house 92 = .ok (.iload_n 2, 1) := by decide +kernel
theorem dX12_house_93 : decode cX12_house 93 = .ok (.bipush 14, 2) := by decide +kernel
theorem dX12_house_95 : decode cX12_house 95 = .ok (.if_icmp .ge 21, 3) := by decide +kernel
theorem dX12_house_98 : decode cX12_house 98 = .ok (.aload_n 0, 1) := by decide +kernel
theorem dX12_house_99 : decode cX12_house 99 = .ok (.getfield 28, 3) := by decide +kernel
theorem dX12_house_102 : decode cX12_house 102 = .ok (.iload_n 2, 1) := by decide +kernel
theorem dX12_house_103 : decode cX12_house 103 = .ok (.aload_n 0, 1) := by decide +kernel
theorem dX12_house_104 : decode cX12_house 104 = .ok (.getfield 32, 3) := by decide +kernel
theorem dX12_house_107 : decode cX12_house 107 = .ok (.iload_n 2, 1) := by decide +kernel
theorem dX12_house_108 : decode cX12_house 108 = .ok (.laload, 1) := by decide +kernel
theorem dX12_house_109 : decode cX12_house 109 = .ok (.lastore, 1) := by decide +kernel
theorem dX12_house_110 : decode cX12_house 110 = .ok (.iinc 2 1, 3) := by decide +kernel
theorem dX12_house_113 : decode cX12_house 113 = .ok (.goto (-21), 3) := by decide +kernel
theorem dX12_house_116 : decode cX12_house 116 = .ok (.aload_n 0, 1) := by decide +kernel
theorem dX12_house_117 : decode cX12_house 117 = .ok (.invokevirtual 203, 3) := by decide +kernel
theorem dX12_house_120 : decode cX12_house 120 = .ok (.aload_n 0, 1) := by decide +kernel
theorem dX12_house_121 : decode cX12_house 121 = .ok (.iconst 0, 1) := by decide +kernel
theorem dX12_house_122 : decode cX12_house 122 = .ok (.putfield 206, 3) := by decide +kernel
theorem dX12_house_125 : decode cX12_house 125 = .ok (.iload_n 1, 1) := by decide +kernel
theorem dX12_house_126 : decode cX12_house 126 = .ok (.ireturn, 1) := by decide +kernel
theorem dX12_fault_0 : decode cX12_fault 0 = .ok (.aload_n 0, 1) := by decide +kernel
theorem dX12_fault_1 : decode cX12_fault 1 = .ok (.iconst 0, 1) := by decide +kernel
theorem dX12_fault_2 : decode cX12_fault 2 = .ok (.putfield 73, 3) := by decide +kernel
theorem dX12_fault_5 : decode cX12_fault 5 = .ok (.aload_n 0, 1) := by decide +kernel
theorem dX12_fault_6 : decode cX12_fault 6 = .ok (.getfield 131, 3) := by decide +kernel
theorem dX12_fault_9 : decode cX12_fault 9 = .ok (.ireturn, 1) := by decide +kernel
theorem dX12_isThing_0 : decode cX12_isThing 0 = .ok (.iload_n 1, 1) := by decide +kernel
theorem dX12_isThing_1 : decode cX12_isThing 1 = .ok (.iconst 0, 1) := by decide +kernel
theorem dX12_isThing_2 : decode cX12_isThing 2 = .ok (.aload_n 0, 1) := by decide +kernel
theorem dX12_isThing_3 : decode cX12_isThing 3 = .ok (.getfield 13, 3) := by decide +kernel
theorem dX12_isThing_6 : decode cX12_isThing 6 = .ok (.iconst 0, 1) := by decide +kernel
theorem dX12_isThing_7 : decode cX12_isThing 7 = .ok (.iaload, 1) := by decide +kernel
theorem dX12_isThing_8 : decode cX12_isThing 8 = .ok (.iconst 1, 1) := by decide +kernel
theorem dX12_isThing_9 : decode cX12_isThing 9 = .ok (.isub, 1) := by decide +kernel
theorem dX12_isThing_10 : decode cX12_isThing 10 = .ok (.invokestatic 140, 3) := by decide +kernel
theorem dX12_isThing_13 : decode cX12_isThing 13 = .ok (.ireturn, 1) := by decide +kernel
theorem dX12_isFault_0 : decode cX12_isFault 0 = .ok (.iload_n 1, 1) := by decide +kernel
theorem dX12_isFault_1 : decode cX12_isFault 1 = .ok (.iconst 0, 1) := by decide +kernel
theorem dX12_isFault_2 : decode cX12_isFault 2 = .ok (.aload_n 0, 1) := by decide +kernel
theorem dX12_isFault_3 : decode cX12_isFault 3 = .ok (.getfield 13, 3) := by decide +kernel
theorem dX12_isFault_6 : decode cX12_isFault 6 = .ok (.iconst 1, 1) := by decide +kernel
theorem dX12_isFault_7 : decode cX12_isFault 7 = .ok (.iaload, 1) := by decide +kernel
theorem dX12_isFault_8 : decode cX12_isFault 8 = .ok (.iconst 1, 1) := by decide +kernel
theorem dX12_isFault_9 : decode cX12_isFault 9 = .ok (.isub, 1) := by decide +kernel
theorem dX12_isFault_10 : decode cX12_isFault 10 = .ok (.invokestatic 140, 3) := by decide +kernel
theorem dX12_isFault_13 : decode cX12_isFault 13 = .ok (.ireturn, 1) := by decide +kernel
theorem dX12_working_0 : decode cX12_working 0 = .ok (.iconst 0, 1) := by decide +kernel
theorem dX12_working_1 : decode cX12_working 1 = .ok (.istore_n 1, 1) := by decide +kernel
theorem dX12_working_2 : decode cX12_working 2 = .ok (.iconst 0, 1) := by decide +kernel
theorem dX12_working_3 : decode cX12_working 3 = .ok (.istore_n 2, 1) := by decide +kernel
theorem dX12_working_4 : decode cX12_working 4 = .ok (.iload_n 2, 1) := by decide +kernel
theorem dX12_working_5 : decode cX12_working 5 = .ok (.aload_n 0, 1) := by decide +kernel
theorem dX12_working_6 : decode cX12_working 6 = .ok (.getfield 13, 3) := by decide +kernel
theorem dX12_working_9 : decode cX12_working 9 = .ok (.iconst 0, 1) := by decide +kernel
theorem dX12_working_10 : decode cX12_working 10 = .ok (.iaload, 1) := by decide +kernel
theorem dX12_working_11 : decode cX12_working 11 = .ok (.if_icmp .ge 23, 3) := by decide +kernel
theorem dX12_working_14 : decode cX12_working 14 = .ok (.aload_n 0, 1) := by decide +kernel
theorem dX12_working_15 : decode cX12_working 15 = .ok (.iload_n 2, 1) := by decide +kernel
theorem dX12_working_16 : decode cX12_working 16 = .ok (.invokevirtual 218, 3) := by decide +kernel
theorem dX12_working_19 : decode cX12_working 19 = .ok (.ifCond .eq 9, 3) := by decide +kernel
theorem dX12_working_22 : decode cX12_working 22 = .ok (.iload_n 1, 1) := by decide +kernel
theorem dX12_working_23 : decode cX12_working 23 = .ok (.iconst 1, 1) := by decide +kernel
theorem dX12_working_24 : decode cX12_working 24 = .ok (.iload_n 2, 1) := by decide +kernel
theorem dX12_working_25 : decode cX12_working 25 = .ok (.ishl, 1) := by decide +kernel
theorem dX12_working_26 : decode cX12_working 26 = .ok (.ior, 1) := by decide +kernel
theorem dX12_working_27 : decode cX12_working 27 = .ok (.istore_n 1, 1) := by decide +kernel
theorem dX12_working_28 : decode cX12_working 28 = .ok (.iinc 2 1, 3) := by decide +kernel
theorem dX12_working_31 : decode cX12_working 31 = .ok (.goto (-27), 3) := by decide +kernel
theorem dX12_working_34 : decode cX12_working 34 = .ok (.iload_n 1, 1) := by decide +kernel
theorem dX12_working_35 : decode cX12_working 35 = .ok (.ireturn, 1) := by decide +kernel
theorem dX12_thing_0 : decode cX12_thing 0 = .ok (.aload_n 0, 1) := by decide +kernel
theorem dX12_thing_1 : decode cX12_thing 1 = .ok (.iconst 0, 1) := by decide +kernel
theorem dX12_thing_2 : decode cX12_thing 2 = .ok (.putfield 73, 3) := by decide +kernel
theorem dX12_thing_5 : decode cX12_thing 5 = .ok (.aload_n 0, 1) := by decide +kernel
theorem dX12_thing_6 : decode cX12_thing 6 = .ok (.iload_n 1, 1) := by decide +kernel
theorem dX12_thing_7 : decode cX12_thing 7 = .ok (.invokevirtual 221, 3) := by decide +kernel
theorem dX12_thing_10 : decode cX12_thing 10 = .ok (.ifCond .ne 8, 3) := by decide +kernel
theorem dX12_thing_13 : decode cX12_thing 13 = .ok (.aload_n 0, 1) := by decide +kernel
theorem dX12_thing_14 : decode cX12_thing 14 = .ok (.invokevirtual 224, 3) := by decide +kernel
theorem dX12_thing_17 : decode cX12_thing 17 = .ok (.ireturn, 1) := by decide +kernel
theorem dX12_thing_18 : decode cX12_thing 18 = .ok (.iload_n 2, 1) := by decide +kernel
theorem dX12_thing_19 : decode cX12_thing 19 = .ok (.tableswitch 138 0 8 #[49, 58, 68, 78, 88, 98, 108, 114, 128], 49) := by decide +kernel
theorem dX12_thing_68 : decode cX12_thing 68 = .ok (.aload_n 0, 1) := by decide +kernel
theorem dX12_thing_69 : decode cX12_thing 69 = .ok (.getfield 13, 3) := by decide +kernel
theorem dX12_thing_72 : decode cX12_thing 72 = .ok (.iconst 3, 1) := by decide +kernel
theorem dX12_thing_73 : decode cX12_thing 73 = .ok (.iload_n 1, 1) := by decide +kernel
theorem dX12_thing_74 : decode cX12_thing 74 = .ok (.iadd, 1) := by decide +kernel
theorem dX12_thing_75 : decode cX12_thing 75 = .ok (.iaload, 1) := by decide +kernel
theorem dX12_thing_76 : decode cX12_thing 76 = .ok (.ireturn, 1) := by decide +kernel
theorem dX12_thing_77 : decode cX12_thing 77 = .ok (.aload_n 0, 1) := by decide +kernel
theorem dX12_thing_78 : decode cX12_thing 78 = .ok (.getfield 13, 3) := by decide +kernel
theorem dX12_thing_81 : decode cX12_thing 81 = .ok (.bipush 9, 2) := by decide +kernel
theorem dX12_thing_83 : decode cX12_thing 83 = .ok (.iload_n 1, 1) := by decide +kernel
theorem dX12_thing_84 : decode cX12_thing 84 = .ok (.iadd, 1) := by decide +kernel
theorem dX12_thing_85 : decode cX12_thing 85 = .ok (.iaload, 1) := by decide +kernel
theorem dX12_thing_86 : decode cX12_thing 86 = .ok (.ireturn, 1) := by decide +kernel
theorem dX12_thing_87 : decode cX12_thing 87 = .ok (.aload_n 0, 1) := by decide +kernel
theorem dX12_thing_88 : decode cX12_thing 88 = .ok (.getfield 13, 3) := by decide +kernel
theorem dX12_thing_91 : decode cX12_thing 91 = .ok (.bipush 15, 2) := by decide +kernel
theorem dX12_thing_93 : decode cX12_thing 93 = .ok (.iload_n 1, 1) := by decide +kernel
theorem dX12_thing_94 : decode cX12_thing 94 = .ok (.iadd, 1) := by decide +kernel
theorem dX12_thing_95 : decode cX12_thing 95 = .ok (.iaload, 1) := by decide +kernel
theorem dX12_thing_96 : decode cX12_thing 96 = .ok (.ireturn, 1) := by decide +kernel
theorem dX12_thing_97 : decode cX12_thing 97 = .ok (.aload_n 0, 1) := by decide +kernel
theorem dX12_thing_98 : decode cX12_thing 98 = .ok (.getfield 13, 3) := by decide +kernel
theorem dX12_thing_101 : decode cX12_thing 101 = .ok (.bipush 81, 2) := by decide +kernel
theorem dX12_thing_103 : decode cX12_thing 103 = .ok (.iload_n 1, 1) := by decide +kernel
theorem dX12_thing_104 : decode cX12_thing 104 = .ok (.iadd, 1) := by decide +kernel
theorem dX12_thing_105 : decode cX12_thing 105 = .ok (.iaload, 1) := by decide +kernel
theorem dX12_thing_106 : decode cX12_thing 106 = .ok (.ireturn, 1) := by decide +kernel
theorem dX12_thing_107 : decode cX12_thing 107 = .ok (.aload_n 0, 1) := by decide +kernel
theorem dX12_thing_108 : decode cX12_thing 108 = .ok (.getfield 13, 3) := by decide +kernel
theorem dX12_thing_111 : decode cX12_thing 111 = .ok (.bipush 87, 2) := by decide +kernel
theorem dX12_thing_113 : decode cX12_thing 113 = .ok (.iload_n 1, 1) := by decide +kernel
theorem dX12_thing_114 : decode cX12_thing 114 = .ok (.iadd, 1) := by decide +kernel
theorem dX12_thing_115 : decode cX12_thing 115 = .ok (.iaload, 1) := by decide +kernel
theorem dX12_thing_116 : decode cX12_thing 116 = .ok (.ireturn, 1) := by decide +kernel
theorem dX12_thing_117 : decode cX12_thing 117 = .ok (.aload_n 0, 1) := by decide +kernel
theorem dX12_thing_118 : decode cX12_thing 118 = .ok (.getfield 13, 3) := by decide +kernel
theorem dX12_thing_121 : decode cX12_thing 121 = .ok (.bipush 93, 2) := by decide +kernel
theorem dX12_thing_123 : decode cX12_thing 123 = .ok (.iload_n 1, 1) := by decide +kernel
theorem dX12_thing_124 : decode cX12_thing 124 = .ok (.iadd, 1) := by decide +kernel
theorem dX12_thing_125 : decode cX12_thing 125 = .ok (.iaload, 1) := by decide +kernel
theorem dX12_thing_126 : decode cX12_thing 126 = .ok (.ireturn, 1) := by decide +kernel
theorem dX12_thing_127 : decode cX12_thing 127 = .ok (.aload_n 0, 1) := by decide +kernel
theorem dX12_thing_128 : decode cX12_thing 128 = .ok (.iload_n 1, 1) := by decide +kernel
theorem dX12_thing_129 : decode cX12_thing 129 = .ok (.invokevirtual 227, 3) := by decide +kernel
theorem dX12_thing_132 : decode cX12_thing 132 = .ok (.ireturn, 1) := by decide +kernel
theorem dX12_thing_133 : decode cX12_thing 133 = .ok (.aload_n 0, 1) := by decide +kernel
theorem dX12_thing_134 : decode cX12_thing 134 = .ok (.iload_n 1, 1) := by decide +kernel
theorem dX12_thing_135 : decode cX12_thing 135 = .ok (.invokevirtual 218, 3) := by decide +kernel
theorem dX12_thing_138 : decode cX12_thing 138 = .ok (.ifCond .eq 7, 3) := by decide +kernel
theorem dX12_thing_141 : decode cX12_thing 141 = .ok (.iconst 1, 1) := by decide +kernel
theorem dX12_thing_142 : decode cX12_thing 142 = .ok (.goto 4, 3) := by decide +kernel
theorem dX12_thing_145 : decode cX12_thing 145 = .ok (.iconst 0, 1) := by decide +kernel
theorem dX12_thing_146 : decode cX12_thing 146 = .ok (.ireturn, 1) := by decide +kernel
theorem dX12_thing_147 : decode cX12_thing 147 = .ok (.aload_n 0, 1) := by decide +kernel
theorem dX12_thing_148 : decode cX12_thing 148 = .ok (.getfield 13, 3) := by decide +kernel
theorem dX12_thing_151 : decode cX12_thing 151 = .ok (.bipush 99, 2) := by decide +kernel
theorem dX12_thing_153 : decode cX12_thing 153 = .ok (.iload_n 1, 1) := by decide +kernel
theorem dX12_thing_154 : decode cX12_thing 154 = .ok (.iadd, 1) := by decide +kernel
theorem dX12_thing_155 : decode cX12_thing 155 = .ok (.iaload, 1) := by decide +kernel
theorem dX12_thing_156 : decode cX12_thing 156 = .ok (.ireturn, 1) := by decide +kernel
theorem dX12_thing_157 : decode cX12_thing 157 = .ok (.aload_n 0, 1) := by decide +kernel
theorem dX12_thing_158 : decode cX12_thing 158 = .ok (.invokevirtual 224, 3) := by decide +kernel
theorem dX12_thing_161 : decode cX12_thing 161 = .ok (.ireturn, 1) := by decide +kernel
theorem dX12_trouble_0 : decode cX12_trouble 0 = .ok (.aload_n 0, 1) := by decide +kernel
theorem dX12_trouble_1 : decode cX12_trouble 1 = .ok (.iconst 0, 1) := by decide +kernel
theorem dX12_trouble_2 : decode cX12_trouble 2 = .ok (.putfield 73, 3) := by decide +kernel
theorem dX12_trouble_5 : decode cX12_trouble 5 = .ok (.aload_n 0, 1) := by decide +kernel
theorem dX12_trouble_6 : decode cX12_trouble 6 = .ok (.iload_n 1, 1) := by decide +kernel
theorem dX12_trouble_7 : decode cX12_trouble 7 = .ok (.invokevirtual 230, 3) := by decide +kernel
theorem dX12_trouble_10 : decode cX12_trouble 10 = .ok (.ifCond .ne 8, 3) := by decide +kernel
theorem dX12_trouble_13 : decode cX12_trouble 13 = .ok (.aload_n 0, 1) := by decide +kernel
theorem dX12_trouble_14 : decode cX12_trouble 14 = .ok (.invokevirtual 224, 3) := by decide +kernel
theorem dX12_trouble_17 : decode cX12_trouble 17 = .ok (.ireturn, 1) := by decide +kernel
theorem dX12_trouble_18 : decode cX12_trouble 18 = .ok (.iload_n 2, 1) := by decide +kernel
theorem dX12_trouble_19 : decode cX12_trouble 19 = .ok (.tableswitch 126 0 7 #[45, 55, 65, 75, 85, 95, 105, 115], 45) := by decide +kernel
theorem dX12_trouble_64 : decode cX12_trouble 64 = .ok (.aload_n 0, 1) := by decide +kernel
theorem dX12_trouble_65 : decode cX12_trouble 65 = .ok (.getfield 13, 3) := by decide +kernel
theorem dX12_trouble_68 : decode cX12_trouble 68 = .ok (.bipush 21, 2) := by decide +kernel
theorem dX12_trouble_70 : decode cX12_trouble 70 = .ok (.iload_n 1, 1) := by decide +kernel
theorem dX12_trouble_71 : decode cX12_trouble 71 = .ok (.iadd, 1) := by decide +kernel
theorem dX12_trouble_72 : decode cX12_trouble 72 = .ok (.iaload, 1) := by decide +kernel
theorem dX12_trouble_73 : decode cX12_trouble 73 = .ok (.ireturn, 1) := by decide +kernel
theorem dX12_trouble_74 : decode cX12_trouble 74 = .ok (.aload_n 0, 1) := by decide +kernel
theorem dX12_trouble_75 : decode cX12_trouble 75 = .ok (.getfield 13, 3) := by decide +kernel
theorem dX12_trouble_78 : decode cX12_trouble 78 = .ok (.bipush 29, 2) := by decide +kernel
theorem dX12_trouble_80 : decode cX12_trouble 80 = .ok (.iload_n 1, 1) := by decide +kernel
theorem dX12_trouble_81 : decode cX12_trouble 81 = .ok (.iadd, 1) := by decide +kernel
theorem dX12_trouble_82 : decode cX12_trouble 82 = .ok (.iaload, 1) := by decide +kernel
theorem dX12_trouble_83 : decode cX12_trouble 83 = .ok (.ireturn, 1) := by decide +kernel
theorem dX12_trouble_84 : decode cX12_trouble 84 = .ok (.aload_n 0, 1) := by decide +kernel
theorem dX12_trouble_85 : decode cX12_trouble 85 = .ok (.getfield 13, 3) := by decide +kernel
theorem dX12_trouble_88 : decode cX12_trouble 88 = .ok (.bipush 37, 2) := by decide +kernel
theorem dX12_trouble_90 : decode cX12_trouble 90 = .ok (.iload_n 1, 1) := by decide +kernel
theorem dX12_trouble_91 : decode cX12_trouble 91 = .ok (.iadd, 1) := by decide +kernel
theorem dX12_trouble_92 : decode cX12_trouble 92 = .ok (.iaload, 1) := by decide +kernel
theorem dX12_trouble_93 : decode cX12_trouble 93 = .ok (.ireturn, 1) := by decide +kernel
theorem dX12_trouble_94 : decode cX12_trouble 94 = .ok (.aload_n 0, 1) := by decide +kernel
theorem dX12_trouble_95 : decode cX12_trouble 95 = .ok (.getfield 13, 3) := by decide +kernel
theorem dX12_trouble_98 : decode cX12_trouble 98 = .ok (.bipush 45, 2) := by decide +kernel
theorem dX12_trouble_100 : decode cX12_trouble 100 = .ok (.iload_n 1, 1) := by decide +kernel
theorem dX12_trouble_101 : decode cX12_trouble 101 = .ok (.iadd, 1) := by decide +kernel
theorem dX12_trouble_102 : decode cX12_trouble 102 = .ok (.iaload, 1) := by decide +kernel
theorem dX12_trouble_103 : decode cX12_trouble 103 = .ok (.ireturn, 1) := by decide +kernel
theorem dX12_trouble_104 : decode cX12_trouble 104 = .ok (.aload_n 0, 1) := by decide +kernel
theorem dX12_trouble_105 : decode cX12_trouble 105 = .ok (.getfield 13, 3) := by decide +kernel
theorem dX12_trouble_108 : decode cX12_trouble 108 = .ok (.bipush 105, 2) := by decide +kernel
theorem dX12_trouble_110 : decode cX12_trouble 110 = .ok (.iload_n 1, 1) := by decide +kernel
theorem dX12_trouble_111 : decode cX12_trouble 111 = .ok (.iadd, 1) := by decide +kernel
theorem dX12_trouble_112 : decode cX12_trouble 112 = .ok (.iaload, 1) := by decide +kernel
theorem dX12_trouble_113 : decode cX12_trouble 113 = .ok (.ireturn, 1) := by decide +kernel
theorem dX12_trouble_114 : decode cX12_trouble 114 = .ok (.aload_n 0, 1) := by decide +kernel
theorem dX12_trouble_115 : decode cX12_trouble 115 = .ok (.getfield 13, 3) := by decide +kernel
theorem dX12_trouble_118 : decode cX12_trouble 118 = .ok (.bipush 113, 2) := by decide +kernel
theorem dX12_trouble_120 : decode cX12_trouble 120 = .ok (.iload_n 1, 1) := by decide +kernel
theorem dX12_trouble_121 : decode cX12_trouble 121 = .ok (.iadd, 1) := by decide +kernel
theorem dX12_trouble_122 : decode cX12_trouble 122 = .ok (.iaload, 1) := by decide +kernel
theorem dX12_trouble_123 : decode cX12_trouble 123 = .ok (.ireturn, 1) := by decide +kernel
theorem dX12_trouble_124 : decode cX12_trouble 124 = .ok (.aload_n 0, 1) := by decide +kernel
theorem dX12_trouble_125 : decode cX12_trouble 125 = .ok (.getfield 13, 3) := by decide +kernel
theorem dX12_trouble_128 : decode cX12_trouble 128 = .ok (.bipush 121, 2) := by decide +kernel
theorem dX12_trouble_130 : decode cX12_trouble 130 = .ok (.iload_n 1, 1) := by decide +kernel
theorem dX12_trouble_131 : decode cX12_trouble 131 = .ok (.iadd, 1) := by decide +kernel
theorem dX12_trouble_132 : decode cX12_trouble 132 = .ok (.iaload, 1) := by decide +kernel
theorem dX12_trouble_133 : decode cX12_trouble 133 = .ok (.ireturn, 1) := by decide +kernel
theorem dX12_trouble_134 : decode cX12_trouble 134 = .ok (.aload_n 0, 1) := by decide +kernel
theorem dX12_trouble_135 : decode cX12_trouble 135 = .ok (.getfield 13, 3) := by decide +kernel
theorem dX12_trouble_138 : decode cX12_trouble 138 = .ok (.sipush 129, 3) := by decide +kernel
theorem dX12_trouble_141 : decode cX12_trouble 141 = .ok (.iload_n 1, 1) := by decide +kernel
theorem dX12_trouble_142 : decode cX12_trouble 142 = .ok (.iadd, 1) := by decide +kernel
theorem dX12_trouble_143 : decode cX12_trouble 143 = .ok (.iaload, 1) := by decide +kernel
theorem dX12_trouble_144 : decode cX12_trouble 144 = .ok (.ireturn, 1) := by decide +kernel
theorem dX12_trouble_145 : decode cX12_trouble 145 = .ok (.aload_n 0, 1) := by decide +kernel
theorem dX12_trouble_146 : decode cX12_trouble 146 = .ok (.invokevirtual 224, 3) := by decide +kernel
theorem dX12_trouble_149 : decode cX12_trouble 149 = .ok (.ireturn, 1) := by decide +kernel
theorem dX12_cures_0 : decode cX12_cures 0 = .ok (.aload_n 0, 1) := by decide +kernel
theorem dX12_cures_1 : decode cX12_cures 1 = .ok (.iconst 0, 1) := by decide +kernel
theorem dX12_cures_2 : decode cX12_cures 2 = .ok (.putfield 73, 3) := by decide +kernel
theorem dX12_cures_5 : decode cX12_cures 5 = .ok (.aload_n 0, 1) := by decide +kernel
