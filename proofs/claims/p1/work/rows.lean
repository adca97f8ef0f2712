section
-- ===== PART A: goes FIRST, ahead of the names: the tables' words, and 'selects' of the private methods out of them =====
/-- a private method of a class that the tables say can be made, by its rows of tables_1 -/
def lw_okq (q : MethodName × Nat) : Prop := (q.1.cls ≠ "java/lang/invoke/MethodHandle" ∧ q.1.cls ≠ "java/lang/invoke/VarHandle") ∧ Cond.instantiable q.1.cls q.2 ∈ tables_1 ∧ Cond.privateMethod q.1 ∈ tables_1 ∧ Cond.instanceMethod q.1 ∈ tables_1
theorem lw_p0 : lw_okq (⟨"OffThenOn$Reader", "readRun", "(I)V"⟩, 10) := ⟨⟨by decide +kernel, by decide +kernel⟩, List.mem_of_getElem? (i := 278) (by decide +kernel), List.mem_of_getElem? (i := 524) (by decide +kernel), List.mem_of_getElem? (i := 525) (by decide +kernel)⟩
theorem lw_p1 : lw_okq (⟨"OffThenOn$HouseReader", "readLine", "()Z"⟩, 3) := ⟨⟨by decide +kernel, by decide +kernel⟩, List.mem_of_getElem? (i := 272) (by decide +kernel), List.mem_of_getElem? (i := 536) (by decide +kernel), List.mem_of_getElem? (i := 537) (by decide +kernel)⟩
theorem lw_p2 : lw_okq (⟨"OffThenOn$HouseReader", "readThing", "()Z"⟩, 3) := ⟨⟨by decide +kernel, by decide +kernel⟩, List.mem_of_getElem? (i := 272) (by decide +kernel), List.mem_of_getElem? (i := 540) (by decide +kernel), List.mem_of_getElem? (i := 541) (by decide +kernel)⟩
theorem lw_p3 : lw_okq (⟨"OffThenOn$HouseReader", "isNewName", "()Z"⟩, 3) := ⟨⟨by decide +kernel, by decide +kernel⟩, List.mem_of_getElem? (i := 272) (by decide +kernel), List.mem_of_getElem? (i := 549) (by decide +kernel), List.mem_of_getElem? (i := 550) (by decide +kernel)⟩
theorem lw_p4 : lw_okq (⟨"OffThenOn$HouseReader", "readFault", "()Z"⟩, 3) := ⟨⟨by decide +kernel, by decide +kernel⟩, List.mem_of_getElem? (i := 272) (by decide +kernel), List.mem_of_getElem? (i := 591) (by decide +kernel), List.mem_of_getElem? (i := 592) (by decide +kernel)⟩
theorem lw_p5 : lw_okq (⟨"OffThenOn$HouseReader", "readCure", "()Z"⟩, 3) := ⟨⟨by decide +kernel, by decide +kernel⟩, List.mem_of_getElem? (i := 272) (by decide +kernel), List.mem_of_getElem? (i := 599) (by decide +kernel), List.mem_of_getElem? (i := 600) (by decide +kernel)⟩
theorem lw_p6 : lw_okq (⟨"OffThenOn$HouseReader", "deedHere", "()I"⟩, 3) := ⟨⟨by decide +kernel, by decide +kernel⟩, List.mem_of_getElem? (i := 272) (by decide +kernel), List.mem_of_getElem? (i := 608) (by decide +kernel), List.mem_of_getElem? (i := 609) (by decide +kernel)⟩
theorem lw_p7 : lw_okq (⟨"OffThenOn", "takeText", "(LOffThenOn$Reader;)V"⟩, 17) := ⟨⟨by decide +kernel, by decide +kernel⟩, List.mem_of_getElem? (i := 26) (by decide +kernel), List.mem_of_getElem? (i := 620) (by decide +kernel), List.mem_of_getElem? (i := 621) (by decide +kernel)⟩
theorem lw_p8 : lw_okq (⟨"OffThenOn", "isFault", "(I)Z"⟩, 17) := ⟨⟨by decide +kernel, by decide +kernel⟩, List.mem_of_getElem? (i := 26) (by decide +kernel), List.mem_of_getElem? (i := 651) (by decide +kernel), List.mem_of_getElem? (i := 652) (by decide +kernel)⟩
theorem lw_p9 : lw_okq (⟨"OffThenOn", "isThing", "(I)Z"⟩, 17) := ⟨⟨by decide +kernel, by decide +kernel⟩, List.mem_of_getElem? (i := 26) (by decide +kernel), List.mem_of_getElem? (i := 673) (by decide +kernel), List.mem_of_getElem? (i := 674) (by decide +kernel)⟩
theorem lw_p10 : lw_okq (⟨"OffThenOn$State", "cutOff", "(LOffThenOn$House;I)V"⟩, 13) := ⟨⟨by decide +kernel, by decide +kernel⟩, List.mem_of_getElem? (i := 144) (by decide +kernel), List.mem_of_getElem? (i := 690) (by decide +kernel), List.mem_of_getElem? (i := 691) (by decide +kernel)⟩
theorem lw_p11 : lw_okq (⟨"OffThenOn", "settle", "(I)I"⟩, 17) := ⟨⟨by decide +kernel, by decide +kernel⟩, List.mem_of_getElem? (i := 26) (by decide +kernel), List.mem_of_getElem? (i := 694) (by decide +kernel), List.mem_of_getElem? (i := 695) (by decide +kernel)⟩
theorem lw_p12 : lw_okq (⟨"OffThenOn$State", "startBoot", "(LOffThenOn$House;I)V"⟩, 13) := ⟨⟨by decide +kernel, by decide +kernel⟩, List.mem_of_getElem? (i := 144) (by decide +kernel), List.mem_of_getElem? (i := 710) (by decide +kernel), List.mem_of_getElem? (i := 711) (by decide +kernel)⟩
theorem lw_p13 : lw_okq (⟨"OffThenOn$State", "doDeed", "(LOffThenOn$House;II)V"⟩, 13) := ⟨⟨by decide +kernel, by decide +kernel⟩, List.mem_of_getElem? (i := 144) (by decide +kernel), List.mem_of_getElem? (i := 714) (by decide +kernel), List.mem_of_getElem? (i := 715) (by decide +kernel)⟩
theorem lw_p14 : lw_okq (⟨"OffThenOn$State", "draw", "(I)I"⟩, 13) := ⟨⟨by decide +kernel, by decide +kernel⟩, List.mem_of_getElem? (i := 144) (by decide +kernel), List.mem_of_getElem? (i := 719) (by decide +kernel), List.mem_of_getElem? (i := 720) (by decide +kernel)⟩
theorem lw_p15 : lw_okq (⟨"OffThenOn$State", "takeAway", "(I)V"⟩, 13) := ⟨⟨by decide +kernel, by decide +kernel⟩, List.mem_of_getElem? (i := 144) (by decide +kernel), List.mem_of_getElem? (i := 724) (by decide +kernel), List.mem_of_getElem? (i := 725) (by decide +kernel)⟩
def lw_privs_1 : List (MethodName × Nat) := [(⟨"OffThenOn$Reader", "readRun", "(I)V"⟩, 10), (⟨"OffThenOn$HouseReader", "readLine", "()Z"⟩, 3), (⟨"OffThenOn$HouseReader", "readThing", "()Z"⟩, 3), (⟨"OffThenOn$HouseReader", "isNewName", "()Z"⟩, 3), (⟨"OffThenOn$HouseReader", "readFault", "()Z"⟩, 3), (⟨"OffThenOn$HouseReader", "readCure", "()Z"⟩, 3), (⟨"OffThenOn$HouseReader", "deedHere", "()I"⟩, 3), (⟨"OffThenOn", "takeText", "(LOffThenOn$Reader;)V"⟩, 17), (⟨"OffThenOn", "isFault", "(I)Z"⟩, 17), (⟨"OffThenOn", "isThing", "(I)Z"⟩, 17), (⟨"OffThenOn$State", "cutOff", "(LOffThenOn$House;I)V"⟩, 13), (⟨"OffThenOn", "settle", "(I)I"⟩, 17), (⟨"OffThenOn$State", "startBoot", "(LOffThenOn$House;I)V"⟩, 13), (⟨"OffThenOn$State", "doDeed", "(LOffThenOn$House;II)V"⟩, 13), (⟨"OffThenOn$State", "draw", "(I)I"⟩, 13), (⟨"OffThenOn$State", "takeAway", "(I)V"⟩, 13)]
theorem lw_r1 : ∀ q ∈ lw_privs_1, lw_okq q := List.forall_mem_cons.mpr ⟨lw_p0, List.forall_mem_cons.mpr ⟨lw_p1, List.forall_mem_cons.mpr ⟨lw_p2, List.forall_mem_cons.mpr ⟨lw_p3, List.forall_mem_cons.mpr ⟨lw_p4, List.forall_mem_cons.mpr ⟨lw_p5, List.forall_mem_cons.mpr ⟨lw_p6, List.forall_mem_cons.mpr ⟨lw_p7, List.forall_mem_cons.mpr ⟨lw_p8, List.forall_mem_cons.mpr ⟨lw_p9, List.forall_mem_cons.mpr ⟨lw_p10, List.forall_mem_cons.mpr ⟨lw_p11, List.forall_mem_cons.mpr ⟨lw_p12, List.forall_mem_cons.mpr ⟨lw_p13, List.forall_mem_cons.mpr ⟨lw_p14, List.forall_mem_cons.mpr ⟨lw_p15, fun _ h => absurd h List.not_mem_nil⟩⟩⟩⟩⟩⟩⟩⟩⟩⟩⟩⟩⟩⟩⟩⟩
theorem lw_p16 : lw_okq (⟨"OffThenOn$State", "passMinute", "(LOffThenOn$House;)V"⟩, 13) := ⟨⟨by decide +kernel, by decide +kernel⟩, List.mem_of_getElem? (i := 144) (by decide +kernel), List.mem_of_getElem? (i := 760) (by decide +kernel), List.mem_of_getElem? (i := 761) (by decide +kernel)⟩
theorem lw_p17 : lw_okq (⟨"OffThenOn$State", "comeUp", "(LOffThenOn$House;I)V"⟩, 13) := ⟨⟨by decide +kernel, by decide +kernel⟩, List.mem_of_getElem? (i := 144) (by decide +kernel), List.mem_of_getElem? (i := 764) (by decide +kernel), List.mem_of_getElem? (i := 765) (by decide +kernel)⟩
theorem lw_p18 : lw_okq (⟨"OffThenOn", "faultsByLamps", "()I"⟩, 17) := ⟨⟨by decide +kernel, by decide +kernel⟩, List.mem_of_getElem? (i := 26) (by decide +kernel), List.mem_of_getElem? (i := 780) (by decide +kernel), List.mem_of_getElem? (i := 781) (by decide +kernel)⟩
theorem lw_p19 : lw_okq (⟨"OffThenOn", "faultsByMinutes", "(I)I"⟩, 17) := ⟨⟨by decide +kernel, by decide +kernel⟩, List.mem_of_getElem? (i := 26) (by decide +kernel), List.mem_of_getElem? (i := 849) (by decide +kernel), List.mem_of_getElem? (i := 850) (by decide +kernel)⟩
theorem lw_p20 : lw_okq (⟨"OffThenOn", "shownFault", "(I)I"⟩, 17) := ⟨⟨by decide +kernel, by decide +kernel⟩, List.mem_of_getElem? (i := 26) (by decide +kernel), List.mem_of_getElem? (i := 938) (by decide +kernel), List.mem_of_getElem? (i := 939) (by decide +kernel)⟩
theorem lw_p21 : lw_okq (⟨"OffThenOn$LogReader", "readLine", "(LOffThenOn$House;)Z"⟩, 6) := ⟨⟨by decide +kernel, by decide +kernel⟩, List.mem_of_getElem? (i := 343) (by decide +kernel), List.mem_of_getElem? (i := 970) (by decide +kernel), List.mem_of_getElem? (i := 971) (by decide +kernel)⟩
theorem lw_p22 : lw_okq (⟨"OffThenOn$LogReader", "readAct", "(LOffThenOn$House;)Z"⟩, 6) := ⟨⟨by decide +kernel, by decide +kernel⟩, List.mem_of_getElem? (i := 343) (by decide +kernel), List.mem_of_getElem? (i := 977) (by decide +kernel), List.mem_of_getElem? (i := 978) (by decide +kernel)⟩
theorem lw_p23 : lw_okq (⟨"OffThenOn$LogReader", "keepLine", "(III)Z"⟩, 6) := ⟨⟨by decide +kernel, by decide +kernel⟩, List.mem_of_getElem? (i := 343) (by decide +kernel), List.mem_of_getElem? (i := 984) (by decide +kernel), List.mem_of_getElem? (i := 985) (by decide +kernel)⟩
theorem lw_p24 : lw_okq (⟨"OffThenOn$LogReader", "readEvent", "(LOffThenOn$House;)Z"⟩, 6) := ⟨⟨by decide +kernel, by decide +kernel⟩, List.mem_of_getElem? (i := 343) (by decide +kernel), List.mem_of_getElem? (i := 988) (by decide +kernel), List.mem_of_getElem? (i := 989) (by decide +kernel)⟩
theorem lw_p25 : lw_okq (⟨"OffThenOn$LogReader", "liveLine", "(LOffThenOn$House;LOffThenOn$State;I)I"⟩, 6) := ⟨⟨by decide +kernel, by decide +kernel⟩, List.mem_of_getElem? (i := 343) (by decide +kernel), List.mem_of_getElem? (i := 998) (by decide +kernel), List.mem_of_getElem? (i := 999) (by decide +kernel)⟩
theorem lw_p26 : lw_okq (⟨"OffThenOn$SentenceReader", "readCond", "(LOffThenOn$House;I)Z"⟩, 2) := ⟨⟨by decide +kernel, by decide +kernel⟩, List.mem_of_getElem? (i := 372) (by decide +kernel), List.mem_of_getElem? (i := 1025) (by decide +kernel), List.mem_of_getElem? (i := 1026) (by decide +kernel)⟩
theorem lw_p27 : lw_okq (⟨"OffThenOn$SentenceReader", "readAll", "(LOffThenOn$House;I)Z"⟩, 2) := ⟨⟨by decide +kernel, by decide +kernel⟩, List.mem_of_getElem? (i := 372) (by decide +kernel), List.mem_of_getElem? (i := 1029) (by decide +kernel), List.mem_of_getElem? (i := 1030) (by decide +kernel)⟩
theorem lw_p28 : lw_okq (⟨"OffThenOn$SentenceReader", "readOne", "(LOffThenOn$House;I)Z"⟩, 2) := ⟨⟨by decide +kernel, by decide +kernel⟩, List.mem_of_getElem? (i := 372) (by decide +kernel), List.mem_of_getElem? (i := 1033) (by decide +kernel), List.mem_of_getElem? (i := 1034) (by decide +kernel)⟩
theorem lw_p29 : lw_okq (⟨"OffThenOn$SentenceReader", "isOneHere", "()Z"⟩, 2) := ⟨⟨by decide +kernel, by decide +kernel⟩, List.mem_of_getElem? (i := 372) (by decide +kernel), List.mem_of_getElem? (i := 1037) (by decide +kernel), List.mem_of_getElem? (i := 1038) (by decide +kernel)⟩
theorem lw_p30 : lw_okq (⟨"OffThenOn$SentenceReader", "readNot", "(LOffThenOn$House;I)Z"⟩, 2) := ⟨⟨by decide +kernel, by decide +kernel⟩, List.mem_of_getElem? (i := 372) (by decide +kernel), List.mem_of_getElem? (i := 1045) (by decide +kernel), List.mem_of_getElem? (i := 1046) (by decide +kernel)⟩
theorem lw_p31 : lw_okq (⟨"OffThenOn$SentenceReader", "addNumbered", "(III)Z"⟩, 2) := ⟨⟨by decide +kernel, by decide +kernel⟩, List.mem_of_getElem? (i := 372) (by decide +kernel), List.mem_of_getElem? (i := 1054) (by decide +kernel), List.mem_of_getElem? (i := 1055) (by decide +kernel)⟩
def lw_privs_2 : List (MethodName × Nat) := [(⟨"OffThenOn$State", "passMinute", "(LOffThenOn$House;)V"⟩, 13), (⟨"OffThenOn$State", "comeUp", "(LOffThenOn$House;I)V"⟩, 13), (⟨"OffThenOn", "faultsByLamps", "()I"⟩, 17), (⟨"OffThenOn", "faultsByMinutes", "(I)I"⟩, 17), (⟨"OffThenOn", "shownFault", "(I)I"⟩, 17), (⟨"OffThenOn$LogReader", "readLine", "(LOffThenOn$House;)Z"⟩, 6), (⟨"OffThenOn$LogReader", "readAct", "(LOffThenOn$House;)Z"⟩, 6), (⟨"OffThenOn$LogReader", "keepLine", "(III)Z"⟩, 6), (⟨"OffThenOn$LogReader", "readEvent", "(LOffThenOn$House;)Z"⟩, 6), (⟨"OffThenOn$LogReader", "liveLine", "(LOffThenOn$House;LOffThenOn$State;I)I"⟩, 6), (⟨"OffThenOn$SentenceReader", "readCond", "(LOffThenOn$House;I)Z"⟩, 2), (⟨"OffThenOn$SentenceReader", "readAll", "(LOffThenOn$House;I)Z"⟩, 2), (⟨"OffThenOn$SentenceReader", "readOne", "(LOffThenOn$House;I)Z"⟩, 2), (⟨"OffThenOn$SentenceReader", "isOneHere", "()Z"⟩, 2), (⟨"OffThenOn$SentenceReader", "readNot", "(LOffThenOn$House;I)Z"⟩, 2), (⟨"OffThenOn$SentenceReader", "addNumbered", "(III)Z"⟩, 2)]
theorem lw_r2 : ∀ q ∈ lw_privs_2, lw_okq q := List.forall_mem_cons.mpr ⟨lw_p16, List.forall_mem_cons.mpr ⟨lw_p17, List.forall_mem_cons.mpr ⟨lw_p18, List.forall_mem_cons.mpr ⟨lw_p19, List.forall_mem_cons.mpr ⟨lw_p20, List.forall_mem_cons.mpr ⟨lw_p21, List.forall_mem_cons.mpr ⟨lw_p22, List.forall_mem_cons.mpr ⟨lw_p23, List.forall_mem_cons.mpr ⟨lw_p24, List.forall_mem_cons.mpr ⟨lw_p25, List.forall_mem_cons.mpr ⟨lw_p26, List.forall_mem_cons.mpr ⟨lw_p27, List.forall_mem_cons.mpr ⟨lw_p28, List.forall_mem_cons.mpr ⟨lw_p29, List.forall_mem_cons.mpr ⟨lw_p30, List.forall_mem_cons.mpr ⟨lw_p31, fun _ h => absurd h List.not_mem_nil⟩⟩⟩⟩⟩⟩⟩⟩⟩⟩⟩⟩⟩⟩⟩⟩
theorem lw_p32 : lw_okq (⟨"OffThenOn$SentenceReader", "readCompared", "(I)Z"⟩, 2) := ⟨⟨by decide +kernel, by decide +kernel⟩, List.mem_of_getElem? (i := 372) (by decide +kernel), List.mem_of_getElem? (i := 1059) (by decide +kernel), List.mem_of_getElem? (i := 1060) (by decide +kernel)⟩
theorem lw_p33 : lw_okq (⟨"OffThenOn$Sentence", "thingsOfStep", "(LOffThenOn$House;LOffThenOn$State;I)I"⟩, 6) := ⟨⟨by decide +kernel, by decide +kernel⟩, List.mem_of_getElem? (i := 207) (by decide +kernel), List.mem_of_getElem? (i := 1077) (by decide +kernel), List.mem_of_getElem? (i := 1078) (by decide +kernel)⟩
theorem lw_p34 : lw_okq (⟨"OffThenOn$Sentence", "thingsCompared", "(LOffThenOn$House;LOffThenOn$State;I)I"⟩, 6) := ⟨⟨by decide +kernel, by decide +kernel⟩, List.mem_of_getElem? (i := 207) (by decide +kernel), List.mem_of_getElem? (i := 1084) (by decide +kernel), List.mem_of_getElem? (i := 1085) (by decide +kernel)⟩
theorem lw_p35 : lw_okq (⟨"OffThenOn$Sentence", "valueOf", "(LOffThenOn$House;LOffThenOn$State;II)I"⟩, 6) := ⟨⟨by decide +kernel, by decide +kernel⟩, List.mem_of_getElem? (i := 207) (by decide +kernel), List.mem_of_getElem? (i := 1088) (by decide +kernel), List.mem_of_getElem? (i := 1089) (by decide +kernel)⟩
theorem lw_p36 : lw_okq (⟨"java/lang/Throwable", "fillInStackTrace", "(I)Ljava/lang/Throwable;"⟩, 6) := ⟨⟨by decide +kernel, by decide +kernel⟩, List.mem_of_getElem? (i := 1160) (by decide +kernel), List.mem_of_getElem? (i := 1158) (by decide +kernel), List.mem_of_getElem? (i := 1159) (by decide +kernel)⟩
theorem lw_p37 : lw_okq (⟨"OffThenOn$Planner", "weightBehind", "(I)I"⟩, 7) := ⟨⟨by decide +kernel, by decide +kernel⟩, List.mem_of_getElem? (i := 391) (by decide +kernel), List.mem_of_getElem? (i := 1215) (by decide +kernel), List.mem_of_getElem? (i := 1216) (by decide +kernel)⟩
theorem lw_p38 : lw_okq (⟨"OffThenOn$Planner", "tryRows", "(LOffThenOn$House;III)V"⟩, 7) := ⟨⟨by decide +kernel, by decide +kernel⟩, List.mem_of_getElem? (i := 391) (by decide +kernel), List.mem_of_getElem? (i := 1219) (by decide +kernel), List.mem_of_getElem? (i := 1220) (by decide +kernel)⟩
theorem lw_p39 : lw_okq (⟨"OffThenOn$Planner", "keepBetter", "(II)V"⟩, 7) := ⟨⟨by decide +kernel, by decide +kernel⟩, List.mem_of_getElem? (i := 391) (by decide +kernel), List.mem_of_getElem? (i := 1223) (by decide +kernel), List.mem_of_getElem? (i := 1224) (by decide +kernel)⟩
theorem lw_p40 : lw_okq (⟨"OffThenOn$Planner", "tryDeed", "(LOffThenOn$House;IIII)V"⟩, 7) := ⟨⟨by decide +kernel, by decide +kernel⟩, List.mem_of_getElem? (i := 391) (by decide +kernel), List.mem_of_getElem? (i := 1228) (by decide +kernel), List.mem_of_getElem? (i := 1229) (by decide +kernel)⟩
theorem lw_p41 : lw_okq (⟨"OffThenOn$Planner", "weighDeed", "(LOffThenOn$House;II)V"⟩, 7) := ⟨⟨by decide +kernel, by decide +kernel⟩, List.mem_of_getElem? (i := 391) (by decide +kernel), List.mem_of_getElem? (i := 1232) (by decide +kernel), List.mem_of_getElem? (i := 1233) (by decide +kernel)⟩
theorem lw_p42 : lw_okq (⟨"OffThenOn", "eveningsWithDeed", "()I"⟩, 17) := ⟨⟨by decide +kernel, by decide +kernel⟩, List.mem_of_getElem? (i := 26) (by decide +kernel), List.mem_of_getElem? (i := 1244) (by decide +kernel), List.mem_of_getElem? (i := 1245) (by decide +kernel)⟩
theorem lw_p43 : lw_okq (⟨"OffThenOn", "countWays", "(II)I"⟩, 17) := ⟨⟨by decide +kernel, by decide +kernel⟩, List.mem_of_getElem? (i := 26) (by decide +kernel), List.mem_of_getElem? (i := 1248) (by decide +kernel), List.mem_of_getElem? (i := 1249) (by decide +kernel)⟩
theorem lw_p44 : lw_okq (⟨"OffThenOn", "minutesOfWay", "(II)I"⟩, 17) := ⟨⟨by decide +kernel, by decide +kernel⟩, List.mem_of_getElem? (i := 26) (by decide +kernel), List.mem_of_getElem? (i := 1252) (by decide +kernel), List.mem_of_getElem? (i := 1253) (by decide +kernel)⟩
theorem lw_p45 : lw_okq (⟨"OffThenOnModel", "come", "(I)V"⟩, 45) := ⟨⟨by decide +kernel, by decide +kernel⟩, List.mem_of_getElem? (i := 1256) (by decide +kernel), List.mem_of_getElem? (i := 1407) (by decide +kernel), List.mem_of_getElem? (i := 1408) (by decide +kernel)⟩
theorem lw_p46 : lw_okq (⟨"OffThenOnModel", "begin", "(I)V"⟩, 45) := ⟨⟨by decide +kernel, by decide +kernel⟩, List.mem_of_getElem? (i := 1256) (by decide +kernel), List.mem_of_getElem? (i := 1419) (by decide +kernel), List.mem_of_getElem? (i := 1420) (by decide +kernel)⟩
theorem lw_p47 : lw_okq (⟨"OffThenOnModel", "take", "()I"⟩, 45) := ⟨⟨by decide +kernel, by decide +kernel⟩, List.mem_of_getElem? (i := 1256) (by decide +kernel), List.mem_of_getElem? (i := 1423) (by decide +kernel), List.mem_of_getElem? (i := 1424) (by decide +kernel)⟩
def lw_privs_3 : List (MethodName × Nat) := [(⟨"OffThenOn$SentenceReader", "readCompared", "(I)Z"⟩, 2), (⟨"OffThenOn$Sentence", "thingsOfStep", "(LOffThenOn$House;LOffThenOn$State;I)I"⟩, 6), (⟨"OffThenOn$Sentence", "thingsCompared", "(LOffThenOn$House;LOffThenOn$State;I)I"⟩, 6), (⟨"OffThenOn$Sentence", "valueOf", "(LOffThenOn$House;LOffThenOn$State;II)I"⟩, 6), (⟨"java/lang/Throwable", "fillInStackTrace", "(I)Ljava/lang/Throwable;"⟩, 6), (⟨"OffThenOn$Planner", "weightBehind", "(I)I"⟩, 7), (⟨"OffThenOn$Planner", "tryRows", "(LOffThenOn$House;III)V"⟩, 7), (⟨"OffThenOn$Planner", "keepBetter", "(II)V"⟩, 7), (⟨"OffThenOn$Planner", "tryDeed", "(LOffThenOn$House;IIII)V"⟩, 7), (⟨"OffThenOn$Planner", "weighDeed", "(LOffThenOn$House;II)V"⟩, 7), (⟨"OffThenOn", "eveningsWithDeed", "()I"⟩, 17), (⟨"OffThenOn", "countWays", "(II)I"⟩, 17), (⟨"OffThenOn", "minutesOfWay", "(II)I"⟩, 17), (⟨"OffThenOnModel", "come", "(I)V"⟩, 45), (⟨"OffThenOnModel", "begin", "(I)V"⟩, 45), (⟨"OffThenOnModel", "take", "()I"⟩, 45)]
theorem lw_r3 : ∀ q ∈ lw_privs_3, lw_okq q := List.forall_mem_cons.mpr ⟨lw_p32, List.forall_mem_cons.mpr ⟨lw_p33, List.forall_mem_cons.mpr ⟨lw_p34, List.forall_mem_cons.mpr ⟨lw_p35, List.forall_mem_cons.mpr ⟨lw_p36, List.forall_mem_cons.mpr ⟨lw_p37, List.forall_mem_cons.mpr ⟨lw_p38, List.forall_mem_cons.mpr ⟨lw_p39, List.forall_mem_cons.mpr ⟨lw_p40, List.forall_mem_cons.mpr ⟨lw_p41, List.forall_mem_cons.mpr ⟨lw_p42, List.forall_mem_cons.mpr ⟨lw_p43, List.forall_mem_cons.mpr ⟨lw_p44, List.forall_mem_cons.mpr ⟨lw_p45, List.forall_mem_cons.mpr ⟨lw_p46, List.forall_mem_cons.mpr ⟨lw_p47, fun _ h => absurd h List.not_mem_nil⟩⟩⟩⟩⟩⟩⟩⟩⟩⟩⟩⟩⟩⟩⟩⟩
theorem lw_p48 : lw_okq (⟨"OffThenOnModel", "go", "()V"⟩, 45) := ⟨⟨by decide +kernel, by decide +kernel⟩, List.mem_of_getElem? (i := 1256) (by decide +kernel), List.mem_of_getElem? (i := 1427) (by decide +kernel), List.mem_of_getElem? (i := 1428) (by decide +kernel)⟩
theorem lw_p49 : lw_okq (⟨"OffThenOnModel", "tapeAt", "(I)I"⟩, 45) := ⟨⟨by decide +kernel, by decide +kernel⟩, List.mem_of_getElem? (i := 1256) (by decide +kernel), List.mem_of_getElem? (i := 1437) (by decide +kernel), List.mem_of_getElem? (i := 1438) (by decide +kernel)⟩
theorem lw_p50 : lw_okq (⟨"OffThenOnModel", "readLine", "()Z"⟩, 45) := ⟨⟨by decide +kernel, by decide +kernel⟩, List.mem_of_getElem? (i := 1256) (by decide +kernel), List.mem_of_getElem? (i := 1443) (by decide +kernel), List.mem_of_getElem? (i := 1444) (by decide +kernel)⟩
theorem lw_p51 : lw_okq (⟨"OffThenOnModel", "isWord", "(I)Z"⟩, 45) := ⟨⟨by decide +kernel, by decide +kernel⟩, List.mem_of_getElem? (i := 1256) (by decide +kernel), List.mem_of_getElem? (i := 1447) (by decide +kernel), List.mem_of_getElem? (i := 1448) (by decide +kernel)⟩
theorem lw_p52 : lw_okq (⟨"OffThenOnModel", "readThing", "()Z"⟩, 45) := ⟨⟨by decide +kernel, by decide +kernel⟩, List.mem_of_getElem? (i := 1256) (by decide +kernel), List.mem_of_getElem? (i := 1457) (by decide +kernel), List.mem_of_getElem? (i := 1458) (by decide +kernel)⟩
theorem lw_p53 : lw_okq (⟨"OffThenOnModel", "readFirst", "(II)Z"⟩, 45) := ⟨⟨by decide +kernel, by decide +kernel⟩, List.mem_of_getElem? (i := 1256) (by decide +kernel), List.mem_of_getElem? (i := 1461) (by decide +kernel), List.mem_of_getElem? (i := 1462) (by decide +kernel)⟩
theorem lw_p54 : lw_okq (⟨"OffThenOnModel", "bad", "(I)Z"⟩, 45) := ⟨⟨by decide +kernel, by decide +kernel⟩, List.mem_of_getElem? (i := 1256) (by decide +kernel), List.mem_of_getElem? (i := 1465) (by decide +kernel), List.mem_of_getElem? (i := 1466) (by decide +kernel)⟩
theorem lw_p55 : lw_okq (⟨"OffThenOnModel", "readNew", "(I)Z"⟩, 45) := ⟨⟨by decide +kernel, by decide +kernel⟩, List.mem_of_getElem? (i := 1256) (by decide +kernel), List.mem_of_getElem? (i := 1469) (by decide +kernel), List.mem_of_getElem? (i := 1470) (by decide +kernel)⟩
theorem lw_p56 : lw_okq (⟨"OffThenOnModel", "isName", "()Z"⟩, 45) := ⟨⟨by decide +kernel, by decide +kernel⟩, List.mem_of_getElem? (i := 1256) (by decide +kernel), List.mem_of_getElem? (i := 1473) (by decide +kernel), List.mem_of_getElem? (i := 1474) (by decide +kernel)⟩
theorem lw_p57 : lw_okq (⟨"OffThenOnModel", "readNumber", "(II)Z"⟩, 45) := ⟨⟨by decide +kernel, by decide +kernel⟩, List.mem_of_getElem? (i := 1256) (by decide +kernel), List.mem_of_getElem? (i := 1480) (by decide +kernel), List.mem_of_getElem? (i := 1481) (by decide +kernel)⟩
theorem lw_p58 : lw_okq (⟨"OffThenOnModel", "put", "(IZ)Z"⟩, 45) := ⟨⟨by decide +kernel, by decide +kernel⟩, List.mem_of_getElem? (i := 1256) (by decide +kernel), List.mem_of_getElem? (i := 1487) (by decide +kernel), List.mem_of_getElem? (i := 1488) (by decide +kernel)⟩
theorem lw_p59 : lw_okq (⟨"OffThenOnModel", "readOne", "(II)Z"⟩, 45) := ⟨⟨by decide +kernel, by decide +kernel⟩, List.mem_of_getElem? (i := 1256) (by decide +kernel), List.mem_of_getElem? (i := 1491) (by decide +kernel), List.mem_of_getElem? (i := 1492) (by decide +kernel)⟩
theorem lw_p60 : lw_okq (⟨"OffThenOnModel", "readFault", "()Z"⟩, 45) := ⟨⟨by decide +kernel, by decide +kernel⟩, List.mem_of_getElem? (i := 1256) (by decide +kernel), List.mem_of_getElem? (i := 1495) (by decide +kernel), List.mem_of_getElem? (i := 1496) (by decide +kernel)⟩
theorem lw_p61 : lw_okq (⟨"OffThenOnModel", "readCures", "()Z"⟩, 45) := ⟨⟨by decide +kernel, by decide +kernel⟩, List.mem_of_getElem? (i := 1256) (by decide +kernel), List.mem_of_getElem? (i := 1499) (by decide +kernel), List.mem_of_getElem? (i := 1500) (by decide +kernel)⟩
theorem lw_p62 : lw_okq (⟨"OffThenOnModel", "readEnd", "()Z"⟩, 45) := ⟨⟨by decide +kernel, by decide +kernel⟩, List.mem_of_getElem? (i := 1256) (by decide +kernel), List.mem_of_getElem? (i := 1503) (by decide +kernel), List.mem_of_getElem? (i := 1504) (by decide +kernel)⟩
theorem lw_p63 : lw_okq (⟨"OffThenOnModel", "isSign", "(I)Z"⟩, 45) := ⟨⟨by decide +kernel, by decide +kernel⟩, List.mem_of_getElem? (i := 1256) (by decide +kernel), List.mem_of_getElem? (i := 1507) (by decide +kernel), List.mem_of_getElem? (i := 1508) (by decide +kernel)⟩
def lw_privs_4 : List (MethodName × Nat) := [(⟨"OffThenOnModel", "go", "()V"⟩, 45), (⟨"OffThenOnModel", "tapeAt", "(I)I"⟩, 45), (⟨"OffThenOnModel", "readLine", "()Z"⟩, 45), (⟨"OffThenOnModel", "isWord", "(I)Z"⟩, 45), (⟨"OffThenOnModel", "readThing", "()Z"⟩, 45), (⟨"OffThenOnModel", "readFirst", "(II)Z"⟩, 45), (⟨"OffThenOnModel", "bad", "(I)Z"⟩, 45), (⟨"OffThenOnModel", "readNew", "(I)Z"⟩, 45), (⟨"OffThenOnModel", "isName", "()Z"⟩, 45), (⟨"OffThenOnModel", "readNumber", "(II)Z"⟩, 45), (⟨"OffThenOnModel", "put", "(IZ)Z"⟩, 45), (⟨"OffThenOnModel", "readOne", "(II)Z"⟩, 45), (⟨"OffThenOnModel", "readFault", "()Z"⟩, 45), (⟨"OffThenOnModel", "readCures", "()Z"⟩, 45), (⟨"OffThenOnModel", "readEnd", "()Z"⟩, 45), (⟨"OffThenOnModel", "isSign", "(I)Z"⟩, 45)]
theorem lw_r4 : ∀ q ∈ lw_privs_4, lw_okq q := List.forall_mem_cons.mpr ⟨lw_p48, List.forall_mem_cons.mpr ⟨lw_p49, List.forall_mem_cons.mpr ⟨lw_p50, List.forall_mem_cons.mpr ⟨lw_p51, List.forall_mem_cons.mpr ⟨lw_p52, List.forall_mem_cons.mpr ⟨lw_p53, List.forall_mem_cons.mpr ⟨lw_p54, List.forall_mem_cons.mpr ⟨lw_p55, List.forall_mem_cons.mpr ⟨lw_p56, List.forall_mem_cons.mpr ⟨lw_p57, List.forall_mem_cons.mpr ⟨lw_p58, List.forall_mem_cons.mpr ⟨lw_p59, List.forall_mem_cons.mpr ⟨lw_p60, List.forall_mem_cons.mpr ⟨lw_p61, List.forall_mem_cons.mpr ⟨lw_p62, List.forall_mem_cons.mpr ⟨lw_p63, fun _ h => absurd h List.not_mem_nil⟩⟩⟩⟩⟩⟩⟩⟩⟩⟩⟩⟩⟩⟩⟩⟩
theorem lw_p64 : lw_okq (⟨"OffThenOnModel", "startSo", "()V"⟩, 45) := ⟨⟨by decide +kernel, by decide +kernel⟩, List.mem_of_getElem? (i := 1256) (by decide +kernel), List.mem_of_getElem? (i := 1511) (by decide +kernel), List.mem_of_getElem? (i := 1512) (by decide +kernel)⟩
theorem lw_p65 : lw_okq (⟨"OffThenOnModel", "isThing", "(I)Z"⟩, 45) := ⟨⟨by decide +kernel, by decide +kernel⟩, List.mem_of_getElem? (i := 1256) (by decide +kernel), List.mem_of_getElem? (i := 1523) (by decide +kernel), List.mem_of_getElem? (i := 1524) (by decide +kernel)⟩
theorem lw_p66 : lw_okq (⟨"OffThenOnModel", "refuse", "()I"⟩, 45) := ⟨⟨by decide +kernel, by decide +kernel⟩, List.mem_of_getElem? (i := 1256) (by decide +kernel), List.mem_of_getElem? (i := 1527) (by decide +kernel), List.mem_of_getElem? (i := 1528) (by decide +kernel)⟩
theorem lw_p67 : lw_okq (⟨"OffThenOnModel", "lamp", "(I)I"⟩, 45) := ⟨⟨by decide +kernel, by decide +kernel⟩, List.mem_of_getElem? (i := 1256) (by decide +kernel), List.mem_of_getElem? (i := 1531) (by decide +kernel), List.mem_of_getElem? (i := 1532) (by decide +kernel)⟩
theorem lw_p68 : lw_okq (⟨"OffThenOnModel", "worst", "(I)I"⟩, 45) := ⟨⟨by decide +kernel, by decide +kernel⟩, List.mem_of_getElem? (i := 1256) (by decide +kernel), List.mem_of_getElem? (i := 1535) (by decide +kernel), List.mem_of_getElem? (i := 1536) (by decide +kernel)⟩
theorem lw_p69 : lw_okq (⟨"OffThenOnModel", "isThere", "(I)Z"⟩, 45) := ⟨⟨by decide +kernel, by decide +kernel⟩, List.mem_of_getElem? (i := 1256) (by decide +kernel), List.mem_of_getElem? (i := 1539) (by decide +kernel), List.mem_of_getElem? (i := 1540) (by decide +kernel)⟩
theorem lw_p70 : lw_okq (⟨"OffThenOnModel", "works", "(I)Z"⟩, 45) := ⟨⟨by decide +kernel, by decide +kernel⟩, List.mem_of_getElem? (i := 1256) (by decide +kernel), List.mem_of_getElem? (i := 1543) (by decide +kernel), List.mem_of_getElem? (i := 1544) (by decide +kernel)⟩
theorem lw_p71 : lw_okq (⟨"OffThenOnModel", "isNumbered", "(I)Z"⟩, 45) := ⟨⟨by decide +kernel, by decide +kernel⟩, List.mem_of_getElem? (i := 1256) (by decide +kernel), List.mem_of_getElem? (i := 1547) (by decide +kernel), List.mem_of_getElem? (i := 1548) (by decide +kernel)⟩
theorem lw_p72 : lw_okq (⟨"OffThenOnModel", "isFault", "(I)Z"⟩, 45) := ⟨⟨by decide +kernel, by decide +kernel⟩, List.mem_of_getElem? (i := 1256) (by decide +kernel), List.mem_of_getElem? (i := 1555) (by decide +kernel), List.mem_of_getElem? (i := 1556) (by decide +kernel)⟩
theorem lw_p73 : lw_okq (⟨"OffThenOnModel", "working", "()I"⟩, 45) := ⟨⟨by decide +kernel, by decide +kernel⟩, List.mem_of_getElem? (i := 1256) (by decide +kernel), List.mem_of_getElem? (i := 1567) (by decide +kernel), List.mem_of_getElem? (i := 1568) (by decide +kernel)⟩
theorem lw_p74 : lw_okq (⟨"OffThenOnModel", "act", "(III)I"⟩, 45) := ⟨⟨by decide +kernel, by decide +kernel⟩, List.mem_of_getElem? (i := 1256) (by decide +kernel), List.mem_of_getElem? (i := 1575) (by decide +kernel), List.mem_of_getElem? (i := 1576) (by decide +kernel)⟩
theorem lw_p75 : lw_okq (⟨"OffThenOnModel", "why", "(II)I"⟩, 45) := ⟨⟨by decide +kernel, by decide +kernel⟩, List.mem_of_getElem? (i := 1256) (by decide +kernel), List.mem_of_getElem? (i := 1579) (by decide +kernel), List.mem_of_getElem? (i := 1580) (by decide +kernel)⟩
theorem lw_p76 : lw_okq (⟨"OffThenOnModel", "snap", "()V"⟩, 45) := ⟨⟨by decide +kernel, by decide +kernel⟩, List.mem_of_getElem? (i := 1256) (by decide +kernel), List.mem_of_getElem? (i := 1583) (by decide +kernel), List.mem_of_getElem? (i := 1584) (by decide +kernel)⟩
theorem lw_p77 : lw_okq (⟨"OffThenOnModel", "live", "(II)V"⟩, 45) := ⟨⟨by decide +kernel, by decide +kernel⟩, List.mem_of_getElem? (i := 1256) (by decide +kernel), List.mem_of_getElem? (i := 1587) (by decide +kernel), List.mem_of_getElem? (i := 1588) (by decide +kernel)⟩
theorem lw_p78 : lw_okq (⟨"OffThenOnModel", "set", "(III)V"⟩, 45) := ⟨⟨by decide +kernel, by decide +kernel⟩, List.mem_of_getElem? (i := 1256) (by decide +kernel), List.mem_of_getElem? (i := 1591) (by decide +kernel), List.mem_of_getElem? (i := 1592) (by decide +kernel)⟩
theorem lw_p79 : lw_okq (⟨"OffThenOnModel", "unnumber", "(I)V"⟩, 45) := ⟨⟨by decide +kernel, by decide +kernel⟩, List.mem_of_getElem? (i := 1256) (by decide +kernel), List.mem_of_getElem? (i := 1595) (by decide +kernel), List.mem_of_getElem? (i := 1596) (by decide +kernel)⟩
def lw_privs_5 : List (MethodName × Nat) := [(⟨"OffThenOnModel", "startSo", "()V"⟩, 45), (⟨"OffThenOnModel", "isThing", "(I)Z"⟩, 45), (⟨"OffThenOnModel", "refuse", "()I"⟩, 45), (⟨"OffThenOnModel", "lamp", "(I)I"⟩, 45), (⟨"OffThenOnModel", "worst", "(I)I"⟩, 45), (⟨"OffThenOnModel", "isThere", "(I)Z"⟩, 45), (⟨"OffThenOnModel", "works", "(I)Z"⟩, 45), (⟨"OffThenOnModel", "isNumbered", "(I)Z"⟩, 45), (⟨"OffThenOnModel", "isFault", "(I)Z"⟩, 45), (⟨"OffThenOnModel", "working", "()I"⟩, 45), (⟨"OffThenOnModel", "act", "(III)I"⟩, 45), (⟨"OffThenOnModel", "why", "(II)I"⟩, 45), (⟨"OffThenOnModel", "snap", "()V"⟩, 45), (⟨"OffThenOnModel", "live", "(II)V"⟩, 45), (⟨"OffThenOnModel", "set", "(III)V"⟩, 45), (⟨"OffThenOnModel", "unnumber", "(I)V"⟩, 45)]
theorem lw_r5 : ∀ q ∈ lw_privs_5, lw_okq q := List.forall_mem_cons.mpr ⟨lw_p64, List.forall_mem_cons.mpr ⟨lw_p65, List.forall_mem_cons.mpr ⟨lw_p66, List.forall_mem_cons.mpr ⟨lw_p67, List.forall_mem_cons.mpr ⟨lw_p68, List.forall_mem_cons.mpr ⟨lw_p69, List.forall_mem_cons.mpr ⟨lw_p70, List.forall_mem_cons.mpr ⟨lw_p71, List.forall_mem_cons.mpr ⟨lw_p72, List.forall_mem_cons.mpr ⟨lw_p73, List.forall_mem_cons.mpr ⟨lw_p74, List.forall_mem_cons.mpr ⟨lw_p75, List.forall_mem_cons.mpr ⟨lw_p76, List.forall_mem_cons.mpr ⟨lw_p77, List.forall_mem_cons.mpr ⟨lw_p78, List.forall_mem_cons.mpr ⟨lw_p79, fun _ h => absurd h List.not_mem_nil⟩⟩⟩⟩⟩⟩⟩⟩⟩⟩⟩⟩⟩⟩⟩⟩
theorem lw_p80 : lw_okq (⟨"OffThenOnModel", "isBehind", "(II)Z"⟩, 45) := ⟨⟨by decide +kernel, by decide +kernel⟩, List.mem_of_getElem? (i := 1256) (by decide +kernel), List.mem_of_getElem? (i := 1599) (by decide +kernel), List.mem_of_getElem? (i := 1600) (by decide +kernel)⟩
theorem lw_p81 : lw_okq (⟨"OffThenOnModel", "deed", "(II)V"⟩, 45) := ⟨⟨by decide +kernel, by decide +kernel⟩, List.mem_of_getElem? (i := 1256) (by decide +kernel), List.mem_of_getElem? (i := 1603) (by decide +kernel), List.mem_of_getElem? (i := 1604) (by decide +kernel)⟩
theorem lw_p82 : lw_okq (⟨"OffThenOnModel", "draw", "(I)I"⟩, 45) := ⟨⟨by decide +kernel, by decide +kernel⟩, List.mem_of_getElem? (i := 1256) (by decide +kernel), List.mem_of_getElem? (i := 1607) (by decide +kernel), List.mem_of_getElem? (i := 1608) (by decide +kernel)⟩
theorem lw_p83 : lw_okq (⟨"OffThenOnModel", "go", "(I)V"⟩, 45) := ⟨⟨by decide +kernel, by decide +kernel⟩, List.mem_of_getElem? (i := 1256) (by decide +kernel), List.mem_of_getElem? (i := 1612) (by decide +kernel), List.mem_of_getElem? (i := 1613) (by decide +kernel)⟩
theorem lw_p84 : lw_okq (⟨"OffThenOnModel", "passMinutes", "(I)I"⟩, 45) := ⟨⟨by decide +kernel, by decide +kernel⟩, List.mem_of_getElem? (i := 1256) (by decide +kernel), List.mem_of_getElem? (i := 1640) (by decide +kernel), List.mem_of_getElem? (i := 1641) (by decide +kernel)⟩
theorem lw_p85 : lw_okq (⟨"OffThenOnModel", "oneMinute", "()V"⟩, 45) := ⟨⟨by decide +kernel, by decide +kernel⟩, List.mem_of_getElem? (i := 1256) (by decide +kernel), List.mem_of_getElem? (i := 1647) (by decide +kernel), List.mem_of_getElem? (i := 1648) (by decide +kernel)⟩
theorem lw_p86 : lw_okq (⟨"OffThenOnModel", "showsSo", "(II)Z"⟩, 45) := ⟨⟨by decide +kernel, by decide +kernel⟩, List.mem_of_getElem? (i := 1256) (by decide +kernel), List.mem_of_getElem? (i := 1655) (by decide +kernel), List.mem_of_getElem? (i := 1656) (by decide +kernel)⟩
theorem lw_p87 : lw_okq (⟨"OffThenOnModel", "leftAt", "(I)I"⟩, 45) := ⟨⟨by decide +kernel, by decide +kernel⟩, List.mem_of_getElem? (i := 1256) (by decide +kernel), List.mem_of_getElem? (i := 1673) (by decide +kernel), List.mem_of_getElem? (i := 1674) (by decide +kernel)⟩
theorem lw_p88 : lw_okq (⟨"OffThenOnModel", "planFrom", "(IIII)V"⟩, 45) := ⟨⟨by decide +kernel, by decide +kernel⟩, List.mem_of_getElem? (i := 1256) (by decide +kernel), List.mem_of_getElem? (i := 1678) (by decide +kernel), List.mem_of_getElem? (i := 1679) (by decide +kernel)⟩
theorem lw_p89 : lw_okq (⟨"OffThenOnModel", "keepPlan", "(II)V"⟩, 45) := ⟨⟨by decide +kernel, by decide +kernel⟩, List.mem_of_getElem? (i := 1256) (by decide +kernel), List.mem_of_getElem? (i := 1682) (by decide +kernel), List.mem_of_getElem? (i := 1683) (by decide +kernel)⟩
theorem lw_p90 : lw_okq (⟨"OffThenOnModel", "minutesOf", "(II)I"⟩, 45) := ⟨⟨by decide +kernel, by decide +kernel⟩, List.mem_of_getElem? (i := 1256) (by decide +kernel), List.mem_of_getElem? (i := 1686) (by decide +kernel), List.mem_of_getElem? (i := 1687) (by decide +kernel)⟩
theorem lw_p91 : lw_okq (⟨"OffThenOnModel", "startOf", "(I)I"⟩, 45) := ⟨⟨by decide +kernel, by decide +kernel⟩, List.mem_of_getElem? (i := 1256) (by decide +kernel), List.mem_of_getElem? (i := 1698) (by decide +kernel), List.mem_of_getElem? (i := 1699) (by decide +kernel)⟩
theorem lw_p92 : lw_okq (⟨"OffThenOnModel", "areAlike", "(II)Z"⟩, 45) := ⟨⟨by decide +kernel, by decide +kernel⟩, List.mem_of_getElem? (i := 1256) (by decide +kernel), List.mem_of_getElem? (i := 1721) (by decide +kernel), List.mem_of_getElem? (i := 1722) (by decide +kernel)⟩
theorem lw_p93 : lw_okq (⟨"OffThenOnModel", "groupAt", "(II)I"⟩, 45) := ⟨⟨by decide +kernel, by decide +kernel⟩, List.mem_of_getElem? (i := 1256) (by decide +kernel), List.mem_of_getElem? (i := 1733) (by decide +kernel), List.mem_of_getElem? (i := 1734) (by decide +kernel)⟩
theorem lw_p94 : lw_okq (⟨"OffThenOnModel", "layAside", "()V"⟩, 45) := ⟨⟨by decide +kernel, by decide +kernel⟩, List.mem_of_getElem? (i := 1256) (by decide +kernel), List.mem_of_getElem? (i := 1745) (by decide +kernel), List.mem_of_getElem? (i := 1746) (by decide +kernel)⟩
theorem lw_p95 : lw_okq (⟨"OffThenOnModel", "showsOn", "(III)Z"⟩, 45) := ⟨⟨by decide +kernel, by decide +kernel⟩, List.mem_of_getElem? (i := 1256) (by decide +kernel), List.mem_of_getElem? (i := 1749) (by decide +kernel), List.mem_of_getElem? (i := 1750) (by decide +kernel)⟩
def lw_privs_6 : List (MethodName × Nat) := [(⟨"OffThenOnModel", "isBehind", "(II)Z"⟩, 45), (⟨"OffThenOnModel", "deed", "(II)V"⟩, 45), (⟨"OffThenOnModel", "draw", "(I)I"⟩, 45), (⟨"OffThenOnModel", "go", "(I)V"⟩, 45), (⟨"OffThenOnModel", "passMinutes", "(I)I"⟩, 45), (⟨"OffThenOnModel", "oneMinute", "()V"⟩, 45), (⟨"OffThenOnModel", "showsSo", "(II)Z"⟩, 45), (⟨"OffThenOnModel", "leftAt", "(I)I"⟩, 45), (⟨"OffThenOnModel", "planFrom", "(IIII)V"⟩, 45), (⟨"OffThenOnModel", "keepPlan", "(II)V"⟩, 45), (⟨"OffThenOnModel", "minutesOf", "(II)I"⟩, 45), (⟨"OffThenOnModel", "startOf", "(I)I"⟩, 45), (⟨"OffThenOnModel", "areAlike", "(II)Z"⟩, 45), (⟨"OffThenOnModel", "groupAt", "(II)I"⟩, 45), (⟨"OffThenOnModel", "layAside", "()V"⟩, 45), (⟨"OffThenOnModel", "showsOn", "(III)Z"⟩, 45)]
theorem lw_r6 : ∀ q ∈ lw_privs_6, lw_okq q := List.forall_mem_cons.mpr ⟨lw_p80, List.forall_mem_cons.mpr ⟨lw_p81, List.forall_mem_cons.mpr ⟨lw_p82, List.forall_mem_cons.mpr ⟨lw_p83, List.forall_mem_cons.mpr ⟨lw_p84, List.forall_mem_cons.mpr ⟨lw_p85, List.forall_mem_cons.mpr ⟨lw_p86, List.forall_mem_cons.mpr ⟨lw_p87, List.forall_mem_cons.mpr ⟨lw_p88, List.forall_mem_cons.mpr ⟨lw_p89, List.forall_mem_cons.mpr ⟨lw_p90, List.forall_mem_cons.mpr ⟨lw_p91, List.forall_mem_cons.mpr ⟨lw_p92, List.forall_mem_cons.mpr ⟨lw_p93, List.forall_mem_cons.mpr ⟨lw_p94, List.forall_mem_cons.mpr ⟨lw_p95, fun _ h => absurd h List.not_mem_nil⟩⟩⟩⟩⟩⟩⟩⟩⟩⟩⟩⟩⟩⟩⟩⟩
theorem lw_p96 : lw_okq (⟨"OffThenOnModel", "takeBack", "()V"⟩, 45) := ⟨⟨by decide +kernel, by decide +kernel⟩, List.mem_of_getElem? (i := 1256) (by decide +kernel), List.mem_of_getElem? (i := 1753) (by decide +kernel), List.mem_of_getElem? (i := 1754) (by decide +kernel)⟩
theorem lw_p97 : lw_okq (⟨"OffThenOnModel", "writeWord", "(J)V"⟩, 45) := ⟨⟨by decide +kernel, by decide +kernel⟩, List.mem_of_getElem? (i := 1256) (by decide +kernel), List.mem_of_getElem? (i := 1769) (by decide +kernel), List.mem_of_getElem? (i := 1770) (by decide +kernel)⟩
theorem lw_p98 : lw_okq (⟨"OffThenOnModel", "write", "(I)V"⟩, 45) := ⟨⟨by decide +kernel, by decide +kernel⟩, List.mem_of_getElem? (i := 1256) (by decide +kernel), List.mem_of_getElem? (i := 1773) (by decide +kernel), List.mem_of_getElem? (i := 1774) (by decide +kernel)⟩
theorem lw_p99 : lw_okq (⟨"OffThenOnModel", "writeNext", "(J)V"⟩, 45) := ⟨⟨by decide +kernel, by decide +kernel⟩, List.mem_of_getElem? (i := 1256) (by decide +kernel), List.mem_of_getElem? (i := 1777) (by decide +kernel), List.mem_of_getElem? (i := 1778) (by decide +kernel)⟩
theorem lw_p100 : lw_okq (⟨"OffThenOnModel", "writeNumber", "(I)V"⟩, 45) := ⟨⟨by decide +kernel, by decide +kernel⟩, List.mem_of_getElem? (i := 1256) (by decide +kernel), List.mem_of_getElem? (i := 1781) (by decide +kernel), List.mem_of_getElem? (i := 1782) (by decide +kernel)⟩
theorem lw_p101 : lw_okq (⟨"OffThenOnModel", "drawMinutes", "(II)I"⟩, 45) := ⟨⟨by decide +kernel, by decide +kernel⟩, List.mem_of_getElem? (i := 1256) (by decide +kernel), List.mem_of_getElem? (i := 1793) (by decide +kernel), List.mem_of_getElem? (i := 1794) (by decide +kernel)⟩
theorem lw_p102 : lw_okq (⟨"OffThenOnModel", "tryTo", "(II)V"⟩, 45) := ⟨⟨by decide +kernel, by decide +kernel⟩, List.mem_of_getElem? (i := 1256) (by decide +kernel), List.mem_of_getElem? (i := 1797) (by decide +kernel), List.mem_of_getElem? (i := 1798) (by decide +kernel)⟩
theorem lw_p103 : lw_okq (⟨"OffThenOnModel", "readLogLine", "()Z"⟩, 45) := ⟨⟨by decide +kernel, by decide +kernel⟩, List.mem_of_getElem? (i := 1256) (by decide +kernel), List.mem_of_getElem? (i := 1809) (by decide +kernel), List.mem_of_getElem? (i := 1810) (by decide +kernel)⟩
theorem lw_p104 : lw_okq (⟨"OffThenOnModel", "readDoes", "(I)Z"⟩, 45) := ⟨⟨by decide +kernel, by decide +kernel⟩, List.mem_of_getElem? (i := 1256) (by decide +kernel), List.mem_of_getElem? (i := 1813) (by decide +kernel), List.mem_of_getElem? (i := 1814) (by decide +kernel)⟩
theorem lw_p105 : lw_okq (⟨"OffThenOnModel", "readNamed", "(II)Z"⟩, 45) := ⟨⟨by decide +kernel, by decide +kernel⟩, List.mem_of_getElem? (i := 1256) (by decide +kernel), List.mem_of_getElem? (i := 1817) (by decide +kernel), List.mem_of_getElem? (i := 1818) (by decide +kernel)⟩
theorem lw_p106 : lw_okq (⟨"OffThenOnModel", "goBy", "(I)I"⟩, 45) := ⟨⟨by decide +kernel, by decide +kernel⟩, List.mem_of_getElem? (i := 1256) (by decide +kernel), List.mem_of_getElem? (i := 1821) (by decide +kernel), List.mem_of_getElem? (i := 1822) (by decide +kernel)⟩
theorem lw_p107 : lw_okq (⟨"OffThenOnModel", "stay", "(Z)V"⟩, 45) := ⟨⟨by decide +kernel, by decide +kernel⟩, List.mem_of_getElem? (i := 1256) (by decide +kernel), List.mem_of_getElem? (i := 1825) (by decide +kernel), List.mem_of_getElem? (i := 1826) (by decide +kernel)⟩
theorem lw_p108 : lw_okq (⟨"OffThenOnModel", "readOr", "()Z"⟩, 45) := ⟨⟨by decide +kernel, by decide +kernel⟩, List.mem_of_getElem? (i := 1256) (by decide +kernel), List.mem_of_getElem? (i := 1837) (by decide +kernel), List.mem_of_getElem? (i := 1838) (by decide +kernel)⟩
theorem lw_p109 : lw_okq (⟨"OffThenOnModel", "readAnd", "()Z"⟩, 45) := ⟨⟨by decide +kernel, by decide +kernel⟩, List.mem_of_getElem? (i := 1256) (by decide +kernel), List.mem_of_getElem? (i := 1841) (by decide +kernel), List.mem_of_getElem? (i := 1842) (by decide +kernel)⟩
theorem lw_p110 : lw_okq (⟨"OffThenOnModel", "readSaid", "()Z"⟩, 45) := ⟨⟨by decide +kernel, by decide +kernel⟩, List.mem_of_getElem? (i := 1256) (by decide +kernel), List.mem_of_getElem? (i := 1845) (by decide +kernel), List.mem_of_getElem? (i := 1846) (by decide +kernel)⟩
theorem lw_p111 : lw_okq (⟨"OffThenOnModel", "readBracket", "()Z"⟩, 45) := ⟨⟨by decide +kernel, by decide +kernel⟩, List.mem_of_getElem? (i := 1256) (by decide +kernel), List.mem_of_getElem? (i := 1849) (by decide +kernel), List.mem_of_getElem? (i := 1850) (by decide +kernel)⟩
def lw_privs_7 : List (MethodName × Nat) := [(⟨"OffThenOnModel", "takeBack", "()V"⟩, 45), (⟨"OffThenOnModel", "writeWord", "(J)V"⟩, 45), (⟨"OffThenOnModel", "write", "(I)V"⟩, 45), (⟨"OffThenOnModel", "writeNext", "(J)V"⟩, 45), (⟨"OffThenOnModel", "writeNumber", "(I)V"⟩, 45), (⟨"OffThenOnModel", "drawMinutes", "(II)I"⟩, 45), (⟨"OffThenOnModel", "tryTo", "(II)V"⟩, 45), (⟨"OffThenOnModel", "readLogLine", "()Z"⟩, 45), (⟨"OffThenOnModel", "readDoes", "(I)Z"⟩, 45), (⟨"OffThenOnModel", "readNamed", "(II)Z"⟩, 45), (⟨"OffThenOnModel", "goBy", "(I)I"⟩, 45), (⟨"OffThenOnModel", "stay", "(Z)V"⟩, 45), (⟨"OffThenOnModel", "readOr", "()Z"⟩, 45), (⟨"OffThenOnModel", "readAnd", "()Z"⟩, 45), (⟨"OffThenOnModel", "readSaid", "()Z"⟩, 45), (⟨"OffThenOnModel", "readBracket", "()Z"⟩, 45)]
theorem lw_r7 : ∀ q ∈ lw_privs_7, lw_okq q := List.forall_mem_cons.mpr ⟨lw_p96, List.forall_mem_cons.mpr ⟨lw_p97, List.forall_mem_cons.mpr ⟨lw_p98, List.forall_mem_cons.mpr ⟨lw_p99, List.forall_mem_cons.mpr ⟨lw_p100, List.forall_mem_cons.mpr ⟨lw_p101, List.forall_mem_cons.mpr ⟨lw_p102, List.forall_mem_cons.mpr ⟨lw_p103, List.forall_mem_cons.mpr ⟨lw_p104, List.forall_mem_cons.mpr ⟨lw_p105, List.forall_mem_cons.mpr ⟨lw_p106, List.forall_mem_cons.mpr ⟨lw_p107, List.forall_mem_cons.mpr ⟨lw_p108, List.forall_mem_cons.mpr ⟨lw_p109, List.forall_mem_cons.mpr ⟨lw_p110, List.forall_mem_cons.mpr ⟨lw_p111, fun _ h => absurd h List.not_mem_nil⟩⟩⟩⟩⟩⟩⟩⟩⟩⟩⟩⟩⟩⟩⟩⟩
theorem lw_p112 : lw_okq (⟨"OffThenOnModel", "readNot", "()Z"⟩, 45) := ⟨⟨by decide +kernel, by decide +kernel⟩, List.mem_of_getElem? (i := 1256) (by decide +kernel), List.mem_of_getElem? (i := 1853) (by decide +kernel), List.mem_of_getElem? (i := 1854) (by decide +kernel)⟩
theorem lw_p113 : lw_okq (⟨"OffThenOnModel", "saysOne", "(IIII)I"⟩, 45) := ⟨⟨by decide +kernel, by decide +kernel⟩, List.mem_of_getElem? (i := 1256) (by decide +kernel), List.mem_of_getElem? (i := 1857) (by decide +kernel), List.mem_of_getElem? (i := 1858) (by decide +kernel)⟩
theorem lw_p114 : lw_okq (⟨"OffThenOnModel", "readOf", "(I)Z"⟩, 45) := ⟨⟨by decide +kernel, by decide +kernel⟩, List.mem_of_getElem? (i := 1256) (by decide +kernel), List.mem_of_getElem? (i := 1861) (by decide +kernel), List.mem_of_getElem? (i := 1862) (by decide +kernel)⟩
theorem lw_p115 : lw_okq (⟨"OffThenOnModel", "readCompare", "(I)Z"⟩, 45) := ⟨⟨by decide +kernel, by decide +kernel⟩, List.mem_of_getElem? (i := 1256) (by decide +kernel), List.mem_of_getElem? (i := 1865) (by decide +kernel), List.mem_of_getElem? (i := 1866) (by decide +kernel)⟩
theorem lw_p116 : lw_okq (⟨"OffThenOnModel", "holds", "(II)Z"⟩, 45) := ⟨⟨by decide +kernel, by decide +kernel⟩, List.mem_of_getElem? (i := 1256) (by decide +kernel), List.mem_of_getElem? (i := 1873) (by decide +kernel), List.mem_of_getElem? (i := 1874) (by decide +kernel)⟩
def lw_privs_8 : List (MethodName × Nat) := [(⟨"OffThenOnModel", "readNot", "()Z"⟩, 45), (⟨"OffThenOnModel", "saysOne", "(IIII)I"⟩, 45), (⟨"OffThenOnModel", "readOf", "(I)Z"⟩, 45), (⟨"OffThenOnModel", "readCompare", "(I)Z"⟩, 45), (⟨"OffThenOnModel", "holds", "(II)Z"⟩, 45)]
theorem lw_r8 : ∀ q ∈ lw_privs_8, lw_okq q := List.forall_mem_cons.mpr ⟨lw_p112, List.forall_mem_cons.mpr ⟨lw_p113, List.forall_mem_cons.mpr ⟨lw_p114, List.forall_mem_cons.mpr ⟨lw_p115, List.forall_mem_cons.mpr ⟨lw_p116, fun _ h => absurd h List.not_mem_nil⟩⟩⟩⟩⟩
def lw_privs : List (MethodName × Nat) := lw_privs_1 ++ (lw_privs_2 ++ (lw_privs_3 ++ (lw_privs_4 ++ (lw_privs_5 ++ (lw_privs_6 ++ (lw_privs_7 ++ (lw_privs_8)))))))
def lw_tbl : List Cond := k2_sels lw_privs ++ tables_1
theorem lw_privs_ok : ∀ q ∈ lw_privs, lw_okq q := by
  show ∀ q ∈ lw_privs_1 ++ (lw_privs_2 ++ (lw_privs_3 ++ (lw_privs_4 ++ (lw_privs_5 ++ (lw_privs_6 ++ (lw_privs_7 ++ (lw_privs_8))))))), lw_okq q
  exact List.forall_mem_append.mpr ⟨lw_r1, List.forall_mem_append.mpr ⟨lw_r2, List.forall_mem_append.mpr ⟨lw_r3, List.forall_mem_append.mpr ⟨lw_r4, List.forall_mem_append.mpr ⟨lw_r5, List.forall_mem_append.mpr ⟨lw_r6, List.forall_mem_append.mpr ⟨lw_r7, lw_r8⟩⟩⟩⟩⟩⟩⟩
end
section
def RX0 : String := "OffThenOn$Bytes"
def TX0 : u_T := fun k => match k with
  | 0 => ("OffThenOn$Bytes", "row", "[B", true)
  | _ => ("OffThenOn$Bytes", "size", "I", false)
def tyX0 : Nat → FieldType := fun k => match k with
  | 0 => .array .byte
  | _ => .int
abbrev wsX00 : List Cond := u_ws RX0 TX0 2
theorem nmX0 : ∀ a, a < 2 → ∀ b, b < 2 → a ≠ b → (TX0 a).2.1 ≠ (TX0 b).2.1 := by decide +kernel
theorem tyX0_ok : ∀ k, k < 2 → parseFieldDescriptor (TX0 k).2.2.1 = some (tyX0 k) := by decide +kernel
abbrev cX0_init : ByteArray := prog_2_method_1_code
def yX0_init : MethodName := ⟨RX0, "<init>", "(I)V"⟩
abbrev cX0_at : ByteArray := prog_2_method_2_code
def yX0_at : MethodName := ⟨RX0, "at", "(I)I"⟩
abbrev cX0_add : ByteArray := prog_2_method_3_code
def yX0_add : MethodName := ⟨RX0, "add", "(I)V"⟩
abbrev cX0_addInt : ByteArray := prog_2_method_4_code
def yX0_addInt : MethodName := ⟨RX0, "addInt", "(I)V"⟩
abbrev cX0_addWord : ByteArray := prog_2_method_5_code
def yX0_addWord : MethodName := ⟨RX0, "addWord", "(J)V"⟩
abbrev cX0_addText : ByteArray := prog_2_method_6_code
def yX0_addText : MethodName := ⟨RX0, "addText", "(Ljava/lang/String;)V"⟩
abbrev cX0_addNumber : ByteArray := prog_2_method_7_code
def yX0_addNumber : MethodName := ⟨RX0, "addNumber", "(I)V"⟩
def RX1 : String := "OffThenOn$History"
def TX1 : u_T := fun k => match k with
  | 0 => ("OffThenOn$History", "states", "[LOffThenOn$State;", true)
  | 1 => ("OffThenOn$History", "first", "I", false)
  | _ => ("OffThenOn$History", "size", "I", false)
def tyX1 : Nat → FieldType := fun k => match k with
  | 0 => .array (.object "OffThenOn$State")
  | 1 => .int
  | _ => .int
abbrev wsX10 : List Cond := u_ws RX1 TX1 3
theorem nmX1 : ∀ a, a < 3 → ∀ b, b < 3 → a ≠ b → (TX1 a).2.1 ≠ (TX1 b).2.1 := by decide +kernel
theorem tyX1_ok : ∀ k, k < 3 → parseFieldDescriptor (TX1 k).2.2.1 = some (tyX1 k) := by decide +kernel
abbrev cX1_init : ByteArray := prog_3_method_1_code
def yX1_init : MethodName := ⟨RX1, "<init>", "()V"⟩
abbrev cX1_clear : ByteArray := prog_3_method_2_code
def yX1_clear : MethodName := ⟨RX1, "clear", "()V"⟩
abbrev cX1_prepare : ByteArray := prog_3_method_3_code
def yX1_prepare : MethodName := ⟨RX1, "prepare", "(LOffThenOn$State;)V"⟩
abbrev cX1_commit : ByteArray := prog_3_method_4_code
def yX1_commit : MethodName := ⟨RX1, "commit", "()V"⟩
abbrev cX1_takeBack : ByteArray := prog_3_method_5_code
def yX1_takeBack : MethodName := ⟨RX1, "takeBack", "(LOffThenOn$State;)I"⟩
def RX2 : String := "OffThenOn$House"
def TX2 : u_T := fun k => match k with
  | 0 => ("OffThenOn$House", "thingNames", "[J", true)
  | 1 => ("OffThenOn$House", "boots", "[I", true)
  | 2 => ("OffThenOn$House", "waits", "[I", true)
  | 3 => ("OffThenOn$House", "behinds", "[I", true)
  | 4 => ("OffThenOn$House", "ahead", "[I", true)
  | 5 => ("OffThenOn$House", "after", "[I", true)
  | 6 => ("OffThenOn$House", "faultsOf", "[I", true)
  | 7 => ("OffThenOn$House", "faultNames", "[J", true)
  | 8 => ("OffThenOn$House", "homes", "[I", true)
  | 9 => ("OffThenOn$House", "healTimes", "[I", true)
  | 10 => ("OffThenOn$House", "chances", "[I", true)
  | 11 => ("OffThenOn$House", "shows", "[I", true)
  | 12 => ("OffThenOn$House", "twelfths", "[I", true)
  | 13 => ("OffThenOn$House", "things", "I", false)
  | 14 => ("OffThenOn$House", "faults", "I", false)
  | _ => ("OffThenOn$House", "curesTold", "I", false)
def tyX2 : Nat → FieldType := fun k => match k with
  | 0 => .array .long
  | 1 => .array .int
  | 2 => .array .int
  | 3 => .array .int
  | 4 => .array .int
  | 5 => .array .int
  | 6 => .array .int
  | 7 => .array .long
  | 8 => .array .int
  | 9 => .array .int
  | 10 => .array .int
  | 11 => .array .int
  | 12 => .array .int
  | 13 => .int
  | 14 => .int
  | _ => .int
abbrev wsX20 : List Cond := u_ws RX2 TX2 16
theorem nmX2 : ∀ a, a < 16 → ∀ b, b < 16 → a ≠ b → (TX2 a).2.1 ≠ (TX2 b).2.1 := by decide +kernel
theorem tyX2_ok : ∀ k, k < 16 → parseFieldDescriptor (TX2 k).2.2.1 = some (tyX2 k) := by decide +kernel
abbrev cX2_init : ByteArray := prog_4_method_1_code
def yX2_init : MethodName := ⟨RX2, "<init>", "()V"⟩
abbrev cX2_clear : ByteArray := prog_4_method_2_code
def yX2_clear : MethodName := ⟨RX2, "clear", "()V"⟩
abbrev cX2_copyFrom : ByteArray := prog_4_method_3_code
def yX2_copyFrom : MethodName := ⟨RX2, "copyFrom", "(LOffThenOn$House;)V"⟩
abbrev cX2_addThing : ByteArray := prog_4_method_4_code
def yX2_addThing : MethodName := ⟨RX2, "addThing", "(JIII)V"⟩
abbrev cX2_addFault : ByteArray := prog_4_method_5_code
def yX2_addFault : MethodName := ⟨RX2, "addFault", "(JIIII)V"⟩
abbrev cX2_addCure : ByteArray := prog_4_method_6_code
def yX2_addCure : MethodName := ⟨RX2, "addCure", "(III)V"⟩
abbrev cX2_cureOf : ByteArray := prog_4_method_7_code
def yX2_cureOf : MethodName := ⟨RX2, "cureOf", "(II)I"⟩
abbrev cX2_findThing : ByteArray := prog_4_method_8_code
def yX2_findThing : MethodName := ⟨RX2, "findThing", "(J)I"⟩
abbrev cX2_findFault : ByteArray := prog_4_method_9_code
def yX2_findFault : MethodName := ⟨RX2, "findFault", "(J)I"⟩
abbrev cX2_minutesTillUp : ByteArray := prog_4_method_10_code
def yX2_minutesTillUp : MethodName := ⟨RX2, "minutesTillUp", "(I)I"⟩
abbrev cX2_faultsShowing : ByteArray := prog_4_method_11_code
def yX2_faultsShowing : MethodName := ⟨RX2, "faultsShowing", "(II)I"⟩
abbrev cX2_lookingLike : ByteArray := prog_4_method_12_code
def yX2_lookingLike : MethodName := ⟨RX2, "lookingLike", "(I)I"⟩
abbrev cX2_mostLeft : ByteArray := prog_4_method_13_code
def yX2_mostLeft : MethodName := ⟨RX2, "mostLeft", "(II)I"⟩
def RX3 : String := "OffThenOn$HouseReader"
def TX3 : u_T := fun k => match k with
  | 0 => ("OffThenOn$HouseReader", "reader", "LOffThenOn$Reader;", true)
  | 1 => ("OffThenOn$HouseReader", "draft", "LOffThenOn$House;", true)
  | _ => ("OffThenOn$HouseReader", "lines", "I", false)
def tyX3 : Nat → FieldType := fun k => match k with
  | 0 => .object "OffThenOn$Reader"
  | 1 => .object "OffThenOn$House"
  | _ => .int
abbrev wsX30 : List Cond := u_ws RX3 TX3 3
theorem nmX3 : ∀ a, a < 3 → ∀ b, b < 3 → a ≠ b → (TX3 a).2.1 ≠ (TX3 b).2.1 := by decide +kernel
theorem tyX3_ok : ∀ k, k < 3 → parseFieldDescriptor (TX3 k).2.2.1 = some (tyX3 k) := by decide +kernel
abbrev cX3_init : ByteArray := prog_5_method_1_code
def yX3_init : MethodName := ⟨RX3, "<init>", "()V"⟩
abbrev cX3_readHouse : ByteArray := prog_5_method_2_code
def yX3_readHouse : MethodName := ⟨RX3, "readHouse", "(LOffThenOn$Bytes;)Z"⟩
abbrev cX3_readLine : ByteArray := prog_5_method_3_code
def yX3_readLine : MethodName := ⟨RX3, "readLine", "()Z"⟩
abbrev cX3_readThing : ByteArray := prog_5_method_4_code
def yX3_readThing : MethodName := ⟨RX3, "readThing", "()Z"⟩
abbrev cX3_readFault : ByteArray := prog_5_method_5_code
def yX3_readFault : MethodName := ⟨RX3, "readFault", "()Z"⟩
abbrev cX3_readCure : ByteArray := prog_5_method_6_code
def yX3_readCure : MethodName := ⟨RX3, "readCure", "()Z"⟩
abbrev cX3_deedHere : ByteArray := prog_5_method_7_code
def yX3_deedHere : MethodName := ⟨RX3, "deedHere", "()I"⟩
abbrev cX3_isNewName : ByteArray := prog_5_method_8_code
def yX3_isNewName : MethodName := ⟨RX3, "isNewName", "()Z"⟩
def RX4 : String := "OffThenOn$LogReader"
def TX4 : u_T := fun k => match k with
  | 0 => ("OffThenOn$LogReader", "reader", "LOffThenOn$Reader;", true)
  | 1 => ("OffThenOn$LogReader", "verbs", "[I", true)
  | 2 => ("OffThenOn$LogReader", "whos", "[I", true)
  | 3 => ("OffThenOn$LogReader", "numbers", "[I", true)
  | 4 => ("OffThenOn$LogReader", "lines", "I", false)
  | _ => ("OffThenOn$LogReader", "why", "I", false)
def tyX4 : Nat → FieldType := fun k => match k with
  | 0 => .object "OffThenOn$Reader"
  | 1 => .array .int
  | 2 => .array .int
  | 3 => .array .int
  | 4 => .int
  | _ => .int
abbrev wsX40 : List Cond := u_ws RX4 TX4 6
theorem nmX4 : ∀ a, a < 6 → ∀ b, b < 6 → a ≠ b → (TX4 a).2.1 ≠ (TX4 b).2.1 := by decide +kernel
theorem tyX4_ok : ∀ k, k < 6 → parseFieldDescriptor (TX4 k).2.2.1 = some (tyX4 k) := by decide +kernel
abbrev cX4_init : ByteArray := prog_6_method_1_code
def yX4_init : MethodName := ⟨RX4, "<init>", "()V"⟩
abbrev cX4_readLog : ByteArray := prog_6_method_2_code
def yX4_readLog : MethodName := ⟨RX4, "readLog", "(LOffThenOn$Bytes;LOffThenOn$House;)Z"⟩
abbrev cX4_readLine : ByteArray := prog_6_method_3_code
def yX4_readLine : MethodName := ⟨RX4, "readLine", "(LOffThenOn$House;)Z"⟩
abbrev cX4_readAct : ByteArray := prog_6_method_4_code
def yX4_readAct : MethodName := ⟨RX4, "readAct", "(LOffThenOn$House;)Z"⟩
abbrev cX4_readEvent : ByteArray := prog_6_method_5_code
def yX4_readEvent : MethodName := ⟨RX4, "readEvent", "(LOffThenOn$House;)Z"⟩
abbrev cX4_keepLine : ByteArray := prog_6_method_6_code
def yX4_keepLine : MethodName := ⟨RX4, "keepLine", "(III)Z"⟩
abbrev cX4_live : ByteArray := prog_6_method_7_code
def yX4_live : MethodName := ⟨RX4, "live", "(LOffThenOn$House;LOffThenOn$State;)I"⟩
abbrev cX4_liveLine : ByteArray := prog_6_method_8_code
def yX4_liveLine : MethodName := ⟨RX4, "liveLine", "(LOffThenOn$House;LOffThenOn$State;I)I"⟩
abbrev cX4_whyOf : ByteArray := prog_6_method_9_code
def yX4_whyOf : MethodName := ⟨RX4, "whyOf", "(II)I"⟩
def RX5 : String := "OffThenOn$Planner"
def TX5 : u_T := fun k => match k with
  | 0 => ("OffThenOn$Planner", "best", "[I", true)
  | 1 => ("OffThenOn$Planner", "bestSize", "I", false)
  | 2 => ("OffThenOn$Planner", "fewest", "I", false)
  | 3 => ("OffThenOn$Planner", "whole", "I", false)
  | 4 => ("OffThenOn$Planner", "row", "[I", true)
  | 5 => ("OffThenOn$Planner", "weights", "[I", true)
  | _ => ("OffThenOn$Planner", "costs", "[I", true)
def tyX5 : Nat → FieldType := fun k => match k with
  | 0 => .array .int
  | 1 => .int
  | 2 => .int
  | 3 => .int
  | 4 => .array .int
  | 5 => .array .int
  | _ => .array .int
abbrev wsX50 : List Cond := u_ws RX5 TX5 7
theorem nmX5 : ∀ a, a < 7 → ∀ b, b < 7 → a ≠ b → (TX5 a).2.1 ≠ (TX5 b).2.1 := by decide +kernel
theorem tyX5_ok : ∀ k, k < 7 → parseFieldDescriptor (TX5 k).2.2.1 = some (tyX5 k) := by decide +kernel
abbrev cX5_init : ByteArray := prog_7_method_1_code
def yX5_init : MethodName := ⟨RX5, "<init>", "()V"⟩
abbrev cX5_makePlan : ByteArray := prog_7_method_2_code
def yX5_makePlan : MethodName := ⟨RX5, "makePlan", "(LOffThenOn$House;II)V"⟩
abbrev cX5_tryRows : ByteArray := prog_7_method_3_code
def yX5_tryRows : MethodName := ⟨RX5, "tryRows", "(LOffThenOn$House;III)V"⟩
abbrev cX5_tryDeed : ByteArray := prog_7_method_4_code
def yX5_tryDeed : MethodName := ⟨RX5, "tryDeed", "(LOffThenOn$House;IIII)V"⟩
abbrev cX5_weightBehind : ByteArray := prog_7_method_5_code
def yX5_weightBehind : MethodName := ⟨RX5, "weightBehind", "(I)I"⟩
abbrev cX5_weighDeed : ByteArray := prog_7_method_6_code
def yX5_weighDeed : MethodName := ⟨RX5, "weighDeed", "(LOffThenOn$House;II)V"⟩
abbrev cX5_keepBetter : ByteArray := prog_7_method_7_code
def yX5_keepBetter : MethodName := ⟨RX5, "keepBetter", "(II)V"⟩
def RX6 : String := "OffThenOn$Reader"
def TX6 : u_T := fun k => match k with
  | 0 => ("OffThenOn$Reader", "text", "LOffThenOn$Bytes;", false)
  | 1 => ("OffThenOn$Reader", "mostBytes", "I", false)
  | 2 => ("OffThenOn$Reader", "sort", "I", false)
  | 3 => ("OffThenOn$Reader", "place", "I", false)
  | 4 => ("OffThenOn$Reader", "next", "I", false)
  | 5 => ("OffThenOn$Reader", "letters", "J", false)
  | 6 => ("OffThenOn$Reader", "keyword", "I", false)
  | 7 => ("OffThenOn$Reader", "value", "I", false)
  | 8 => ("OffThenOn$Reader", "wrong", "I", false)
  | _ => ("OffThenOn$Reader", "wrongPlace", "I", false)
def tyX6 : Nat → FieldType := fun k => match k with
  | 0 => .object "OffThenOn$Bytes"
  | 1 => .int
  | 2 => .int
  | 3 => .int
  | 4 => .int
  | 5 => .long
  | 6 => .int
  | 7 => .int
  | 8 => .int
  | _ => .int
abbrev wsX60 : List Cond := u_ws RX6 TX6 10
theorem nmX6 : ∀ a, a < 10 → ∀ b, b < 10 → a ≠ b → (TX6 a).2.1 ≠ (TX6 b).2.1 := by decide +kernel
theorem tyX6_ok : ∀ k, k < 10 → parseFieldDescriptor (TX6 k).2.2.1 = some (tyX6 k) := by decide +kernel
abbrev cX6_init : ByteArray := prog_8_method_1_code
def yX6_init : MethodName := ⟨RX6, "<init>", "()V"⟩
abbrev cX6_start : ByteArray := prog_8_method_2_code
def yX6_start : MethodName := ⟨RX6, "start", "(LOffThenOn$Bytes;I)V"⟩
abbrev cX6_step : ByteArray := prog_8_method_3_code
def yX6_step : MethodName := ⟨RX6, "step", "()V"⟩
abbrev cX6_readRun : ByteArray := prog_8_method_4_code
def yX6_readRun : MethodName := ⟨RX6, "readRun", "(I)V"⟩
abbrev cX6_keywordOf : ByteArray := prog_8_method_5_code
def yX6_keywordOf : MethodName := ⟨RX6, "keywordOf", "(J)I"⟩
abbrev cX6_isBlank : ByteArray := prog_8_method_6_code
def yX6_isBlank : MethodName := ⟨RX6, "isBlank", "(I)Z"⟩
abbrev cX6_isLetter : ByteArray := prog_8_method_7_code
def yX6_isLetter : MethodName := ⟨RX6, "isLetter", "(I)Z"⟩
abbrev cX6_isDigit : ByteArray := prog_8_method_8_code
def yX6_isDigit : MethodName := ⟨RX6, "isDigit", "(I)Z"⟩
abbrev cX6_isSign : ByteArray := prog_8_method_9_code
def yX6_isSign : MethodName := ⟨RX6, "isSign", "(I)Z"⟩
abbrev cX6_isSignNow : ByteArray := prog_8_method_10_code
def yX6_isSignNow : MethodName := ⟨RX6, "isSignNow", "(I)Z"⟩
abbrev cX6_refuse : ByteArray := prog_8_method_11_code
def yX6_refuse : MethodName := ⟨RX6, "refuse", "(I)Z"⟩
abbrev cX6_takeSign : ByteArray := prog_8_method_12_code
def yX6_takeSign : MethodName := ⟨RX6, "takeSign", "(I)Z"⟩
abbrev cX6_takeNumber : ByteArray := prog_8_method_13_code
def yX6_takeNumber : MethodName := ⟨RX6, "takeNumber", "(II)I"⟩
abbrev cX6_isName : ByteArray := prog_8_method_14_code
def yX6_isName : MethodName := ⟨RX6, "isName", "()Z"⟩
abbrev cX6_takeThing : ByteArray := prog_8_method_15_code
def yX6_takeThing : MethodName := ⟨RX6, "takeThing", "(LOffThenOn$House;)I"⟩
abbrev cX6_takeFault : ByteArray := prog_8_method_16_code
def yX6_takeFault : MethodName := ⟨RX6, "takeFault", "(LOffThenOn$House;)I"⟩
def RX7 : String := "OffThenOn$Sentence"
def TX7 : u_T := fun k => match k with
  | 0 => ("OffThenOn$Sentence", "words", "[I", true)
  | 1 => ("OffThenOn$Sentence", "signs", "[I", true)
  | 2 => ("OffThenOn$Sentence", "numbers", "[I", true)
  | 3 => ("OffThenOn$Sentence", "stack", "[I", true)
  | 4 => ("OffThenOn$Sentence", "steps", "I", false)
  | _ => ("OffThenOn$Sentence", "ones", "I", false)
def tyX7 : Nat → FieldType := fun k => match k with
  | 0 => .array .int
  | 1 => .array .int
  | 2 => .array .int
  | 3 => .array .int
  | 4 => .int
  | _ => .int
abbrev wsX70 : List Cond := u_ws RX7 TX7 6
theorem nmX7 : ∀ a, a < 6 → ∀ b, b < 6 → a ≠ b → (TX7 a).2.1 ≠ (TX7 b).2.1 := by decide +kernel
theorem tyX7_ok : ∀ k, k < 6 → parseFieldDescriptor (TX7 k).2.2.1 = some (tyX7 k) := by decide +kernel
abbrev cX7_init : ByteArray := prog_9_method_1_code
def yX7_init : MethodName := ⟨RX7, "<init>", "()V"⟩
abbrev cX7_clear : ByteArray := prog_9_method_2_code
def yX7_clear : MethodName := ⟨RX7, "clear", "()V"⟩
abbrev cX7_copyFrom : ByteArray := prog_9_method_3_code
def yX7_copyFrom : MethodName := ⟨RX7, "copyFrom", "(LOffThenOn$Sentence;)V"⟩
abbrev cX7_addStep : ByteArray := prog_9_method_4_code
def yX7_addStep : MethodName := ⟨RX7, "addStep", "(III)Z"⟩
abbrev cX7_thingsOf : ByteArray := prog_9_method_5_code
def yX7_thingsOf : MethodName := ⟨RX7, "thingsOf", "(LOffThenOn$House;LOffThenOn$State;)I"⟩
abbrev cX7_thingsOfStep : ByteArray := prog_9_method_6_code
def yX7_thingsOfStep : MethodName := ⟨RX7, "thingsOfStep", "(LOffThenOn$House;LOffThenOn$State;I)I"⟩
abbrev cX7_thingsCompared : ByteArray := prog_9_method_7_code
def yX7_thingsCompared : MethodName := ⟨RX7, "thingsCompared", "(LOffThenOn$House;LOffThenOn$State;I)I"⟩
abbrev cX7_valueOf : ByteArray := prog_9_method_8_code
def yX7_valueOf : MethodName := ⟨RX7, "valueOf", "(LOffThenOn$House;LOffThenOn$State;II)I"⟩
abbrev cX7_holds : ByteArray := prog_9_method_9_code
def yX7_holds : MethodName := ⟨RX7, "holds", "(III)Z"⟩
def RX8 : String := "OffThenOn$SentenceReader"
def TX8 : u_T := fun k => match k with
  | 0 => ("OffThenOn$SentenceReader", "reader", "LOffThenOn$Reader;", true)
  | _ => ("OffThenOn$SentenceReader", "draft", "LOffThenOn$Sentence;", true)
def tyX8 : Nat → FieldType := fun k => match k with
  | 0 => .object "OffThenOn$Reader"
  | _ => .object "OffThenOn$Sentence"
abbrev wsX80 : List Cond := u_ws RX8 TX8 2
theorem nmX8 : ∀ a, a < 2 → ∀ b, b < 2 → a ≠ b → (TX8 a).2.1 ≠ (TX8 b).2.1 := by decide +kernel
theorem tyX8_ok : ∀ k, k < 2 → parseFieldDescriptor (TX8 k).2.2.1 = some (tyX8 k) := by decide +kernel
abbrev cX8_init : ByteArray := prog_10_method_1_code
def yX8_init : MethodName := ⟨RX8, "<init>", "()V"⟩
abbrev cX8_readSentence : ByteArray := prog_10_method_2_code
def yX8_readSentence : MethodName := ⟨RX8, "readSentence", "(LOffThenOn$Bytes;LOffThenOn$House;)Z"⟩
abbrev cX8_readCond : ByteArray := prog_10_method_3_code
def yX8_readCond : MethodName := ⟨RX8, "readCond", "(LOffThenOn$House;I)Z"⟩
abbrev cX8_readAll : ByteArray := prog_10_method_4_code
def yX8_readAll : MethodName := ⟨RX8, "readAll", "(LOffThenOn$House;I)Z"⟩
abbrev cX8_readOne : ByteArray := prog_10_method_5_code
def yX8_readOne : MethodName := ⟨RX8, "readOne", "(LOffThenOn$House;I)Z"⟩
abbrev cX8_readNot : ByteArray := prog_10_method_6_code
def yX8_readNot : MethodName := ⟨RX8, "readNot", "(LOffThenOn$House;I)Z"⟩
abbrev cX8_isOneHere : ByteArray := prog_10_method_7_code
def yX8_isOneHere : MethodName := ⟨RX8, "isOneHere", "()Z"⟩
abbrev cX8_readCompared : ByteArray := prog_10_method_8_code
def yX8_readCompared : MethodName := ⟨RX8, "readCompared", "(I)Z"⟩
abbrev cX8_addNumbered : ByteArray := prog_10_method_9_code
def yX8_addNumbered : MethodName := ⟨RX8, "addNumbered", "(III)Z"⟩
def RX9 : String := "OffThenOn$State"
def TX9 : u_T := fun k => match k with
  | 0 => ("OffThenOn$State", "modes", "[I", true)
  | 1 => ("OffThenOn$State", "clocks", "[I", true)
  | 2 => ("OffThenOn$State", "downs", "[I", true)
  | 3 => ("OffThenOn$State", "ages", "[I", true)
  | 4 => ("OffThenOn$State", "struck", "[I", true)
  | 5 => ("OffThenOn$State", "healed", "[I", true)
  | 6 => ("OffThenOn$State", "numbered", "I", false)
  | 7 => ("OffThenOn$State", "there", "I", false)
  | 8 => ("OffThenOn$State", "minute", "I", false)
  | 9 => ("OffThenOn$State", "deedsDone", "I", false)
  | 10 => ("OffThenOn$State", "goneByDeeds", "I", false)
  | 11 => ("OffThenOn$State", "goneByThemselves", "I", false)
  | _ => ("OffThenOn$State", "seed", "I", false)
def tyX9 : Nat → FieldType := fun k => match k with
  | 0 => .array .int
  | 1 => .array .int
  | 2 => .array .int
  | 3 => .array .int
  | 4 => .array .int
  | 5 => .array .int
  | 6 => .int
  | 7 => .int
  | 8 => .int
  | 9 => .int
  | 10 => .int
  | 11 => .int
  | _ => .int
abbrev wsX90 : List Cond := u_ws RX9 TX9 13
theorem nmX9 : ∀ a, a < 13 → ∀ b, b < 13 → a ≠ b → (TX9 a).2.1 ≠ (TX9 b).2.1 := by decide +kernel
theorem tyX9_ok : ∀ k, k < 13 → parseFieldDescriptor (TX9 k).2.2.1 = some (tyX9 k) := by decide +kernel
abbrev cX9_init : ByteArray := prog_11_method_1_code
def yX9_init : MethodName := ⟨RX9, "<init>", "()V"⟩
abbrev cX9_makeNew : ByteArray := prog_11_method_2_code
def yX9_makeNew : MethodName := ⟨RX9, "makeNew", "()V"⟩
abbrev cX9_copyFrom : ByteArray := prog_11_method_3_code
def yX9_copyFrom : MethodName := ⟨RX9, "copyFrom", "(LOffThenOn$State;)V"⟩
abbrev cX9_lampOf : ByteArray := prog_11_method_4_code
def yX9_lampOf : MethodName := ⟨RX9, "lampOf", "(LOffThenOn$House;II)I"⟩
abbrev cX9_working : ByteArray := prog_11_method_5_code
def yX9_working : MethodName := ⟨RX9, "working", "(LOffThenOn$House;)I"⟩
abbrev cX9_thingsIn : ByteArray := prog_11_method_6_code
def yX9_thingsIn : MethodName := ⟨RX9, "thingsIn", "(LOffThenOn$House;I)I"⟩
abbrev cX9_switchOff : ByteArray := prog_11_method_7_code
def yX9_switchOff : MethodName := ⟨RX9, "switchOff", "(LOffThenOn$House;I)I"⟩
abbrev cX9_switchOn : ByteArray := prog_11_method_8_code
def yX9_switchOn : MethodName := ⟨RX9, "switchOn", "(LOffThenOn$House;I)I"⟩
abbrev cX9_pullCable : ByteArray := prog_11_method_9_code
def yX9_pullCable : MethodName := ⟨RX9, "pullCable", "(LOffThenOn$House;I)I"⟩
abbrev cX9_pushPin : ByteArray := prog_11_method_10_code
def yX9_pushPin : MethodName := ⟨RX9, "pushPin", "(LOffThenOn$House;I)I"⟩
abbrev cX9_letStrike : ByteArray := prog_11_method_11_code
def yX9_letStrike : MethodName := ⟨RX9, "letStrike", "(I)I"⟩
abbrev cX9_cutOff : ByteArray := prog_11_method_12_code
def yX9_cutOff : MethodName := ⟨RX9, "cutOff", "(LOffThenOn$House;I)V"⟩
abbrev cX9_startBoot : ByteArray := prog_11_method_13_code
def yX9_startBoot : MethodName := ⟨RX9, "startBoot", "(LOffThenOn$House;I)V"⟩
abbrev cX9_doDeed : ByteArray := prog_11_method_14_code
def yX9_doDeed : MethodName := ⟨RX9, "doDeed", "(LOffThenOn$House;II)V"⟩
abbrev cX9_takeAway : ByteArray := prog_11_method_15_code
def yX9_takeAway : MethodName := ⟨RX9, "takeAway", "(I)V"⟩
abbrev cX9_draw : ByteArray := prog_11_method_16_code
def yX9_draw : MethodName := ⟨RX9, "draw", "(I)I"⟩
abbrev cX9_passMinutes : ByteArray := prog_11_method_17_code
def yX9_passMinutes : MethodName := ⟨RX9, "passMinutes", "(LOffThenOn$House;I)I"⟩
abbrev cX9_passMinute : ByteArray := prog_11_method_18_code
def yX9_passMinute : MethodName := ⟨RX9, "passMinute", "(LOffThenOn$House;)V"⟩
abbrev cX9_comeUp : ByteArray := prog_11_method_19_code
def yX9_comeUp : MethodName := ⟨RX9, "comeUp", "(LOffThenOn$House;I)V"⟩
abbrev cX9_drawMinutes : ByteArray := prog_11_method_20_code
def yX9_drawMinutes : MethodName := ⟨RX9, "drawMinutes", "(LOffThenOn$House;I)I"⟩
def RX10 : String := "OffThenOn$World"
def TX10 : u_T := fun k => match k with
  | 0 => ("OffThenOn$World", "house", "LOffThenOn$House;", true)
  | 1 => ("OffThenOn$World", "state", "LOffThenOn$State;", true)
  | 2 => ("OffThenOn$World", "sentence", "LOffThenOn$Sentence;", true)
  | _ => ("OffThenOn$World", "holds", "Z", false)
def tyX10 : Nat → FieldType := fun k => match k with
  | 0 => .object "OffThenOn$House"
  | 1 => .object "OffThenOn$State"
  | 2 => .object "OffThenOn$Sentence"
  | _ => .boolean
abbrev wsX100 : List Cond := u_ws RX10 TX10 4
theorem nmX10 : ∀ a, a < 4 → ∀ b, b < 4 → a ≠ b → (TX10 a).2.1 ≠ (TX10 b).2.1 := by decide +kernel
theorem tyX10_ok : ∀ k, k < 4 → parseFieldDescriptor (TX10 k).2.2.1 = some (tyX10 k) := by decide +kernel
abbrev cX10_init : ByteArray := prog_12_method_1_code
def yX10_init : MethodName := ⟨RX10, "<init>", "()V"⟩
abbrev cX10_copyFrom : ByteArray := prog_12_method_2_code
def yX10_copyFrom : MethodName := ⟨RX10, "copyFrom", "(LOffThenOn$World;)V"⟩
def RX11 : String := "OffThenOn"
def TX11 : u_T := fun k => match k with
  | 0 => ("OffThenOn", "tape", "LOffThenOn$Bytes;", true)
  | 1 => ("OffThenOn", "world", "LOffThenOn$World;", true)
  | 2 => ("OffThenOn", "kept", "[LOffThenOn$World;", true)
  | 3 => ("OffThenOn", "history", "LOffThenOn$History;", true)
  | 4 => ("OffThenOn", "scratch", "LOffThenOn$State;", true)
  | 5 => ("OffThenOn", "houseReader", "LOffThenOn$HouseReader;", true)
  | 6 => ("OffThenOn", "logReader", "LOffThenOn$LogReader;", true)
  | 7 => ("OffThenOn", "sentenceReader", "LOffThenOn$SentenceReader;", true)
  | 8 => ("OffThenOn", "planner", "LOffThenOn$Planner;", true)
  | 9 => ("OffThenOn", "told", "LOffThenOn$Bytes;", true)
  | 10 => ("OffThenOn", "likelyOdds", "[I", true)
  | 11 => ("OffThenOn", "judged", "[I", true)
  | 12 => ("OffThenOn", "likelyFaults", "I", false)
  | 13 => ("OffThenOn", "textFault", "I", false)
  | 14 => ("OffThenOn", "ways", "I", false)
  | 15 => ("OffThenOn", "leftByLook", "I", false)
  | _ => ("OffThenOn", "hasJudged", "Z", false)
def tyX11 : Nat → FieldType := fun k => match k with
  | 0 => .object "OffThenOn$Bytes"
  | 1 => .object "OffThenOn$World"
  | 2 => .array (.object "OffThenOn$World")
  | 3 => .object "OffThenOn$History"
  | 4 => .object "OffThenOn$State"
  | 5 => .object "OffThenOn$HouseReader"
  | 6 => .object "OffThenOn$LogReader"
  | 7 => .object "OffThenOn$SentenceReader"
  | 8 => .object "OffThenOn$Planner"
  | 9 => .object "OffThenOn$Bytes"
  | 10 => .array .int
  | 11 => .array .int
  | 12 => .int
  | 13 => .int
  | 14 => .int
  | 15 => .int
  | _ => .boolean
abbrev wsX110 : List Cond := u_ws RX11 TX11 17
theorem nmX11 : ∀ a, a < 17 → ∀ b, b < 17 → a ≠ b → (TX11 a).2.1 ≠ (TX11 b).2.1 := by decide +kernel
theorem tyX11_ok : ∀ k, k < 17 → parseFieldDescriptor (TX11 k).2.2.1 = some (tyX11 k) := by decide +kernel
abbrev cX11_init : ByteArray := prog_1_method_1_code
def yX11_init : MethodName := ⟨RX11, "<init>", "()V"⟩
abbrev cX11_feed : ByteArray := prog_1_method_2_code
def yX11_feed : MethodName := ⟨RX11, "feed", "(IIIII)I"⟩
abbrev cX11_end : ByteArray := prog_1_method_3_code
def yX11_end : MethodName := ⟨RX11, "end", "(I)Z"⟩
abbrev cX11_house : ByteArray := prog_1_method_4_code
def yX11_house : MethodName := ⟨RX11, "house", "()I"⟩
abbrev cX11_fault : ByteArray := prog_1_method_5_code
def yX11_fault : MethodName := ⟨RX11, "fault", "()I"⟩
abbrev cX11_thing : ByteArray := prog_1_method_6_code
def yX11_thing : MethodName := ⟨RX11, "thing", "(II)I"⟩
abbrev cX11_trouble : ByteArray := prog_1_method_7_code
def yX11_trouble : MethodName := ⟨RX11, "trouble", "(II)I"⟩
abbrev cX11_cures : ByteArray := prog_1_method_8_code
def yX11_cures : MethodName := ⟨RX11, "cures", "(II)I"⟩
abbrev cX11_now : ByteArray := prog_1_method_9_code
def yX11_now : MethodName := ⟨RX11, "now", "(I)I"⟩
abbrev cX11_off : ByteArray := prog_1_method_10_code
def yX11_off : MethodName := ⟨RX11, "off", "(I)I"⟩
abbrev cX11_on : ByteArray := prog_1_method_11_code
def yX11_on : MethodName := ⟨RX11, "on", "(II)I"⟩
abbrev cX11_cable : ByteArray := prog_1_method_12_code
def yX11_cable : MethodName := ⟨RX11, "cable", "(II)I"⟩
abbrev cX11_pin : ByteArray := prog_1_method_13_code
def yX11_pin : MethodName := ⟨RX11, "pin", "(II)I"⟩
abbrev cX11_strike : ByteArray := prog_1_method_14_code
def yX11_strike : MethodName := ⟨RX11, "strike", "(I)I"⟩
abbrev cX11_minutes : ByteArray := prog_1_method_15_code
def yX11_minutes : MethodName := ⟨RX11, "minutes", "(I)I"⟩
abbrev cX11_undo : ByteArray := prog_1_method_16_code
def yX11_undo : MethodName := ⟨RX11, "undo", "()I"⟩
abbrev cX11_what : ByteArray := prog_1_method_17_code
def yX11_what : MethodName := ⟨RX11, "what", "()I"⟩
abbrev cX11_likely : ByteArray := prog_1_method_18_code
def yX11_likely : MethodName := ⟨RX11, "likely", "(II)I"⟩
abbrev cX11_plan : ByteArray := prog_1_method_19_code
def yX11_plan : MethodName := ⟨RX11, "plan", "(III)I"⟩
abbrev cX11_planAt : ByteArray := prog_1_method_20_code
def yX11_planAt : MethodName := ⟨RX11, "planAt", "(I)I"⟩
abbrev cX11_ready : ByteArray := prog_1_method_21_code
def yX11_ready : MethodName := ⟨RX11, "ready", "(I)I"⟩
abbrev cX11_starts : ByteArray := prog_1_method_22_code
def yX11_starts : MethodName := ⟨RX11, "starts", "(I)I"⟩
abbrev cX11_helped : ByteArray := prog_1_method_23_code
def yX11_helped : MethodName := ⟨RX11, "helped", "()I"⟩
abbrev cX11_lots : ByteArray := prog_1_method_24_code
def yX11_lots : MethodName := ⟨RX11, "lots", "()I"⟩
abbrev cX11_alike : ByteArray := prog_1_method_25_code
def yX11_alike : MethodName := ⟨RX11, "alike", "(I)I"⟩
abbrev cX11_kinds : ByteArray := prog_1_method_26_code
def yX11_kinds : MethodName := ⟨RX11, "kinds", "()I"⟩
abbrev cX11_look : ByteArray := prog_1_method_27_code
def yX11_look : MethodName := ⟨RX11, "look", "(I)I"⟩
abbrev cX11_left : ByteArray := prog_1_method_28_code
def yX11_left : MethodName := ⟨RX11, "left", "()I"⟩
abbrev cX11_fits : ByteArray := prog_1_method_29_code
def yX11_fits : MethodName := ⟨RX11, "fits", "(I)I"⟩
abbrev cX11_heals : ByteArray := prog_1_method_30_code
def yX11_heals : MethodName := ⟨RX11, "heals", "(I)I"⟩
abbrev cX11_worksIn : ByteArray := prog_1_method_31_code
def yX11_worksIn : MethodName := ⟨RX11, "worksIn", "(I)I"⟩
abbrev cX11_tell : ByteArray := prog_1_method_32_code
def yX11_tell : MethodName := ⟨RX11, "tell", "(I)I"⟩
abbrev cX11_byteAt : ByteArray := prog_1_method_33_code
def yX11_byteAt : MethodName := ⟨RX11, "byteAt", "(I)I"⟩
abbrev cX11_drawn : ByteArray := prog_1_method_34_code
def yX11_drawn : MethodName := ⟨RX11, "drawn", "(II)I"⟩
abbrev cX11_odds : ByteArray := prog_1_method_35_code
def yX11_odds : MethodName := ⟨RX11, "odds", "(III)I"⟩
abbrev cX11_log : ByteArray := prog_1_method_36_code
def yX11_log : MethodName := ⟨RX11, "log", "(I)I"⟩
abbrev cX11_logged : ByteArray := prog_1_method_37_code
def yX11_logged : MethodName := ⟨RX11, "logged", "(I)I"⟩
abbrev cX11_sentence : ByteArray := prog_1_method_38_code
def yX11_sentence : MethodName := ⟨RX11, "sentence", "()I"⟩
abbrev cX11_said : ByteArray := prog_1_method_39_code
def yX11_said : MethodName := ⟨RX11, "said", "(I)I"⟩
abbrev cX11_image : ByteArray := prog_1_method_40_code
def yX11_image : MethodName := ⟨RX11, "image", "(I)Z"⟩
abbrev cX11_restore : ByteArray := prog_1_method_41_code
def yX11_restore : MethodName := ⟨RX11, "restore", "(I)Z"⟩
abbrev cX11_count : ByteArray := prog_1_method_42_code
def yX11_count : MethodName := ⟨RX11, "count", "(I)I"⟩
abbrev cX11_isThing : ByteArray := prog_1_method_43_code
def yX11_isThing : MethodName := ⟨RX11, "isThing", "(I)Z"⟩
abbrev cX11_isFault : ByteArray := prog_1_method_44_code
def yX11_isFault : MethodName := ⟨RX11, "isFault", "(I)Z"⟩
abbrev cX11_takeText : ByteArray := prog_1_method_45_code
def yX11_takeText : MethodName := ⟨RX11, "takeText", "(LOffThenOn$Reader;)V"⟩
abbrev cX11_settle : ByteArray := prog_1_method_46_code
def yX11_settle : MethodName := ⟨RX11, "settle", "(I)I"⟩
abbrev cX11_faultsByLamps : ByteArray := prog_1_method_47_code
def yX11_faultsByLamps : MethodName := ⟨RX11, "faultsByLamps", "()I"⟩
abbrev cX11_eveningsWithDeed : ByteArray := prog_1_method_48_code
def yX11_eveningsWithDeed : MethodName := ⟨RX11, "eveningsWithDeed", "()I"⟩
abbrev cX11_countWays : ByteArray := prog_1_method_49_code
def yX11_countWays : MethodName := ⟨RX11, "countWays", "(II)I"⟩
abbrev cX11_minutesOfWay : ByteArray := prog_1_method_50_code
def yX11_minutesOfWay : MethodName := ⟨RX11, "minutesOfWay", "(II)I"⟩
abbrev cX11_faultsByMinutes : ByteArray := prog_1_method_51_code
def yX11_faultsByMinutes : MethodName := ⟨RX11, "faultsByMinutes", "(I)I"⟩
abbrev cX11_shownFault : ByteArray := prog_1_method_52_code
def yX11_shownFault : MethodName := ⟨RX11, "shownFault", "(I)I"⟩
abbrev cX11_bit : ByteArray := prog_1_method_53_code
def yX11_bit : MethodName := ⟨RX11, "bit", "(II)I"⟩
abbrev cX11_leastTerm : ByteArray := prog_1_method_54_code
def yX11_leastTerm : MethodName := ⟨RX11, "leastTerm", "(III)I"⟩
def RX12 : String := "OffThenOnModel"
def TX12 : u_T := fun k => match k with
  | 0 => ("OffThenOnModel", "thrown", "I", false)
  | 1 => ("OffThenOnModel", "tape", "[I", true)
  | 2 => ("OffThenOnModel", "taped", "I", false)
  | 3 => ("OffThenOnModel", "size", "I", false)
  | 4 => ("OffThenOnModel", "limit", "I", false)
  | 5 => ("OffThenOnModel", "to", "I", false)
  | 6 => ("OffThenOnModel", "from", "I", false)
  | 7 => ("OffThenOnModel", "kind", "I", false)
  | 8 => ("OffThenOnModel", "number", "I", false)
  | 9 => ("OffThenOnModel", "sign", "I", false)
  | 10 => ("OffThenOnModel", "fault", "I", false)
  | 11 => ("OffThenOnModel", "place", "I", false)
  | 12 => ("OffThenOnModel", "word", "J", false)
  | 13 => ("OffThenOnModel", "told", "I", false)
  | 14 => ("OffThenOnModel", "now", "[I", true)
  | 15 => ("OffThenOnModel", "read", "[I", true)
  | 16 => ("OffThenOnModel", "kept", "[I", true)
  | 17 => ("OffThenOnModel", "snaps", "[I", true)
  | 18 => ("OffThenOnModel", "aside", "[I", true)
  | 19 => ("OffThenOnModel", "name", "[J", true)
  | 20 => ("OffThenOnModel", "readName", "[J", true)
  | 21 => ("OffThenOnModel", "keptName", "[J", true)
  | 22 => ("OffThenOnModel", "isKept", "[Z", true)
  | 23 => ("OffThenOnModel", "snapMany", "I", false)
  | 24 => ("OffThenOnModel", "seed", "I", false)
  | 25 => ("OffThenOnModel", "likely", "I", false)
  | 26 => ("OffThenOnModel", "likelyOdds", "[I", true)
  | 27 => ("OffThenOnModel", "weight", "[I", true)
  | 28 => ("OffThenOnModel", "trying", "[I", true)
  | 29 => ("OffThenOnModel", "planned", "[I", true)
  | 30 => ("OffThenOnModel", "planLong", "I", false)
  | 31 => ("OffThenOnModel", "planCost", "I", false)
  | 32 => ("OffThenOnModel", "lots", "I", false)
  | 33 => ("OffThenOnModel", "left", "I", false)
  | 34 => ("OffThenOnModel", "text", "[I", true)
  | 35 => ("OffThenOnModel", "texts", "I", false)
  | 36 => ("OffThenOnModel", "line", "[I", true)
  | 37 => ("OffThenOnModel", "logged", "[I", true)
  | 38 => ("OffThenOnModel", "lineMany", "I", false)
  | 39 => ("OffThenOnModel", "hasLogged", "Z", false)
  | 40 => ("OffThenOnModel", "node", "[I", true)
  | 41 => ("OffThenOnModel", "nodes", "I", false)
  | 42 => ("OffThenOnModel", "onesMany", "I", false)
  | 43 => ("OffThenOnModel", "within", "I", false)
  | _ => ("OffThenOnModel", "top", "I", false)
def tyX12 : Nat → FieldType := fun k => match k with
  | 0 => .int
  | 1 => .array .int
  | 2 => .int
  | 3 => .int
  | 4 => .int
  | 5 => .int
  | 6 => .int
  | 7 => .int
  | 8 => .int
  | 9 => .int
  | 10 => .int
  | 11 => .int
  | 12 => .long
  | 13 => .int
  | 14 => .array .int
  | 15 => .array .int
  | 16 => .array .int
  | 17 => .array .int
  | 18 => .array .int
  | 19 => .array .long
  | 20 => .array .long
  | 21 => .array .long
  | 22 => .array .boolean
  | 23 => .int
  | 24 => .int
  | 25 => .int
  | 26 => .array .int
  | 27 => .array .int
  | 28 => .array .int
  | 29 => .array .int
  | 30 => .int
  | 31 => .int
  | 32 => .int
  | 33 => .int
  | 34 => .array .int
  | 35 => .int
  | 36 => .array .int
  | 37 => .array .int
  | 38 => .int
  | 39 => .boolean
  | 40 => .array .int
  | 41 => .int
  | 42 => .int
  | 43 => .int
  | _ => .int
abbrev wsX120 : List Cond := u_ws RX12 TX12 45
theorem nmX12 : ∀ a, a < 45 → ∀ b, b < 45 → a ≠ b → (TX12 a).2.1 ≠ (TX12 b).2.1 := by decide +kernel
theorem tyX12_ok : ∀ k, k < 45 → parseFieldDescriptor (TX12 k).2.2.1 = some (tyX12 k) := by decide +kernel
abbrev cX12_init : ByteArray := prog_14_method_1_code
def yX12_init : MethodName := ⟨RX12, "<init>", "()V"⟩
abbrev cX12_thrown : ByteArray := prog_14_method_2_code
def yX12_thrown : MethodName := ⟨RX12, "thrown", "()I"⟩
abbrev cX12_refuse : ByteArray := prog_14_method_3_code
def yX12_refuse : MethodName := ⟨RX12, "refuse", "()I"⟩
abbrev cX12_come : ByteArray := prog_14_method_4_code
def yX12_come : MethodName := ⟨RX12, "come", "(I)V"⟩
abbrev cX12_feed : ByteArray := prog_14_method_5_code
def yX12_feed : MethodName := ⟨RX12, "feed", "(IIIII)I"⟩
abbrev cX12_end : ByteArray := prog_14_method_6_code
def yX12_end : MethodName := ⟨RX12, "end", "(I)Z"⟩
abbrev cX12_take : ByteArray := prog_14_method_7_code
def yX12_take : MethodName := ⟨RX12, "take", "()I"⟩
abbrev cX12_isIn : ByteArray := prog_14_method_8_code
def yX12_isIn : MethodName := ⟨RX12, "isIn", "(III)Z"⟩
abbrev cX12_has : ByteArray := prog_14_method_9_code
def yX12_has : MethodName := ⟨RX12, "has", "(II)Z"⟩
abbrev cX12_bits : ByteArray := prog_14_method_10_code
def yX12_bits : MethodName := ⟨RX12, "bits", "(I)I"⟩
abbrev cX12_least : ByteArray := prog_14_method_11_code
def yX12_least : MethodName := ⟨RX12, "least", "(II)I"⟩
abbrev cX12_common : ByteArray := prog_14_method_13_code
def yX12_common : MethodName := ⟨RX12, "common", "(II)I"⟩
abbrev cX12_tapeAt : ByteArray := prog_14_method_14_code
def yX12_tapeAt : MethodName := ⟨RX12, "tapeAt", "(I)I"⟩
abbrev cX12_isDigit : ByteArray := prog_14_method_15_code
def yX12_isDigit : MethodName := ⟨RX12, "isDigit", "(I)Z"⟩
abbrev cX12_isLetter : ByteArray := prog_14_method_16_code
def yX12_isLetter : MethodName := ⟨RX12, "isLetter", "(I)Z"⟩
abbrev cX12_go : ByteArray := prog_14_method_17_code
def yX12_go : MethodName := ⟨RX12, "go", "()V"⟩
abbrev cX12_spelt : ByteArray := prog_14_method_18_code
def yX12_spelt : MethodName := ⟨RX12, "spelt", "(IIIIIII)J"⟩
abbrev cX12_wordOf : ByteArray := prog_14_method_19_code
def yX12_wordOf : MethodName := ⟨RX12, "wordOf", "(I)J"⟩
abbrev cX12_isWord : ByteArray := prog_14_method_20_code
def yX12_isWord : MethodName := ⟨RX12, "isWord", "(I)Z"⟩
abbrev cX12_isSign : ByteArray := prog_14_method_21_code
def yX12_isSign : MethodName := ⟨RX12, "isSign", "(I)Z"⟩
abbrev cX12_isName : ByteArray := prog_14_method_22_code
def yX12_isName : MethodName := ⟨RX12, "isName", "()Z"⟩
abbrev cX12_bad : ByteArray := prog_14_method_23_code
def yX12_bad : MethodName := ⟨RX12, "bad", "(I)Z"⟩
abbrev cX12_readNumber : ByteArray := prog_14_method_24_code
def yX12_readNumber : MethodName := ⟨RX12, "readNumber", "(II)Z"⟩
abbrev cX12_readEnd : ByteArray := prog_14_method_25_code
def yX12_readEnd : MethodName := ⟨RX12, "readEnd", "()Z"⟩
abbrev cX12_begin : ByteArray := prog_14_method_26_code
def yX12_begin : MethodName := ⟨RX12, "begin", "(I)V"⟩
abbrev cX12_startSo : ByteArray := prog_14_method_27_code
def yX12_startSo : MethodName := ⟨RX12, "startSo", "()V"⟩
abbrev cX12_findIn : ByteArray := prog_14_method_28_code
def yX12_findIn : MethodName := ⟨RX12, "findIn", "([JIIJ)I"⟩
abbrev cX12_readNew : ByteArray := prog_14_method_29_code
def yX12_readNew : MethodName := ⟨RX12, "readNew", "(I)Z"⟩
abbrev cX12_readOne : ByteArray := prog_14_method_30_code
def yX12_readOne : MethodName := ⟨RX12, "readOne", "(II)Z"⟩
abbrev cX12_readFirst : ByteArray := prog_14_method_31_code
def yX12_readFirst : MethodName := ⟨RX12, "readFirst", "(II)Z"⟩
abbrev cX12_put : ByteArray := prog_14_method_32_code
def yX12_put : MethodName := ⟨RX12, "put", "(IZ)Z"⟩
abbrev cX12_readThing : ByteArray := prog_14_method_33_code
def yX12_readThing : MethodName := ⟨RX12, "readThing", "()Z"⟩
abbrev cX12_readFault : ByteArray := prog_14_method_34_code
def yX12_readFault : MethodName := ⟨RX12, "readFault", "()Z"⟩
abbrev cX12_readCures : ByteArray := prog_14_method_35_code
def yX12_readCures : MethodName := ⟨RX12, "readCures", "()Z"⟩
abbrev cX12_readLine : ByteArray := prog_14_method_36_code
def yX12_readLine : MethodName := ⟨RX12, "readLine", "()Z"⟩
abbrev cX12_house : ByteArray := prog_14_method_37_code
def yX12_house : MethodName := ⟨RX12, "house", "()I"⟩
abbrev cX12_fault : ByteArray := prog_14_method_38_code
def yX12_fault : MethodName := ⟨RX12, "fault", "()I"⟩
abbrev cX12_isThing : ByteArray := prog_14_method_39_code
def yX12_isThing : MethodName := ⟨RX12, "isThing", "(I)Z"⟩
abbrev cX12_isFault : ByteArray := prog_14_method_40_code
def yX12_isFault : MethodName := ⟨RX12, "isFault", "(I)Z"⟩
abbrev cX12_isThere : ByteArray := prog_14_method_41_code
def yX12_isThere : MethodName := ⟨RX12, "isThere", "(I)Z"⟩
abbrev cX12_isNumbered : ByteArray := prog_14_method_42_code
def yX12_isNumbered : MethodName := ⟨RX12, "isNumbered", "(I)Z"⟩
abbrev cX12_isBehind : ByteArray := prog_14_method_43_code
def yX12_isBehind : MethodName := ⟨RX12, "isBehind", "(II)Z"⟩
abbrev cX12_worst : ByteArray := prog_14_method_44_code
def yX12_worst : MethodName := ⟨RX12, "worst", "(I)I"⟩
abbrev cX12_lamp : ByteArray := prog_14_method_45_code
def yX12_lamp : MethodName := ⟨RX12, "lamp", "(I)I"⟩
abbrev cX12_works : ByteArray := prog_14_method_46_code
def yX12_works : MethodName := ⟨RX12, "works", "(I)Z"⟩
abbrev cX12_working : ByteArray := prog_14_method_47_code
def yX12_working : MethodName := ⟨RX12, "working", "()I"⟩
abbrev cX12_thing : ByteArray := prog_14_method_48_code
def yX12_thing : MethodName := ⟨RX12, "thing", "(II)I"⟩
abbrev cX12_trouble : ByteArray := prog_14_method_49_code
def yX12_trouble : MethodName := ⟨RX12, "trouble", "(II)I"⟩
abbrev cX12_cures : ByteArray := prog_14_method_50_code
def yX12_cures : MethodName := ⟨RX12, "cures", "(II)I"⟩
abbrev cX12_now : ByteArray := prog_14_method_51_code
def yX12_now : MethodName := ⟨RX12, "now", "(I)I"⟩
abbrev cX12_snap : ByteArray := prog_14_method_52_code
def yX12_snap : MethodName := ⟨RX12, "snap", "()V"⟩
abbrev cX12_draw : ByteArray := prog_14_method_53_code
def yX12_draw : MethodName := ⟨RX12, "draw", "(I)I"⟩
abbrev cX12_go_ : ByteArray := prog_14_method_54_code
def yX12_go_ : MethodName := ⟨RX12, "go", "(I)V"⟩
abbrev cX12_deed : ByteArray := prog_14_method_55_code
def yX12_deed : MethodName := ⟨RX12, "deed", "(II)V"⟩
abbrev cX12_unnumber : ByteArray := prog_14_method_56_code
def yX12_unnumber : MethodName := ⟨RX12, "unnumber", "(I)V"⟩
abbrev cX12_set : ByteArray := prog_14_method_57_code
def yX12_set : MethodName := ⟨RX12, "set", "(III)V"⟩
abbrev cX12_why : ByteArray := prog_14_method_58_code
def yX12_why : MethodName := ⟨RX12, "why", "(II)I"⟩
abbrev cX12_live : ByteArray := prog_14_method_59_code
def yX12_live : MethodName := ⟨RX12, "live", "(II)V"⟩
abbrev cX12_act : ByteArray := prog_14_method_60_code
def yX12_act : MethodName := ⟨RX12, "act", "(III)I"⟩
abbrev cX12_off : ByteArray := prog_14_method_61_code
def yX12_off : MethodName := ⟨RX12, "off", "(I)I"⟩
abbrev cX12_on : ByteArray := prog_14_method_62_code
def yX12_on : MethodName := ⟨RX12, "on", "(II)I"⟩
abbrev cX12_cable : ByteArray := prog_14_method_63_code
def yX12_cable : MethodName := ⟨RX12, "cable", "(II)I"⟩
abbrev cX12_pin : ByteArray := prog_14_method_64_code
def yX12_pin : MethodName := ⟨RX12, "pin", "(II)I"⟩
abbrev cX12_strike : ByteArray := prog_14_method_65_code
def yX12_strike : MethodName := ⟨RX12, "strike", "(I)I"⟩
abbrev cX12_undo : ByteArray := prog_14_method_66_code
def yX12_undo : MethodName := ⟨RX12, "undo", "()I"⟩
abbrev cX12_oneMinute : ByteArray := prog_14_method_67_code
def yX12_oneMinute : MethodName := ⟨RX12, "oneMinute", "()V"⟩
abbrev cX12_passMinutes : ByteArray := prog_14_method_68_code
def yX12_passMinutes : MethodName := ⟨RX12, "passMinutes", "(I)I"⟩
abbrev cX12_minutes : ByteArray := prog_14_method_69_code
def yX12_minutes : MethodName := ⟨RX12, "minutes", "(I)I"⟩
abbrev cX12_showsSo : ByteArray := prog_14_method_70_code
def yX12_showsSo : MethodName := ⟨RX12, "showsSo", "(II)Z"⟩
abbrev cX12_what : ByteArray := prog_14_method_71_code
def yX12_what : MethodName := ⟨RX12, "what", "()I"⟩
abbrev cX12_likely : ByteArray := prog_14_method_72_code
def yX12_likely : MethodName := ⟨RX12, "likely", "(II)I"⟩
abbrev cX12_minutesOf : ByteArray := prog_14_method_73_code
def yX12_minutesOf : MethodName := ⟨RX12, "minutesOf", "(II)I"⟩
abbrev cX12_leftAt : ByteArray := prog_14_method_74_code
def yX12_leftAt : MethodName := ⟨RX12, "leftAt", "(I)I"⟩
abbrev cX12_keepPlan : ByteArray := prog_14_method_75_code
def yX12_keepPlan : MethodName := ⟨RX12, "keepPlan", "(II)V"⟩
abbrev cX12_planFrom : ByteArray := prog_14_method_76_code
def yX12_planFrom : MethodName := ⟨RX12, "planFrom", "(IIII)V"⟩
abbrev cX12_plan : ByteArray := prog_14_method_77_code
def yX12_plan : MethodName := ⟨RX12, "plan", "(III)I"⟩
abbrev cX12_planAt : ByteArray := prog_14_method_78_code
def yX12_planAt : MethodName := ⟨RX12, "planAt", "(I)I"⟩
abbrev cX12_startOf : ByteArray := prog_14_method_79_code
def yX12_startOf : MethodName := ⟨RX12, "startOf", "(I)I"⟩
abbrev cX12_ready : ByteArray := prog_14_method_80_code
def yX12_ready : MethodName := ⟨RX12, "ready", "(I)I"⟩
abbrev cX12_starts : ByteArray := prog_14_method_81_code
def yX12_starts : MethodName := ⟨RX12, "starts", "(I)I"⟩
abbrev cX12_helped : ByteArray := prog_14_method_82_code
def yX12_helped : MethodName := ⟨RX12, "helped", "()I"⟩
abbrev cX12_lots : ByteArray := prog_14_method_83_code
def yX12_lots : MethodName := ⟨RX12, "lots", "()I"⟩
abbrev cX12_areAlike : ByteArray := prog_14_method_84_code
def yX12_areAlike : MethodName := ⟨RX12, "areAlike", "(II)Z"⟩
abbrev cX12_alike : ByteArray := prog_14_method_85_code
def yX12_alike : MethodName := ⟨RX12, "alike", "(I)I"⟩
abbrev cX12_kinds : ByteArray := prog_14_method_86_code
def yX12_kinds : MethodName := ⟨RX12, "kinds", "()I"⟩
abbrev cX12_groupAt : ByteArray := prog_14_method_87_code
def yX12_groupAt : MethodName := ⟨RX12, "groupAt", "(II)I"⟩
abbrev cX12_look : ByteArray := prog_14_method_88_code
def yX12_look : MethodName := ⟨RX12, "look", "(I)I"⟩
abbrev cX12_left : ByteArray := prog_14_method_89_code
def yX12_left : MethodName := ⟨RX12, "left", "()I"⟩
abbrev cX12_layAside : ByteArray := prog_14_method_90_code
def yX12_layAside : MethodName := ⟨RX12, "layAside", "()V"⟩
abbrev cX12_takeBack : ByteArray := prog_14_method_91_code
def yX12_takeBack : MethodName := ⟨RX12, "takeBack", "()V"⟩
abbrev cX12_showsOn : ByteArray := prog_14_method_92_code
def yX12_showsOn : MethodName := ⟨RX12, "showsOn", "(III)Z"⟩
abbrev cX12_fits : ByteArray := prog_14_method_93_code
def yX12_fits : MethodName := ⟨RX12, "fits", "(I)I"⟩
abbrev cX12_heals : ByteArray := prog_14_method_94_code
def yX12_heals : MethodName := ⟨RX12, "heals", "(I)I"⟩
abbrev cX12_worksIn : ByteArray := prog_14_method_95_code
def yX12_worksIn : MethodName := ⟨RX12, "worksIn", "(I)I"⟩
abbrev cX12_write : ByteArray := prog_14_method_96_code
def yX12_write : MethodName := ⟨RX12, "write", "(I)V"⟩
abbrev cX12_writeWord : ByteArray := prog_14_method_97_code
def yX12_writeWord : MethodName := ⟨RX12, "writeWord", "(J)V"⟩
abbrev cX12_writeNumber : ByteArray := prog_14_method_98_code
def yX12_writeNumber : MethodName := ⟨RX12, "writeNumber", "(I)V"⟩
abbrev cX12_writeNext : ByteArray := prog_14_method_99_code
def yX12_writeNext : MethodName := ⟨RX12, "writeNext", "(J)V"⟩
abbrev cX12_tell : ByteArray := prog_14_method_100_code
def yX12_tell : MethodName := ⟨RX12, "tell", "(I)I"⟩
abbrev cX12_byteAt : ByteArray := prog_14_method_101_code
def yX12_byteAt : MethodName := ⟨RX12, "byteAt", "(I)I"⟩
abbrev cX12_tryTo : ByteArray := prog_14_method_102_code
def yX12_tryTo : MethodName := ⟨RX12, "tryTo", "(II)V"⟩
abbrev cX12_drawMinutes : ByteArray := prog_14_method_103_code
def yX12_drawMinutes : MethodName := ⟨RX12, "drawMinutes", "(II)I"⟩
abbrev cX12_drawn : ByteArray := prog_14_method_104_code
def yX12_drawn : MethodName := ⟨RX12, "drawn", "(II)I"⟩
abbrev cX12_odds : ByteArray := prog_14_method_105_code
def yX12_odds : MethodName := ⟨RX12, "odds", "(III)I"⟩
abbrev cX12_readNamed : ByteArray := prog_14_method_106_code
def yX12_readNamed : MethodName := ⟨RX12, "readNamed", "(II)Z"⟩
abbrev cX12_readDoes : ByteArray := prog_14_method_107_code
def yX12_readDoes : MethodName := ⟨RX12, "readDoes", "(I)Z"⟩
abbrev cX12_readLogLine : ByteArray := prog_14_method_108_code
def yX12_readLogLine : MethodName := ⟨RX12, "readLogLine", "()Z"⟩
abbrev cX12_goBy : ByteArray := prog_14_method_109_code
def yX12_goBy : MethodName := ⟨RX12, "goBy", "(I)I"⟩
abbrev cX12_log : ByteArray := prog_14_method_110_code
def yX12_log : MethodName := ⟨RX12, "log", "(I)I"⟩
abbrev cX12_stay : ByteArray := prog_14_method_111_code
def yX12_stay : MethodName := ⟨RX12, "stay", "(Z)V"⟩
abbrev cX12_logged : ByteArray := prog_14_method_112_code
def yX12_logged : MethodName := ⟨RX12, "logged", "(I)I"⟩
abbrev cX12_saysOne : ByteArray := prog_14_method_113_code
def yX12_saysOne : MethodName := ⟨RX12, "saysOne", "(IIII)I"⟩
abbrev cX12_readOr : ByteArray := prog_14_method_114_code
def yX12_readOr : MethodName := ⟨RX12, "readOr", "()Z"⟩
abbrev cX12_readAnd : ByteArray := prog_14_method_115_code
def yX12_readAnd : MethodName := ⟨RX12, "readAnd", "()Z"⟩
abbrev cX12_readSaid : ByteArray := prog_14_method_116_code
def yX12_readSaid : MethodName := ⟨RX12, "readSaid", "()Z"⟩
abbrev cX12_readNot : ByteArray := prog_14_method_117_code
def yX12_readNot : MethodName := ⟨RX12, "readNot", "()Z"⟩
abbrev cX12_readBracket : ByteArray := prog_14_method_118_code
def yX12_readBracket : MethodName := ⟨RX12, "readBracket", "()Z"⟩
abbrev cX12_readOf : ByteArray := prog_14_method_119_code
def yX12_readOf : MethodName := ⟨RX12, "readOf", "(I)Z"⟩
abbrev cX12_readCompare : ByteArray := prog_14_method_120_code
def yX12_readCompare : MethodName := ⟨RX12, "readCompare", "(I)Z"⟩
abbrev cX12_sentence : ByteArray := prog_14_method_121_code
def yX12_sentence : MethodName := ⟨RX12, "sentence", "()I"⟩
abbrev cX12_holds : ByteArray := prog_14_method_122_code
def yX12_holds : MethodName := ⟨RX12, "holds", "(II)Z"⟩
abbrev cX12_said : ByteArray := prog_14_method_123_code
def yX12_said : MethodName := ⟨RX12, "said", "(I)I"⟩
abbrev cX12_image : ByteArray := prog_14_method_124_code
def yX12_image : MethodName := ⟨RX12, "image", "(I)Z"⟩
abbrev cX12_restore : ByteArray := prog_14_method_125_code
def yX12_restore : MethodName := ⟨RX12, "restore", "(I)Z"⟩
abbrev cX12_count : ByteArray := prog_14_method_126_code
def yX12_count : MethodName := ⟨RX12, "count", "(I)I"⟩
def RL : String := "OffThenOnLaw"
abbrev cL_thing : ByteArray := method_3_code
def yL_thing : MethodName := ⟨RL, "thing", "(LOffThenOn;II[J)I"⟩
abbrev cL_trouble : ByteArray := method_4_code
def yL_trouble : MethodName := ⟨RL, "trouble", "(LOffThenOn;II[J)I"⟩
abbrev cL_likely : ByteArray := method_5_code
def yL_likely : MethodName := ⟨RL, "likely", "(LOffThenOn;II[J)I"⟩
abbrev cL_plan : ByteArray := method_6_code
def yL_plan : MethodName := ⟨RL, "plan", "(LOffThenOn;III[J)I"⟩
abbrev cL_helped : ByteArray := method_7_code
def yL_helped : MethodName := ⟨RL, "helped", "(LOffThenOn;[J)I"⟩
abbrev cL_law : ByteArray := code
def yL_law : MethodName := ⟨RL, "law", "([I)Z"⟩
abbrev vwCl : List vw_C := [(RX0, TX0, 2), (RX1, TX1, 3), (RX2, TX2, 16), (RX3, TX3, 3), (RX4, TX4, 6), (RX5, TX5, 7), (RX6, TX6, 10), (RX7, TX7, 6), (RX8, TX8, 2), (RX9, TX9, 13), (RX10, TX10, 4), (RX11, TX11, 17), (RX12, TX12, 45)]
end
section
theorem dX0_init_0 : decode cX0_init 0 = .ok (.aload_n 0, 1) := by decide +kernel
theorem dX0_init_1 : decode cX0_init 1 = .ok (.invokespecial 3, 3) := by decide +kernel
theorem dX0_init_4 : decode cX0_init 4 = .ok (.aload_n 0, 1) := by decide +kernel
theorem dX0_init_5 : decode cX0_init 5 = .ok (.iload_n 1, 1) := by decide +kernel
theorem dX0_init_6 : decode cX0_init 6 = .ok (.newarray .byte, 2) := by decide +kernel
theorem dX0_init_8 : decode cX0_init 8 = .ok (.putfield 9, 3) := by decide +kernel
theorem dX0_init_11 : decode cX0_init 11 = .ok (.return_, 1) := by decide +kernel
theorem dX0_at_0 : decode cX0_at 0 = .ok (.iload_n 1, 1) := by decide +kernel
theorem dX0_at_1 : decode cX0_at 1 = .ok (.ifCond .lt 24, 3) := by decide +kernel
theorem dX0_at_4 : decode cX0_at 4 = .ok (.iload_n 1, 1) := by decide +kernel
theorem dX0_at_5 : decode cX0_at 5 = .ok (.aload_n 0, 1) := by decide +kernel
theorem dX0_at_6 : decode cX0_at 6 = .ok (.getfield 15, 3) := by decide +kernel
theorem dX0_at_9 : decode cX0_at 9 = .ok (.if_icmp .ge 16, 3) := by decide +kernel
theorem dX0_at_12 : decode cX0_at 12 = .ok (.aload_n 0, 1) := by decide +kernel
theorem dX0_at_13 : decode cX0_at 13 = .ok (.getfield 9, 3) := by decide +kernel
theorem dX0_at_16 : decode cX0_at 16 = .ok (.iload_n 1, 1) := by decide +kernel
theorem dX0_at_17 : decode cX0_at 17 = .ok (.baload, 1) := by decide +kernel
theorem dX0_at_18 : decode cX0_at 18 = .ok (.sipush 255, 3) := by decide +kernel
theorem dX0_at_21 : decode cX0_at 21 = .ok (.iand, 1) := by decide +kernel
theorem dX0_at_22 : decode cX0_at 22 = .ok (.goto 4, 3) := by decide +kernel
theorem dX0_at_25 : decode cX0_at 25 = .ok (.iconst (-1), 1) := by decide +kernel
theorem dX0_at_26 : decode cX0_at 26 = .ok (.ireturn, 1) := by decide +kernel
theorem dX0_add_0 : decode cX0_add 0 = .ok (.aload_n 0, 1) := by decide +kernel
theorem dX0_add_1 : decode cX0_add 1 = .ok (.getfield 15, 3) := by decide +kernel
theorem dX0_add_4 : decode cX0_add 4 = .ok (.aload_n 0, 1) := by decide +kernel
theorem dX0_add_5 : decode cX0_add 5 = .ok (.getfield 9, 3) := by decide +kernel
theorem dX0_add_8 : decode cX0_add 8 = .ok (.arraylength, 1) := by decide +kernel
theorem dX0_add_9 : decode cX0_add 9 = .ok (.if_icmp .ge 24, 3) := by decide +kernel
theorem dX0_add_12 : decode cX0_add 12 = .ok (.aload_n 0, 1) := by decide +kernel
theorem dX0_add_13 : decode cX0_add 13 = .ok (.getfield 9, 3) := by decide +kernel
theorem dX0_add_16 : decode cX0_add 16 = .ok (.aload_n 0, 1) := by decide +kernel
theorem dX0_add_17 : decode cX0_add 17 = .ok (.getfield 15, 3) := by decide +kernel
theorem dX0_add_20 : decode cX0_add 20 = .ok (.iload_n 1, 1) := by decide +kernel
theorem dX0_add_21 : decode cX0_add 21 = .ok (.i2b, 1) := by decide +kernel
theorem dX0_add_22 : decode cX0_add 22 = .ok (.bastore, 1) := by decide +kernel
theorem dX0_add_23 : decode cX0_add 23 = .ok (.aload_n 0, 1) := by decide +kernel
theorem dX0_add_24 : decode cX0_add 24 = .ok (.dup, 1) := by decide +kernel
theorem dX0_add_25 : decode cX0_add 25 = .ok (.getfield 15, 3) := by decide +kernel
theorem dX0_add_28 : decode cX0_add 28 = .ok (.iconst 1, 1) := by decide +kernel
theorem dX0_add_29 : decode cX0_add 29 = .ok (.iadd, 1) := by decide +kernel
theorem dX0_add_30 : decode cX0_add 30 = .ok (.putfield 15, 3) := by decide +kernel
theorem dX0_add_33 : decode cX0_add 33 = .ok (.return_, 1) := by decide +kernel
theorem dX0_addInt_0 : decode cX0_addInt 0 = .ok (.aload_n 0, 1) := by decide +kernel
theorem dX0_addInt_1 : decode cX0_addInt 1 = .ok (.iload_n 1, 1) := by decide +kernel
theorem dX0_addInt_2 : decode cX0_addInt 2 = .ok (.bipush 24, 2) := by decide +kernel
theorem dX0_addInt_4 : decode cX0_addInt 4 = .ok (.iushr, 1) := by decide +kernel
theorem dX0_addInt_5 : decode cX0_addInt 5 = .ok (.invokevirtual 19, 3) := by decide +kernel
theorem dX0_addInt_8 : decode cX0_addInt 8 = .ok (.aload_n 0, 1) := by decide +kernel
theorem dX0_addInt_9 : decode cX0_addInt 9 = .ok (.iload_n 1, 1) := by decide +kernel
theorem dX0_addInt_10 : decode cX0_addInt 10 = .ok (.bipush 16, 2) := by decide +kernel
theorem dX0_addInt_12 : decode cX0_addInt 12 = .ok (.iushr, 1) := by decide +kernel
theorem dX0_addInt_13 : decode cX0_addInt 13 = .ok (.invokevirtual 19, 3) := by decide +kernel
theorem dX0_addInt_16 : decode cX0_addInt 16 = .ok (.aload_n 0, 1) := by decide +kernel
theorem dX0_addInt_17 : decode cX0_addInt 17 = .ok (.iload_n 1, 1) := by decide +kernel
theorem dX0_addInt_18 : decode cX0_addInt 18 = .ok (.bipush 8, 2) := by decide +kernel
theorem dX0_addInt_20 : decode cX0_addInt 20 = .ok (.iushr, 1) := by decide +kernel
theorem dX0_addInt_21 : decode cX0_addInt 21 = .ok (.invokevirtual 19, 3) := by decide +kernel
theorem dX0_addInt_24 : decode cX0_addInt 24 = .ok (.aload_n 0, 1) := by decide +kernel
theorem dX0_addInt_25 : decode cX0_addInt 25 = .ok (.iload_n 1, 1) := by decide +kernel
theorem dX0_addInt_26 : decode cX0_addInt 26 = .ok (.invokevirtual 19, 3) := by decide +kernel
theorem dX0_addInt_29 : decode cX0_addInt 29 = .ok (.return_, 1) := by decide +kernel
theorem dX1_init_0 : decode cX1_init 0 = .ok (.aload_n 0, 1) := by decide +kernel
theorem dX1_init_1 : decode cX1_init 1 = .ok (.invokespecial 3, 3) := by decide +kernel
theorem dX1_init_4 : decode cX1_init 4 = .ok (.aload_n 0, 1) := by decide +kernel
theorem dX1_init_5 : decode cX1_init 5 = .ok (.bipush 9, 2) := by decide +kernel
theorem dX1_init_7 : decode cX1_init 7 = .ok (.anewarray 11, 3) := by decide +kernel
theorem dX1_init_10 : decode cX1_init 10 = .ok (.putfield 13, 3) := by decide +kernel
theorem dX1_init_13 : decode cX1_init 13 = .ok (.iconst 0, 1) := by decide +kernel
theorem dX1_init_14 : decode cX1_init 14 = .ok (.istore_n 1, 1) := by decide +kernel
theorem dX1_init_15 : decode cX1_init 15 = .ok (.iload_n 1, 1) := by decide +kernel
theorem dX1_init_16 : decode cX1_init 16 = .ok (.bipush 9, 2) := by decide +kernel
theorem dX1_init_18 : decode cX1_init 18 = .ok (.if_icmp .ge 22, 3) := by decide +kernel
theorem dX1_init_21 : decode cX1_init 21 = .ok (.aload_n 0, 1) := by decide +kernel
theorem dX1_init_22 : decode cX1_init 22 = .ok (.getfield 13, 3) := by decide +kernel
theorem dX1_init_25 : decode cX1_init 25 = .ok (.iload_n 1, 1) := by decide +kernel
theorem dX1_init_26 : decode cX1_init 26 = .ok (.new 11, 3) := by decide +kernel
theorem dX1_init_29 : decode cX1_init 29 = .ok (.dup, 1) := by decide +kernel
theorem dX1_init_30 : decode cX1_init 30 = .ok (.invokespecial 17, 3) := by decide +kernel
theorem dX1_init_33 : decode cX1_init 33 = .ok (.aastore, 1) := by decide +kernel
theorem dX1_init_34 : decode cX1_init 34 = .ok (.iinc 1 1, 3) := by decide +kernel
theorem dX1_init_37 : decode cX1_init 37 = .ok (.goto (-22), 3) := by decide +kernel
theorem dX1_init_40 : decode cX1_init 40 = .ok (.return_, 1) := by decide +kernel
theorem dX1_clear_0 : decode cX1_clear 0 = .ok (.aload_n 0, 1) := by decide +kernel
theorem dX1_clear_1 : decode cX1_clear 1 = .ok (.iconst 0, 1) := by decide +kernel
theorem dX1_clear_2 : decode cX1_clear 2 = .ok (.putfield 18, 3) := by decide +kernel
theorem dX1_clear_5 : decode cX1_clear 5 = .ok (.return_, 1) := by decide +kernel
theorem dX1_prepare_0 : decode cX1_prepare 0 = .ok (.aload_n 0, 1) := by decide +kernel
theorem dX1_prepare_1 : decode cX1_prepare 1 = .ok (.getfield 13, 3) := by decide +kernel
theorem dX1_prepare_4 : decode cX1_prepare 4 = .ok (.aload_n 0, 1) := by decide +kernel
theorem dX1_prepare_5 : decode cX1_prepare 5 = .ok (.getfield 22, 3) := by decide +kernel
theorem dX1_prepare_8 : decode cX1_prepare 8 = .ok (.aload_n 0, 1) := by decide +kernel
theorem dX1_prepare_9 : decode cX1_prepare 9 = .ok (.getfield 18, 3) := by decide +kernel
theorem dX1_prepare_12 : decode cX1_prepare 12 = .ok (.iadd, 1) := by decide +kernel
theorem dX1_prepare_13 : decode cX1_prepare 13 = .ok (.bipush 9, 2) := by decide +kernel
theorem dX1_prepare_15 : decode cX1_prepare 15 = .ok (.irem, 1) := by decide +kernel
theorem dX1_prepare_16 : decode cX1_prepare 16 = .ok (.aaload, 1) := by decide +kernel
theorem dX1_prepare_17 : decode cX1_prepare 17 = .ok (.aload_n 1, 1) := by decide +kernel
theorem dX1_prepare_18 : decode cX1_prepare 18 = .ok (.invokevirtual 25, 3) := by decide +kernel
theorem dX1_prepare_21 : decode cX1_prepare 21 = .ok (.return_, 1) := by decide +kernel
theorem dX1_commit_0 : decode cX1_commit 0 = .ok (.aload_n 0, 1) := by decide +kernel
theorem dX1_commit_1 : decode cX1_commit 1 = .ok (.getfield 18, 3) := by decide +kernel
theorem dX1_commit_4 : decode cX1_commit 4 = .ok (.bipush 8, 2) := by decide +kernel
theorem dX1_commit_6 : decode cX1_commit 6 = .ok (.if_icmp .ge 16, 3) := by decide +kernel
theorem dX1_commit_9 : decode cX1_commit 9 = .ok (.aload_n 0, 1) := by decide +kernel
theorem dX1_commit_10 : decode cX1_commit 10 = .ok (.dup, 1) := by decide +kernel
theorem dX1_commit_11 : decode cX1_commit 11 = .ok (.getfield 18, 3) := by decide +kernel
theorem dX1_commit_14 : decode cX1_commit 14 = .ok (.iconst 1, 1) := by decide +kernel
theorem dX1_commit_15 : decode cX1_commit 15 = .ok (.iadd, 1) := by decide +kernel
theorem dX1_commit_16 : decode cX1_commit 16 = .ok (.putfield 18, 3) := by decide +kernel
theorem dX1_commit_19 : decode cX1_commit 19 = .ok (.goto 16, 3) := by decide +kernel
theorem dX1_commit_22 : decode cX1_commit 22 = .ok (.aload_n 0, 1) := by decide +kernel
theorem dX1_commit_23 : decode cX1_commit 23 = .ok (.aload_n 0, 1) := by decide +kernel
theorem dX1_commit_24 : decode cX1_commit 24 = .ok (.getfield 22, 3) := by decide +kernel
theorem dX1_commit_27 : decode cX1_commit 27 = .ok (.iconst 1, 1) := by decide +kernel
theorem dX1_commit_28 : decode cX1_commit 28 = .ok (.iadd, 1) := by decide +kernel
theorem dX1_commit_29 : decode cX1_commit 29 = .ok (.bipush 9, 2) := by decide +kernel
theorem dX1_commit_31 : decode cX1_commit 31 = .ok (.irem, 1) := by decide +kernel
theorem dX1_commit_32 : decode cX1_commit 32 = .ok (.putfield 22, 3) := by decide +kernel
theorem dX1_commit_35 : decode cX1_commit 35 = .ok (.return_, 1) := by decide +kernel
theorem dX1_takeBack_0 : decode cX1_takeBack 0 = .ok (.aload_n 0, 1) := by decide +kernel
theorem dX1_takeBack_1 : decode cX1_takeBack 1 = .ok (.getfield 18, 3) := by decide +kernel
theorem dX1_takeBack_4 : decode cX1_takeBack 4 = .ok (.ifCond .ne 5, 3) := by decide +kernel
theorem dX1_takeBack_7 : decode cX1_takeBack 7 = .ok (.iconst (-1), 1) := by decide +kernel
theorem dX1_takeBack_8 : decode cX1_takeBack 8 = .ok (.ireturn, 1) := by decide +kernel
theorem dX1_takeBack_9 : decode cX1_takeBack 9 = .ok (.aload_n 0, 1) := by decide +kernel
theorem dX1_takeBack_10 : decode cX1_takeBack 10 = .ok (.dup, 1) := by decide +kernel
theorem dX1_takeBack_11 : decode cX1_takeBack 11 = .ok (.getfield 18, 3) := by decide +kernel
theorem dX1_takeBack_14 : decode cX1_takeBack 14 = .ok (.iconst 1, 1) := by decide +kernel
theorem dX1_takeBack_15 : decode cX1_takeBack 15 = .ok (.isub, 1) := by decide +kernel
theorem dX1_takeBack_16 : decode cX1_takeBack 16 = .ok (.putfield 18, 3) := by decide +kernel
theorem dX1_takeBack_19 : decode cX1_takeBack 19 = .ok (.aload_n 1, 1) := by decide +kernel
theorem dX1_takeBack_20 : decode cX1_takeBack 20 = .ok (.aload_n 0, 1) := by decide +kernel
theorem dX1_takeBack_21 : decode cX1_takeBack 21 = .ok (.getfield 13, 3) := by decide +kernel
theorem dX1_takeBack_24 : decode cX1_takeBack 24 = .ok (.aload_n 0, 1) := by decide +kernel
theorem dX1_takeBack_25 : decode cX1_takeBack 25 = .ok (.getfield 22, 3) := by decide +kernel
theorem dX1_takeBack_28 : decode cX1_takeBack 28 = .ok (.aload_n 0, 1) := by decide +kernel
theorem dX1_takeBack_29 : decode cX1_takeBack 29 = .ok (.getfield 18, 3) := by decide +kernel
theorem dX1_takeBack_32 : decode cX1_takeBack 32 = .ok (.iadd, 1) := by decide +kernel
theorem dX1_takeBack_33 : decode cX1_takeBack 33 = .ok (.bipush 9, 2) := by decide +kernel
theorem dX1_takeBack_35 : decode cX1_takeBack 35 = .ok (.irem, 1) := by decide +kernel
theorem dX1_takeBack_36 : decode cX1_takeBack 36 = .ok (.aaload, 1) := by decide +kernel
theorem dX1_takeBack_37 : decode cX1_takeBack 37 = .ok (.invokevirtual 25, 3) := by decide +kernel
theorem dX1_takeBack_40 : decode cX1_takeBack 40 = .ok (.aload_n 0, 1) := by decide +kernel
theorem dX1_takeBack_41 : decode cX1_takeBack 41 = .ok (.getfield 18, 3) := by decide +kernel
theorem dX1_takeBack_44 : decode cX1_takeBack 44 = .ok (.ireturn, 1) := by decide +kernel
theorem dX2_init_0 : decode cX2_init 0 = .ok (.aload_n 0, 1) := by decide +kernel
theorem dX2_init_1 : decode cX2_init 1 = .ok (.invokespecial 3, 3) := by decide +kernel
theorem dX2_init_4 : decode cX2_init 4 = .ok (.aload_n 0, 1) := by decide +kernel
theorem dX2_init_5 : decode cX2_init 5 = .ok (.bipush 6, 2) := by decide +kernel
theorem dX2_init_7 : decode cX2_init 7 = .ok (.newarray .long, 2) := by decide +kernel
theorem dX2_init_9 : decode cX2_init 9 = .ok (.putfield 9, 3) := by decide +kernel
theorem dX2_init_12 : decode cX2_init 12 = .ok (.aload_n 0, 1) := by decide +kernel
theorem dX2_init_13 : decode cX2_init 13 = .ok (.bipush 6, 2) := by decide +kernel
theorem dX2_init_15 : decode cX2_init 15 = .ok (.newarray .int, 2) := by decide +kernel
theorem dX2_init_17 : decode cX2_init 17 = .ok (.putfield 15, 3) := by decide +kernel
theorem dX2_init_20 : decode cX2_init 20 = .ok (.aload_n 0, 1) := by decide +kernel
theorem dX2_init_21 : decode cX2_init 21 = .ok (.bipush 6, 2) := by decide +kernel
theorem dX2_init_23 : decode cX2_init 23 = .ok (.newarray .int, 2) := by decide +kernel
theorem dX2_init_25 : decode cX2_init 25 = .ok (.putfield 19, 3) := by decide +kernel
theorem dX2_init_28 : decode cX2_init 28 = .ok (.aload_n 0, 1) := by decide +kernel
theorem dX2_init_29 : decode cX2_init 29 = .ok (.bipush 6, 2) := by decide +kernel
theorem dX2_init_31 : decode cX2_init 31 = .ok (.newarray .int, 2) := by decide +kernel
theorem dX2_init_33 : decode cX2_init 33 = .ok (.putfield 22, 3) := by decide +kernel
theorem dX2_init_36 : decode cX2_init 36 = .ok (.aload_n 0, 1) := by decide +kernel
theorem dX2_init_37 : decode cX2_init 37 = .ok (.bipush 6, 2) := by decide +kernel
theorem dX2_init_39 : decode cX2_init 39 = .ok (.newarray .int, 2) := by decide +kernel
theorem dX2_init_41 : decode cX2_init 41 = .ok (.putfield 25, 3) := by decide +kernel
theorem dX2_init_44 : decode cX2_init 44 = .ok (.aload_n 0, 1) := by decide +kernel
theorem dX2_init_45 : decode cX2_init 45 = .ok (.bipush 6, 2) := by decide +kernel
theorem dX2_init_47 : decode cX2_init 47 = .ok (.newarray .int, 2) := by decide +kernel
theorem dX2_init_49 : decode cX2_init 49 = .ok (.putfield 28, 3) := by decide +kernel
theorem dX2_init_52 : decode cX2_init 52 = .ok (.aload_n 0, 1) := by decide +kernel
theorem dX2_init_53 : decode cX2_init 53 = .ok (.bipush 6, 2) := by decide +kernel
theorem dX2_init_55 : decode cX2_init 55 = .ok (.newarray .int, 2) := by decide +kernel
theorem dX2_init_57 : decode cX2_init 57 = .ok (.putfield 31, 3) := by decide +kernel
theorem dX2_init_60 : decode cX2_init 60 = .ok (.aload_n 0, 1) := by decide +kernel
theorem dX2_init_61 : decode cX2_init 61 = .ok (.bipush 8, 2) := by decide +kernel
theorem dX2_init_63 : decode cX2_init 63 = .ok (.newarray .long, 2) := by decide +kernel
theorem dX2_init_65 : decode cX2_init 65 = .ok (.putfield 34, 3) := by decide +kernel
theorem dX2_init_68 : decode cX2_init 68 = .ok (.aload_n 0, 1) := by decide +kernel
theorem dX2_init_69 : decode cX2_init 69 = .ok (.bipush 8, 2) := by decide +kernel
theorem dX2_init_71 : decode cX2_init 71 = .ok (.newarray .int, 2) := by decide +kernel
theorem dX2_init_73 : decode cX2_init 73 = .ok (.putfield 37, 3) := by decide +kernel
theorem dX2_init_76 : decode cX2_init 76 = .ok (.aload_n 0, 1) := by decide +kernel
theorem dX2_init_77 : decode cX2_init 77 = .ok (.bipush 8, 2) := by decide +kernel
theorem dX2_init_79 : decode cX2_init 79 = .ok (.newarray .int, 2) := by decide +kernel
theorem dX2_init_81 : decode cX2_init 81 = .ok (.putfield 40, 3) := by decide +kernel
theorem dX2_init_84 : decode cX2_init 84 = .ok (.aload_n 0, 1) := by decide +kernel
theorem dX2_init_85 : decode cX2_init 85 = .ok (.bipush 8, 2) := by decide +kernel
theorem dX2_init_87 : decode cX2_init 87 = .ok (.newarray .int, 2) := by decide +kernel
theorem dX2_init_89 : decode cX2_init 89 = .ok (.putfield 43, 3) := by decide +kernel
theorem dX2_init_92 : decode cX2_init 92 = .ok (.aload_n 0, 1) := by decide +kernel
theorem dX2_init_93 : decode cX2_init 93 = .ok (.bipush 8, 2) := by decide +kernel
theorem dX2_init_95 : decode cX2_init 95 = .ok (.newarray .int, 2) := by decide +kernel
theorem dX2_init_97 : decode cX2_init 97 = .ok (.putfield 46, 3) := by decide +kernel
theorem dX2_init_100 : decode cX2_init 100 = .ok (.aload_n 0, 1) := by decide +kernel
theorem dX2_init_101 : decode cX2_init 101 = .ok (.bipush 24, 2) := by decide +kernel
theorem dX2_init_103 : decode cX2_init 103 = .ok (.newarray .int, 2) := by decide +kernel
theorem dX2_init_105 : decode cX2_init 105 = .ok (.putfield 49, 3) := by decide +kernel
theorem dX2_init_108 : decode cX2_init 108 = .ok (.return_, 1) := by decide +kernel
theorem dX2_clear_0 : decode cX2_clear 0 = .ok (.aload_n 0, 1) := by decide +kernel
theorem dX2_clear_1 : decode cX2_clear 1 = .ok (.iconst 0, 1) := by decide +kernel
theorem dX2_clear_2 : decode cX2_clear 2 = .ok (.putfield 52, 3) := by decide +kernel
theorem dX2_clear_5 : decode cX2_clear 5 = .ok (.aload_n 0, 1) := by decide +kernel
theorem dX2_clear_6 : decode cX2_clear 6 = .ok (.iconst 0, 1) := by decide +kernel
theorem dX2_clear_7 : decode cX2_clear 7 = .ok (.putfield 56, 3) := by decide +kernel
theorem dX2_clear_10 : decode cX2_clear 10 = .ok (.aload_n 0, 1) := by decide +kernel
theorem dX2_clear_11 : decode cX2_clear 11 = .ok (.iconst 0, 1) := by decide +kernel
theorem dX2_clear_12 : decode cX2_clear 12 = .ok (.putfield 59, 3) := by decide +kernel
theorem dX2_clear_15 : decode cX2_clear 15 = .ok (.iconst 0, 1) := by decide +kernel
theorem dX2_clear_16 : decode cX2_clear 16 = .ok (.istore_n 1, 1) := by decide +kernel
theorem dX2_clear_17 : decode cX2_clear 17 = .ok (.iload_n 1, 1) := by decide +kernel
theorem dX2_clear_18 : decode cX2_clear 18 = .ok (.aload_n 0, 1) := by decide +kernel
theorem dX2_clear_19 : decode cX2_clear 19 = .ok (.getfield 49, 3) := by decide +kernel
theorem dX2_clear_22 : decode cX2_clear 22 = .ok (.arraylength, 1) := by decide +kernel
theorem dX2_clear_23 : decode cX2_clear 23 = .ok (.if_icmp .ge 16, 3) := by decide +kernel
theorem dX2_clear_26 : decode cX2_clear 26 = .ok (.aload_n 0, 1) := by decide +kernel
theorem dX2_clear_27 : decode cX2_clear 27 = .ok (.getfield 49, 3) := by decide +kernel
theorem dX2_clear_30 : decode cX2_clear 30 = .ok (.iload_n 1, 1) := by decide +kernel
theorem dX2_clear_31 : decode cX2_clear 31 = .ok (.iconst 0, 1) := by decide +kernel
theorem dX2_clear_32 : decode cX2_clear 32 = .ok (.iastore, 1) := by decide +kernel
theorem dX2_clear_33 : decode cX2_clear 33 = .ok (.iinc 1 1, 3) := by decide +kernel
theorem dX2_clear_36 : decode cX2_clear 36 = .ok (.goto (-19), 3) := by decide +kernel
theorem dX2_clear_39 : decode cX2_clear 39 = .ok (.return_, 1) := by decide +kernel
theorem dX2_copyFrom_0 : decode cX2_copyFrom 0 = .ok (.aload_n 1, 1) := by decide +kernel
theorem dX2_copyFrom_1 : decode cX2_copyFrom 1 = .ok (.getfield 9, 3) := by decide +kernel
theorem dX2_copyFrom_4 : decode cX2_copyFrom 4 = .ok (.iconst 0, 1) := by decide +kernel
theorem dX2_copyFrom_5 : decode cX2_copyFrom 5 = .ok (.aload_n 0, 1) := by decide +kernel
theorem dX2_copyFrom_6 : decode cX2_copyFrom 6 = .ok (.getfield 9, 3) := by decide +kernel
theorem dX2_copyFrom_9 : decode cX2_copyFrom 9 = .ok (.iconst 0, 1) := by decide +kernel
theorem dX2_copyFrom_10 : decode cX2_copyFrom 10 = .ok (.bipush 6, 2) := by decide +kernel
theorem dX2_copyFrom_12 : decode cX2_copyFrom 12 = .ok (.invokestatic 62, 3) := by decide +kernel
theorem dX2_copyFrom_15 : decode cX2_copyFrom 15 = .ok (.aload_n 1, 1) := by decide +kernel
theorem dX2_copyFrom_16 : decode cX2_copyFrom 16 = .ok (.getfield 15, 3) := by decide +kernel
theorem dX2_copyFrom_19 : decode cX2_copyFrom 19 = .ok (.iconst 0, 1) := by decide +kernel
theorem dX2_copyFrom_20 : decode cX2_copyFrom 20 = .ok (.aload_n 0, 1) := by decide +kernel
theorem dX2_copyFrom_21 : decode cX2_copyFrom 21 = .ok (.getfield 15, 3) := by decide +kernel
theorem dX2_copyFrom_24 : decode cX2_copyFrom 24 = .ok (.iconst 0, 1) := by decide +kernel
theorem dX2_copyFrom_25 : decode cX2_copyFrom 25 = .ok (.bipush 6, 2) := by decide +kernel
theorem dX2_copyFrom_27 : decode cX2_copyFrom 27 = .ok (.invokestatic 62, 3) := by decide +kernel
theorem dX2_copyFrom_30 : decode cX2_copyFrom 30 = .ok (.aload_n 1, 1) := by decide +kernel
theorem dX2_copyFrom_31 : decode cX2_copyFrom 31 = .ok (.getfield 19, 3) := by decide +kernel
theorem dX2_copyFrom_34 : decode cX2_copyFrom 34 = .ok (.iconst 0, 1) := by decide +kernel
theorem dX2_copyFrom_35 : decode cX2_copyFrom 35 = .ok (.aload_n 0, 1) := by decide +kernel
theorem dX2_copyFrom_36 : decode cX2_copyFrom 36 = .ok (.getfield 19, 3) := by decide +kernel
theorem dX2_copyFrom_39 : decode cX2_copyFrom 39 = .ok (.iconst 0, 1) := by decide +kernel
theorem dX2_copyFrom_40 : decode cX2_copyFrom 40 = .ok (.bipush 6, 2) := by decide +kernel
theorem dX2_copyFrom_42 : decode cX2_copyFrom 42 = .ok (.invokestatic 62, 3) := by decide +kernel
theorem dX2_copyFrom_45 : decode cX2_copyFrom 45 = .ok (.aload_n 1, 1) := by decide +kernel
theorem dX2_copyFrom_46 : decode cX2_copyFrom 46 = .ok (.getfield 22, 3) := by decide +kernel
theorem dX2_copyFrom_49 : decode cX2_copyFrom 49 = .ok (.iconst 0, 1) := by decide +kernel
theorem dX2_copyFrom_50 : decode cX2_copyFrom 50 = .ok (.aload_n 0, 1) := by decide +kernel
theorem dX2_copyFrom_51 : decode cX2_copyFrom 51 = .ok (.getfield 22, 3) := by decide +kernel
theorem dX2_copyFrom_54 : decode cX2_copyFrom 54 = .ok (.iconst 0, 1) := by decide +kernel
theorem dX2_copyFrom_55 : decode cX2_copyFrom 55 = .ok (.bipush 6, 2) := by decide +kernel
theorem dX2_copyFrom_57 : decode cX2_copyFrom 57 = .ok (.invokestatic 62, 3) := by decide +kernel
theorem dX2_copyFrom_60 : decode cX2_copyFrom 60 = .ok (.aload_n 1, 1) := by decide +kernel
theorem dX2_copyFrom_61 : decode cX2_copyFrom 61 = .ok (.getfield 25, 3) := by decide +kernel
theorem dX2_copyFrom_64 : decode cX2_copyFrom 64 = .ok (.iconst 0, 1) := by decide +kernel
theorem dX2_copyFrom_65 : decode cX2_copyFrom 65 = .ok (.aload_n 0, 1) := by decide +kernel
theorem dX2_copyFrom_66 : decode cX2_copyFrom 66 = .ok (.getfield 25, 3) := by decide +kernel
theorem dX2_copyFrom_69 : decode cX2_copyFrom 69 = .ok (.iconst 0, 1) := by decide +kernel
theorem dX2_copyFrom_70 : decode cX2_copyFrom 70 = .ok (.bipush 6, 2) := by decide +kernel
theorem dX2_copyFrom_72 : decode cX2_copyFrom 72 = .ok (.invokestatic 62, 3) := by decide +kernel
theorem dX2_copyFrom_75 : decode cX2_copyFrom 75 = .ok (.aload_n 1, 1) := by decide +kernel
theorem dX2_copyFrom_76 : decode cX2_copyFrom 76 = .ok (.getfield 28, 3) := by decide +kernel
theorem dX2_copyFrom_79 : decode cX2_copyFrom 79 = .ok (.iconst 0, 1) := by decide +kernel
theorem dX2_copyFrom_80 : decode cX2_copyFrom 80 = .ok (.aload_n 0, 1) := by decide +kernel
theorem dX2_copyFrom_81 : decode cX2_copyFrom 81 = .ok (.getfield 28, 3) := by decide +kernel
theorem dX2_copyFrom_84 : decode cX2_copyFrom 84 = .ok (.iconst 0, 1) := by decide +kernel
theorem dX2_copyFrom_85 : decode cX2_copyFrom 85 = .ok (.bipush 6, 2) := by decide +kernel
theorem dX2_copyFrom_87 : decode cX2_copyFrom 87 = .ok (.invokestatic 62, 3) := by decide +kernel
theorem dX2_copyFrom_90 : decode cX2_copyFrom 90 = .ok (.aload_n 1, 1) := by decide +kernel
theorem dX2_copyFrom_91 : decode cX2_copyFrom 91 = .ok (.getfield 31, 3) := by decide +kernel
theorem dX2_copyFrom_94 : decode cX2_copyFrom 94 = .ok (.iconst 0, 1) := by decide +kernel
theorem dX2_copyFrom_95 : decode cX2_copyFrom 95 = .ok (.aload_n 0, 1) := by decide +kernel
theorem dX2_copyFrom_96 : decode cX2_copyFrom 96 = .ok (.getfield 31, 3) := by decide +kernel
theorem dX2_copyFrom_99 : decode cX2_copyFrom 99 = .ok (.iconst 0, 1) := by decide +kernel
theorem dX2_copyFrom_100 : decode cX2_copyFrom 100 = .ok (.bipush 6, 2) := by decide +kernel
theorem dX2_copyFrom_102 : decode cX2_copyFrom 102 = .ok (.invokestatic 62, 3) := by decide +kernel
theorem dX2_copyFrom_105 : decode cX2_copyFrom 105 = .ok (.aload_n 1, 1) := by decide +kernel
theorem dX2_copyFrom_106 : decode cX2_copyFrom 106 = .ok (.getfield 34, 3) := by decide +kernel
theorem dX2_copyFrom_109 : decode cX2_copyFrom 109 = .ok (.iconst 0, 1) := by decide +kernel
theorem dX2_copyFrom_110 : decode cX2_copyFrom 110 = .ok (.aload_n 0, 1) := by decide +kernel
theorem dX2_copyFrom_111 : decode cX2_copyFrom 111 = .ok (.getfield 34, 3) := by decide +kernel
theorem dX2_copyFrom_114 : decode cX2_copyFrom 114 = .ok (.iconst 0, 1) := by decide +kernel
theorem dX2_copyFrom_115 : decode cX2_copyFrom 115 = .ok (.bipush 8, 2) := by decide +kernel
theorem dX2_copyFrom_117 : decode cX2_copyFrom 117 = .ok (.invokestatic 62, 3) := by decide +kernel
theorem dX2_copyFrom_120 : decode cX2_copyFrom 120 = .ok (.aload_n 1, 1) := by decide +kernel
theorem dX2_copyFrom_121 : decode cX2_copyFrom 121 = .ok (.getfield 37, 3) := by decide +kernel
theorem dX2_copyFrom_124 : decode cX2_copyFrom 124 = .ok (.iconst 0, 1) := by decide +kernel
theorem dX2_copyFrom_125 : decode cX2_copyFrom 125 = .ok (.aload_n 0, 1) := by decide +kernel
theorem dX2_copyFrom_126 : decode cX2_copyFrom 126 = .ok (.getfield 37, 3) := by decide +kernel
theorem dX2_copyFrom_129 : decode cX2_copyFrom 129 = .ok (.iconst 0, 1) := by decide +kernel
theorem dX2_copyFrom_130 : decode cX2_copyFrom 130 = .ok (.bipush 8, 2) := by decide +kernel
theorem dX2_copyFrom_132 : decode cX2_copyFrom 132 = .ok (.invokestatic 62, 3) := by decide +kernel
theorem dX2_copyFrom_135 : decode cX2_copyFrom 135 = .ok (.aload_n 1, 1) := by decide +kernel
theorem dX2_copyFrom_136 : decode cX2_copyFrom 136 = .ok (.getfield 40, 3) := by decide +kernel
theorem dX2_copyFrom_139 : decode cX2_copyFrom 139 = .ok (.iconst 0, 1) := by decide +kernel
theorem dX2_copyFrom_140 : decode cX2_copyFrom 140 = .ok (.aload_n 0, 1) := by decide +kernel
theorem dX2_copyFrom_141 : decode cX2_copyFrom 141 = .ok (.getfield 40, 3) := by decide +kernel
theorem dX2_copyFrom_144 : decode cX2_copyFrom 144 = .ok (.iconst 0, 1) := by decide +kernel
theorem dX2_copyFrom_145 : decode cX2_copyFrom 145 = .ok (.bipush 8, 2) := by decide +kernel
theorem dX2_copyFrom_147 : decode cX2_copyFrom 147 = .ok (.invokestatic 62, 3) := by decide +kernel
theorem dX2_copyFrom_150 : decode cX2_copyFrom 150 = .ok (.aload_n 1, 1) := by decide +kernel
theorem dX2_copyFrom_151 : decode cX2_copyFrom 151 = .ok (.getfield 43, 3) := by decide +kernel
theorem dX2_copyFrom_154 : decode cX2_copyFrom 154 = .ok (.iconst 0, 1) := by decide +kernel
theorem dX2_copyFrom_155 : decode cX2_copyFrom 155 = .ok (.aload_n 0, 1) := by decide +kernel
theorem dX2_copyFrom_156 : decode cX2_copyFrom 156 = .ok (.getfield 43, 3) := by decide +kernel
theorem dX2_copyFrom_159 : decode cX2_copyFrom 159 = .ok (.iconst 0, 1) := by decide +kernel
theorem dX2_copyFrom_160 : decode cX2_copyFrom 160 = .ok (.bipush 8, 2) := by decide +kernel
theorem dX2_copyFrom_162 : decode cX2_copyFrom 162 = .ok (.invokestatic 62, 3) := by decide +kernel
theorem dX2_copyFrom_165 : decode cX2_copyFrom 165 = .ok (.aload_n 1, 1) := by decide +kernel
theorem dX2_copyFrom_166 : decode cX2_copyFrom 166 = .ok (.getfield 46, 3) := by decide +kernel
theorem dX2_copyFrom_169 : decode cX2_copyFrom 169 = .ok (.iconst 0, 1) := by decide +kernel
theorem dX2_copyFrom_170 : decode cX2_copyFrom 170 = .ok (.aload_n 0, 1) := by decide +kernel
theorem dX2_copyFrom_171 : decode cX2_copyFrom 171 = .ok (.getfield 46, 3) := by decide +kernel
theorem dX2_copyFrom_174 : decode cX2_copyFrom 174 = .ok (.iconst 0, 1) := by decide +kernel
theorem dX2_copyFrom_175 : decode cX2_copyFrom 175 = .ok (.bipush 8, 2) := by decide +kernel
theorem dX2_copyFrom_177 : decode cX2_copyFrom 177 = .ok (.invokestatic 62, 3) := by decide +kernel
theorem dX2_copyFrom_180 : decode cX2_copyFrom 180 = .ok (.aload_n 1, 1) := by decide +kernel
theorem dX2_copyFrom_181 : decode cX2_copyFrom 181 = .ok (.getfield 49, 3) := by decide +kernel
theorem dX2_copyFrom_184 : decode cX2_copyFrom 184 = .ok (.iconst 0, 1) := by decide +kernel
theorem dX2_copyFrom_185 : decode cX2_copyFrom 185 = .ok (.aload_n 0, 1) := by decide +kernel
theorem dX2_copyFrom_186 : decode cX2_copyFrom 186 = .ok (.getfield 49, 3) := by decide +kernel
theorem dX2_copyFrom_189 : decode cX2_copyFrom 189 = .ok (.iconst 0, 1) := by decide +kernel
theorem dX2_copyFrom_190 : decode cX2_copyFrom 190 = .ok (.bipush 24, 2) := by decide +kernel
theorem dX2_copyFrom_192 : decode cX2_copyFrom 192 = .ok (.invokestatic 62, 3) := by decide +kernel
theorem dX2_copyFrom_195 : decode cX2_copyFrom 195 = .ok (.aload_n 0, 1) := by decide +kernel
theorem dX2_copyFrom_196 : decode cX2_copyFrom 196 = .ok (.aload_n 1, 1) := by decide +kernel
theorem dX2_copyFrom_197 : decode cX2_copyFrom 197 = .ok (.getfield 52, 3) := by decide +kernel
theorem dX2_copyFrom_200 : decode cX2_copyFrom 200 = .ok (.putfield 52, 3) := by decide +kernel
theorem dX2_copyFrom_203 : decode cX2_copyFrom 203 = .ok (.aload_n 0, 1) := by decide +kernel
theorem dX2_copyFrom_204 : decode cX2_copyFrom 204 = .ok (.aload_n 1, 1) := by decide +kernel
theorem dX2_copyFrom_205 : decode cX2_copyFrom 205 = .ok (.getfield 56, 3) := by decide +kernel
theorem dX2_copyFrom_208 : decode cX2_copyFrom 208 = .ok (.putfield 56, 3) := by decide +kernel
theorem dX2_copyFrom_211 : decode cX2_copyFrom 211 = .ok (.aload_n 0, 1) := by decide +kernel
theorem dX2_copyFrom_212 : decode cX2_copyFrom 212 = .ok (.aload_n 1, 1) := by decide +kernel
theorem dX2_copyFrom_213 : decode cX2_copyFrom 213 = .ok (.getfield 59, 3) := by decide +kernel
theorem dX2_copyFrom_216 : decode cX2_copyFrom 216 = .ok (.putfield 59, 3) := by decide +kernel
theorem dX2_copyFrom_219 : decode cX2_copyFrom 219 = .ok (.return_, 1) := by decide +kernel
theorem dX3_init_0 : decode cX3_init 0 = .ok (.aload_n 0, 1) := by decide +kernel
theorem dX3_init_1 : decode cX3_init 1 = .ok (.invokespecial 3, 3) := by decide +kernel
theorem dX3_init_4 : decode cX3_init 4 = .ok (.aload_n 0, 1) := by decide +kernel
theorem dX3_init_5 : decode cX3_init 5 = .ok (.new 9, 3) := by decide +kernel
theorem dX3_init_8 : decode cX3_init 8 = .ok (.dup, 1) := by decide +kernel
theorem dX3_init_9 : decode cX3_init 9 = .ok (.invokespecial 11, 3) := by decide +kernel
theorem dX3_init_12 : decode cX3_init 12 = .ok (.putfield 12, 3) := by decide +kernel
theorem dX3_init_15 : decode cX3_init 15 = .ok (.aload_n 0, 1) := by decide +kernel
theorem dX3_init_16 : decode cX3_init 16 = .ok (.new 18, 3) := by decide +kernel
theorem dX3_init_19 : decode cX3_init 19 = .ok (.dup, 1) := by decide +kernel
theorem dX3_init_20 : decode cX3_init 20 = .ok (.invokespecial 20, 3) := by decide +kernel
theorem dX3_init_23 : decode cX3_init 23 = .ok (.putfield 21, 3) := by decide +kernel
theorem dX3_init_26 : decode cX3_init 26 = .ok (.return_, 1) := by decide +kernel
theorem dX3_readHouse_0 : decode cX3_readHouse 0 = .ok (.aload_n 0, 1) := by decide +kernel
theorem dX3_readHouse_1 : decode cX3_readHouse 1 = .ok (.getfield 21, 3) := by decide +kernel
theorem dX3_readHouse_4 : decode cX3_readHouse 4 = .ok (.invokevirtual 25, 3) := by decide +kernel
theorem dX3_readHouse_7 : decode cX3_readHouse 7 = .ok (.aload_n 0, 1) := by decide +kernel
theorem dX3_readHouse_8 : decode cX3_readHouse 8 = .ok (.getfield 12, 3) := by decide +kernel
theorem dX3_readHouse_11 : decode cX3_readHouse 11 = .ok (.aload_n 1, 1) := by decide +kernel
theorem dX3_readHouse_12 : decode cX3_readHouse 12 = .ok (.sipush 900, 3) := by decide +kernel
theorem dX3_readHouse_15 : decode cX3_readHouse 15 = .ok (.invokevirtual 28, 3) := by decide +kernel
theorem dX3_readHouse_18 : decode cX3_readHouse 18 = .ok (.aload_n 0, 1) := by decide +kernel
theorem dX3_readHouse_19 : decode cX3_readHouse 19 = .ok (.iconst 0, 1) := by decide +kernel
theorem dX3_readHouse_20 : decode cX3_readHouse 20 = .ok (.putfield 32, 3) := by decide +kernel
theorem dX3_readHouse_23 : decode cX3_readHouse 23 = .ok (.bipush 31, 2) := by decide +kernel
theorem dX3_readHouse_25 : decode cX3_readHouse 25 = .ok (.istore_n 2, 1) := by decide +kernel
theorem dX3_readHouse_26 : decode cX3_readHouse 26 = .ok (.aload_n 0, 1) := by decide +kernel
theorem dX3_readHouse_27 : decode cX3_readHouse 27 = .ok (.getfield 32, 3) := by decide +kernel
theorem dX3_readHouse_30 : decode cX3_readHouse 30 = .ok (.iload_n 2, 1) := by decide +kernel
theorem dX3_readHouse_31 : decode cX3_readHouse 31 = .ok (.if_icmp .ge 35, 3) := by decide +kernel
theorem dX3_readHouse_34 : decode cX3_readHouse 34 = .ok (.aload_n 0, 1) := by decide +kernel
theorem dX3_readHouse_35 : decode cX3_readHouse 35 = .ok (.getfield 12, 3) := by decide +kernel
theorem dX3_readHouse_38 : decode cX3_readHouse 38 = .ok (.getfield 36, 3) := by decide +kernel
theorem dX3_readHouse_41 : decode cX3_readHouse 41 = .ok (.ifCond .eq 25, 3) := by decide +kernel
theorem dX3_readHouse_44 : decode cX3_readHouse 44 = .ok (.aload_n 0, 1) := by decide +kernel
theorem dX3_readHouse_45 : decode cX3_readHouse 45 = .ok (.invokevirtual 39, 3) := by decide +kernel
theorem dX3_readHouse_48 : decode cX3_readHouse 48 = .ok (.ifCond .ne 5, 3) := by decide +kernel
theorem dX3_readHouse_51 : decode cX3_readHouse 51 = .ok (.iconst 0, 1) := by decide +kernel
theorem dX3_readHouse_52 : decode cX3_readHouse 52 = .ok (.ireturn, 1) := by decide +kernel
theorem dX3_readHouse_53 : decode cX3_readHouse 53 = .ok (.aload_n 0, 1) := by decide +kernel
theorem dX3_readHouse_54 : decode cX3_readHouse 54 = .ok (.dup, 1) := by decide +kernel
theorem dX3_readHouse_55 : decode cX3_readHouse 55 = .ok (.getfield 32, 3) := by decide +kernel
theorem dX3_readHouse_58 : decode cX3_readHouse 58 = .ok (.iconst 1, 1) := by decide +kernel
theorem dX3_readHouse_59 : decode cX3_readHouse 59 = .ok (.iadd, 1) := by decide +kernel
theorem dX3_readHouse_60 : decode cX3_readHouse 60 = .ok (.putfield 32, 3) := by decide +kernel
theorem dX3_readHouse_63 : decode cX3_readHouse 63 = .ok (.goto (-37), 3) := by decide +kernel
theorem dX3_readHouse_66 : decode cX3_readHouse 66 = .ok (.iconst 1, 1) := by decide +kernel
theorem dX3_readHouse_67 : decode cX3_readHouse 67 = .ok (.ireturn, 1) := by decide +kernel
theorem dX4_init_0 : decode cX4_init 0 = .ok (.aload_n 0, 1) := by decide +kernel
theorem dX4_init_1 : decode cX4_init 1 = .ok (.invokespecial 3, 3) := by decide +kernel
theorem dX4_init_4 : decode cX4_init 4 = .ok (.aload_n 0, 1) := by decide +kernel
theorem dX4_init_5 : decode cX4_init 5 = .ok (.new 9, 3) := by decide +kernel
theorem dX4_init_8 : decode cX4_init 8 = .ok (.dup, 1) := by decide +kernel
theorem dX4_init_9 : decode cX4_init 9 = .ok (.invokespecial 11, 3) := by decide +kernel
theorem dX4_init_12 : decode cX4_init 12 = .ok (.putfield 12, 3) := by decide +kernel
theorem dX4_init_15 : decode cX4_init 15 = .ok (.aload_n 0, 1) := by decide +kernel
theorem dX4_init_16 : decode cX4_init 16 = .ok (.bipush 40, 2) := by decide +kernel
theorem dX4_init_18 : decode cX4_init 18 = .ok (.newarray .int, 2) := by decide +kernel
theorem dX4_init_20 : decode cX4_init 20 = .ok (.putfield 18, 3) := by decide +kernel
end
section
theorem dX4_init_23 : decode cX4_init 23 = .ok (.aload_n 0, 1) := by decide +kernel
theorem dX4_init_24 : decode cX4_init 24 = .ok (.bipush 40, 2) := by decide +kernel
theorem dX4_init_26 : decode cX4_init 26 = .ok (.newarray .int, 2) := by decide +kernel
theorem dX4_init_28 : decode cX4_init 28 = .ok (.putfield 22, 3) := by decide +kernel
theorem dX4_init_31 : decode cX4_init 31 = .ok (.aload_n 0, 1) := by decide +kernel
theorem dX4_init_32 : decode cX4_init 32 = .ok (.bipush 40, 2) := by decide +kernel
theorem dX4_init_34 : decode cX4_init 34 = .ok (.newarray .int, 2) := by decide +kernel
theorem dX4_init_36 : decode cX4_init 36 = .ok (.putfield 25, 3) := by decide +kernel
theorem dX4_init_39 : decode cX4_init 39 = .ok (.return_, 1) := by decide +kernel
theorem dX4_readLog_0 : decode cX4_readLog 0 = .ok (.aload_n 0, 1) := by decide +kernel
theorem dX4_readLog_1 : decode cX4_readLog 1 = .ok (.getfield 12, 3) := by decide +kernel
theorem dX4_readLog_4 : decode cX4_readLog 4 = .ok (.aload_n 1, 1) := by decide +kernel
theorem dX4_readLog_5 : decode cX4_readLog 5 = .ok (.sipush 400, 3) := by decide +kernel
theorem dX4_readLog_8 : decode cX4_readLog 8 = .ok (.invokevirtual 28, 3) := by decide +kernel
theorem dX4_readLog_11 : decode cX4_readLog 11 = .ok (.aload_n 0, 1) := by decide +kernel
theorem dX4_readLog_12 : decode cX4_readLog 12 = .ok (.iconst 0, 1) := by decide +kernel
theorem dX4_readLog_13 : decode cX4_readLog 13 = .ok (.putfield 32, 3) := by decide +kernel
theorem dX4_readLog_16 : decode cX4_readLog 16 = .ok (.aload_n 0, 1) := by decide +kernel
theorem dX4_readLog_17 : decode cX4_readLog 17 = .ok (.getfield 32, 3) := by decide +kernel
theorem dX4_readLog_20 : decode cX4_readLog 20 = .ok (.bipush 40, 2) := by decide +kernel
theorem dX4_readLog_22 : decode cX4_readLog 22 = .ok (.if_icmp .gt 36, 3) := by decide +kernel
theorem dX4_readLog_25 : decode cX4_readLog 25 = .ok (.aload_n 0, 1) := by decide +kernel
theorem dX4_readLog_26 : decode cX4_readLog 26 = .ok (.getfield 12, 3) := by decide +kernel
theorem dX4_readLog_29 : decode cX4_readLog 29 = .ok (.getfield 36, 3) := by decide +kernel
theorem dX4_readLog_32 : decode cX4_readLog 32 = .ok (.ifCond .eq 26, 3) := by decide +kernel
theorem dX4_readLog_35 : decode cX4_readLog 35 = .ok (.aload_n 0, 1) := by decide +kernel
theorem dX4_readLog_36 : decode cX4_readLog 36 = .ok (.aload_n 2, 1) := by decide +kernel
theorem dX4_readLog_37 : decode cX4_readLog 37 = .ok (.invokevirtual 39, 3) := by decide +kernel
theorem dX4_readLog_40 : decode cX4_readLog 40 = .ok (.ifCond .ne 5, 3) := by decide +kernel
theorem dX4_readLog_43 : decode cX4_readLog 43 = .ok (.iconst 0, 1) := by decide +kernel
theorem dX4_readLog_44 : decode cX4_readLog 44 = .ok (.ireturn, 1) := by decide +kernel
theorem dX4_readLog_45 : decode cX4_readLog 45 = .ok (.aload_n 0, 1) := by decide +kernel
theorem dX4_readLog_46 : decode cX4_readLog 46 = .ok (.dup, 1) := by decide +kernel
theorem dX4_readLog_47 : decode cX4_readLog 47 = .ok (.getfield 32, 3) := by decide +kernel
theorem dX4_readLog_50 : decode cX4_readLog 50 = .ok (.iconst 1, 1) := by decide +kernel
theorem dX4_readLog_51 : decode cX4_readLog 51 = .ok (.iadd, 1) := by decide +kernel
theorem dX4_readLog_52 : decode cX4_readLog 52 = .ok (.putfield 32, 3) := by decide +kernel
theorem dX4_readLog_55 : decode cX4_readLog 55 = .ok (.goto (-39), 3) := by decide +kernel
theorem dX4_readLog_58 : decode cX4_readLog 58 = .ok (.iconst 1, 1) := by decide +kernel
theorem dX4_readLog_59 : decode cX4_readLog 59 = .ok (.ireturn, 1) := by decide +kernel
theorem dX4_live_0 : decode cX4_live 0 = .ok (.aload_n 0, 1) := by decide +kernel
theorem dX4_live_1 : decode cX4_live 1 = .ok (.iconst 0, 1) := by decide +kernel
theorem dX4_live_2 : decode cX4_live 2 = .ok (.putfield 91, 3) := by decide +kernel
theorem dX4_live_5 : decode cX4_live 5 = .ok (.iconst 0, 1) := by decide +kernel
theorem dX4_live_6 : decode cX4_live 6 = .ok (.istore_n 3, 1) := by decide +kernel
theorem dX4_live_7 : decode cX4_live 7 = .ok (.iload_n 3, 1) := by decide +kernel
theorem dX4_live_8 : decode cX4_live 8 = .ok (.aload_n 0, 1) := by decide +kernel
theorem dX4_live_9 : decode cX4_live 9 = .ok (.getfield 32, 3) := by decide +kernel
theorem dX4_live_12 : decode cX4_live 12 = .ok (.if_icmp .ge 29, 3) := by decide +kernel
theorem dX4_live_15 : decode cX4_live 15 = .ok (.aload_n 0, 1) := by decide +kernel
theorem dX4_live_16 : decode cX4_live 16 = .ok (.aload_n 0, 1) := by decide +kernel
theorem dX4_live_17 : decode cX4_live 17 = .ok (.aload_n 1, 1) := by decide +kernel
theorem dX4_live_18 : decode cX4_live 18 = .ok (.aload_n 2, 1) := by decide +kernel
theorem dX4_live_19 : decode cX4_live 19 = .ok (.iload_n 3, 1) := by decide +kernel
theorem dX4_live_20 : decode cX4_live 20 = .ok (.invokevirtual 94, 3) := by decide +kernel
theorem dX4_live_23 : decode cX4_live 23 = .ok (.putfield 91, 3) := by decide +kernel
theorem dX4_live_26 : decode cX4_live 26 = .ok (.aload_n 0, 1) := by decide +kernel
theorem dX4_live_27 : decode cX4_live 27 = .ok (.getfield 91, 3) := by decide +kernel
theorem dX4_live_30 : decode cX4_live 30 = .ok (.ifCond .eq 5, 3) := by decide +kernel
theorem dX4_live_33 : decode cX4_live 33 = .ok (.iload_n 3, 1) := by decide +kernel
theorem dX4_live_34 : decode cX4_live 34 = .ok (.ireturn, 1) := by decide +kernel
theorem dX4_live_35 : decode cX4_live 35 = .ok (.iinc 3 1, 3) := by decide +kernel
theorem dX4_live_38 : decode cX4_live 38 = .ok (.goto (-31), 3) := by decide +kernel
theorem dX4_live_41 : decode cX4_live 41 = .ok (.aload_n 0, 1) := by decide +kernel
theorem dX4_live_42 : decode cX4_live 42 = .ok (.getfield 32, 3) := by decide +kernel
theorem dX4_live_45 : decode cX4_live 45 = .ok (.ireturn, 1) := by decide +kernel
theorem dX5_init_0 : decode cX5_init 0 = .ok (.aload_n 0, 1) := by decide +kernel
theorem dX5_init_1 : decode cX5_init 1 = .ok (.invokespecial 3, 3) := by decide +kernel
theorem dX5_init_4 : decode cX5_init 4 = .ok (.aload_n 0, 1) := by decide +kernel
theorem dX5_init_5 : decode cX5_init 5 = .ok (.iconst 4, 1) := by decide +kernel
theorem dX5_init_6 : decode cX5_init 6 = .ok (.newarray .int, 2) := by decide +kernel
theorem dX5_init_8 : decode cX5_init 8 = .ok (.putfield 9, 3) := by decide +kernel
theorem dX5_init_11 : decode cX5_init 11 = .ok (.aload_n 0, 1) := by decide +kernel
theorem dX5_init_12 : decode cX5_init 12 = .ok (.iconst 4, 1) := by decide +kernel
theorem dX5_init_13 : decode cX5_init 13 = .ok (.newarray .int, 2) := by decide +kernel
theorem dX5_init_15 : decode cX5_init 15 = .ok (.putfield 15, 3) := by decide +kernel
theorem dX5_init_18 : decode cX5_init 18 = .ok (.aload_n 0, 1) := by decide +kernel
theorem dX5_init_19 : decode cX5_init 19 = .ok (.bipush 32, 2) := by decide +kernel
theorem dX5_init_21 : decode cX5_init 21 = .ok (.newarray .int, 2) := by decide +kernel
theorem dX5_init_23 : decode cX5_init 23 = .ok (.putfield 18, 3) := by decide +kernel
theorem dX5_init_26 : decode cX5_init 26 = .ok (.aload_n 0, 1) := by decide +kernel
theorem dX5_init_27 : decode cX5_init 27 = .ok (.iconst 4, 1) := by decide +kernel
theorem dX5_init_28 : decode cX5_init 28 = .ok (.newarray .int, 2) := by decide +kernel
theorem dX5_init_30 : decode cX5_init 30 = .ok (.putfield 21, 3) := by decide +kernel
theorem dX5_init_33 : decode cX5_init 33 = .ok (.return_, 1) := by decide +kernel
theorem dX6_init_0 : decode cX6_init 0 = .ok (.aload_n 0, 1) := by decide +kernel
theorem dX6_init_1 : decode cX6_init 1 = .ok (.invokespecial 3, 3) := by decide +kernel
theorem dX6_init_4 : decode cX6_init 4 = .ok (.aload_n 0, 1) := by decide +kernel
theorem dX6_init_5 : decode cX6_init 5 = .ok (.new 9, 3) := by decide +kernel
theorem dX6_init_8 : decode cX6_init 8 = .ok (.dup, 1) := by decide +kernel
theorem dX6_init_9 : decode cX6_init 9 = .ok (.iconst 0, 1) := by decide +kernel
theorem dX6_init_10 : decode cX6_init 10 = .ok (.invokespecial 11, 3) := by decide +kernel
theorem dX6_init_13 : decode cX6_init 13 = .ok (.putfield 14, 3) := by decide +kernel
theorem dX6_init_16 : decode cX6_init 16 = .ok (.return_, 1) := by decide +kernel
theorem dX6_start_0 : decode cX6_start 0 = .ok (.aload_n 0, 1) := by decide +kernel
theorem dX6_start_1 : decode cX6_start 1 = .ok (.aload_n 1, 1) := by decide +kernel
theorem dX6_start_2 : decode cX6_start 2 = .ok (.putfield 14, 3) := by decide +kernel
theorem dX6_start_5 : decode cX6_start 5 = .ok (.aload_n 0, 1) := by decide +kernel
theorem dX6_start_6 : decode cX6_start 6 = .ok (.iload_n 2, 1) := by decide +kernel
theorem dX6_start_7 : decode cX6_start 7 = .ok (.putfield 20, 3) := by decide +kernel
theorem dX6_start_10 : decode cX6_start 10 = .ok (.aload_n 0, 1) := by decide +kernel
theorem dX6_start_11 : decode cX6_start 11 = .ok (.iconst 0, 1) := by decide +kernel
theorem dX6_start_12 : decode cX6_start 12 = .ok (.putfield 24, 3) := by decide +kernel
theorem dX6_start_15 : decode cX6_start 15 = .ok (.aload_n 0, 1) := by decide +kernel
theorem dX6_start_16 : decode cX6_start 16 = .ok (.iconst 0, 1) := by decide +kernel
theorem dX6_start_17 : decode cX6_start 17 = .ok (.putfield 27, 3) := by decide +kernel
theorem dX6_start_20 : decode cX6_start 20 = .ok (.aload_n 0, 1) := by decide +kernel
theorem dX6_start_21 : decode cX6_start 21 = .ok (.iconst 0, 1) := by decide +kernel
theorem dX6_start_22 : decode cX6_start 22 = .ok (.putfield 30, 3) := by decide +kernel
theorem dX6_start_25 : decode cX6_start 25 = .ok (.aload_n 0, 1) := by decide +kernel
theorem dX6_start_26 : decode cX6_start 26 = .ok (.invokevirtual 33, 3) := by decide +kernel
theorem dX6_start_29 : decode cX6_start 29 = .ok (.return_, 1) := by decide +kernel
theorem dX6_step_0 : decode cX6_step 0 = .ok (.aload_n 0, 1) := by decide +kernel
theorem dX6_step_1 : decode cX6_step 1 = .ok (.getfield 24, 3) := by decide +kernel
theorem dX6_step_4 : decode cX6_step 4 = .ok (.istore_n 1, 1) := by decide +kernel
theorem dX6_step_5 : decode cX6_step 5 = .ok (.iload_n 1, 1) := by decide +kernel
theorem dX6_step_6 : decode cX6_step 6 = .ok (.aload_n 0, 1) := by decide +kernel
theorem dX6_step_7 : decode cX6_step 7 = .ok (.getfield 14, 3) := by decide +kernel
theorem dX6_step_10 : decode cX6_step 10 = .ok (.getfield 36, 3) := by decide +kernel
theorem dX6_step_13 : decode cX6_step 13 = .ok (.if_icmp .ge 23, 3) := by decide +kernel
theorem dX6_step_16 : decode cX6_step 16 = .ok (.aload_n 0, 1) := by decide +kernel
theorem dX6_step_17 : decode cX6_step 17 = .ok (.getfield 14, 3) := by decide +kernel
theorem dX6_step_20 : decode cX6_step 20 = .ok (.iload_n 1, 1) := by decide +kernel
theorem dX6_step_21 : decode cX6_step 21 = .ok (.invokevirtual 39, 3) := by decide +kernel
theorem dX6_step_24 : decode cX6_step 24 = .ok (.invokestatic 43, 3) := by decide +kernel
theorem dX6_step_27 : decode cX6_step 27 = .ok (.ifCond .eq 9, 3) := by decide +kernel
theorem dX6_step_30 : decode cX6_step 30 = .ok (.iinc 1 1, 3) := by decide +kernel
theorem dX6_step_33 : decode cX6_step 33 = .ok (.goto (-28), 3) := by decide +kernel
theorem dX6_step_36 : decode cX6_step 36 = .ok (.aload_n 0, 1) := by decide +kernel
theorem dX6_step_37 : decode cX6_step 37 = .ok (.iload_n 1, 1) := by decide +kernel
theorem dX6_step_38 : decode cX6_step 38 = .ok (.putfield 47, 3) := by decide +kernel
theorem dX6_step_41 : decode cX6_step 41 = .ok (.aload_n 0, 1) := by decide +kernel
theorem dX6_step_42 : decode cX6_step 42 = .ok (.iload_n 1, 1) := by decide +kernel
theorem dX6_step_43 : decode cX6_step 43 = .ok (.iconst 1, 1) := by decide +kernel
theorem dX6_step_44 : decode cX6_step 44 = .ok (.iadd, 1) := by decide +kernel
theorem dX6_step_45 : decode cX6_step 45 = .ok (.putfield 24, 3) := by decide +kernel
theorem dX6_step_48 : decode cX6_step 48 = .ok (.aload_n 0, 1) := by decide +kernel
theorem dX6_step_49 : decode cX6_step 49 = .ok (.iconst (-1), 1) := by decide +kernel
theorem dX6_step_50 : decode cX6_step 50 = .ok (.putfield 50, 3) := by decide +kernel
theorem dX6_step_53 : decode cX6_step 53 = .ok (.aload_n 0, 1) := by decide +kernel
theorem dX6_step_54 : decode cX6_step 54 = .ok (.aload_n 0, 1) := by decide +kernel
theorem dX6_step_55 : decode cX6_step 55 = .ok (.getfield 14, 3) := by decide +kernel
theorem dX6_step_58 : decode cX6_step 58 = .ok (.iload_n 1, 1) := by decide +kernel
theorem dX6_step_59 : decode cX6_step 59 = .ok (.invokevirtual 39, 3) := by decide +kernel
theorem dX6_step_62 : decode cX6_step 62 = .ok (.putfield 53, 3) := by decide +kernel
theorem dX6_step_65 : decode cX6_step 65 = .ok (.iload_n 1, 1) := by decide +kernel
theorem dX6_step_66 : decode cX6_step 66 = .ok (.aload_n 0, 1) := by decide +kernel
theorem dX6_step_67 : decode cX6_step 67 = .ok (.getfield 20, 3) := by decide +kernel
theorem dX6_step_70 : decode cX6_step 70 = .ok (.if_icmp .lt 33, 3) := by decide +kernel
theorem dX6_step_73 : decode cX6_step 73 = .ok (.aload_n 0, 1) := by decide +kernel
theorem dX6_step_74 : decode cX6_step 74 = .ok (.getfield 14, 3) := by decide +kernel
theorem dX6_step_77 : decode cX6_step 77 = .ok (.getfield 36, 3) := by decide +kernel
theorem dX6_step_80 : decode cX6_step 80 = .ok (.aload_n 0, 1) := by decide +kernel
theorem dX6_step_81 : decode cX6_step 81 = .ok (.getfield 20, 3) := by decide +kernel
theorem dX6_step_84 : decode cX6_step 84 = .ok (.if_icmp .le 19, 3) := by decide +kernel
theorem dX6_step_87 : decode cX6_step 87 = .ok (.aload_n 0, 1) := by decide +kernel
theorem dX6_step_88 : decode cX6_step 88 = .ok (.aload_n 0, 1) := by decide +kernel
theorem dX6_step_89 : decode cX6_step 89 = .ok (.getfield 20, 3) := by decide +kernel
theorem dX6_step_92 : decode cX6_step 92 = .ok (.putfield 47, 3) := by decide +kernel
theorem dX6_step_95 : decode cX6_step 95 = .ok (.aload_n 0, 1) := by decide +kernel
theorem dX6_step_96 : decode cX6_step 96 = .ok (.iconst 1, 1) := by decide +kernel
theorem dX6_step_97 : decode cX6_step 97 = .ok (.putfield 56, 3) := by decide +kernel
theorem dX6_step_100 : decode cX6_step 100 = .ok (.goto 80, 3) := by decide +kernel
theorem dX6_step_103 : decode cX6_step 103 = .ok (.iload_n 1, 1) := by decide +kernel
theorem dX6_step_104 : decode cX6_step 104 = .ok (.aload_n 0, 1) := by decide +kernel
theorem dX6_step_105 : decode cX6_step 105 = .ok (.getfield 14, 3) := by decide +kernel
theorem dX6_step_108 : decode cX6_step 108 = .ok (.getfield 36, 3) := by decide +kernel
theorem dX6_step_111 : decode cX6_step 111 = .ok (.if_icmp .lt 22, 3) := by decide +kernel
theorem dX6_step_114 : decode cX6_step 114 = .ok (.aload_n 0, 1) := by decide +kernel
theorem dX6_step_115 : decode cX6_step 115 = .ok (.aload_n 0, 1) := by decide +kernel
theorem dX6_step_116 : decode cX6_step 116 = .ok (.getfield 14, 3) := by decide +kernel
theorem dX6_step_119 : decode cX6_step 119 = .ok (.getfield 36, 3) := by decide +kernel
theorem dX6_step_122 : decode cX6_step 122 = .ok (.putfield 47, 3) := by decide +kernel
theorem dX6_step_125 : decode cX6_step 125 = .ok (.aload_n 0, 1) := by decide +kernel
theorem dX6_step_126 : decode cX6_step 126 = .ok (.iconst 0, 1) := by decide +kernel
theorem dX6_step_127 : decode cX6_step 127 = .ok (.putfield 56, 3) := by decide +kernel
theorem dX6_step_130 : decode cX6_step 130 = .ok (.goto 50, 3) := by decide +kernel
theorem dX6_step_133 : decode cX6_step 133 = .ok (.aload_n 0, 1) := by decide +kernel
theorem dX6_step_134 : decode cX6_step 134 = .ok (.getfield 53, 3) := by decide +kernel
theorem dX6_step_137 : decode cX6_step 137 = .ok (.invokestatic 59, 3) := by decide +kernel
theorem dX6_step_140 : decode cX6_step 140 = .ok (.ifCond .ne 13, 3) := by decide +kernel
theorem dX6_step_143 : decode cX6_step 143 = .ok (.aload_n 0, 1) := by decide +kernel
theorem dX6_step_144 : decode cX6_step 144 = .ok (.getfield 53, 3) := by decide +kernel
theorem dX6_step_147 : decode cX6_step 147 = .ok (.invokestatic 62, 3) := by decide +kernel
theorem dX6_step_150 : decode cX6_step 150 = .ok (.ifCond .eq 11, 3) := by decide +kernel
theorem dX6_step_153 : decode cX6_step 153 = .ok (.aload_n 0, 1) := by decide +kernel
theorem dX6_step_154 : decode cX6_step 154 = .ok (.iload_n 1, 1) := by decide +kernel
theorem dX6_step_155 : decode cX6_step 155 = .ok (.invokevirtual 65, 3) := by decide +kernel
theorem dX6_step_158 : decode cX6_step 158 = .ok (.goto 22, 3) := by decide +kernel
theorem dX6_step_161 : decode cX6_step 161 = .ok (.aload_n 0, 1) := by decide +kernel
theorem dX6_step_162 : decode cX6_step 162 = .ok (.aload_n 0, 1) := by decide +kernel
theorem dX6_step_163 : decode cX6_step 163 = .ok (.getfield 53, 3) := by decide +kernel
theorem dX6_step_166 : decode cX6_step 166 = .ok (.invokestatic 68, 3) := by decide +kernel
theorem dX6_step_169 : decode cX6_step 169 = .ok (.ifCond .eq 7, 3) := by decide +kernel
theorem dX6_step_172 : decode cX6_step 172 = .ok (.iconst 4, 1) := by decide +kernel
theorem dX6_step_173 : decode cX6_step 173 = .ok (.goto 4, 3) := by decide +kernel
theorem dX6_step_176 : decode cX6_step 176 = .ok (.iconst 1, 1) := by decide +kernel
theorem dX6_step_177 : decode cX6_step 177 = .ok (.putfield 56, 3) := by decide +kernel
theorem dX6_step_180 : decode cX6_step 180 = .ok (.return_, 1) := by decide +kernel
theorem dX6_isSignNow_0 : decode cX6_isSignNow 0 = .ok (.aload_n 0, 1) := by decide +kernel
theorem dX6_isSignNow_1 : decode cX6_isSignNow 1 = .ok (.getfield 56, 3) := by decide +kernel
theorem dX6_isSignNow_4 : decode cX6_isSignNow 4 = .ok (.iconst 4, 1) := by decide +kernel
theorem dX6_isSignNow_5 : decode cX6_isSignNow 5 = .ok (.if_icmp .ne 15, 3) := by decide +kernel
theorem dX6_isSignNow_8 : decode cX6_isSignNow 8 = .ok (.aload_n 0, 1) := by decide +kernel
theorem dX6_isSignNow_9 : decode cX6_isSignNow 9 = .ok (.getfield 53, 3) := by decide +kernel
theorem dX6_isSignNow_12 : decode cX6_isSignNow 12 = .ok (.iload_n 1, 1) := by decide +kernel
theorem dX6_isSignNow_13 : decode cX6_isSignNow 13 = .ok (.if_icmp .ne 7, 3) := by decide +kernel
theorem dX6_isSignNow_16 : decode cX6_isSignNow 16 = .ok (.iconst 1, 1) := by decide +kernel
theorem dX6_isSignNow_17 : decode cX6_isSignNow 17 = .ok (.goto 4, 3) := by decide +kernel
theorem dX6_isSignNow_20 : decode cX6_isSignNow 20 = .ok (.iconst 0, 1) := by decide +kernel
theorem dX6_isSignNow_21 : decode cX6_isSignNow 21 = .ok (.ireturn, 1) := by decide +kernel
theorem dX6_refuse_0 : decode cX6_refuse 0 = .ok (.aload_n 0, 1) := by decide +kernel
theorem dX6_refuse_1 : decode cX6_refuse 1 = .ok (.getfield 27, 3) := by decide +kernel
theorem dX6_refuse_4 : decode cX6_refuse 4 = .ok (.ifCond .ne 16, 3) := by decide +kernel
theorem dX6_refuse_7 : decode cX6_refuse 7 = .ok (.aload_n 0, 1) := by decide +kernel
theorem dX6_refuse_8 : decode cX6_refuse 8 = .ok (.iload_n 1, 1) := by decide +kernel
theorem dX6_refuse_9 : decode cX6_refuse 9 = .ok (.putfield 27, 3) := by decide +kernel
theorem dX6_refuse_12 : decode cX6_refuse 12 = .ok (.aload_n 0, 1) := by decide +kernel
theorem dX6_refuse_13 : decode cX6_refuse 13 = .ok (.aload_n 0, 1) := by decide +kernel
theorem dX6_refuse_14 : decode cX6_refuse 14 = .ok (.getfield 47, 3) := by decide +kernel
theorem dX6_refuse_17 : decode cX6_refuse 17 = .ok (.putfield 30, 3) := by decide +kernel
theorem dX6_refuse_20 : decode cX6_refuse 20 = .ok (.iconst 0, 1) := by decide +kernel
theorem dX6_refuse_21 : decode cX6_refuse 21 = .ok (.ireturn, 1) := by decide +kernel
theorem dX7_init_0 : decode cX7_init 0 = .ok (.aload_n 0, 1) := by decide +kernel
theorem dX7_init_1 : decode cX7_init 1 = .ok (.invokespecial 3, 3) := by decide +kernel
theorem dX7_init_4 : decode cX7_init 4 = .ok (.aload_n 0, 1) := by decide +kernel
theorem dX7_init_5 : decode cX7_init 5 = .ok (.bipush 40, 2) := by decide +kernel
theorem dX7_init_7 : decode cX7_init 7 = .ok (.newarray .int, 2) := by decide +kernel
theorem dX7_init_9 : decode cX7_init 9 = .ok (.putfield 11, 3) := by decide +kernel
theorem dX7_init_12 : decode cX7_init 12 = .ok (.aload_n 0, 1) := by decide +kernel
theorem dX7_init_13 : decode cX7_init 13 = .ok (.bipush 40, 2) := by decide +kernel
theorem dX7_init_15 : decode cX7_init 15 = .ok (.newarray .int, 2) := by decide +kernel
theorem dX7_init_17 : decode cX7_init 17 = .ok (.putfield 15, 3) := by decide +kernel
theorem dX7_init_20 : decode cX7_init 20 = .ok (.aload_n 0, 1) := by decide +kernel
theorem dX7_init_21 : decode cX7_init 21 = .ok (.bipush 40, 2) := by decide +kernel
theorem dX7_init_23 : decode cX7_init 23 = .ok (.newarray .int, 2) := by decide +kernel
theorem dX7_init_25 : decode cX7_init 25 = .ok (.putfield 18, 3) := by decide +kernel
theorem dX7_init_28 : decode cX7_init 28 = .ok (.aload_n 0, 1) := by decide +kernel
theorem dX7_init_29 : decode cX7_init 29 = .ok (.bipush 41, 2) := by decide +kernel
theorem dX7_init_31 : decode cX7_init 31 = .ok (.newarray .int, 2) := by decide +kernel
theorem dX7_init_33 : decode cX7_init 33 = .ok (.putfield 21, 3) := by decide +kernel
theorem dX7_init_36 : decode cX7_init 36 = .ok (.return_, 1) := by decide +kernel
theorem dX7_clear_0 : decode cX7_clear 0 = .ok (.aload_n 0, 1) := by decide +kernel
theorem dX7_clear_1 : decode cX7_clear 1 = .ok (.iconst 0, 1) := by decide +kernel
theorem dX7_clear_2 : decode cX7_clear 2 = .ok (.putfield 24, 3) := by decide +kernel
theorem dX7_clear_5 : decode cX7_clear 5 = .ok (.aload_n 0, 1) := by decide +kernel
theorem dX7_clear_6 : decode cX7_clear 6 = .ok (.iconst 0, 1) := by decide +kernel
theorem dX7_clear_7 : decode cX7_clear 7 = .ok (.putfield 28, 3) := by decide +kernel
theorem dX7_clear_10 : decode cX7_clear 10 = .ok (.return_, 1) := by decide +kernel
theorem dX7_copyFrom_0 : decode cX7_copyFrom 0 = .ok (.aload_n 1, 1) := by decide +kernel
theorem dX7_copyFrom_1 : decode cX7_copyFrom 1 = .ok (.getfield 11, 3) := by decide +kernel
theorem dX7_copyFrom_4 : decode cX7_copyFrom 4 = .ok (.iconst 0, 1) := by decide +kernel
theorem dX7_copyFrom_5 : decode cX7_copyFrom 5 = .ok (.aload_n 0, 1) := by decide +kernel
theorem dX7_copyFrom_6 : decode cX7_copyFrom 6 = .ok (.getfield 11, 3) := by decide +kernel
theorem dX7_copyFrom_9 : decode cX7_copyFrom 9 = .ok (.iconst 0, 1) := by decide +kernel
theorem dX7_copyFrom_10 : decode cX7_copyFrom 10 = .ok (.bipush 40, 2) := by decide +kernel
theorem dX7_copyFrom_12 : decode cX7_copyFrom 12 = .ok (.invokestatic 31, 3) := by decide +kernel
theorem dX7_copyFrom_15 : decode cX7_copyFrom 15 = .ok (.aload_n 1, 1) := by decide +kernel
theorem dX7_copyFrom_16 : decode cX7_copyFrom 16 = .ok (.getfield 15, 3) := by decide +kernel
theorem dX7_copyFrom_19 : decode cX7_copyFrom 19 = .ok (.iconst 0, 1) := by decide +kernel
theorem dX7_copyFrom_20 : decode cX7_copyFrom 20 = .ok (.aload_n 0, 1) := by decide +kernel
theorem dX7_copyFrom_21 : decode cX7_copyFrom 21 = .ok (.getfield 15, 3) := by decide +kernel
theorem dX7_copyFrom_24 : decode cX7_copyFrom 24 = .ok (.iconst 0, 1) := by decide +kernel
theorem dX7_copyFrom_25 : decode cX7_copyFrom 25 = .ok (.bipush 40, 2) := by decide +kernel
theorem dX7_copyFrom_27 : decode cX7_copyFrom 27 = .ok (.invokestatic 31, 3) := by decide +kernel
theorem dX7_copyFrom_30 : decode cX7_copyFrom 30 = .ok (.aload_n 1, 1) := by decide +kernel
theorem dX7_copyFrom_31 : decode cX7_copyFrom 31 = .ok (.getfield 18, 3) := by decide +kernel
theorem dX7_copyFrom_34 : decode cX7_copyFrom 34 = .ok (.iconst 0, 1) := by decide +kernel
theorem dX7_copyFrom_35 : decode cX7_copyFrom 35 = .ok (.aload_n 0, 1) := by decide +kernel
theorem dX7_copyFrom_36 : decode cX7_copyFrom 36 = .ok (.getfield 18, 3) := by decide +kernel
theorem dX7_copyFrom_39 : decode cX7_copyFrom 39 = .ok (.iconst 0, 1) := by decide +kernel
theorem dX7_copyFrom_40 : decode cX7_copyFrom 40 = .ok (.bipush 40, 2) := by decide +kernel
theorem dX7_copyFrom_42 : decode cX7_copyFrom 42 = .ok (.invokestatic 31, 3) := by decide +kernel
theorem dX7_copyFrom_45 : decode cX7_copyFrom 45 = .ok (.aload_n 0, 1) := by decide +kernel
theorem dX7_copyFrom_46 : decode cX7_copyFrom 46 = .ok (.aload_n 1, 1) := by decide +kernel
theorem dX7_copyFrom_47 : decode cX7_copyFrom 47 = .ok (.getfield 24, 3) := by decide +kernel
theorem dX7_copyFrom_50 : decode cX7_copyFrom 50 = .ok (.putfield 24, 3) := by decide +kernel
theorem dX7_copyFrom_53 : decode cX7_copyFrom 53 = .ok (.aload_n 0, 1) := by decide +kernel
theorem dX7_copyFrom_54 : decode cX7_copyFrom 54 = .ok (.aload_n 1, 1) := by decide +kernel
theorem dX7_copyFrom_55 : decode cX7_copyFrom 55 = .ok (.getfield 28, 3) := by decide +kernel
theorem dX7_copyFrom_58 : decode cX7_copyFrom 58 = .ok (.putfield 28, 3) := by decide +kernel
theorem dX7_copyFrom_61 : decode cX7_copyFrom 61 = .ok (.return_, 1) := by decide +kernel
theorem dX8_init_0 : decode cX8_init 0 = .ok (.aload_n 0, 1) := by decide +kernel
theorem dX8_init_1 : decode cX8_init 1 = .ok (.invokespecial 3, 3) := by decide +kernel
theorem dX8_init_4 : decode cX8_init 4 = .ok (.aload_n 0, 1) := by decide +kernel
theorem dX8_init_5 : decode cX8_init 5 = .ok (.new 9, 3) := by decide +kernel
theorem dX8_init_8 : decode cX8_init 8 = .ok (.dup, 1) := by decide +kernel
theorem dX8_init_9 : decode cX8_init 9 = .ok (.invokespecial 11, 3) := by decide +kernel
theorem dX8_init_12 : decode cX8_init 12 = .ok (.putfield 12, 3) := by decide +kernel
theorem dX8_init_15 : decode cX8_init 15 = .ok (.aload_n 0, 1) := by decide +kernel
theorem dX8_init_16 : decode cX8_init 16 = .ok (.new 18, 3) := by decide +kernel
theorem dX8_init_19 : decode cX8_init 19 = .ok (.dup, 1) := by decide +kernel
theorem dX8_init_20 : decode cX8_init 20 = .ok (.invokespecial 20, 3) := by decide +kernel
theorem dX8_init_23 : decode cX8_init 23 = .ok (.putfield 21, 3) := by decide +kernel
theorem dX8_init_26 : decode cX8_init 26 = .ok (.return_, 1) := by decide +kernel
theorem dX8_readSentence_0 : decode cX8_readSentence 0 = .ok (.aload_n 0, 1) := by decide +kernel
theorem dX8_readSentence_1 : decode cX8_readSentence 1 = .ok (.getfield 21, 3) := by decide +kernel
theorem dX8_readSentence_4 : decode cX8_readSentence 4 = .ok (.invokevirtual 25, 3) := by decide +kernel
theorem dX8_readSentence_7 : decode cX8_readSentence 7 = .ok (.aload_n 0, 1) := by decide +kernel
theorem dX8_readSentence_8 : decode cX8_readSentence 8 = .ok (.getfield 12, 3) := by decide +kernel
theorem dX8_readSentence_11 : decode cX8_readSentence 11 = .ok (.aload_n 1, 1) := by decide +kernel
theorem dX8_readSentence_12 : decode cX8_readSentence 12 = .ok (.sipush 200, 3) := by decide +kernel
theorem dX8_readSentence_15 : decode cX8_readSentence 15 = .ok (.invokevirtual 28, 3) := by decide +kernel
theorem dX8_readSentence_18 : decode cX8_readSentence 18 = .ok (.aload_n 0, 1) := by decide +kernel
theorem dX8_readSentence_19 : decode cX8_readSentence 19 = .ok (.aload_n 2, 1) := by decide +kernel
theorem dX8_readSentence_20 : decode cX8_readSentence 20 = .ok (.iconst 0, 1) := by decide +kernel
theorem dX8_readSentence_21 : decode cX8_readSentence 21 = .ok (.invokevirtual 32, 3) := by decide +kernel
theorem dX8_readSentence_24 : decode cX8_readSentence 24 = .ok (.ifCond .eq 28, 3) := by decide +kernel
theorem dX8_readSentence_27 : decode cX8_readSentence 27 = .ok (.aload_n 0, 1) := by decide +kernel
theorem dX8_readSentence_28 : decode cX8_readSentence 28 = .ok (.getfield 12, 3) := by decide +kernel
theorem dX8_readSentence_31 : decode cX8_readSentence 31 = .ok (.getfield 36, 3) := by decide +kernel
theorem dX8_readSentence_34 : decode cX8_readSentence 34 = .ok (.ifCond .eq 14, 3) := by decide +kernel
theorem dX8_readSentence_37 : decode cX8_readSentence 37 = .ok (.aload_n 0, 1) := by decide +kernel
theorem dX8_readSentence_38 : decode cX8_readSentence 38 = .ok (.getfield 12, 3) := by decide +kernel
theorem dX8_readSentence_41 : decode cX8_readSentence 41 = .ok (.iconst 1, 1) := by decide +kernel
theorem dX8_readSentence_42 : decode cX8_readSentence 42 = .ok (.invokevirtual 40, 3) := by decide +kernel
theorem dX8_readSentence_45 : decode cX8_readSentence 45 = .ok (.ifCond .eq 7, 3) := by decide +kernel
theorem dX8_readSentence_48 : decode cX8_readSentence 48 = .ok (.iconst 1, 1) := by decide +kernel
theorem dX8_readSentence_49 : decode cX8_readSentence 49 = .ok (.goto 4, 3) := by decide +kernel
theorem dX8_readSentence_52 : decode cX8_readSentence 52 = .ok (.iconst 0, 1) := by decide +kernel
theorem dX8_readSentence_53 : decode cX8_readSentence 53 = .ok (.ireturn, 1) := by decide +kernel
theorem dX8_readCond_0 : decode cX8_readCond 0 = .ok (.aload_n 0, 1) := by decide +kernel
theorem dX8_readCond_1 : decode cX8_readCond 1 = .ok (.aload_n 1, 1) := by decide +kernel
theorem dX8_readCond_2 : decode cX8_readCond 2 = .ok (.iload_n 2, 1) := by decide +kernel
theorem dX8_readCond_3 : decode cX8_readCond 3 = .ok (.invokevirtual 44, 3) := by decide +kernel
theorem dX8_readCond_6 : decode cX8_readCond 6 = .ok (.ifCond .ne 5, 3) := by decide +kernel
theorem dX8_readCond_9 : decode cX8_readCond 9 = .ok (.iconst 0, 1) := by decide +kernel
theorem dX8_readCond_10 : decode cX8_readCond 10 = .ok (.ireturn, 1) := by decide +kernel
theorem dX8_readCond_11 : decode cX8_readCond 11 = .ok (.iconst 0, 1) := by decide +kernel
theorem dX8_readCond_12 : decode cX8_readCond 12 = .ok (.istore_n 3, 1) := by decide +kernel
theorem dX8_readCond_13 : decode cX8_readCond 13 = .ok (.iload_n 3, 1) := by decide +kernel
theorem dX8_readCond_14 : decode cX8_readCond 14 = .ok (.bipush 20, 2) := by decide +kernel
theorem dX8_readCond_16 : decode cX8_readCond 16 = .ok (.if_icmp .ge 51, 3) := by decide +kernel
theorem dX8_readCond_19 : decode cX8_readCond 19 = .ok (.aload_n 0, 1) := by decide +kernel
theorem dX8_readCond_20 : decode cX8_readCond 20 = .ok (.getfield 12, 3) := by decide +kernel
theorem dX8_readCond_23 : decode cX8_readCond 23 = .ok (.getfield 47, 3) := by decide +kernel
theorem dX8_readCond_26 : decode cX8_readCond 26 = .ok (.bipush 10, 2) := by decide +kernel
theorem dX8_readCond_28 : decode cX8_readCond 28 = .ok (.if_icmp .ne 39, 3) := by decide +kernel
theorem dX8_readCond_31 : decode cX8_readCond 31 = .ok (.aload_n 0, 1) := by decide +kernel
theorem dX8_readCond_32 : decode cX8_readCond 32 = .ok (.getfield 12, 3) := by decide +kernel
theorem dX8_readCond_35 : decode cX8_readCond 35 = .ok (.invokevirtual 50, 3) := by decide +kernel
theorem dX8_readCond_38 : decode cX8_readCond 38 = .ok (.aload_n 0, 1) := by decide +kernel
theorem dX8_readCond_39 : decode cX8_readCond 39 = .ok (.aload_n 1, 1) := by decide +kernel
theorem dX8_readCond_40 : decode cX8_readCond 40 = .ok (.iload_n 2, 1) := by decide +kernel
theorem dX8_readCond_41 : decode cX8_readCond 41 = .ok (.invokevirtual 44, 3) := by decide +kernel
theorem dX8_readCond_44 : decode cX8_readCond 44 = .ok (.ifCond .ne 5, 3) := by decide +kernel
theorem dX8_readCond_47 : decode cX8_readCond 47 = .ok (.iconst 0, 1) := by decide +kernel
theorem dX8_readCond_48 : decode cX8_readCond 48 = .ok (.ireturn, 1) := by decide +kernel
theorem dX8_readCond_49 : decode cX8_readCond 49 = .ok (.aload_n 0, 1) := by decide +kernel
theorem dX8_readCond_50 : decode cX8_readCond 50 = .ok (.getfield 21, 3) := by decide +kernel
theorem dX8_readCond_53 : decode cX8_readCond 53 = .ok (.bipush 10, 2) := by decide +kernel
theorem dX8_readCond_55 : decode cX8_readCond 55 = .ok (.iconst 0, 1) := by decide +kernel
theorem dX8_readCond_56 : decode cX8_readCond 56 = .ok (.iconst 0, 1) := by decide +kernel
theorem dX8_readCond_57 : decode cX8_readCond 57 = .ok (.invokevirtual 53, 3) := by decide +kernel
theorem dX8_readCond_60 : decode cX8_readCond 60 = .ok (.pop, 1) := by decide +kernel
theorem dX8_readCond_61 : decode cX8_readCond 61 = .ok (.iinc 3 1, 3) := by decide +kernel
theorem dX8_readCond_64 : decode cX8_readCond 64 = .ok (.goto (-51), 3) := by decide +kernel
theorem dX8_readCond_67 : decode cX8_readCond 67 = .ok (.iconst 1, 1) := by decide +kernel
theorem dX8_readCond_68 : decode cX8_readCond 68 = .ok (.ireturn, 1) := by decide +kernel
theorem dX8_readAll_0 : decode cX8_readAll 0 = .ok (.aload_n 0, 1) := by decide +kernel
theorem dX8_readAll_1 : decode cX8_readAll 1 = .ok (.aload_n 1, 1) := by decide +kernel
theorem dX8_readAll_2 : decode cX8_readAll 2 = .ok (.iload_n 2, 1) := by decide +kernel
theorem dX8_readAll_3 : decode cX8_readAll 3 = .ok (.invokevirtual 57, 3) := by decide +kernel
theorem dX8_readAll_6 : decode cX8_readAll 6 = .ok (.ifCond .ne 5, 3) := by decide +kernel
theorem dX8_readAll_9 : decode cX8_readAll 9 = .ok (.iconst 0, 1) := by decide +kernel
theorem dX8_readAll_10 : decode cX8_readAll 10 = .ok (.ireturn, 1) := by decide +kernel
theorem dX8_readAll_11 : decode cX8_readAll 11 = .ok (.iconst 0, 1) := by decide +kernel
theorem dX8_readAll_12 : decode cX8_readAll 12 = .ok (.istore_n 3, 1) := by decide +kernel
theorem dX8_readAll_13 : decode cX8_readAll 13 = .ok (.iload_n 3, 1) := by decide +kernel
theorem dX8_readAll_14 : decode cX8_readAll 14 = .ok (.bipush 20, 2) := by decide +kernel
theorem dX8_readAll_16 : decode cX8_readAll 16 = .ok (.if_icmp .ge 51, 3) := by decide +kernel
theorem dX8_readAll_19 : decode cX8_readAll 19 = .ok (.aload_n 0, 1) := by decide +kernel
theorem dX8_readAll_20 : decode cX8_readAll 20 = .ok (.getfield 12, 3) := by decide +kernel
theorem dX8_readAll_23 : decode cX8_readAll 23 = .ok (.getfield 47, 3) := by decide +kernel
theorem dX8_readAll_26 : decode cX8_readAll 26 = .ok (.bipush 11, 2) := by decide +kernel
theorem dX8_readAll_28 : decode cX8_readAll 28 = .ok (.if_icmp .ne 39, 3) := by decide +kernel
theorem dX8_readAll_31 : decode cX8_readAll 31 = .ok (.aload_n 0, 1) := by decide +kernel
theorem dX8_readAll_32 : decode cX8_readAll 32 = .ok (.getfield 12, 3) := by decide +kernel
theorem dX8_readAll_35 : decode cX8_readAll 35 = .ok (.invokevirtual 50, 3) := by decide +kernel
theorem dX8_readAll_38 : decode cX8_readAll 38 = .ok (.aload_n 0, 1) := by decide +kernel
theorem dX8_readAll_39 : decode cX8_readAll 39 = .ok (.aload_n 1, 1) := by decide +kernel
theorem dX8_readAll_40 : decode cX8_readAll 40 = .ok (.iload_n 2, 1) := by decide +kernel
theorem dX8_readAll_41 : decode cX8_readAll 41 = .ok (.invokevirtual 57, 3) := by decide +kernel
theorem dX8_readAll_44 : decode cX8_readAll 44 = .ok (.ifCond .ne 5, 3) := by decide +kernel
theorem dX8_readAll_47 : decode cX8_readAll 47 = .ok (.iconst 0, 1) := by decide +kernel
theorem dX8_readAll_48 : decode cX8_readAll 48 = .ok (.ireturn, 1) := by decide +kernel
theorem dX8_readAll_49 : decode cX8_readAll 49 = .ok (.aload_n 0, 1) := by decide +kernel
theorem dX8_readAll_50 : decode cX8_readAll 50 = .ok (.getfield 21, 3) := by decide +kernel
theorem dX8_readAll_53 : decode cX8_readAll 53 = .ok (.bipush 11, 2) := by decide +kernel
theorem dX8_readAll_55 : decode cX8_readAll 55 = .ok (.iconst 0, 1) := by decide +kernel
theorem dX8_readAll_56 : decode cX8_readAll 56 = .ok (.iconst 0, 1) := by decide +kernel
theorem dX8_readAll_57 : decode cX8_readAll 57 = .ok (.invokevirtual 53, 3) := by decide +kernel
theorem dX8_readAll_60 : decode cX8_readAll 60 = .ok (.pop, 1) := by decide +kernel
theorem dX8_readAll_61 : decode cX8_readAll 61 = .ok (.iinc 3 1, 3) := by decide +kernel
theorem dX8_readAll_64 : decode cX8_readAll 64 = .ok (.goto (-51), 3) := by decide +kernel
theorem dX8_readAll_67 : decode cX8_readAll 67 = .ok (.iconst 1, 1) := by decide +kernel
theorem dX8_readAll_68 : decode cX8_readAll 68 = .ok (.ireturn, 1) := by decide +kernel
theorem dX8_readOne_0 : decode cX8_readOne 0 = .ok (.aload_n 0, 1) := by decide +kernel
theorem dX8_readOne_1 : decode cX8_readOne 1 = .ok (.invokevirtual 60, 3) := by decide +kernel
theorem dX8_readOne_4 : decode cX8_readOne 4 = .ok (.ifCond .ne 12, 3) := by decide +kernel
end
section
theorem dX8_readOne_7 : decode cX8_readOne 7 = .ok (.aload_n 0, 1) := by decide +kernel
theorem dX8_readOne_8 : decode cX8_readOne 8 = .ok (.getfield 12, 3) := by decide +kernel
theorem dX8_readOne_11 : decode cX8_readOne 11 = .ok (.iconst 1, 1) := by decide +kernel
theorem dX8_readOne_12 : decode cX8_readOne 12 = .ok (.invokevirtual 40, 3) := by decide +kernel
theorem dX8_readOne_15 : decode cX8_readOne 15 = .ok (.ireturn, 1) := by decide +kernel
theorem dX8_readOne_16 : decode cX8_readOne 16 = .ok (.aload_n 0, 1) := by decide +kernel
theorem dX8_readOne_17 : decode cX8_readOne 17 = .ok (.getfield 21, 3) := by decide +kernel
theorem dX8_readOne_20 : decode cX8_readOne 20 = .ok (.getfield 64, 3) := by decide +kernel
theorem dX8_readOne_23 : decode cX8_readOne 23 = .ok (.bipush 20, 2) := by decide +kernel
theorem dX8_readOne_25 : decode cX8_readOne 25 = .ok (.if_icmp .ge 9, 3) := by decide +kernel
theorem dX8_readOne_28 : decode cX8_readOne 28 = .ok (.iload_n 2, 1) := by decide +kernel
theorem dX8_readOne_29 : decode cX8_readOne 29 = .ok (.bipush 8, 2) := by decide +kernel
theorem dX8_readOne_31 : decode cX8_readOne 31 = .ok (.if_icmp .lt 12, 3) := by decide +kernel
theorem dX8_readOne_34 : decode cX8_readOne 34 = .ok (.aload_n 0, 1) := by decide +kernel
theorem dX8_readOne_35 : decode cX8_readOne 35 = .ok (.getfield 12, 3) := by decide +kernel
theorem dX8_readOne_38 : decode cX8_readOne 38 = .ok (.iconst 4, 1) := by decide +kernel
theorem dX8_readOne_39 : decode cX8_readOne 39 = .ok (.invokevirtual 40, 3) := by decide +kernel
theorem dX8_readOne_42 : decode cX8_readOne 42 = .ok (.ireturn, 1) := by decide +kernel
theorem dX8_readOne_43 : decode cX8_readOne 43 = .ok (.aload_n 0, 1) := by decide +kernel
theorem dX8_readOne_44 : decode cX8_readOne 44 = .ok (.getfield 21, 3) := by decide +kernel
theorem dX8_readOne_47 : decode cX8_readOne 47 = .ok (.dup, 1) := by decide +kernel
theorem dX8_readOne_48 : decode cX8_readOne 48 = .ok (.getfield 64, 3) := by decide +kernel
theorem dX8_readOne_51 : decode cX8_readOne 51 = .ok (.iconst 1, 1) := by decide +kernel
theorem dX8_readOne_52 : decode cX8_readOne 52 = .ok (.iadd, 1) := by decide +kernel
theorem dX8_readOne_53 : decode cX8_readOne 53 = .ok (.putfield 64, 3) := by decide +kernel
theorem dX8_readOne_56 : decode cX8_readOne 56 = .ok (.aload_n 0, 1) := by decide +kernel
theorem dX8_readOne_57 : decode cX8_readOne 57 = .ok (.getfield 12, 3) := by decide +kernel
theorem dX8_readOne_60 : decode cX8_readOne 60 = .ok (.getfield 47, 3) := by decide +kernel
theorem dX8_readOne_63 : decode cX8_readOne 63 = .ok (.istore_n 3, 1) := by decide +kernel
theorem dX8_readOne_64 : decode cX8_readOne 64 = .ok (.aload_n 0, 1) := by decide +kernel
theorem dX8_readOne_65 : decode cX8_readOne 65 = .ok (.getfield 12, 3) := by decide +kernel
theorem dX8_readOne_68 : decode cX8_readOne 68 = .ok (.invokevirtual 50, 3) := by decide +kernel
theorem dX8_readOne_71 : decode cX8_readOne 71 = .ok (.iload_n 3, 1) := by decide +kernel
theorem dX8_readOne_72 : decode cX8_readOne 72 = .ok (.tableswitch 172 (-1) 19 #[100, 172, 151, 172, 172, 172, 172, 172, 172, 172, 172, 172, 172, 129, 172, 172, 172, 136, 166, 166, 166], 100) := by decide +kernel
theorem dX8_readOne_172 : decode cX8_readOne 172 = .ok (.aload_n 0, 1) := by decide +kernel
theorem dX8_readOne_173 : decode cX8_readOne 173 = .ok (.aload_n 1, 1) := by decide +kernel
theorem dX8_readOne_174 : decode cX8_readOne 174 = .ok (.iload_n 2, 1) := by decide +kernel
theorem dX8_readOne_175 : decode cX8_readOne 175 = .ok (.iconst 1, 1) := by decide +kernel
theorem dX8_readOne_176 : decode cX8_readOne 176 = .ok (.iadd, 1) := by decide +kernel
theorem dX8_readOne_177 : decode cX8_readOne 177 = .ok (.invokevirtual 32, 3) := by decide +kernel
theorem dX8_readOne_180 : decode cX8_readOne 180 = .ok (.ifCond .eq 19, 3) := by decide +kernel
theorem dX8_readOne_183 : decode cX8_readOne 183 = .ok (.aload_n 0, 1) := by decide +kernel
theorem dX8_readOne_184 : decode cX8_readOne 184 = .ok (.getfield 12, 3) := by decide +kernel
theorem dX8_readOne_187 : decode cX8_readOne 187 = .ok (.bipush 41, 2) := by decide +kernel
theorem dX8_readOne_189 : decode cX8_readOne 189 = .ok (.invokevirtual 67, 3) := by decide +kernel
theorem dX8_readOne_192 : decode cX8_readOne 192 = .ok (.ifCond .eq 7, 3) := by decide +kernel
theorem dX8_readOne_195 : decode cX8_readOne 195 = .ok (.iconst 1, 1) := by decide +kernel
theorem dX8_readOne_196 : decode cX8_readOne 196 = .ok (.goto 4, 3) := by decide +kernel
theorem dX8_readOne_199 : decode cX8_readOne 199 = .ok (.iconst 0, 1) := by decide +kernel
theorem dX8_readOne_200 : decode cX8_readOne 200 = .ok (.ireturn, 1) := by decide +kernel
theorem dX8_readOne_201 : decode cX8_readOne 201 = .ok (.aload_n 0, 1) := by decide +kernel
theorem dX8_readOne_202 : decode cX8_readOne 202 = .ok (.aload_n 1, 1) := by decide +kernel
theorem dX8_readOne_203 : decode cX8_readOne 203 = .ok (.iload_n 2, 1) := by decide +kernel
theorem dX8_readOne_204 : decode cX8_readOne 204 = .ok (.invokevirtual 70, 3) := by decide +kernel
theorem dX8_readOne_207 : decode cX8_readOne 207 = .ok (.ireturn, 1) := by decide +kernel
theorem dX8_readOne_208 : decode cX8_readOne 208 = .ok (.aload_n 0, 1) := by decide +kernel
theorem dX8_readOne_209 : decode cX8_readOne 209 = .ok (.iload_n 3, 1) := by decide +kernel
theorem dX8_readOne_210 : decode cX8_readOne 210 = .ok (.iconst 0, 1) := by decide +kernel
theorem dX8_readOne_211 : decode cX8_readOne 211 = .ok (.aload_n 0, 1) := by decide +kernel
theorem dX8_readOne_212 : decode cX8_readOne 212 = .ok (.getfield 12, 3) := by decide +kernel
theorem dX8_readOne_215 : decode cX8_readOne 215 = .ok (.aload_n 1, 1) := by decide +kernel
theorem dX8_readOne_216 : decode cX8_readOne 216 = .ok (.invokevirtual 73, 3) := by decide +kernel
theorem dX8_readOne_219 : decode cX8_readOne 219 = .ok (.invokevirtual 77, 3) := by decide +kernel
theorem dX8_readOne_222 : decode cX8_readOne 222 = .ok (.ireturn, 1) := by decide +kernel
theorem dX8_readOne_223 : decode cX8_readOne 223 = .ok (.aload_n 0, 1) := by decide +kernel
theorem dX8_readOne_224 : decode cX8_readOne 224 = .ok (.iload_n 3, 1) := by decide +kernel
theorem dX8_readOne_225 : decode cX8_readOne 225 = .ok (.iconst 0, 1) := by decide +kernel
theorem dX8_readOne_226 : decode cX8_readOne 226 = .ok (.aload_n 0, 1) := by decide +kernel
theorem dX8_readOne_227 : decode cX8_readOne 227 = .ok (.getfield 12, 3) := by decide +kernel
theorem dX8_readOne_230 : decode cX8_readOne 230 = .ok (.aload_n 1, 1) := by decide +kernel
theorem dX8_readOne_231 : decode cX8_readOne 231 = .ok (.invokevirtual 80, 3) := by decide +kernel
theorem dX8_readOne_234 : decode cX8_readOne 234 = .ok (.invokevirtual 77, 3) := by decide +kernel
theorem dX8_readOne_237 : decode cX8_readOne 237 = .ok (.ireturn, 1) := by decide +kernel
theorem dX8_readOne_238 : decode cX8_readOne 238 = .ok (.aload_n 0, 1) := by decide +kernel
theorem dX8_readOne_239 : decode cX8_readOne 239 = .ok (.iload_n 3, 1) := by decide +kernel
theorem dX8_readOne_240 : decode cX8_readOne 240 = .ok (.invokevirtual 83, 3) := by decide +kernel
theorem dX8_readOne_243 : decode cX8_readOne 243 = .ok (.ireturn, 1) := by decide +kernel
theorem dX8_readOne_244 : decode cX8_readOne 244 = .ok (.aload_n 0, 1) := by decide +kernel
theorem dX8_readOne_245 : decode cX8_readOne 245 = .ok (.getfield 21, 3) := by decide +kernel
theorem dX8_readOne_248 : decode cX8_readOne 248 = .ok (.iload_n 3, 1) := by decide +kernel
theorem dX8_readOne_249 : decode cX8_readOne 249 = .ok (.iconst 0, 1) := by decide +kernel
theorem dX8_readOne_250 : decode cX8_readOne 250 = .ok (.iconst 0, 1) := by decide +kernel
theorem dX8_readOne_251 : decode cX8_readOne 251 = .ok (.invokevirtual 53, 3) := by decide +kernel
theorem dX8_readOne_254 : decode cX8_readOne 254 = .ok (.ireturn, 1) := by decide +kernel
theorem dX8_isOneHere_0 : decode cX8_isOneHere 0 = .ok (.aload_n 0, 1) := by decide +kernel
theorem dX8_isOneHere_1 : decode cX8_isOneHere 1 = .ok (.getfield 12, 3) := by decide +kernel
theorem dX8_isOneHere_4 : decode cX8_isOneHere 4 = .ok (.getfield 47, 3) := by decide +kernel
theorem dX8_isOneHere_7 : decode cX8_isOneHere 7 = .ok (.tableswitch 91 1 19 #[89, 91, 91, 91, 91, 91, 91, 91, 91, 91, 91, 89, 89, 89, 89, 89, 89, 89, 89], 89) := by decide +kernel
theorem dX8_isOneHere_96 : decode cX8_isOneHere 96 = .ok (.iconst 1, 1) := by decide +kernel
theorem dX8_isOneHere_97 : decode cX8_isOneHere 97 = .ok (.ireturn, 1) := by decide +kernel
theorem dX8_isOneHere_98 : decode cX8_isOneHere 98 = .ok (.aload_n 0, 1) := by decide +kernel
theorem dX8_isOneHere_99 : decode cX8_isOneHere 99 = .ok (.getfield 12, 3) := by decide +kernel
theorem dX8_isOneHere_102 : decode cX8_isOneHere 102 = .ok (.bipush 40, 2) := by decide +kernel
theorem dX8_isOneHere_104 : decode cX8_isOneHere 104 = .ok (.invokevirtual 86, 3) := by decide +kernel
theorem dX8_isOneHere_107 : decode cX8_isOneHere 107 = .ok (.ireturn, 1) := by decide +kernel
theorem dX9_init_0 : decode cX9_init 0 = .ok (.aload_n 0, 1) := by decide +kernel
theorem dX9_init_1 : decode cX9_init 1 = .ok (.invokespecial 3, 3) := by decide +kernel
theorem dX9_init_4 : decode cX9_init 4 = .ok (.aload_n 0, 1) := by decide +kernel
theorem dX9_init_5 : decode cX9_init 5 = .ok (.bipush 6, 2) := by decide +kernel
theorem dX9_init_7 : decode cX9_init 7 = .ok (.newarray .int, 2) := by decide +kernel
theorem dX9_init_9 : decode cX9_init 9 = .ok (.putfield 9, 3) := by decide +kernel
theorem dX9_init_12 : decode cX9_init 12 = .ok (.aload_n 0, 1) := by decide +kernel
theorem dX9_init_13 : decode cX9_init 13 = .ok (.bipush 6, 2) := by decide +kernel
theorem dX9_init_15 : decode cX9_init 15 = .ok (.newarray .int, 2) := by decide +kernel
theorem dX9_init_17 : decode cX9_init 17 = .ok (.putfield 15, 3) := by decide +kernel
theorem dX9_init_20 : decode cX9_init 20 = .ok (.aload_n 0, 1) := by decide +kernel
theorem dX9_init_21 : decode cX9_init 21 = .ok (.bipush 6, 2) := by decide +kernel
theorem dX9_init_23 : decode cX9_init 23 = .ok (.newarray .int, 2) := by decide +kernel
theorem dX9_init_25 : decode cX9_init 25 = .ok (.putfield 18, 3) := by decide +kernel
theorem dX9_init_28 : decode cX9_init 28 = .ok (.aload_n 0, 1) := by decide +kernel
theorem dX9_init_29 : decode cX9_init 29 = .ok (.bipush 8, 2) := by decide +kernel
theorem dX9_init_31 : decode cX9_init 31 = .ok (.newarray .int, 2) := by decide +kernel
theorem dX9_init_33 : decode cX9_init 33 = .ok (.putfield 21, 3) := by decide +kernel
theorem dX9_init_36 : decode cX9_init 36 = .ok (.aload_n 0, 1) := by decide +kernel
theorem dX9_init_37 : decode cX9_init 37 = .ok (.bipush 8, 2) := by decide +kernel
theorem dX9_init_39 : decode cX9_init 39 = .ok (.newarray .int, 2) := by decide +kernel
theorem dX9_init_41 : decode cX9_init 41 = .ok (.putfield 24, 3) := by decide +kernel
theorem dX9_init_44 : decode cX9_init 44 = .ok (.aload_n 0, 1) := by decide +kernel
theorem dX9_init_45 : decode cX9_init 45 = .ok (.bipush 8, 2) := by decide +kernel
theorem dX9_init_47 : decode cX9_init 47 = .ok (.newarray .int, 2) := by decide +kernel
theorem dX9_init_49 : decode cX9_init 49 = .ok (.putfield 27, 3) := by decide +kernel
theorem dX9_init_52 : decode cX9_init 52 = .ok (.return_, 1) := by decide +kernel
theorem dX9_makeNew_0 : decode cX9_makeNew 0 = .ok (.iconst 0, 1) := by decide +kernel
theorem dX9_makeNew_1 : decode cX9_makeNew 1 = .ok (.istore_n 1, 1) := by decide +kernel
theorem dX9_makeNew_2 : decode cX9_makeNew 2 = .ok (.iload_n 1, 1) := by decide +kernel
theorem dX9_makeNew_3 : decode cX9_makeNew 3 = .ok (.bipush 6, 2) := by decide +kernel
theorem dX9_makeNew_5 : decode cX9_makeNew 5 = .ok (.if_icmp .ge 30, 3) := by decide +kernel
theorem dX9_makeNew_8 : decode cX9_makeNew 8 = .ok (.aload_n 0, 1) := by decide +kernel
theorem dX9_makeNew_9 : decode cX9_makeNew 9 = .ok (.getfield 9, 3) := by decide +kernel
theorem dX9_makeNew_12 : decode cX9_makeNew 12 = .ok (.iload_n 1, 1) := by decide +kernel
theorem dX9_makeNew_13 : decode cX9_makeNew 13 = .ok (.iconst 2, 1) := by decide +kernel
theorem dX9_makeNew_14 : decode cX9_makeNew 14 = .ok (.iastore, 1) := by decide +kernel
theorem dX9_makeNew_15 : decode cX9_makeNew 15 = .ok (.aload_n 0, 1) := by decide +kernel
theorem dX9_makeNew_16 : decode cX9_makeNew 16 = .ok (.getfield 15, 3) := by decide +kernel
theorem dX9_makeNew_19 : decode cX9_makeNew 19 = .ok (.iload_n 1, 1) := by decide +kernel
theorem dX9_makeNew_20 : decode cX9_makeNew 20 = .ok (.iconst 0, 1) := by decide +kernel
theorem dX9_makeNew_21 : decode cX9_makeNew 21 = .ok (.iastore, 1) := by decide +kernel
theorem dX9_makeNew_22 : decode cX9_makeNew 22 = .ok (.aload_n 0, 1) := by decide +kernel
theorem dX9_makeNew_23 : decode cX9_makeNew 23 = .ok (.getfield 18, 3) := by decide +kernel
theorem dX9_makeNew_26 : decode cX9_makeNew 26 = .ok (.iload_n 1, 1) := by decide +kernel
theorem dX9_makeNew_27 : decode cX9_makeNew 27 = .ok (.iconst 0, 1) := by decide +kernel
theorem dX9_makeNew_28 : decode cX9_makeNew 28 = .ok (.iastore, 1) := by decide +kernel
theorem dX9_makeNew_29 : decode cX9_makeNew 29 = .ok (.iinc 1 1, 3) := by decide +kernel
theorem dX9_makeNew_32 : decode cX9_makeNew 32 = .ok (.goto (-30), 3) := by decide +kernel
theorem dX9_makeNew_35 : decode cX9_makeNew 35 = .ok (.iconst 0, 1) := by decide +kernel
theorem dX9_makeNew_36 : decode cX9_makeNew 36 = .ok (.istore_n 1, 1) := by decide +kernel
theorem dX9_makeNew_37 : decode cX9_makeNew 37 = .ok (.iload_n 1, 1) := by decide +kernel
theorem dX9_makeNew_38 : decode cX9_makeNew 38 = .ok (.bipush 8, 2) := by decide +kernel
theorem dX9_makeNew_40 : decode cX9_makeNew 40 = .ok (.if_icmp .ge 30, 3) := by decide +kernel
theorem dX9_makeNew_43 : decode cX9_makeNew 43 = .ok (.aload_n 0, 1) := by decide +kernel
theorem dX9_makeNew_44 : decode cX9_makeNew 44 = .ok (.getfield 21, 3) := by decide +kernel
theorem dX9_makeNew_47 : decode cX9_makeNew 47 = .ok (.iload_n 1, 1) := by decide +kernel
theorem dX9_makeNew_48 : decode cX9_makeNew 48 = .ok (.iconst 0, 1) := by decide +kernel
theorem dX9_makeNew_49 : decode cX9_makeNew 49 = .ok (.iastore, 1) := by decide +kernel
theorem dX9_makeNew_50 : decode cX9_makeNew 50 = .ok (.aload_n 0, 1) := by decide +kernel
theorem dX9_makeNew_51 : decode cX9_makeNew 51 = .ok (.getfield 24, 3) := by decide +kernel
theorem dX9_makeNew_54 : decode cX9_makeNew 54 = .ok (.iload_n 1, 1) := by decide +kernel
theorem dX9_makeNew_55 : decode cX9_makeNew 55 = .ok (.iconst 0, 1) := by decide +kernel
theorem dX9_makeNew_56 : decode cX9_makeNew 56 = .ok (.iastore, 1) := by decide +kernel
theorem dX9_makeNew_57 : decode cX9_makeNew 57 = .ok (.aload_n 0, 1) := by decide +kernel
theorem dX9_makeNew_58 : decode cX9_makeNew 58 = .ok (.getfield 27, 3) := by decide +kernel
theorem dX9_makeNew_61 : decode cX9_makeNew 61 = .ok (.iload_n 1, 1) := by decide +kernel
theorem dX9_makeNew_62 : decode cX9_makeNew 62 = .ok (.iconst 0, 1) := by decide +kernel
theorem dX9_makeNew_63 : decode cX9_makeNew 63 = .ok (.iastore, 1) := by decide +kernel
theorem dX9_makeNew_64 : decode cX9_makeNew 64 = .ok (.iinc 1 1, 3) := by decide +kernel
theorem dX9_makeNew_67 : decode cX9_makeNew 67 = .ok (.goto (-30), 3) := by decide +kernel
theorem dX9_makeNew_70 : decode cX9_makeNew 70 = .ok (.aload_n 0, 1) := by decide +kernel
theorem dX9_makeNew_71 : decode cX9_makeNew 71 = .ok (.bipush 63, 2) := by decide +kernel
theorem dX9_makeNew_73 : decode cX9_makeNew 73 = .ok (.putfield 30, 3) := by decide +kernel
theorem dX9_makeNew_76 : decode cX9_makeNew 76 = .ok (.aload_n 0, 1) := by decide +kernel
theorem dX9_makeNew_77 : decode cX9_makeNew 77 = .ok (.iconst 0, 1) := by decide +kernel
theorem dX9_makeNew_78 : decode cX9_makeNew 78 = .ok (.putfield 34, 3) := by decide +kernel
theorem dX9_makeNew_81 : decode cX9_makeNew 81 = .ok (.aload_n 0, 1) := by decide +kernel
theorem dX9_makeNew_82 : decode cX9_makeNew 82 = .ok (.iconst 0, 1) := by decide +kernel
theorem dX9_makeNew_83 : decode cX9_makeNew 83 = .ok (.putfield 37, 3) := by decide +kernel
theorem dX9_makeNew_86 : decode cX9_makeNew 86 = .ok (.aload_n 0, 1) := by decide +kernel
theorem dX9_makeNew_87 : decode cX9_makeNew 87 = .ok (.iconst 0, 1) := by decide +kernel
theorem dX9_makeNew_88 : decode cX9_makeNew 88 = .ok (.putfield 40, 3) := by decide +kernel
theorem dX9_makeNew_91 : decode cX9_makeNew 91 = .ok (.aload_n 0, 1) := by decide +kernel
theorem dX9_makeNew_92 : decode cX9_makeNew 92 = .ok (.iconst 0, 1) := by decide +kernel
theorem dX9_makeNew_93 : decode cX9_makeNew 93 = .ok (.putfield 43, 3) := by decide +kernel
theorem dX9_makeNew_96 : decode cX9_makeNew 96 = .ok (.aload_n 0, 1) := by decide +kernel
theorem dX9_makeNew_97 : decode cX9_makeNew 97 = .ok (.iconst 0, 1) := by decide +kernel
theorem dX9_makeNew_98 : decode cX9_makeNew 98 = .ok (.putfield 46, 3) := by decide +kernel
theorem dX9_makeNew_101 : decode cX9_makeNew 101 = .ok (.return_, 1) := by decide +kernel
theorem dX9_copyFrom_0 : decode cX9_copyFrom 0 = .ok (.aload_n 1, 1) := by decide +kernel
theorem dX9_copyFrom_1 : decode cX9_copyFrom 1 = .ok (.getfield 9, 3) := by decide +kernel
theorem dX9_copyFrom_4 : decode cX9_copyFrom 4 = .ok (.iconst 0, 1) := by decide +kernel
theorem dX9_copyFrom_5 : decode cX9_copyFrom 5 = .ok (.aload_n 0, 1) := by decide +kernel
theorem dX9_copyFrom_6 : decode cX9_copyFrom 6 = .ok (.getfield 9, 3) := by decide +kernel
theorem dX9_copyFrom_9 : decode cX9_copyFrom 9 = .ok (.iconst 0, 1) := by decide +kernel
theorem dX9_copyFrom_10 : decode cX9_copyFrom 10 = .ok (.bipush 6, 2) := by decide +kernel
theorem dX9_copyFrom_12 : decode cX9_copyFrom 12 = .ok (.invokestatic 49, 3) := by decide +kernel
theorem dX9_copyFrom_15 : decode cX9_copyFrom 15 = .ok (.aload_n 1, 1) := by decide +kernel
theorem dX9_copyFrom_16 : decode cX9_copyFrom 16 = .ok (.getfield 15, 3) := by decide +kernel
theorem dX9_copyFrom_19 : decode cX9_copyFrom 19 = .ok (.iconst 0, 1) := by decide +kernel
theorem dX9_copyFrom_20 : decode cX9_copyFrom 20 = .ok (.aload_n 0, 1) := by decide +kernel
theorem dX9_copyFrom_21 : decode cX9_copyFrom 21 = .ok (.getfield 15, 3) := by decide +kernel
theorem dX9_copyFrom_24 : decode cX9_copyFrom 24 = .ok (.iconst 0, 1) := by decide +kernel
theorem dX9_copyFrom_25 : decode cX9_copyFrom 25 = .ok (.bipush 6, 2) := by decide +kernel
theorem dX9_copyFrom_27 : decode cX9_copyFrom 27 = .ok (.invokestatic 49, 3) := by decide +kernel
theorem dX9_copyFrom_30 : decode cX9_copyFrom 30 = .ok (.aload_n 1, 1) := by decide +kernel
theorem dX9_copyFrom_31 : decode cX9_copyFrom 31 = .ok (.getfield 18, 3) := by decide +kernel
theorem dX9_copyFrom_34 : decode cX9_copyFrom 34 = .ok (.iconst 0, 1) := by decide +kernel
theorem dX9_copyFrom_35 : decode cX9_copyFrom 35 = .ok (.aload_n 0, 1) := by decide +kernel
theorem dX9_copyFrom_36 : decode cX9_copyFrom 36 = .ok (.getfield 18, 3) := by decide +kernel
theorem dX9_copyFrom_39 : decode cX9_copyFrom 39 = .ok (.iconst 0, 1) := by decide +kernel
theorem dX9_copyFrom_40 : decode cX9_copyFrom 40 = .ok (.bipush 6, 2) := by decide +kernel
theorem dX9_copyFrom_42 : decode cX9_copyFrom 42 = .ok (.invokestatic 49, 3) := by decide +kernel
theorem dX9_copyFrom_45 : decode cX9_copyFrom 45 = .ok (.aload_n 1, 1) := by decide +kernel
theorem dX9_copyFrom_46 : decode cX9_copyFrom 46 = .ok (.getfield 21, 3) := by decide +kernel
theorem dX9_copyFrom_49 : decode cX9_copyFrom 49 = .ok (.iconst 0, 1) := by decide +kernel
theorem dX9_copyFrom_50 : decode cX9_copyFrom 50 = .ok (.aload_n 0, 1) := by decide +kernel
theorem dX9_copyFrom_51 : decode cX9_copyFrom 51 = .ok (.getfield 21, 3) := by decide +kernel
theorem dX9_copyFrom_54 : decode cX9_copyFrom 54 = .ok (.iconst 0, 1) := by decide +kernel
theorem dX9_copyFrom_55 : decode cX9_copyFrom 55 = .ok (.bipush 8, 2) := by decide +kernel
theorem dX9_copyFrom_57 : decode cX9_copyFrom 57 = .ok (.invokestatic 49, 3) := by decide +kernel
theorem dX9_copyFrom_60 : decode cX9_copyFrom 60 = .ok (.aload_n 1, 1) := by decide +kernel
theorem dX9_copyFrom_61 : decode cX9_copyFrom 61 = .ok (.getfield 24, 3) := by decide +kernel
theorem dX9_copyFrom_64 : decode cX9_copyFrom 64 = .ok (.iconst 0, 1) := by decide +kernel
theorem dX9_copyFrom_65 : decode cX9_copyFrom 65 = .ok (.aload_n 0, 1) := by decide +kernel
theorem dX9_copyFrom_66 : decode cX9_copyFrom 66 = .ok (.getfield 24, 3) := by decide +kernel
theorem dX9_copyFrom_69 : decode cX9_copyFrom 69 = .ok (.iconst 0, 1) := by decide +kernel
theorem dX9_copyFrom_70 : decode cX9_copyFrom 70 = .ok (.bipush 8, 2) := by decide +kernel
theorem dX9_copyFrom_72 : decode cX9_copyFrom 72 = .ok (.invokestatic 49, 3) := by decide +kernel
theorem dX9_copyFrom_75 : decode cX9_copyFrom 75 = .ok (.aload_n 1, 1) := by decide +kernel
theorem dX9_copyFrom_76 : decode cX9_copyFrom 76 = .ok (.getfield 27, 3) := by decide +kernel
theorem dX9_copyFrom_79 : decode cX9_copyFrom 79 = .ok (.iconst 0, 1) := by decide +kernel
theorem dX9_copyFrom_80 : decode cX9_copyFrom 80 = .ok (.aload_n 0, 1) := by decide +kernel
theorem dX9_copyFrom_81 : decode cX9_copyFrom 81 = .ok (.getfield 27, 3) := by decide +kernel
theorem dX9_copyFrom_84 : decode cX9_copyFrom 84 = .ok (.iconst 0, 1) := by decide +kernel
theorem dX9_copyFrom_85 : decode cX9_copyFrom 85 = .ok (.bipush 8, 2) := by decide +kernel
theorem dX9_copyFrom_87 : decode cX9_copyFrom 87 = .ok (.invokestatic 49, 3) := by decide +kernel
theorem dX9_copyFrom_90 : decode cX9_copyFrom 90 = .ok (.aload_n 0, 1) := by decide +kernel
theorem dX9_copyFrom_91 : decode cX9_copyFrom 91 = .ok (.aload_n 1, 1) := by decide +kernel
theorem dX9_copyFrom_92 : decode cX9_copyFrom 92 = .ok (.getfield 30, 3) := by decide +kernel
theorem dX9_copyFrom_95 : decode cX9_copyFrom 95 = .ok (.putfield 30, 3) := by decide +kernel
theorem dX9_copyFrom_98 : decode cX9_copyFrom 98 = .ok (.aload_n 0, 1) := by decide +kernel
theorem dX9_copyFrom_99 : decode cX9_copyFrom 99 = .ok (.aload_n 1, 1) := by decide +kernel
theorem dX9_copyFrom_100 : decode cX9_copyFrom 100 = .ok (.getfield 34, 3) := by decide +kernel
theorem dX9_copyFrom_103 : decode cX9_copyFrom 103 = .ok (.putfield 34, 3) := by decide +kernel
theorem dX9_copyFrom_106 : decode cX9_copyFrom 106 = .ok (.aload_n 0, 1) := by decide +kernel
theorem dX9_copyFrom_107 : decode cX9_copyFrom 107 = .ok (.aload_n 1, 1) := by decide +kernel
theorem dX9_copyFrom_108 : decode cX9_copyFrom 108 = .ok (.getfield 37, 3) := by decide +kernel
theorem dX9_copyFrom_111 : decode cX9_copyFrom 111 = .ok (.putfield 37, 3) := by decide +kernel
theorem dX9_copyFrom_114 : decode cX9_copyFrom 114 = .ok (.aload_n 0, 1) := by decide +kernel
theorem dX9_copyFrom_115 : decode cX9_copyFrom 115 = .ok (.aload_n 1, 1) := by decide +kernel
theorem dX9_copyFrom_116 : decode cX9_copyFrom 116 = .ok (.getfield 40, 3) := by decide +kernel
theorem dX9_copyFrom_119 : decode cX9_copyFrom 119 = .ok (.putfield 40, 3) := by decide +kernel
theorem dX9_copyFrom_122 : decode cX9_copyFrom 122 = .ok (.aload_n 0, 1) := by decide +kernel
theorem dX9_copyFrom_123 : decode cX9_copyFrom 123 = .ok (.aload_n 1, 1) := by decide +kernel
theorem dX9_copyFrom_124 : decode cX9_copyFrom 124 = .ok (.getfield 43, 3) := by decide +kernel
theorem dX9_copyFrom_127 : decode cX9_copyFrom 127 = .ok (.putfield 43, 3) := by decide +kernel
theorem dX9_copyFrom_130 : decode cX9_copyFrom 130 = .ok (.aload_n 0, 1) := by decide +kernel
theorem dX9_copyFrom_131 : decode cX9_copyFrom 131 = .ok (.aload_n 1, 1) := by decide +kernel
theorem dX9_copyFrom_132 : decode cX9_copyFrom 132 = .ok (.getfield 46, 3) := by decide +kernel
theorem dX9_copyFrom_135 : decode cX9_copyFrom 135 = .ok (.putfield 46, 3) := by decide +kernel
theorem dX9_copyFrom_138 : decode cX9_copyFrom 138 = .ok (.return_, 1) := by decide +kernel
theorem dX9_working_0 : decode cX9_working 0 = .ok (.iconst 0, 1) := by decide +kernel
theorem dX9_working_1 : decode cX9_working 1 = .ok (.istore_n 2, 1) := by decide +kernel
theorem dX9_working_2 : decode cX9_working 2 = .ok (.iconst 0, 1) := by decide +kernel
theorem dX9_working_3 : decode cX9_working 3 = .ok (.istore_n 3, 1) := by decide +kernel
theorem dX9_working_4 : decode cX9_working 4 = .ok (.iload_n 3, 1) := by decide +kernel
theorem dX9_working_5 : decode cX9_working 5 = .ok (.aload_n 1, 1) := by decide +kernel
theorem dX9_working_6 : decode cX9_working 6 = .ok (.getfield 75, 3) := by decide +kernel
theorem dX9_working_9 : decode cX9_working 9 = .ok (.if_icmp .ge 87, 3) := by decide +kernel
theorem dX9_working_12 : decode cX9_working 12 = .ok (.aload_n 0, 1) := by decide +kernel
theorem dX9_working_13 : decode cX9_working 13 = .ok (.getfield 9, 3) := by decide +kernel
theorem dX9_working_16 : decode cX9_working 16 = .ok (.iload_n 3, 1) := by decide +kernel
theorem dX9_working_17 : decode cX9_working 17 = .ok (.iaload, 1) := by decide +kernel
theorem dX9_working_18 : decode cX9_working 18 = .ok (.iconst 2, 1) := by decide +kernel
theorem dX9_working_19 : decode cX9_working 19 = .ok (.if_icmp .ne 33, 3) := by decide +kernel
theorem dX9_working_22 : decode cX9_working 22 = .ok (.aload_n 0, 1) := by decide +kernel
theorem dX9_working_23 : decode cX9_working 23 = .ok (.getfield 30, 3) := by decide +kernel
theorem dX9_working_26 : decode cX9_working 26 = .ok (.iload_n 3, 1) := by decide +kernel
theorem dX9_working_27 : decode cX9_working 27 = .ok (.invokestatic 63, 3) := by decide +kernel
theorem dX9_working_30 : decode cX9_working 30 = .ok (.iconst 1, 1) := by decide +kernel
theorem dX9_working_31 : decode cX9_working 31 = .ok (.if_icmp .ne 21, 3) := by decide +kernel
theorem dX9_working_34 : decode cX9_working 34 = .ok (.aload_n 0, 1) := by decide +kernel
theorem dX9_working_35 : decode cX9_working 35 = .ok (.getfield 34, 3) := by decide +kernel
theorem dX9_working_38 : decode cX9_working 38 = .ok (.aload_n 1, 1) := by decide +kernel
theorem dX9_working_39 : decode cX9_working 39 = .ok (.getfield 60, 3) := by decide +kernel
theorem dX9_working_42 : decode cX9_working 42 = .ok (.iload_n 3, 1) := by decide +kernel
theorem dX9_working_43 : decode cX9_working 43 = .ok (.iaload, 1) := by decide +kernel
theorem dX9_working_44 : decode cX9_working 44 = .ok (.iand, 1) := by decide +kernel
theorem dX9_working_45 : decode cX9_working 45 = .ok (.ifCond .ne 7, 3) := by decide +kernel
theorem dX9_working_48 : decode cX9_working 48 = .ok (.iconst 1, 1) := by decide +kernel
theorem dX9_working_49 : decode cX9_working 49 = .ok (.goto 4, 3) := by decide +kernel
theorem dX9_working_52 : decode cX9_working 52 = .ok (.iconst 0, 1) := by decide +kernel
theorem dX9_working_53 : decode cX9_working 53 = .ok (.istore 4, 2) := by decide +kernel
theorem dX9_working_55 : decode cX9_working 55 = .ok (.iload 4, 2) := by decide +kernel
theorem dX9_working_57 : decode cX9_working 57 = .ok (.ifCond .eq 33, 3) := by decide +kernel
theorem dX9_working_60 : decode cX9_working 60 = .ok (.aload_n 1, 1) := by decide +kernel
theorem dX9_working_61 : decode cX9_working 61 = .ok (.getfield 78, 3) := by decide +kernel
theorem dX9_working_64 : decode cX9_working 64 = .ok (.iload_n 3, 1) := by decide +kernel
theorem dX9_working_65 : decode cX9_working 65 = .ok (.iaload, 1) := by decide +kernel
theorem dX9_working_66 : decode cX9_working 66 = .ok (.iconst (-1), 1) := by decide +kernel
theorem dX9_working_67 : decode cX9_working 67 = .ok (.if_icmp .eq 17, 3) := by decide +kernel
theorem dX9_working_70 : decode cX9_working 70 = .ok (.iload_n 2, 1) := by decide +kernel
theorem dX9_working_71 : decode cX9_working 71 = .ok (.aload_n 1, 1) := by decide +kernel
theorem dX9_working_72 : decode cX9_working 72 = .ok (.getfield 78, 3) := by decide +kernel
theorem dX9_working_75 : decode cX9_working 75 = .ok (.iload_n 3, 1) := by decide +kernel
theorem dX9_working_76 : decode cX9_working 76 = .ok (.iaload, 1) := by decide +kernel
theorem dX9_working_77 : decode cX9_working 77 = .ok (.invokestatic 63, 3) := by decide +kernel
theorem dX9_working_80 : decode cX9_working 80 = .ok (.iconst 1, 1) := by decide +kernel
theorem dX9_working_81 : decode cX9_working 81 = .ok (.if_icmp .ne 9, 3) := by decide +kernel
theorem dX9_working_84 : decode cX9_working 84 = .ok (.iload_n 2, 1) := by decide +kernel
theorem dX9_working_85 : decode cX9_working 85 = .ok (.iconst 1, 1) := by decide +kernel
theorem dX9_working_86 : decode cX9_working 86 = .ok (.iload_n 3, 1) := by decide +kernel
theorem dX9_working_87 : decode cX9_working 87 = .ok (.ishl, 1) := by decide +kernel
theorem dX9_working_88 : decode cX9_working 88 = .ok (.ior, 1) := by decide +kernel
theorem dX9_working_89 : decode cX9_working 89 = .ok (.istore_n 2, 1) := by decide +kernel
theorem dX9_working_90 : decode cX9_working 90 = .ok (.iinc 3 1, 3) := by decide +kernel
theorem dX9_working_93 : decode cX9_working 93 = .ok (.goto (-89), 3) := by decide +kernel
theorem dX9_working_96 : decode cX9_working 96 = .ok (.iload_n 2, 1) := by decide +kernel
theorem dX9_working_97 : decode cX9_working 97 = .ok (.ireturn, 1) := by decide +kernel
theorem dX9_thingsIn_0 : decode cX9_thingsIn 0 = .ok (.iconst 0, 1) := by decide +kernel
theorem dX9_thingsIn_1 : decode cX9_thingsIn 1 = .ok (.istore_n 3, 1) := by decide +kernel
theorem dX9_thingsIn_2 : decode cX9_thingsIn 2 = .ok (.iconst 0, 1) := by decide +kernel
theorem dX9_thingsIn_3 : decode cX9_thingsIn 3 = .ok (.istore 4, 2) := by decide +kernel
theorem dX9_thingsIn_5 : decode cX9_thingsIn 5 = .ok (.iload 4, 2) := by decide +kernel
theorem dX9_thingsIn_7 : decode cX9_thingsIn 7 = .ok (.aload_n 1, 1) := by decide +kernel
theorem dX9_thingsIn_8 : decode cX9_thingsIn 8 = .ok (.getfield 75, 3) := by decide +kernel
theorem dX9_thingsIn_11 : decode cX9_thingsIn 11 = .ok (.if_icmp .ge 27, 3) := by decide +kernel
theorem dX9_thingsIn_14 : decode cX9_thingsIn 14 = .ok (.aload_n 0, 1) := by decide +kernel
theorem dX9_thingsIn_15 : decode cX9_thingsIn 15 = .ok (.getfield 9, 3) := by decide +kernel
theorem dX9_thingsIn_18 : decode cX9_thingsIn 18 = .ok (.iload 4, 2) := by decide +kernel
theorem dX9_thingsIn_20 : decode cX9_thingsIn 20 = .ok (.iaload, 1) := by decide +kernel
theorem dX9_thingsIn_21 : decode cX9_thingsIn 21 = .ok (.iload_n 2, 1) := by decide +kernel
theorem dX9_thingsIn_22 : decode cX9_thingsIn 22 = .ok (.if_icmp .ne 10, 3) := by decide +kernel
theorem dX9_thingsIn_25 : decode cX9_thingsIn 25 = .ok (.iload_n 3, 1) := by decide +kernel
theorem dX9_thingsIn_26 : decode cX9_thingsIn 26 = .ok (.iconst 1, 1) := by decide +kernel
theorem dX9_thingsIn_27 : decode cX9_thingsIn 27 = .ok (.iload 4, 2) := by decide +kernel
theorem dX9_thingsIn_29 : decode cX9_thingsIn 29 = .ok (.ishl, 1) := by decide +kernel
theorem dX9_thingsIn_30 : decode cX9_thingsIn 30 = .ok (.ior, 1) := by decide +kernel
theorem dX9_thingsIn_31 : decode cX9_thingsIn 31 = .ok (.istore_n 3, 1) := by decide +kernel
theorem dX9_thingsIn_32 : decode cX9_thingsIn 32 = .ok (.iinc 4 1, 3) := by decide +kernel
theorem dX9_thingsIn_35 : decode cX9_thingsIn 35 = .ok (.goto (-30), 3) := by decide +kernel
theorem dX9_thingsIn_38 : decode cX9_thingsIn 38 = .ok (.iload_n 3, 1) := by decide +kernel
theorem dX9_thingsIn_39 : decode cX9_thingsIn 39 = .ok (.ireturn, 1) := by decide +kernel
theorem dX9_passMinutes_0 : decode cX9_passMinutes 0 = .ok (.iconst 0, 1) := by decide +kernel
theorem dX9_passMinutes_1 : decode cX9_passMinutes 1 = .ok (.istore_n 3, 1) := by decide +kernel
theorem dX9_passMinutes_2 : decode cX9_passMinutes 2 = .ok (.iload_n 3, 1) := by decide +kernel
theorem dX9_passMinutes_3 : decode cX9_passMinutes 3 = .ok (.iload_n 2, 1) := by decide +kernel
theorem dX9_passMinutes_4 : decode cX9_passMinutes 4 = .ok (.if_icmp .ge 24, 3) := by decide +kernel
theorem dX9_passMinutes_7 : decode cX9_passMinutes 7 = .ok (.aload_n 0, 1) := by decide +kernel
theorem dX9_passMinutes_8 : decode cX9_passMinutes 8 = .ok (.getfield 37, 3) := by decide +kernel
theorem dX9_passMinutes_11 : decode cX9_passMinutes 11 = .ok (.sipush 1000, 3) := by decide +kernel
theorem dX9_passMinutes_14 : decode cX9_passMinutes 14 = .ok (.if_icmp .ge 14, 3) := by decide +kernel
theorem dX9_passMinutes_17 : decode cX9_passMinutes 17 = .ok (.aload_n 0, 1) := by decide +kernel
theorem dX9_passMinutes_18 : decode cX9_passMinutes 18 = .ok (.aload_n 1, 1) := by decide +kernel
theorem dX9_passMinutes_19 : decode cX9_passMinutes 19 = .ok (.invokevirtual 116, 3) := by decide +kernel
theorem dX9_passMinutes_22 : decode cX9_passMinutes 22 = .ok (.iinc 3 1, 3) := by decide +kernel
theorem dX9_passMinutes_25 : decode cX9_passMinutes 25 = .ok (.goto (-23), 3) := by decide +kernel
theorem dX9_passMinutes_28 : decode cX9_passMinutes 28 = .ok (.iload_n 3, 1) := by decide +kernel
theorem dX9_passMinutes_29 : decode cX9_passMinutes 29 = .ok (.ireturn, 1) := by decide +kernel
theorem dX9_passMinute_0 : decode cX9_passMinute 0 = .ok (.iconst 0, 1) := by decide +kernel
theorem dX9_passMinute_1 : decode cX9_passMinute 1 = .ok (.istore_n 2, 1) := by decide +kernel
theorem dX9_passMinute_2 : decode cX9_passMinute 2 = .ok (.iload_n 2, 1) := by decide +kernel
theorem dX9_passMinute_3 : decode cX9_passMinute 3 = .ok (.aload_n 1, 1) := by decide +kernel
theorem dX9_passMinute_4 : decode cX9_passMinute 4 = .ok (.getfield 75, 3) := by decide +kernel
theorem dX9_passMinute_7 : decode cX9_passMinute 7 = .ok (.if_icmp .ge 76, 3) := by decide +kernel
theorem dX9_passMinute_10 : decode cX9_passMinute 10 = .ok (.aload_n 0, 1) := by decide +kernel
theorem dX9_passMinute_11 : decode cX9_passMinute 11 = .ok (.getfield 9, 3) := by decide +kernel
theorem dX9_passMinute_14 : decode cX9_passMinute 14 = .ok (.iload_n 2, 1) := by decide +kernel
theorem dX9_passMinute_15 : decode cX9_passMinute 15 = .ok (.iaload, 1) := by decide +kernel
theorem dX9_passMinute_16 : decode cX9_passMinute 16 = .ok (.ifCond .ne 26, 3) := by decide +kernel
theorem dX9_passMinute_19 : decode cX9_passMinute 19 = .ok (.aload_n 0, 1) := by decide +kernel
theorem dX9_passMinute_20 : decode cX9_passMinute 20 = .ok (.getfield 15, 3) := by decide +kernel
theorem dX9_passMinute_23 : decode cX9_passMinute 23 = .ok (.iload_n 2, 1) := by decide +kernel
theorem dX9_passMinute_24 : decode cX9_passMinute 24 = .ok (.dup2, 1) := by decide +kernel
theorem dX9_passMinute_25 : decode cX9_passMinute 25 = .ok (.iaload, 1) := by decide +kernel
theorem dX9_passMinute_26 : decode cX9_passMinute 26 = .ok (.iconst 1, 1) := by decide +kernel
theorem dX9_passMinute_27 : decode cX9_passMinute 27 = .ok (.iadd, 1) := by decide +kernel
theorem dX9_passMinute_28 : decode cX9_passMinute 28 = .ok (.iastore, 1) := by decide +kernel
theorem dX9_passMinute_29 : decode cX9_passMinute 29 = .ok (.aload_n 0, 1) := by decide +kernel
theorem dX9_passMinute_30 : decode cX9_passMinute 30 = .ok (.getfield 18, 3) := by decide +kernel
theorem dX9_passMinute_33 : decode cX9_passMinute 33 = .ok (.iload_n 2, 1) := by decide +kernel
theorem dX9_passMinute_34 : decode cX9_passMinute 34 = .ok (.dup2, 1) := by decide +kernel
theorem dX9_passMinute_35 : decode cX9_passMinute 35 = .ok (.iaload, 1) := by decide +kernel
theorem dX9_passMinute_36 : decode cX9_passMinute 36 = .ok (.iconst 1, 1) := by decide +kernel
theorem dX9_passMinute_37 : decode cX9_passMinute 37 = .ok (.iadd, 1) := by decide +kernel
theorem dX9_passMinute_38 : decode cX9_passMinute 38 = .ok (.iastore, 1) := by decide +kernel
theorem dX9_passMinute_39 : decode cX9_passMinute 39 = .ok (.goto 38, 3) := by decide +kernel
theorem dX9_passMinute_42 : decode cX9_passMinute 42 = .ok (.aload_n 0, 1) := by decide +kernel
theorem dX9_passMinute_43 : decode cX9_passMinute 43 = .ok (.getfield 9, 3) := by decide +kernel
theorem dX9_passMinute_46 : decode cX9_passMinute 46 = .ok (.iload_n 2, 1) := by decide +kernel
theorem dX9_passMinute_47 : decode cX9_passMinute 47 = .ok (.iaload, 1) := by decide +kernel
theorem dX9_passMinute_48 : decode cX9_passMinute 48 = .ok (.iconst 1, 1) := by decide +kernel
theorem dX9_passMinute_49 : decode cX9_passMinute 49 = .ok (.if_icmp .ne 28, 3) := by decide +kernel
theorem dX9_passMinute_52 : decode cX9_passMinute 52 = .ok (.aload_n 0, 1) := by decide +kernel
theorem dX9_passMinute_53 : decode cX9_passMinute 53 = .ok (.getfield 15, 3) := by decide +kernel
theorem dX9_passMinute_56 : decode cX9_passMinute 56 = .ok (.iload_n 2, 1) := by decide +kernel
theorem dX9_passMinute_57 : decode cX9_passMinute 57 = .ok (.dup2, 1) := by decide +kernel
theorem dX9_passMinute_58 : decode cX9_passMinute 58 = .ok (.iaload, 1) := by decide +kernel
theorem dX9_passMinute_59 : decode cX9_passMinute 59 = .ok (.iconst 1, 1) := by decide +kernel
theorem dX9_passMinute_60 : decode cX9_passMinute 60 = .ok (.isub, 1) := by decide +kernel
theorem dX9_passMinute_61 : decode cX9_passMinute 61 = .ok (.iastore, 1) := by decide +kernel
theorem dX9_passMinute_62 : decode cX9_passMinute 62 = .ok (.aload_n 0, 1) := by decide +kernel
theorem dX9_passMinute_63 : decode cX9_passMinute 63 = .ok (.getfield 15, 3) := by decide +kernel
end
section
theorem dX9_passMinute_66 : decode cX9_passMinute 66 = .ok (.iload_n 2, 1) := by decide +kernel
theorem dX9_passMinute_67 : decode cX9_passMinute 67 = .ok (.iaload, 1) := by decide +kernel
theorem dX9_passMinute_68 : decode cX9_passMinute 68 = .ok (.ifCond .ne 9, 3) := by decide +kernel
theorem dX9_passMinute_71 : decode cX9_passMinute 71 = .ok (.aload_n 0, 1) := by decide +kernel
theorem dX9_passMinute_72 : decode cX9_passMinute 72 = .ok (.aload_n 1, 1) := by decide +kernel
theorem dX9_passMinute_73 : decode cX9_passMinute 73 = .ok (.iload_n 2, 1) := by decide +kernel
theorem dX9_passMinute_74 : decode cX9_passMinute 74 = .ok (.invokevirtual 120, 3) := by decide +kernel
theorem dX9_passMinute_77 : decode cX9_passMinute 77 = .ok (.iinc 2 1, 3) := by decide +kernel
theorem dX9_passMinute_80 : decode cX9_passMinute 80 = .ok (.goto (-78), 3) := by decide +kernel
theorem dX9_passMinute_83 : decode cX9_passMinute 83 = .ok (.iconst 0, 1) := by decide +kernel
theorem dX9_passMinute_84 : decode cX9_passMinute 84 = .ok (.istore_n 2, 1) := by decide +kernel
theorem dX9_passMinute_85 : decode cX9_passMinute 85 = .ok (.iload_n 2, 1) := by decide +kernel
theorem dX9_passMinute_86 : decode cX9_passMinute 86 = .ok (.aload_n 1, 1) := by decide +kernel
theorem dX9_passMinute_87 : decode cX9_passMinute 87 = .ok (.getfield 55, 3) := by decide +kernel
theorem dX9_passMinute_90 : decode cX9_passMinute 90 = .ok (.if_icmp .ge 80, 3) := by decide +kernel
theorem dX9_passMinute_93 : decode cX9_passMinute 93 = .ok (.aload_n 0, 1) := by decide +kernel
theorem dX9_passMinute_94 : decode cX9_passMinute 94 = .ok (.getfield 34, 3) := by decide +kernel
theorem dX9_passMinute_97 : decode cX9_passMinute 97 = .ok (.iload_n 2, 1) := by decide +kernel
theorem dX9_passMinute_98 : decode cX9_passMinute 98 = .ok (.ishr, 1) := by decide +kernel
theorem dX9_passMinute_99 : decode cX9_passMinute 99 = .ok (.ifCond .eq 71, 3) := by decide +kernel
theorem dX9_passMinute_102 : decode cX9_passMinute 102 = .ok (.aload_n 0, 1) := by decide +kernel
theorem dX9_passMinute_103 : decode cX9_passMinute 103 = .ok (.getfield 34, 3) := by decide +kernel
theorem dX9_passMinute_106 : decode cX9_passMinute 106 = .ok (.iload_n 2, 1) := by decide +kernel
theorem dX9_passMinute_107 : decode cX9_passMinute 107 = .ok (.invokestatic 63, 3) := by decide +kernel
theorem dX9_passMinute_110 : decode cX9_passMinute 110 = .ok (.iconst 1, 1) := by decide +kernel
theorem dX9_passMinute_111 : decode cX9_passMinute 111 = .ok (.if_icmp .ne 53, 3) := by decide +kernel
theorem dX9_passMinute_114 : decode cX9_passMinute 114 = .ok (.aload_n 0, 1) := by decide +kernel
theorem dX9_passMinute_115 : decode cX9_passMinute 115 = .ok (.getfield 21, 3) := by decide +kernel
theorem dX9_passMinute_118 : decode cX9_passMinute 118 = .ok (.iload_n 2, 1) := by decide +kernel
theorem dX9_passMinute_119 : decode cX9_passMinute 119 = .ok (.dup2, 1) := by decide +kernel
theorem dX9_passMinute_120 : decode cX9_passMinute 120 = .ok (.iaload, 1) := by decide +kernel
theorem dX9_passMinute_121 : decode cX9_passMinute 121 = .ok (.iconst 1, 1) := by decide +kernel
theorem dX9_passMinute_122 : decode cX9_passMinute 122 = .ok (.iadd, 1) := by decide +kernel
theorem dX9_passMinute_123 : decode cX9_passMinute 123 = .ok (.iastore, 1) := by decide +kernel
theorem dX9_passMinute_124 : decode cX9_passMinute 124 = .ok (.aload_n 0, 1) := by decide +kernel
theorem dX9_passMinute_125 : decode cX9_passMinute 125 = .ok (.getfield 21, 3) := by decide +kernel
theorem dX9_passMinute_128 : decode cX9_passMinute 128 = .ok (.iload_n 2, 1) := by decide +kernel
theorem dX9_passMinute_129 : decode cX9_passMinute 129 = .ok (.iaload, 1) := by decide +kernel
theorem dX9_passMinute_130 : decode cX9_passMinute 130 = .ok (.aload_n 1, 1) := by decide +kernel
theorem dX9_passMinute_131 : decode cX9_passMinute 131 = .ok (.getfield 123, 3) := by decide +kernel
theorem dX9_passMinute_134 : decode cX9_passMinute 134 = .ok (.iload_n 2, 1) := by decide +kernel
theorem dX9_passMinute_135 : decode cX9_passMinute 135 = .ok (.iaload, 1) := by decide +kernel
theorem dX9_passMinute_136 : decode cX9_passMinute 136 = .ok (.if_icmp .ne 28, 3) := by decide +kernel
theorem dX9_passMinute_139 : decode cX9_passMinute 139 = .ok (.aload_n 0, 1) := by decide +kernel
theorem dX9_passMinute_140 : decode cX9_passMinute 140 = .ok (.iload_n 2, 1) := by decide +kernel
theorem dX9_passMinute_141 : decode cX9_passMinute 141 = .ok (.invokevirtual 108, 3) := by decide +kernel
theorem dX9_passMinute_144 : decode cX9_passMinute 144 = .ok (.aload_n 0, 1) := by decide +kernel
theorem dX9_passMinute_145 : decode cX9_passMinute 145 = .ok (.getfield 27, 3) := by decide +kernel
theorem dX9_passMinute_148 : decode cX9_passMinute 148 = .ok (.iload_n 2, 1) := by decide +kernel
theorem dX9_passMinute_149 : decode cX9_passMinute 149 = .ok (.dup2, 1) := by decide +kernel
theorem dX9_passMinute_150 : decode cX9_passMinute 150 = .ok (.iaload, 1) := by decide +kernel
theorem dX9_passMinute_151 : decode cX9_passMinute 151 = .ok (.iconst 1, 1) := by decide +kernel
theorem dX9_passMinute_152 : decode cX9_passMinute 152 = .ok (.iadd, 1) := by decide +kernel
theorem dX9_passMinute_153 : decode cX9_passMinute 153 = .ok (.iastore, 1) := by decide +kernel
theorem dX9_passMinute_154 : decode cX9_passMinute 154 = .ok (.aload_n 0, 1) := by decide +kernel
theorem dX9_passMinute_155 : decode cX9_passMinute 155 = .ok (.dup, 1) := by decide +kernel
theorem dX9_passMinute_156 : decode cX9_passMinute 156 = .ok (.getfield 46, 3) := by decide +kernel
theorem dX9_passMinute_159 : decode cX9_passMinute 159 = .ok (.iconst 1, 1) := by decide +kernel
theorem dX9_passMinute_160 : decode cX9_passMinute 160 = .ok (.iadd, 1) := by decide +kernel
theorem dX9_passMinute_161 : decode cX9_passMinute 161 = .ok (.putfield 46, 3) := by decide +kernel
theorem dX9_passMinute_164 : decode cX9_passMinute 164 = .ok (.iinc 2 1, 3) := by decide +kernel
theorem dX9_passMinute_167 : decode cX9_passMinute 167 = .ok (.goto (-82), 3) := by decide +kernel
theorem dX9_passMinute_170 : decode cX9_passMinute 170 = .ok (.aload_n 0, 1) := by decide +kernel
theorem dX9_passMinute_171 : decode cX9_passMinute 171 = .ok (.dup, 1) := by decide +kernel
theorem dX9_passMinute_172 : decode cX9_passMinute 172 = .ok (.getfield 37, 3) := by decide +kernel
theorem dX9_passMinute_175 : decode cX9_passMinute 175 = .ok (.iconst 1, 1) := by decide +kernel
theorem dX9_passMinute_176 : decode cX9_passMinute 176 = .ok (.iadd, 1) := by decide +kernel
theorem dX9_passMinute_177 : decode cX9_passMinute 177 = .ok (.putfield 37, 3) := by decide +kernel
theorem dX9_passMinute_180 : decode cX9_passMinute 180 = .ok (.return_, 1) := by decide +kernel
theorem dX10_init_0 : decode cX10_init 0 = .ok (.aload_n 0, 1) := by decide +kernel
theorem dX10_init_1 : decode cX10_init 1 = .ok (.invokespecial 1, 3) := by decide +kernel
theorem dX10_init_4 : decode cX10_init 4 = .ok (.aload_n 0, 1) := by decide +kernel
theorem dX10_init_5 : decode cX10_init 5 = .ok (.new 7, 3) := by decide +kernel
theorem dX10_init_8 : decode cX10_init 8 = .ok (.dup, 1) := by decide +kernel
theorem dX10_init_9 : decode cX10_init 9 = .ok (.invokespecial 9, 3) := by decide +kernel
theorem dX10_init_12 : decode cX10_init 12 = .ok (.putfield 10, 3) := by decide +kernel
theorem dX10_init_15 : decode cX10_init 15 = .ok (.aload_n 0, 1) := by decide +kernel
theorem dX10_init_16 : decode cX10_init 16 = .ok (.new 16, 3) := by decide +kernel
theorem dX10_init_19 : decode cX10_init 19 = .ok (.dup, 1) := by decide +kernel
theorem dX10_init_20 : decode cX10_init 20 = .ok (.invokespecial 18, 3) := by decide +kernel
theorem dX10_init_23 : decode cX10_init 23 = .ok (.putfield 19, 3) := by decide +kernel
theorem dX10_init_26 : decode cX10_init 26 = .ok (.aload_n 0, 1) := by decide +kernel
theorem dX10_init_27 : decode cX10_init 27 = .ok (.new 23, 3) := by decide +kernel
theorem dX10_init_30 : decode cX10_init 30 = .ok (.dup, 1) := by decide +kernel
theorem dX10_init_31 : decode cX10_init 31 = .ok (.invokespecial 25, 3) := by decide +kernel
theorem dX10_init_34 : decode cX10_init 34 = .ok (.putfield 26, 3) := by decide +kernel
theorem dX10_init_37 : decode cX10_init 37 = .ok (.return_, 1) := by decide +kernel
theorem dX10_copyFrom_0 : decode cX10_copyFrom 0 = .ok (.aload_n 0, 1) := by decide +kernel
theorem dX10_copyFrom_1 : decode cX10_copyFrom 1 = .ok (.getfield 10, 3) := by decide +kernel
theorem dX10_copyFrom_4 : decode cX10_copyFrom 4 = .ok (.aload_n 1, 1) := by decide +kernel
theorem dX10_copyFrom_5 : decode cX10_copyFrom 5 = .ok (.getfield 10, 3) := by decide +kernel
theorem dX10_copyFrom_8 : decode cX10_copyFrom 8 = .ok (.invokevirtual 30, 3) := by decide +kernel
theorem dX10_copyFrom_11 : decode cX10_copyFrom 11 = .ok (.aload_n 0, 1) := by decide +kernel
theorem dX10_copyFrom_12 : decode cX10_copyFrom 12 = .ok (.getfield 19, 3) := by decide +kernel
theorem dX10_copyFrom_15 : decode cX10_copyFrom 15 = .ok (.aload_n 1, 1) := by decide +kernel
theorem dX10_copyFrom_16 : decode cX10_copyFrom 16 = .ok (.getfield 19, 3) := by decide +kernel
theorem dX10_copyFrom_19 : decode cX10_copyFrom 19 = .ok (.invokevirtual 34, 3) := by decide +kernel
theorem dX10_copyFrom_22 : decode cX10_copyFrom 22 = .ok (.aload_n 0, 1) := by decide +kernel
theorem dX10_copyFrom_23 : decode cX10_copyFrom 23 = .ok (.getfield 26, 3) := by decide +kernel
theorem dX10_copyFrom_26 : decode cX10_copyFrom 26 = .ok (.aload_n 1, 1) := by decide +kernel
theorem dX10_copyFrom_27 : decode cX10_copyFrom 27 = .ok (.getfield 26, 3) := by decide +kernel
theorem dX10_copyFrom_30 : decode cX10_copyFrom 30 = .ok (.invokevirtual 37, 3) := by decide +kernel
theorem dX10_copyFrom_33 : decode cX10_copyFrom 33 = .ok (.return_, 1) := by decide +kernel
theorem dX11_init_0 : decode cX11_init 0 = .ok (.aload_n 0, 1) := by decide +kernel
theorem dX11_init_1 : decode cX11_init 1 = .ok (.invokespecial 1, 3) := by decide +kernel
theorem dX11_init_4 : decode cX11_init 4 = .ok (.aload_n 0, 1) := by decide +kernel
theorem dX11_init_5 : decode cX11_init 5 = .ok (.new 7, 3) := by decide +kernel
theorem dX11_init_8 : decode cX11_init 8 = .ok (.dup, 1) := by decide +kernel
theorem dX11_init_9 : decode cX11_init 9 = .ok (.sipush 940, 3) := by decide +kernel
theorem dX11_init_12 : decode cX11_init 12 = .ok (.invokespecial 11, 3) := by decide +kernel
theorem dX11_init_15 : decode cX11_init 15 = .ok (.putfield 14, 3) := by decide +kernel
theorem dX11_init_18 : decode cX11_init 18 = .ok (.aload_n 0, 1) := by decide +kernel
theorem dX11_init_19 : decode cX11_init 19 = .ok (.new 18, 3) := by decide +kernel
theorem dX11_init_22 : decode cX11_init 22 = .ok (.dup, 1) := by decide +kernel
theorem dX11_init_23 : decode cX11_init 23 = .ok (.invokespecial 20, 3) := by decide +kernel
theorem dX11_init_26 : decode cX11_init 26 = .ok (.putfield 21, 3) := by decide +kernel
theorem dX11_init_29 : decode cX11_init 29 = .ok (.aload_n 0, 1) := by decide +kernel
theorem dX11_init_30 : decode cX11_init 30 = .ok (.iconst 2, 1) := by decide +kernel
theorem dX11_init_31 : decode cX11_init 31 = .ok (.anewarray 18, 3) := by decide +kernel
theorem dX11_init_34 : decode cX11_init 34 = .ok (.putfield 25, 3) := by decide +kernel
theorem dX11_init_37 : decode cX11_init 37 = .ok (.aload_n 0, 1) := by decide +kernel
theorem dX11_init_38 : decode cX11_init 38 = .ok (.new 29, 3) := by decide +kernel
theorem dX11_init_41 : decode cX11_init 41 = .ok (.dup, 1) := by decide +kernel
theorem dX11_init_42 : decode cX11_init 42 = .ok (.invokespecial 31, 3) := by decide +kernel
theorem dX11_init_45 : decode cX11_init 45 = .ok (.putfield 32, 3) := by decide +kernel
theorem dX11_init_48 : decode cX11_init 48 = .ok (.aload_n 0, 1) := by decide +kernel
theorem dX11_init_49 : decode cX11_init 49 = .ok (.new 36, 3) := by decide +kernel
theorem dX11_init_52 : decode cX11_init 52 = .ok (.dup, 1) := by decide +kernel
theorem dX11_init_53 : decode cX11_init 53 = .ok (.invokespecial 38, 3) := by decide +kernel
theorem dX11_init_56 : decode cX11_init 56 = .ok (.putfield 39, 3) := by decide +kernel
theorem dX11_init_59 : decode cX11_init 59 = .ok (.aload_n 0, 1) := by decide +kernel
theorem dX11_init_60 : decode cX11_init 60 = .ok (.new 43, 3) := by decide +kernel
theorem dX11_init_63 : decode cX11_init 63 = .ok (.dup, 1) := by decide +kernel
theorem dX11_init_64 : decode cX11_init 64 = .ok (.invokespecial 45, 3) := by decide +kernel
theorem dX11_init_67 : decode cX11_init 67 = .ok (.putfield 46, 3) := by decide +kernel
theorem dX11_init_70 : decode cX11_init 70 = .ok (.aload_n 0, 1) := by decide +kernel
theorem dX11_init_71 : decode cX11_init 71 = .ok (.new 50, 3) := by decide +kernel
theorem dX11_init_74 : decode cX11_init 74 = .ok (.dup, 1) := by decide +kernel
theorem dX11_init_75 : decode cX11_init 75 = .ok (.invokespecial 52, 3) := by decide +kernel
theorem dX11_init_78 : decode cX11_init 78 = .ok (.putfield 53, 3) := by decide +kernel
theorem dX11_init_81 : decode cX11_init 81 = .ok (.aload_n 0, 1) := by decide +kernel
theorem dX11_init_82 : decode cX11_init 82 = .ok (.new 57, 3) := by decide +kernel
theorem dX11_init_85 : decode cX11_init 85 = .ok (.dup, 1) := by decide +kernel
theorem dX11_init_86 : decode cX11_init 86 = .ok (.invokespecial 59, 3) := by decide +kernel
theorem dX11_init_89 : decode cX11_init 89 = .ok (.putfield 60, 3) := by decide +kernel
theorem dX11_init_92 : decode cX11_init 92 = .ok (.aload_n 0, 1) := by decide +kernel
theorem dX11_init_93 : decode cX11_init 93 = .ok (.new 64, 3) := by decide +kernel
theorem dX11_init_96 : decode cX11_init 96 = .ok (.dup, 1) := by decide +kernel
theorem dX11_init_97 : decode cX11_init 97 = .ok (.invokespecial 66, 3) := by decide +kernel
theorem dX11_init_100 : decode cX11_init 100 = .ok (.putfield 67, 3) := by decide +kernel
theorem dX11_init_103 : decode cX11_init 103 = .ok (.aload_n 0, 1) := by decide +kernel
theorem dX11_init_104 : decode cX11_init 104 = .ok (.new 7, 3) := by decide +kernel
theorem dX11_init_107 : decode cX11_init 107 = .ok (.dup, 1) := by decide +kernel
theorem dX11_init_108 : decode cX11_init 108 = .ok (.bipush 32, 2) := by decide +kernel
theorem dX11_init_110 : decode cX11_init 110 = .ok (.invokespecial 11, 3) := by decide +kernel
theorem dX11_init_113 : decode cX11_init 113 = .ok (.putfield 71, 3) := by decide +kernel
theorem dX11_init_116 : decode cX11_init 116 = .ok (.aload_n 0, 1) := by decide +kernel
theorem dX11_init_117 : decode cX11_init 117 = .ok (.bipush 8, 2) := by decide +kernel
theorem dX11_init_119 : decode cX11_init 119 = .ok (.newarray .int, 2) := by decide +kernel
theorem dX11_init_121 : decode cX11_init 121 = .ok (.putfield 74, 3) := by decide +kernel
theorem dX11_init_124 : decode cX11_init 124 = .ok (.aload_n 0, 1) := by decide +kernel
theorem dX11_init_125 : decode cX11_init 125 = .ok (.iconst 4, 1) := by decide +kernel
theorem dX11_init_126 : decode cX11_init 126 = .ok (.newarray .int, 2) := by decide +kernel
theorem dX11_init_128 : decode cX11_init 128 = .ok (.putfield 78, 3) := by decide +kernel
theorem dX11_init_131 : decode cX11_init 131 = .ok (.aload_n 0, 1) := by decide +kernel
theorem dX11_init_132 : decode cX11_init 132 = .ok (.iconst (-1), 1) := by decide +kernel
theorem dX11_init_133 : decode cX11_init 133 = .ok (.putfield 81, 3) := by decide +kernel
theorem dX11_init_136 : decode cX11_init 136 = .ok (.aload_n 0, 1) := by decide +kernel
theorem dX11_init_137 : decode cX11_init 137 = .ok (.iconst (-1), 1) := by decide +kernel
theorem dX11_init_138 : decode cX11_init 138 = .ok (.putfield 85, 3) := by decide +kernel
theorem dX11_init_141 : decode cX11_init 141 = .ok (.iconst 0, 1) := by decide +kernel
theorem dX11_init_142 : decode cX11_init 142 = .ok (.istore_n 1, 1) := by decide +kernel
theorem dX11_init_143 : decode cX11_init 143 = .ok (.iload_n 1, 1) := by decide +kernel
theorem dX11_init_144 : decode cX11_init 144 = .ok (.iconst 2, 1) := by decide +kernel
theorem dX11_init_145 : decode cX11_init 145 = .ok (.if_icmp .ge 22, 3) := by decide +kernel
theorem dX11_init_148 : decode cX11_init 148 = .ok (.aload_n 0, 1) := by decide +kernel
theorem dX11_init_149 : decode cX11_init 149 = .ok (.getfield 25, 3) := by decide +kernel
theorem dX11_init_152 : decode cX11_init 152 = .ok (.iload_n 1, 1) := by decide +kernel
theorem dX11_init_153 : decode cX11_init 153 = .ok (.new 18, 3) := by decide +kernel
theorem dX11_init_156 : decode cX11_init 156 = .ok (.dup, 1) := by decide +kernel
theorem dX11_init_157 : decode cX11_init 157 = .ok (.invokespecial 20, 3) := by decide +kernel
theorem dX11_init_160 : decode cX11_init 160 = .ok (.aastore, 1) := by decide +kernel
theorem dX11_init_161 : decode cX11_init 161 = .ok (.iinc 1 1, 3) := by decide +kernel
theorem dX11_init_164 : decode cX11_init 164 = .ok (.goto (-21), 3) := by decide +kernel
theorem dX11_init_167 : decode cX11_init 167 = .ok (.return_, 1) := by decide +kernel
theorem dX11_feed_0 : decode cX11_feed 0 = .ok (.aload_n 0, 1) := by decide +kernel
theorem dX11_feed_1 : decode cX11_feed 1 = .ok (.getfield 14, 3) := by decide +kernel
theorem dX11_feed_4 : decode cX11_feed 4 = .ok (.getfield 88, 3) := by decide +kernel
theorem dX11_feed_7 : decode cX11_feed 7 = .ok (.bipush 20, 2) := by decide +kernel
theorem dX11_feed_9 : decode cX11_feed 9 = .ok (.iadd, 1) := by decide +kernel
theorem dX11_feed_10 : decode cX11_feed 10 = .ok (.sipush 940, 3) := by decide +kernel
theorem dX11_feed_13 : decode cX11_feed 13 = .ok (.if_icmp .le 5, 3) := by decide +kernel
theorem dX11_feed_16 : decode cX11_feed 16 = .ok (.iconst (-1), 1) := by decide +kernel
theorem dX11_feed_17 : decode cX11_feed 17 = .ok (.ireturn, 1) := by decide +kernel
theorem dX11_feed_18 : decode cX11_feed 18 = .ok (.aload_n 0, 1) := by decide +kernel
theorem dX11_feed_19 : decode cX11_feed 19 = .ok (.getfield 14, 3) := by decide +kernel
theorem dX11_feed_22 : decode cX11_feed 22 = .ok (.iload_n 1, 1) := by decide +kernel
theorem dX11_feed_23 : decode cX11_feed 23 = .ok (.invokevirtual 91, 3) := by decide +kernel
theorem dX11_feed_26 : decode cX11_feed 26 = .ok (.aload_n 0, 1) := by decide +kernel
theorem dX11_feed_27 : decode cX11_feed 27 = .ok (.getfield 14, 3) := by decide +kernel
theorem dX11_feed_30 : decode cX11_feed 30 = .ok (.iload_n 2, 1) := by decide +kernel
theorem dX11_feed_31 : decode cX11_feed 31 = .ok (.invokevirtual 91, 3) := by decide +kernel
theorem dX11_feed_34 : decode cX11_feed 34 = .ok (.aload_n 0, 1) := by decide +kernel
theorem dX11_feed_35 : decode cX11_feed 35 = .ok (.getfield 14, 3) := by decide +kernel
theorem dX11_feed_38 : decode cX11_feed 38 = .ok (.iload_n 3, 1) := by decide +kernel
theorem dX11_feed_39 : decode cX11_feed 39 = .ok (.invokevirtual 91, 3) := by decide +kernel
theorem dX11_feed_42 : decode cX11_feed 42 = .ok (.aload_n 0, 1) := by decide +kernel
theorem dX11_feed_43 : decode cX11_feed 43 = .ok (.getfield 14, 3) := by decide +kernel
theorem dX11_feed_46 : decode cX11_feed 46 = .ok (.iload 4, 2) := by decide +kernel
theorem dX11_feed_48 : decode cX11_feed 48 = .ok (.invokevirtual 91, 3) := by decide +kernel
theorem dX11_feed_51 : decode cX11_feed 51 = .ok (.aload_n 0, 1) := by decide +kernel
theorem dX11_feed_52 : decode cX11_feed 52 = .ok (.getfield 14, 3) := by decide +kernel
theorem dX11_feed_55 : decode cX11_feed 55 = .ok (.iload 5, 2) := by decide +kernel
theorem dX11_feed_57 : decode cX11_feed 57 = .ok (.invokevirtual 91, 3) := by decide +kernel
theorem dX11_feed_60 : decode cX11_feed 60 = .ok (.aload_n 0, 1) := by decide +kernel
theorem dX11_feed_61 : decode cX11_feed 61 = .ok (.getfield 14, 3) := by decide +kernel
theorem dX11_feed_64 : decode cX11_feed 64 = .ok (.getfield 88, 3) := by decide +kernel
theorem dX11_feed_67 : decode cX11_feed 67 = .ok (.ireturn, 1) := by decide +kernel
theorem dX11_end_0 : decode cX11_end 0 = .ok (.iload_n 1, 1) := by decide +kernel
theorem dX11_end_1 : decode cX11_end 1 = .ok (.ifCond .lt 14, 3) := by decide +kernel
theorem dX11_end_4 : decode cX11_end 4 = .ok (.iload_n 1, 1) := by decide +kernel
theorem dX11_end_5 : decode cX11_end 5 = .ok (.aload_n 0, 1) := by decide +kernel
theorem dX11_end_6 : decode cX11_end 6 = .ok (.getfield 14, 3) := by decide +kernel
theorem dX11_end_9 : decode cX11_end 9 = .ok (.getfield 88, 3) := by decide +kernel
theorem dX11_end_12 : decode cX11_end 12 = .ok (.if_icmp .le 5, 3) := by decide +kernel
theorem dX11_end_15 : decode cX11_end 15 = .ok (.iconst 0, 1) := by decide +kernel
theorem dX11_end_16 : decode cX11_end 16 = .ok (.ireturn, 1) := by decide +kernel
theorem dX11_end_17 : decode cX11_end 17 = .ok (.aload_n 0, 1) := by decide +kernel
theorem dX11_end_18 : decode cX11_end 18 = .ok (.getfield 14, 3) := by decide +kernel
theorem dX11_end_21 : decode cX11_end 21 = .ok (.iload_n 1, 1) := by decide +kernel
theorem dX11_end_22 : decode cX11_end 22 = .ok (.putfield 88, 3) := by decide +kernel
theorem dX11_end_25 : decode cX11_end 25 = .ok (.iconst 1, 1) := by decide +kernel
theorem dX11_end_26 : decode cX11_end 26 = .ok (.ireturn, 1) := by decide +kernel
theorem dX11_house_0 : decode cX11_house 0 = .ok (.aload_n 0, 1) := by decide +kernel
theorem dX11_house_1 : decode cX11_house 1 = .ok (.getfield 46, 3) := by decide +kernel
theorem dX11_house_4 : decode cX11_house 4 = .ok (.aload_n 0, 1) := by decide +kernel
theorem dX11_house_5 : decode cX11_house 5 = .ok (.getfield 14, 3) := by decide +kernel
theorem dX11_house_8 : decode cX11_house 8 = .ok (.invokevirtual 94, 3) := by decide +kernel
theorem dX11_house_11 : decode cX11_house 11 = .ok (.istore_n 1, 1) := by decide +kernel
theorem dX11_house_12 : decode cX11_house 12 = .ok (.aload_n 0, 1) := by decide +kernel
theorem dX11_house_13 : decode cX11_house 13 = .ok (.aload_n 0, 1) := by decide +kernel
theorem dX11_house_14 : decode cX11_house 14 = .ok (.getfield 46, 3) := by decide +kernel
theorem dX11_house_17 : decode cX11_house 17 = .ok (.getfield 98, 3) := by decide +kernel
theorem dX11_house_20 : decode cX11_house 20 = .ok (.invokevirtual 102, 3) := by decide +kernel
theorem dX11_house_23 : decode cX11_house 23 = .ok (.iload_n 1, 1) := by decide +kernel
theorem dX11_house_24 : decode cX11_house 24 = .ok (.ifCond .ne 16, 3) := by decide +kernel
theorem dX11_house_27 : decode cX11_house 27 = .ok (.iconst (-1), 1) := by decide +kernel
theorem dX11_house_28 : decode cX11_house 28 = .ok (.aload_n 0, 1) := by decide +kernel
theorem dX11_house_29 : decode cX11_house 29 = .ok (.getfield 46, 3) := by decide +kernel
theorem dX11_house_32 : decode cX11_house 32 = .ok (.getfield 98, 3) := by decide +kernel
theorem dX11_house_35 : decode cX11_house 35 = .ok (.getfield 106, 3) := by decide +kernel
theorem dX11_house_38 : decode cX11_house 38 = .ok (.isub, 1) := by decide +kernel
theorem dX11_house_39 : decode cX11_house 39 = .ok (.ireturn, 1) := by decide +kernel
theorem dX11_house_40 : decode cX11_house 40 = .ok (.aload_n 0, 1) := by decide +kernel
theorem dX11_house_41 : decode cX11_house 41 = .ok (.getfield 21, 3) := by decide +kernel
theorem dX11_house_44 : decode cX11_house 44 = .ok (.getfield 111, 3) := by decide +kernel
theorem dX11_house_47 : decode cX11_house 47 = .ok (.aload_n 0, 1) := by decide +kernel
theorem dX11_house_48 : decode cX11_house 48 = .ok (.getfield 46, 3) := by decide +kernel
theorem dX11_house_51 : decode cX11_house 51 = .ok (.getfield 115, 3) := by decide +kernel
theorem dX11_house_54 : decode cX11_house 54 = .ok (.invokevirtual 118, 3) := by decide +kernel
theorem dX11_house_57 : decode cX11_house 57 = .ok (.aload_n 0, 1) := by decide +kernel
theorem dX11_house_58 : decode cX11_house 58 = .ok (.getfield 21, 3) := by decide +kernel
theorem dX11_house_61 : decode cX11_house 61 = .ok (.getfield 124, 3) := by decide +kernel
theorem dX11_house_64 : decode cX11_house 64 = .ok (.invokevirtual 127, 3) := by decide +kernel
theorem dX11_house_67 : decode cX11_house 67 = .ok (.aload_n 0, 1) := by decide +kernel
theorem dX11_house_68 : decode cX11_house 68 = .ok (.getfield 21, 3) := by decide +kernel
theorem dX11_house_71 : decode cX11_house 71 = .ok (.getfield 130, 3) := by decide +kernel
theorem dX11_house_74 : decode cX11_house 74 = .ok (.invokevirtual 134, 3) := by decide +kernel
theorem dX11_house_77 : decode cX11_house 77 = .ok (.aload_n 0, 1) := by decide +kernel
theorem dX11_house_78 : decode cX11_house 78 = .ok (.getfield 32, 3) := by decide +kernel
theorem dX11_house_81 : decode cX11_house 81 = .ok (.invokevirtual 139, 3) := by decide +kernel
theorem dX11_house_84 : decode cX11_house 84 = .ok (.aload_n 0, 1) := by decide +kernel
theorem dX11_house_85 : decode cX11_house 85 = .ok (.getfield 46, 3) := by decide +kernel
theorem dX11_house_88 : decode cX11_house 88 = .ok (.getfield 140, 3) := by decide +kernel
theorem dX11_house_91 : decode cX11_house 91 = .ok (.ireturn, 1) := by decide +kernel
theorem dX11_fault_0 : decode cX11_fault 0 = .ok (.aload_n 0, 1) := by decide +kernel
theorem dX11_fault_1 : decode cX11_fault 1 = .ok (.getfield 143, 3) := by decide +kernel
theorem dX11_fault_4 : decode cX11_fault 4 = .ok (.ireturn, 1) := by decide +kernel
theorem dX11_thing_0 : decode cX11_thing 0 = .ok (.aload_n 0, 1) := by decide +kernel
theorem dX11_thing_1 : decode cX11_thing 1 = .ok (.iload_n 1, 1) := by decide +kernel
theorem dX11_thing_2 : decode cX11_thing 2 = .ok (.invokevirtual 146, 3) := by decide +kernel
theorem dX11_thing_5 : decode cX11_thing 5 = .ok (.ifCond .eq 13, 3) := by decide +kernel
theorem dX11_thing_8 : decode cX11_thing 8 = .ok (.iload_n 2, 1) := by decide +kernel
theorem dX11_thing_9 : decode cX11_thing 9 = .ok (.ifCond .lt 9, 3) := by decide +kernel
theorem dX11_thing_12 : decode cX11_thing 12 = .ok (.iload_n 2, 1) := by decide +kernel
theorem dX11_thing_13 : decode cX11_thing 13 = .ok (.bipush 8, 2) := by decide +kernel
theorem dX11_thing_15 : decode cX11_thing 15 = .ok (.if_icmp .le 11, 3) := by decide +kernel
theorem dX11_thing_18 : decode cX11_thing 18 = .ok (.new 150, 3) := by decide +kernel
theorem dX11_thing_21 : decode cX11_thing 21 = .ok (.dup, 1) := by decide +kernel
theorem dX11_thing_22 : decode cX11_thing 22 = .ok (.invokespecial 152, 3) := by decide +kernel
theorem dX11_thing_25 : decode cX11_thing 25 = .ok (.athrow, 1) := by decide +kernel
theorem dX11_thing_26 : decode cX11_thing 26 = .ok (.aload_n 0, 1) := by decide +kernel
theorem dX11_thing_27 : decode cX11_thing 27 = .ok (.getfield 21, 3) := by decide +kernel
theorem dX11_thing_30 : decode cX11_thing 30 = .ok (.getfield 111, 3) := by decide +kernel
theorem dX11_thing_33 : decode cX11_thing 33 = .ok (.astore_n 3, 1) := by decide +kernel
theorem dX11_thing_34 : decode cX11_thing 34 = .ok (.aload_n 0, 1) := by decide +kernel
theorem dX11_thing_35 : decode cX11_thing 35 = .ok (.getfield 21, 3) := by decide +kernel
theorem dX11_thing_38 : decode cX11_thing 38 = .ok (.getfield 124, 3) := by decide +kernel
theorem dX11_thing_41 : decode cX11_thing 41 = .ok (.astore 4, 2) := by decide +kernel
theorem dX11_thing_43 : decode cX11_thing 43 = .ok (.iload_n 2, 1) := by decide +kernel
theorem dX11_thing_44 : decode cX11_thing 44 = .ok (.tableswitch 119 0 7 #[48, 55, 62, 69, 77, 85, 95, 108], 48) := by decide +kernel
theorem dX11_thing_92 : decode cX11_thing 92 = .ok (.aload_n 3, 1) := by decide +kernel
theorem dX11_thing_93 : decode cX11_thing 93 = .ok (.getfield 153, 3) := by decide +kernel
theorem dX11_thing_96 : decode cX11_thing 96 = .ok (.iload_n 1, 1) := by decide +kernel
theorem dX11_thing_97 : decode cX11_thing 97 = .ok (.iaload, 1) := by decide +kernel
theorem dX11_thing_98 : decode cX11_thing 98 = .ok (.ireturn, 1) := by decide +kernel
theorem dX11_thing_99 : decode cX11_thing 99 = .ok (.aload_n 3, 1) := by decide +kernel
theorem dX11_thing_100 : decode cX11_thing 100 = .ok (.getfield 156, 3) := by decide +kernel
theorem dX11_thing_103 : decode cX11_thing 103 = .ok (.iload_n 1, 1) := by decide +kernel
theorem dX11_thing_104 : decode cX11_thing 104 = .ok (.iaload, 1) := by decide +kernel
theorem dX11_thing_105 : decode cX11_thing 105 = .ok (.ireturn, 1) := by decide +kernel
theorem dX11_thing_106 : decode cX11_thing 106 = .ok (.aload_n 3, 1) := by decide +kernel
theorem dX11_thing_107 : decode cX11_thing 107 = .ok (.getfield 159, 3) := by decide +kernel
theorem dX11_thing_110 : decode cX11_thing 110 = .ok (.iload_n 1, 1) := by decide +kernel
theorem dX11_thing_111 : decode cX11_thing 111 = .ok (.iaload, 1) := by decide +kernel
theorem dX11_thing_112 : decode cX11_thing 112 = .ok (.ireturn, 1) := by decide +kernel
theorem dX11_thing_113 : decode cX11_thing 113 = .ok (.aload 4, 2) := by decide +kernel
theorem dX11_thing_115 : decode cX11_thing 115 = .ok (.getfield 162, 3) := by decide +kernel
theorem dX11_thing_118 : decode cX11_thing 118 = .ok (.iload_n 1, 1) := by decide +kernel
theorem dX11_thing_119 : decode cX11_thing 119 = .ok (.iaload, 1) := by decide +kernel
theorem dX11_thing_120 : decode cX11_thing 120 = .ok (.ireturn, 1) := by decide +kernel
theorem dX11_thing_121 : decode cX11_thing 121 = .ok (.aload 4, 2) := by decide +kernel
theorem dX11_thing_123 : decode cX11_thing 123 = .ok (.getfield 165, 3) := by decide +kernel
theorem dX11_thing_126 : decode cX11_thing 126 = .ok (.iload_n 1, 1) := by decide +kernel
theorem dX11_thing_127 : decode cX11_thing 127 = .ok (.iaload, 1) := by decide +kernel
theorem dX11_thing_128 : decode cX11_thing 128 = .ok (.ireturn, 1) := by decide +kernel
theorem dX11_thing_129 : decode cX11_thing 129 = .ok (.aload 4, 2) := by decide +kernel
theorem dX11_thing_131 : decode cX11_thing 131 = .ok (.getfield 168, 3) := by decide +kernel
theorem dX11_thing_134 : decode cX11_thing 134 = .ok (.iload_n 1, 1) := by decide +kernel
theorem dX11_thing_135 : decode cX11_thing 135 = .ok (.invokestatic 171, 3) := by decide +kernel
theorem dX11_thing_138 : decode cX11_thing 138 = .ok (.ireturn, 1) := by decide +kernel
theorem dX11_thing_139 : decode cX11_thing 139 = .ok (.aload 4, 2) := by decide +kernel
theorem dX11_thing_141 : decode cX11_thing 141 = .ok (.aload_n 3, 1) := by decide +kernel
theorem dX11_thing_142 : decode cX11_thing 142 = .ok (.iload_n 1, 1) := by decide +kernel
theorem dX11_thing_143 : decode cX11_thing 143 = .ok (.aload 4, 2) := by decide +kernel
theorem dX11_thing_145 : decode cX11_thing 145 = .ok (.getfield 175, 3) := by decide +kernel
theorem dX11_thing_148 : decode cX11_thing 148 = .ok (.invokevirtual 178, 3) := by decide +kernel
theorem dX11_thing_151 : decode cX11_thing 151 = .ok (.ireturn, 1) := by decide +kernel
theorem dX11_thing_152 : decode cX11_thing 152 = .ok (.aload 4, 2) := by decide +kernel
theorem dX11_thing_154 : decode cX11_thing 154 = .ok (.aload_n 3, 1) := by decide +kernel
theorem dX11_thing_155 : decode cX11_thing 155 = .ok (.invokevirtual 182, 3) := by decide +kernel
theorem dX11_thing_158 : decode cX11_thing 158 = .ok (.iload_n 1, 1) := by decide +kernel
theorem dX11_thing_159 : decode cX11_thing 159 = .ok (.invokestatic 171, 3) := by decide +kernel
theorem dX11_thing_162 : decode cX11_thing 162 = .ok (.ireturn, 1) := by decide +kernel
theorem dX11_thing_163 : decode cX11_thing 163 = .ok (.aload 4, 2) := by decide +kernel
theorem dX11_thing_165 : decode cX11_thing 165 = .ok (.getfield 186, 3) := by decide +kernel
theorem dX11_thing_168 : decode cX11_thing 168 = .ok (.iload_n 1, 1) := by decide +kernel
theorem dX11_thing_169 : decode cX11_thing 169 = .ok (.iaload, 1) := by decide +kernel
theorem dX11_thing_170 : decode cX11_thing 170 = .ok (.ireturn, 1) := by decide +kernel
theorem dX11_trouble_0 : decode cX11_trouble 0 = .ok (.aload_n 0, 1) := by decide +kernel
theorem dX11_trouble_1 : decode cX11_trouble 1 = .ok (.iload_n 1, 1) := by decide +kernel
theorem dX11_trouble_2 : decode cX11_trouble 2 = .ok (.invokevirtual 189, 3) := by decide +kernel
theorem dX11_trouble_5 : decode cX11_trouble 5 = .ok (.ifCond .eq 13, 3) := by decide +kernel
theorem dX11_trouble_8 : decode cX11_trouble 8 = .ok (.iload_n 2, 1) := by decide +kernel
theorem dX11_trouble_9 : decode cX11_trouble 9 = .ok (.ifCond .lt 9, 3) := by decide +kernel
theorem dX11_trouble_12 : decode cX11_trouble 12 = .ok (.iload_n 2, 1) := by decide +kernel
theorem dX11_trouble_13 : decode cX11_trouble 13 = .ok (.bipush 7, 2) := by decide +kernel
theorem dX11_trouble_15 : decode cX11_trouble 15 = .ok (.if_icmp .le 11, 3) := by decide +kernel
theorem dX11_trouble_18 : decode cX11_trouble 18 = .ok (.new 150, 3) := by decide +kernel
theorem dX11_trouble_21 : decode cX11_trouble 21 = .ok (.dup, 1) := by decide +kernel
theorem dX11_trouble_22 : decode cX11_trouble 22 = .ok (.invokespecial 152, 3) := by decide +kernel
theorem dX11_trouble_25 : decode cX11_trouble 25 = .ok (.athrow, 1) := by decide +kernel
theorem dX11_trouble_26 : decode cX11_trouble 26 = .ok (.aload_n 0, 1) := by decide +kernel
theorem dX11_trouble_27 : decode cX11_trouble 27 = .ok (.getfield 21, 3) := by decide +kernel
theorem dX11_trouble_30 : decode cX11_trouble 30 = .ok (.getfield 111, 3) := by decide +kernel
theorem dX11_trouble_33 : decode cX11_trouble 33 = .ok (.astore_n 3, 1) := by decide +kernel
theorem dX11_trouble_34 : decode cX11_trouble 34 = .ok (.aload_n 0, 1) := by decide +kernel
theorem dX11_trouble_35 : decode cX11_trouble 35 = .ok (.getfield 21, 3) := by decide +kernel
theorem dX11_trouble_38 : decode cX11_trouble 38 = .ok (.getfield 124, 3) := by decide +kernel
theorem dX11_trouble_41 : decode cX11_trouble 41 = .ok (.astore 4, 2) := by decide +kernel
theorem dX11_trouble_43 : decode cX11_trouble 43 = .ok (.iload_n 2, 1) := by decide +kernel
theorem dX11_trouble_44 : decode cX11_trouble 44 = .ok (.tableswitch 98 0 6 #[44, 51, 58, 65, 72, 82, 90], 44) := by decide +kernel
theorem dX11_trouble_88 : decode cX11_trouble 88 = .ok (.aload_n 3, 1) := by decide +kernel
theorem dX11_trouble_89 : decode cX11_trouble 89 = .ok (.getfield 192, 3) := by decide +kernel
theorem dX11_trouble_92 : decode cX11_trouble 92 = .ok (.iload_n 1, 1) := by decide +kernel
theorem dX11_trouble_93 : decode cX11_trouble 93 = .ok (.iaload, 1) := by decide +kernel
theorem dX11_trouble_94 : decode cX11_trouble 94 = .ok (.ireturn, 1) := by decide +kernel
theorem dX11_trouble_95 : decode cX11_trouble 95 = .ok (.aload_n 3, 1) := by decide +kernel
theorem dX11_trouble_96 : decode cX11_trouble 96 = .ok (.getfield 195, 3) := by decide +kernel
theorem dX11_trouble_99 : decode cX11_trouble 99 = .ok (.iload_n 1, 1) := by decide +kernel
theorem dX11_trouble_100 : decode cX11_trouble 100 = .ok (.iaload, 1) := by decide +kernel
theorem dX11_trouble_101 : decode cX11_trouble 101 = .ok (.ireturn, 1) := by decide +kernel
theorem dX11_trouble_102 : decode cX11_trouble 102 = .ok (.aload_n 3, 1) := by decide +kernel
theorem dX11_trouble_103 : decode cX11_trouble 103 = .ok (.getfield 198, 3) := by decide +kernel
theorem dX11_trouble_106 : decode cX11_trouble 106 = .ok (.iload_n 1, 1) := by decide +kernel
theorem dX11_trouble_107 : decode cX11_trouble 107 = .ok (.iaload, 1) := by decide +kernel
theorem dX11_trouble_108 : decode cX11_trouble 108 = .ok (.ireturn, 1) := by decide +kernel
theorem dX11_trouble_109 : decode cX11_trouble 109 = .ok (.aload_n 3, 1) := by decide +kernel
theorem dX11_trouble_110 : decode cX11_trouble 110 = .ok (.getfield 201, 3) := by decide +kernel
theorem dX11_trouble_113 : decode cX11_trouble 113 = .ok (.iload_n 1, 1) := by decide +kernel
theorem dX11_trouble_114 : decode cX11_trouble 114 = .ok (.iaload, 1) := by decide +kernel
theorem dX11_trouble_115 : decode cX11_trouble 115 = .ok (.ireturn, 1) := by decide +kernel
theorem dX11_trouble_116 : decode cX11_trouble 116 = .ok (.aload 4, 2) := by decide +kernel
theorem dX11_trouble_118 : decode cX11_trouble 118 = .ok (.getfield 175, 3) := by decide +kernel
theorem dX11_trouble_121 : decode cX11_trouble 121 = .ok (.iload_n 1, 1) := by decide +kernel
theorem dX11_trouble_122 : decode cX11_trouble 122 = .ok (.invokestatic 171, 3) := by decide +kernel
theorem dX11_trouble_125 : decode cX11_trouble 125 = .ok (.ireturn, 1) := by decide +kernel
theorem dX11_trouble_126 : decode cX11_trouble 126 = .ok (.aload 4, 2) := by decide +kernel
theorem dX11_trouble_128 : decode cX11_trouble 128 = .ok (.getfield 204, 3) := by decide +kernel
theorem dX11_trouble_131 : decode cX11_trouble 131 = .ok (.iload_n 1, 1) := by decide +kernel
end
section
theorem dX11_trouble_132 : decode cX11_trouble 132 = .ok (.iaload, 1) := by decide +kernel
theorem dX11_trouble_133 : decode cX11_trouble 133 = .ok (.ireturn, 1) := by decide +kernel
theorem dX11_trouble_134 : decode cX11_trouble 134 = .ok (.aload 4, 2) := by decide +kernel
theorem dX11_trouble_136 : decode cX11_trouble 136 = .ok (.getfield 207, 3) := by decide +kernel
theorem dX11_trouble_139 : decode cX11_trouble 139 = .ok (.iload_n 1, 1) := by decide +kernel
theorem dX11_trouble_140 : decode cX11_trouble 140 = .ok (.iaload, 1) := by decide +kernel
theorem dX11_trouble_141 : decode cX11_trouble 141 = .ok (.ireturn, 1) := by decide +kernel
theorem dX11_trouble_142 : decode cX11_trouble 142 = .ok (.aload 4, 2) := by decide +kernel
theorem dX11_trouble_144 : decode cX11_trouble 144 = .ok (.getfield 210, 3) := by decide +kernel
theorem dX11_trouble_147 : decode cX11_trouble 147 = .ok (.iload_n 1, 1) := by decide +kernel
theorem dX11_trouble_148 : decode cX11_trouble 148 = .ok (.iaload, 1) := by decide +kernel
theorem dX11_trouble_149 : decode cX11_trouble 149 = .ok (.ireturn, 1) := by decide +kernel
theorem dX11_cures_0 : decode cX11_cures 0 = .ok (.aload_n 0, 1) := by decide +kernel
theorem dX11_cures_1 : decode cX11_cures 1 = .ok (.iload_n 1, 1) := by decide +kernel
theorem dX11_cures_2 : decode cX11_cures 2 = .ok (.invokevirtual 189, 3) := by decide +kernel
theorem dX11_cures_5 : decode cX11_cures 5 = .ok (.ifCond .eq 12, 3) := by decide +kernel
theorem dX11_cures_8 : decode cX11_cures 8 = .ok (.iload_n 2, 1) := by decide +kernel
theorem dX11_cures_9 : decode cX11_cures 9 = .ok (.ifCond .lt 8, 3) := by decide +kernel
theorem dX11_cures_12 : decode cX11_cures 12 = .ok (.iload_n 2, 1) := by decide +kernel
theorem dX11_cures_13 : decode cX11_cures 13 = .ok (.iconst 3, 1) := by decide +kernel
theorem dX11_cures_14 : decode cX11_cures 14 = .ok (.if_icmp .lt 5, 3) := by decide +kernel
theorem dX11_cures_17 : decode cX11_cures 17 = .ok (.iconst (-1), 1) := by decide +kernel
theorem dX11_cures_18 : decode cX11_cures 18 = .ok (.ireturn, 1) := by decide +kernel
theorem dX11_cures_19 : decode cX11_cures 19 = .ok (.aload_n 0, 1) := by decide +kernel
theorem dX11_cures_20 : decode cX11_cures 20 = .ok (.getfield 21, 3) := by decide +kernel
theorem dX11_cures_23 : decode cX11_cures 23 = .ok (.getfield 111, 3) := by decide +kernel
theorem dX11_cures_26 : decode cX11_cures 26 = .ok (.iload_n 1, 1) := by decide +kernel
theorem dX11_cures_27 : decode cX11_cures 27 = .ok (.iload_n 2, 1) := by decide +kernel
theorem dX11_cures_28 : decode cX11_cures 28 = .ok (.invokevirtual 213, 3) := by decide +kernel
theorem dX11_cures_31 : decode cX11_cures 31 = .ok (.ireturn, 1) := by decide +kernel
theorem dX11_now_0 : decode cX11_now 0 = .ok (.aload_n 0, 1) := by decide +kernel
theorem dX11_now_1 : decode cX11_now 1 = .ok (.getfield 21, 3) := by decide +kernel
theorem dX11_now_4 : decode cX11_now 4 = .ok (.getfield 124, 3) := by decide +kernel
theorem dX11_now_7 : decode cX11_now 7 = .ok (.astore_n 2, 1) := by decide +kernel
theorem dX11_now_8 : decode cX11_now 8 = .ok (.iload_n 1, 1) := by decide +kernel
theorem dX11_now_9 : decode cX11_now 9 = .ok (.tableswitch 93 0 6 #[43, 48, 60, 73, 78, 83, 88], 43) := by decide +kernel
theorem dX11_now_52 : decode cX11_now 52 = .ok (.aload_n 2, 1) := by decide +kernel
theorem dX11_now_53 : decode cX11_now 53 = .ok (.getfield 216, 3) := by decide +kernel
theorem dX11_now_56 : decode cX11_now 56 = .ok (.ireturn, 1) := by decide +kernel
theorem dX11_now_57 : decode cX11_now 57 = .ok (.aload_n 2, 1) := by decide +kernel
theorem dX11_now_58 : decode cX11_now 58 = .ok (.aload_n 0, 1) := by decide +kernel
theorem dX11_now_59 : decode cX11_now 59 = .ok (.getfield 21, 3) := by decide +kernel
theorem dX11_now_62 : decode cX11_now 62 = .ok (.getfield 111, 3) := by decide +kernel
theorem dX11_now_65 : decode cX11_now 65 = .ok (.invokevirtual 182, 3) := by decide +kernel
theorem dX11_now_68 : decode cX11_now 68 = .ok (.ireturn, 1) := by decide +kernel
theorem dX11_now_69 : decode cX11_now 69 = .ok (.aload_n 2, 1) := by decide +kernel
theorem dX11_now_70 : decode cX11_now 70 = .ok (.aload_n 0, 1) := by decide +kernel
theorem dX11_now_71 : decode cX11_now 71 = .ok (.getfield 21, 3) := by decide +kernel
theorem dX11_now_74 : decode cX11_now 74 = .ok (.getfield 111, 3) := by decide +kernel
theorem dX11_now_77 : decode cX11_now 77 = .ok (.iconst 2, 1) := by decide +kernel
theorem dX11_now_78 : decode cX11_now 78 = .ok (.invokevirtual 219, 3) := by decide +kernel
theorem dX11_now_81 : decode cX11_now 81 = .ok (.ireturn, 1) := by decide +kernel
theorem dX11_now_82 : decode cX11_now 82 = .ok (.aload_n 2, 1) := by decide +kernel
theorem dX11_now_83 : decode cX11_now 83 = .ok (.getfield 175, 3) := by decide +kernel
theorem dX11_now_86 : decode cX11_now 86 = .ok (.ireturn, 1) := by decide +kernel
theorem dX11_now_87 : decode cX11_now 87 = .ok (.aload_n 2, 1) := by decide +kernel
theorem dX11_now_88 : decode cX11_now 88 = .ok (.getfield 223, 3) := by decide +kernel
theorem dX11_now_91 : decode cX11_now 91 = .ok (.ireturn, 1) := by decide +kernel
theorem dX11_now_92 : decode cX11_now 92 = .ok (.aload_n 2, 1) := by decide +kernel
theorem dX11_now_93 : decode cX11_now 93 = .ok (.getfield 226, 3) := by decide +kernel
theorem dX11_now_96 : decode cX11_now 96 = .ok (.ireturn, 1) := by decide +kernel
theorem dX11_now_97 : decode cX11_now 97 = .ok (.aload_n 2, 1) := by decide +kernel
theorem dX11_now_98 : decode cX11_now 98 = .ok (.getfield 229, 3) := by decide +kernel
theorem dX11_now_101 : decode cX11_now 101 = .ok (.ireturn, 1) := by decide +kernel
theorem dX11_now_102 : decode cX11_now 102 = .ok (.iconst (-1), 1) := by decide +kernel
theorem dX11_now_103 : decode cX11_now 103 = .ok (.ireturn, 1) := by decide +kernel
theorem dX11_off_0 : decode cX11_off 0 = .ok (.aload_n 0, 1) := by decide +kernel
theorem dX11_off_1 : decode cX11_off 1 = .ok (.iload_n 1, 1) := by decide +kernel
theorem dX11_off_2 : decode cX11_off 2 = .ok (.invokevirtual 146, 3) := by decide +kernel
theorem dX11_off_5 : decode cX11_off 5 = .ok (.ifCond .ne 5, 3) := by decide +kernel
theorem dX11_off_8 : decode cX11_off 8 = .ok (.iconst (-1), 1) := by decide +kernel
theorem dX11_off_9 : decode cX11_off 9 = .ok (.ireturn, 1) := by decide +kernel
theorem dX11_off_10 : decode cX11_off 10 = .ok (.aload_n 0, 1) := by decide +kernel
theorem dX11_off_11 : decode cX11_off 11 = .ok (.getfield 32, 3) := by decide +kernel
theorem dX11_off_14 : decode cX11_off 14 = .ok (.aload_n 0, 1) := by decide +kernel
theorem dX11_off_15 : decode cX11_off 15 = .ok (.getfield 21, 3) := by decide +kernel
theorem dX11_off_18 : decode cX11_off 18 = .ok (.getfield 124, 3) := by decide +kernel
theorem dX11_off_21 : decode cX11_off 21 = .ok (.invokevirtual 232, 3) := by decide +kernel
theorem dX11_off_24 : decode cX11_off 24 = .ok (.aload_n 0, 1) := by decide +kernel
theorem dX11_off_25 : decode cX11_off 25 = .ok (.aload_n 0, 1) := by decide +kernel
theorem dX11_off_26 : decode cX11_off 26 = .ok (.getfield 21, 3) := by decide +kernel
theorem dX11_off_29 : decode cX11_off 29 = .ok (.getfield 124, 3) := by decide +kernel
theorem dX11_off_32 : decode cX11_off 32 = .ok (.aload_n 0, 1) := by decide +kernel
theorem dX11_off_33 : decode cX11_off 33 = .ok (.getfield 21, 3) := by decide +kernel
theorem dX11_off_36 : decode cX11_off 36 = .ok (.getfield 111, 3) := by decide +kernel
theorem dX11_off_39 : decode cX11_off 39 = .ok (.iload_n 1, 1) := by decide +kernel
theorem dX11_off_40 : decode cX11_off 40 = .ok (.invokevirtual 236, 3) := by decide +kernel
theorem dX11_off_43 : decode cX11_off 43 = .ok (.invokevirtual 239, 3) := by decide +kernel
theorem dX11_off_46 : decode cX11_off 46 = .ok (.ireturn, 1) := by decide +kernel
theorem dX11_on_0 : decode cX11_on 0 = .ok (.aload_n 0, 1) := by decide +kernel
theorem dX11_on_1 : decode cX11_on 1 = .ok (.iload_n 1, 1) := by decide +kernel
theorem dX11_on_2 : decode cX11_on 2 = .ok (.invokevirtual 146, 3) := by decide +kernel
theorem dX11_on_5 : decode cX11_on 5 = .ok (.ifCond .ne 5, 3) := by decide +kernel
theorem dX11_on_8 : decode cX11_on 8 = .ok (.iconst (-1), 1) := by decide +kernel
theorem dX11_on_9 : decode cX11_on 9 = .ok (.ireturn, 1) := by decide +kernel
theorem dX11_on_10 : decode cX11_on 10 = .ok (.aload_n 0, 1) := by decide +kernel
theorem dX11_on_11 : decode cX11_on 11 = .ok (.getfield 32, 3) := by decide +kernel
theorem dX11_on_14 : decode cX11_on 14 = .ok (.aload_n 0, 1) := by decide +kernel
theorem dX11_on_15 : decode cX11_on 15 = .ok (.getfield 21, 3) := by decide +kernel
theorem dX11_on_18 : decode cX11_on 18 = .ok (.getfield 124, 3) := by decide +kernel
theorem dX11_on_21 : decode cX11_on 21 = .ok (.invokevirtual 232, 3) := by decide +kernel
theorem dX11_on_24 : decode cX11_on 24 = .ok (.aload_n 0, 1) := by decide +kernel
theorem dX11_on_25 : decode cX11_on 25 = .ok (.getfield 21, 3) := by decide +kernel
theorem dX11_on_28 : decode cX11_on 28 = .ok (.getfield 124, 3) := by decide +kernel
theorem dX11_on_31 : decode cX11_on 31 = .ok (.iload_n 2, 1) := by decide +kernel
theorem dX11_on_32 : decode cX11_on 32 = .ok (.putfield 243, 3) := by decide +kernel
theorem dX11_on_35 : decode cX11_on 35 = .ok (.aload_n 0, 1) := by decide +kernel
theorem dX11_on_36 : decode cX11_on 36 = .ok (.aload_n 0, 1) := by decide +kernel
theorem dX11_on_37 : decode cX11_on 37 = .ok (.getfield 21, 3) := by decide +kernel
theorem dX11_on_40 : decode cX11_on 40 = .ok (.getfield 124, 3) := by decide +kernel
theorem dX11_on_43 : decode cX11_on 43 = .ok (.aload_n 0, 1) := by decide +kernel
theorem dX11_on_44 : decode cX11_on 44 = .ok (.getfield 21, 3) := by decide +kernel
theorem dX11_on_47 : decode cX11_on 47 = .ok (.getfield 111, 3) := by decide +kernel
theorem dX11_on_50 : decode cX11_on 50 = .ok (.iload_n 1, 1) := by decide +kernel
theorem dX11_on_51 : decode cX11_on 51 = .ok (.invokevirtual 246, 3) := by decide +kernel
theorem dX11_on_54 : decode cX11_on 54 = .ok (.invokevirtual 239, 3) := by decide +kernel
theorem dX11_on_57 : decode cX11_on 57 = .ok (.ireturn, 1) := by decide +kernel
theorem dX11_cable_0 : decode cX11_cable 0 = .ok (.aload_n 0, 1) := by decide +kernel
theorem dX11_cable_1 : decode cX11_cable 1 = .ok (.iload_n 1, 1) := by decide +kernel
theorem dX11_cable_2 : decode cX11_cable 2 = .ok (.invokevirtual 146, 3) := by decide +kernel
theorem dX11_cable_5 : decode cX11_cable 5 = .ok (.ifCond .ne 5, 3) := by decide +kernel
theorem dX11_cable_8 : decode cX11_cable 8 = .ok (.iconst (-1), 1) := by decide +kernel
theorem dX11_cable_9 : decode cX11_cable 9 = .ok (.ireturn, 1) := by decide +kernel
theorem dX11_cable_10 : decode cX11_cable 10 = .ok (.aload_n 0, 1) := by decide +kernel
theorem dX11_cable_11 : decode cX11_cable 11 = .ok (.getfield 32, 3) := by decide +kernel
theorem dX11_cable_14 : decode cX11_cable 14 = .ok (.aload_n 0, 1) := by decide +kernel
theorem dX11_cable_15 : decode cX11_cable 15 = .ok (.getfield 21, 3) := by decide +kernel
theorem dX11_cable_18 : decode cX11_cable 18 = .ok (.getfield 124, 3) := by decide +kernel
theorem dX11_cable_21 : decode cX11_cable 21 = .ok (.invokevirtual 232, 3) := by decide +kernel
theorem dX11_cable_24 : decode cX11_cable 24 = .ok (.aload_n 0, 1) := by decide +kernel
theorem dX11_cable_25 : decode cX11_cable 25 = .ok (.getfield 21, 3) := by decide +kernel
theorem dX11_cable_28 : decode cX11_cable 28 = .ok (.getfield 124, 3) := by decide +kernel
theorem dX11_cable_31 : decode cX11_cable 31 = .ok (.iload_n 2, 1) := by decide +kernel
theorem dX11_cable_32 : decode cX11_cable 32 = .ok (.putfield 243, 3) := by decide +kernel
theorem dX11_cable_35 : decode cX11_cable 35 = .ok (.aload_n 0, 1) := by decide +kernel
theorem dX11_cable_36 : decode cX11_cable 36 = .ok (.aload_n 0, 1) := by decide +kernel
theorem dX11_cable_37 : decode cX11_cable 37 = .ok (.getfield 21, 3) := by decide +kernel
theorem dX11_cable_40 : decode cX11_cable 40 = .ok (.getfield 124, 3) := by decide +kernel
theorem dX11_cable_43 : decode cX11_cable 43 = .ok (.aload_n 0, 1) := by decide +kernel
theorem dX11_cable_44 : decode cX11_cable 44 = .ok (.getfield 21, 3) := by decide +kernel
theorem dX11_cable_47 : decode cX11_cable 47 = .ok (.getfield 111, 3) := by decide +kernel
theorem dX11_cable_50 : decode cX11_cable 50 = .ok (.iload_n 1, 1) := by decide +kernel
theorem dX11_cable_51 : decode cX11_cable 51 = .ok (.invokevirtual 249, 3) := by decide +kernel
theorem dX11_cable_54 : decode cX11_cable 54 = .ok (.invokevirtual 239, 3) := by decide +kernel
theorem dX11_cable_57 : decode cX11_cable 57 = .ok (.ireturn, 1) := by decide +kernel
theorem dX11_pin_0 : decode cX11_pin 0 = .ok (.aload_n 0, 1) := by decide +kernel
theorem dX11_pin_1 : decode cX11_pin 1 = .ok (.iload_n 1, 1) := by decide +kernel
theorem dX11_pin_2 : decode cX11_pin 2 = .ok (.invokevirtual 146, 3) := by decide +kernel
theorem dX11_pin_5 : decode cX11_pin 5 = .ok (.ifCond .ne 5, 3) := by decide +kernel
theorem dX11_pin_8 : decode cX11_pin 8 = .ok (.iconst (-1), 1) := by decide +kernel
theorem dX11_pin_9 : decode cX11_pin 9 = .ok (.ireturn, 1) := by decide +kernel
theorem dX11_pin_10 : decode cX11_pin 10 = .ok (.aload_n 0, 1) := by decide +kernel
theorem dX11_pin_11 : decode cX11_pin 11 = .ok (.getfield 32, 3) := by decide +kernel
theorem dX11_pin_14 : decode cX11_pin 14 = .ok (.aload_n 0, 1) := by decide +kernel
theorem dX11_pin_15 : decode cX11_pin 15 = .ok (.getfield 21, 3) := by decide +kernel
theorem dX11_pin_18 : decode cX11_pin 18 = .ok (.getfield 124, 3) := by decide +kernel
theorem dX11_pin_21 : decode cX11_pin 21 = .ok (.invokevirtual 232, 3) := by decide +kernel
theorem dX11_pin_24 : decode cX11_pin 24 = .ok (.aload_n 0, 1) := by decide +kernel
theorem dX11_pin_25 : decode cX11_pin 25 = .ok (.getfield 21, 3) := by decide +kernel
theorem dX11_pin_28 : decode cX11_pin 28 = .ok (.getfield 124, 3) := by decide +kernel
theorem dX11_pin_31 : decode cX11_pin 31 = .ok (.iload_n 2, 1) := by decide +kernel
theorem dX11_pin_32 : decode cX11_pin 32 = .ok (.putfield 243, 3) := by decide +kernel
theorem dX11_pin_35 : decode cX11_pin 35 = .ok (.aload_n 0, 1) := by decide +kernel
theorem dX11_pin_36 : decode cX11_pin 36 = .ok (.aload_n 0, 1) := by decide +kernel
theorem dX11_pin_37 : decode cX11_pin 37 = .ok (.getfield 21, 3) := by decide +kernel
theorem dX11_pin_40 : decode cX11_pin 40 = .ok (.getfield 124, 3) := by decide +kernel
theorem dX11_pin_43 : decode cX11_pin 43 = .ok (.aload_n 0, 1) := by decide +kernel
theorem dX11_pin_44 : decode cX11_pin 44 = .ok (.getfield 21, 3) := by decide +kernel
theorem dX11_pin_47 : decode cX11_pin 47 = .ok (.getfield 111, 3) := by decide +kernel
theorem dX11_pin_50 : decode cX11_pin 50 = .ok (.iload_n 1, 1) := by decide +kernel
theorem dX11_pin_51 : decode cX11_pin 51 = .ok (.invokevirtual 252, 3) := by decide +kernel
theorem dX11_pin_54 : decode cX11_pin 54 = .ok (.invokevirtual 239, 3) := by decide +kernel
theorem dX11_pin_57 : decode cX11_pin 57 = .ok (.ireturn, 1) := by decide +kernel
theorem dX11_strike_0 : decode cX11_strike 0 = .ok (.aload_n 0, 1) := by decide +kernel
theorem dX11_strike_1 : decode cX11_strike 1 = .ok (.iload_n 1, 1) := by decide +kernel
theorem dX11_strike_2 : decode cX11_strike 2 = .ok (.invokevirtual 189, 3) := by decide +kernel
theorem dX11_strike_5 : decode cX11_strike 5 = .ok (.ifCond .ne 5, 3) := by decide +kernel
theorem dX11_strike_8 : decode cX11_strike 8 = .ok (.iconst (-1), 1) := by decide +kernel
theorem dX11_strike_9 : decode cX11_strike 9 = .ok (.ireturn, 1) := by decide +kernel
theorem dX11_strike_10 : decode cX11_strike 10 = .ok (.aload_n 0, 1) := by decide +kernel
theorem dX11_strike_11 : decode cX11_strike 11 = .ok (.getfield 32, 3) := by decide +kernel
theorem dX11_strike_14 : decode cX11_strike 14 = .ok (.aload_n 0, 1) := by decide +kernel
theorem dX11_strike_15 : decode cX11_strike 15 = .ok (.getfield 21, 3) := by decide +kernel
theorem dX11_strike_18 : decode cX11_strike 18 = .ok (.getfield 124, 3) := by decide +kernel
theorem dX11_strike_21 : decode cX11_strike 21 = .ok (.invokevirtual 232, 3) := by decide +kernel
theorem dX11_strike_24 : decode cX11_strike 24 = .ok (.aload_n 0, 1) := by decide +kernel
theorem dX11_strike_25 : decode cX11_strike 25 = .ok (.aload_n 0, 1) := by decide +kernel
theorem dX11_strike_26 : decode cX11_strike 26 = .ok (.getfield 21, 3) := by decide +kernel
theorem dX11_strike_29 : decode cX11_strike 29 = .ok (.getfield 124, 3) := by decide +kernel
theorem dX11_strike_32 : decode cX11_strike 32 = .ok (.iload_n 1, 1) := by decide +kernel
theorem dX11_strike_33 : decode cX11_strike 33 = .ok (.invokevirtual 255, 3) := by decide +kernel
theorem dX11_strike_36 : decode cX11_strike 36 = .ok (.invokevirtual 239, 3) := by decide +kernel
theorem dX11_strike_39 : decode cX11_strike 39 = .ok (.ireturn, 1) := by decide +kernel
theorem dX11_minutes_0 : decode cX11_minutes 0 = .ok (.iload_n 1, 1) := by decide +kernel
theorem dX11_minutes_1 : decode cX11_minutes 1 = .ok (.iconst 1, 1) := by decide +kernel
theorem dX11_minutes_2 : decode cX11_minutes 2 = .ok (.if_icmp .lt 9, 3) := by decide +kernel
theorem dX11_minutes_5 : decode cX11_minutes 5 = .ok (.iload_n 1, 1) := by decide +kernel
theorem dX11_minutes_6 : decode cX11_minutes 6 = .ok (.bipush 60, 2) := by decide +kernel
theorem dX11_minutes_8 : decode cX11_minutes 8 = .ok (.if_icmp .le 5, 3) := by decide +kernel
theorem dX11_minutes_11 : decode cX11_minutes 11 = .ok (.iconst (-1), 1) := by decide +kernel
theorem dX11_minutes_12 : decode cX11_minutes 12 = .ok (.ireturn, 1) := by decide +kernel
theorem dX11_minutes_13 : decode cX11_minutes 13 = .ok (.aload_n 0, 1) := by decide +kernel
theorem dX11_minutes_14 : decode cX11_minutes 14 = .ok (.getfield 32, 3) := by decide +kernel
theorem dX11_minutes_17 : decode cX11_minutes 17 = .ok (.aload_n 0, 1) := by decide +kernel
theorem dX11_minutes_18 : decode cX11_minutes 18 = .ok (.getfield 21, 3) := by decide +kernel
theorem dX11_minutes_21 : decode cX11_minutes 21 = .ok (.getfield 124, 3) := by decide +kernel
theorem dX11_minutes_24 : decode cX11_minutes 24 = .ok (.invokevirtual 232, 3) := by decide +kernel
theorem dX11_minutes_27 : decode cX11_minutes 27 = .ok (.aload_n 0, 1) := by decide +kernel
theorem dX11_minutes_28 : decode cX11_minutes 28 = .ok (.getfield 21, 3) := by decide +kernel
theorem dX11_minutes_31 : decode cX11_minutes 31 = .ok (.getfield 124, 3) := by decide +kernel
theorem dX11_minutes_34 : decode cX11_minutes 34 = .ok (.aload_n 0, 1) := by decide +kernel
theorem dX11_minutes_35 : decode cX11_minutes 35 = .ok (.getfield 21, 3) := by decide +kernel
theorem dX11_minutes_38 : decode cX11_minutes 38 = .ok (.getfield 111, 3) := by decide +kernel
theorem dX11_minutes_41 : decode cX11_minutes 41 = .ok (.iload_n 1, 1) := by decide +kernel
theorem dX11_minutes_42 : decode cX11_minutes 42 = .ok (.invokevirtual 258, 3) := by decide +kernel
theorem dX11_minutes_45 : decode cX11_minutes 45 = .ok (.istore_n 2, 1) := by decide +kernel
theorem dX11_minutes_46 : decode cX11_minutes 46 = .ok (.iload_n 2, 1) := by decide +kernel
theorem dX11_minutes_47 : decode cX11_minutes 47 = .ok (.ifCond .le 10, 3) := by decide +kernel
theorem dX11_minutes_50 : decode cX11_minutes 50 = .ok (.aload_n 0, 1) := by decide +kernel
theorem dX11_minutes_51 : decode cX11_minutes 51 = .ok (.getfield 32, 3) := by decide +kernel
theorem dX11_minutes_54 : decode cX11_minutes 54 = .ok (.invokevirtual 261, 3) := by decide +kernel
theorem dX11_minutes_57 : decode cX11_minutes 57 = .ok (.iload_n 2, 1) := by decide +kernel
theorem dX11_minutes_58 : decode cX11_minutes 58 = .ok (.ireturn, 1) := by decide +kernel
theorem dX11_undo_0 : decode cX11_undo 0 = .ok (.aload_n 0, 1) := by decide +kernel
theorem dX11_undo_1 : decode cX11_undo 1 = .ok (.getfield 32, 3) := by decide +kernel
theorem dX11_undo_4 : decode cX11_undo 4 = .ok (.aload_n 0, 1) := by decide +kernel
theorem dX11_undo_5 : decode cX11_undo 5 = .ok (.getfield 21, 3) := by decide +kernel
theorem dX11_undo_8 : decode cX11_undo 8 = .ok (.getfield 124, 3) := by decide +kernel
theorem dX11_undo_11 : decode cX11_undo 11 = .ok (.invokevirtual 264, 3) := by decide +kernel
theorem dX11_undo_14 : decode cX11_undo 14 = .ok (.ireturn, 1) := by decide +kernel
theorem dX11_what_0 : decode cX11_what 0 = .ok (.aload_n 0, 1) := by decide +kernel
theorem dX11_what_1 : decode cX11_what 1 = .ok (.invokevirtual 268, 3) := by decide +kernel
theorem dX11_what_4 : decode cX11_what 4 = .ok (.istore_n 1, 1) := by decide +kernel
theorem dX11_what_5 : decode cX11_what 5 = .ok (.aload_n 0, 1) := by decide +kernel
theorem dX11_what_6 : decode cX11_what 6 = .ok (.getfield 14, 3) := by decide +kernel
theorem dX11_what_9 : decode cX11_what 9 = .ok (.iconst 0, 1) := by decide +kernel
theorem dX11_what_10 : decode cX11_what 10 = .ok (.putfield 88, 3) := by decide +kernel
theorem dX11_what_13 : decode cX11_what 13 = .ok (.iload_n 1, 1) := by decide +kernel
theorem dX11_what_14 : decode cX11_what 14 = .ok (.ifCond .le 29, 3) := by decide +kernel
theorem dX11_what_17 : decode cX11_what 17 = .ok (.aload_n 0, 1) := by decide +kernel
theorem dX11_what_18 : decode cX11_what 18 = .ok (.iload_n 1, 1) := by decide +kernel
theorem dX11_what_19 : decode cX11_what 19 = .ok (.putfield 272, 3) := by decide +kernel
theorem dX11_what_22 : decode cX11_what 22 = .ok (.aload_n 0, 1) := by decide +kernel
theorem dX11_what_23 : decode cX11_what 23 = .ok (.getfield 21, 3) := by decide +kernel
theorem dX11_what_26 : decode cX11_what 26 = .ok (.getfield 111, 3) := by decide +kernel
theorem dX11_what_29 : decode cX11_what 29 = .ok (.getfield 198, 3) := by decide +kernel
theorem dX11_what_32 : decode cX11_what 32 = .ok (.iconst 0, 1) := by decide +kernel
theorem dX11_what_33 : decode cX11_what 33 = .ok (.aload_n 0, 1) := by decide +kernel
theorem dX11_what_34 : decode cX11_what 34 = .ok (.getfield 74, 3) := by decide +kernel
theorem dX11_what_37 : decode cX11_what 37 = .ok (.iconst 0, 1) := by decide +kernel
theorem dX11_what_38 : decode cX11_what 38 = .ok (.bipush 8, 2) := by decide +kernel
theorem dX11_what_40 : decode cX11_what 40 = .ok (.invokestatic 275, 3) := by decide +kernel
theorem dX11_what_43 : decode cX11_what 43 = .ok (.iload_n 1, 1) := by decide +kernel
theorem dX11_what_44 : decode cX11_what 44 = .ok (.ireturn, 1) := by decide +kernel
theorem dX11_likely_0 : decode cX11_likely 0 = .ok (.aload_n 0, 1) := by decide +kernel
theorem dX11_likely_1 : decode cX11_likely 1 = .ok (.iload_n 1, 1) := by decide +kernel
theorem dX11_likely_2 : decode cX11_likely 2 = .ok (.invokevirtual 189, 3) := by decide +kernel
theorem dX11_likely_5 : decode cX11_likely 5 = .ok (.ifCond .eq 23, 3) := by decide +kernel
theorem dX11_likely_8 : decode cX11_likely 8 = .ok (.aload_n 0, 1) := by decide +kernel
theorem dX11_likely_9 : decode cX11_likely 9 = .ok (.getfield 272, 3) := by decide +kernel
theorem dX11_likely_12 : decode cX11_likely 12 = .ok (.iload_n 1, 1) := by decide +kernel
theorem dX11_likely_13 : decode cX11_likely 13 = .ok (.invokestatic 171, 3) := by decide +kernel
theorem dX11_likely_16 : decode cX11_likely 16 = .ok (.ifCond .eq 12, 3) := by decide +kernel
theorem dX11_likely_19 : decode cX11_likely 19 = .ok (.iload_n 2, 1) := by decide +kernel
theorem dX11_likely_20 : decode cX11_likely 20 = .ok (.ifCond .lt 8, 3) := by decide +kernel
theorem dX11_likely_23 : decode cX11_likely 23 = .ok (.iload_n 2, 1) := by decide +kernel
theorem dX11_likely_24 : decode cX11_likely 24 = .ok (.iconst 1, 1) := by decide +kernel
theorem dX11_likely_25 : decode cX11_likely 25 = .ok (.if_icmp .le 11, 3) := by decide +kernel
theorem dX11_likely_28 : decode cX11_likely 28 = .ok (.new 150, 3) := by decide +kernel
theorem dX11_likely_31 : decode cX11_likely 31 = .ok (.dup, 1) := by decide +kernel
theorem dX11_likely_32 : decode cX11_likely 32 = .ok (.invokespecial 152, 3) := by decide +kernel
theorem dX11_likely_35 : decode cX11_likely 35 = .ok (.athrow, 1) := by decide +kernel
theorem dX11_likely_36 : decode cX11_likely 36 = .ok (.iconst 0, 1) := by decide +kernel
theorem dX11_likely_37 : decode cX11_likely 37 = .ok (.istore_n 3, 1) := by decide +kernel
theorem dX11_likely_38 : decode cX11_likely 38 = .ok (.iconst 0, 1) := by decide +kernel
theorem dX11_likely_39 : decode cX11_likely 39 = .ok (.istore 4, 2) := by decide +kernel
theorem dX11_likely_41 : decode cX11_likely 41 = .ok (.iload 4, 2) := by decide +kernel
theorem dX11_likely_43 : decode cX11_likely 43 = .ok (.bipush 8, 2) := by decide +kernel
theorem dX11_likely_45 : decode cX11_likely 45 = .ok (.if_icmp .ge 29, 3) := by decide +kernel
theorem dX11_likely_48 : decode cX11_likely 48 = .ok (.iload_n 3, 1) := by decide +kernel
theorem dX11_likely_49 : decode cX11_likely 49 = .ok (.aload_n 0, 1) := by decide +kernel
theorem dX11_likely_50 : decode cX11_likely 50 = .ok (.getfield 272, 3) := by decide +kernel
theorem dX11_likely_53 : decode cX11_likely 53 = .ok (.iload 4, 2) := by decide +kernel
theorem dX11_likely_55 : decode cX11_likely 55 = .ok (.invokestatic 171, 3) := by decide +kernel
theorem dX11_likely_58 : decode cX11_likely 58 = .ok (.aload_n 0, 1) := by decide +kernel
theorem dX11_likely_59 : decode cX11_likely 59 = .ok (.getfield 74, 3) := by decide +kernel
theorem dX11_likely_62 : decode cX11_likely 62 = .ok (.iload 4, 2) := by decide +kernel
theorem dX11_likely_64 : decode cX11_likely 64 = .ok (.iaload, 1) := by decide +kernel
theorem dX11_likely_65 : decode cX11_likely 65 = .ok (.imul, 1) := by decide +kernel
theorem dX11_likely_66 : decode cX11_likely 66 = .ok (.iadd, 1) := by decide +kernel
theorem dX11_likely_67 : decode cX11_likely 67 = .ok (.istore_n 3, 1) := by decide +kernel
theorem dX11_likely_68 : decode cX11_likely 68 = .ok (.iinc 4 1, 3) := by decide +kernel
theorem dX11_likely_71 : decode cX11_likely 71 = .ok (.goto (-30), 3) := by decide +kernel
theorem dX11_likely_74 : decode cX11_likely 74 = .ok (.aload_n 0, 1) := by decide +kernel
theorem dX11_likely_75 : decode cX11_likely 75 = .ok (.getfield 74, 3) := by decide +kernel
theorem dX11_likely_78 : decode cX11_likely 78 = .ok (.iload_n 1, 1) := by decide +kernel
theorem dX11_likely_79 : decode cX11_likely 79 = .ok (.iaload, 1) := by decide +kernel
theorem dX11_likely_80 : decode cX11_likely 80 = .ok (.iload_n 3, 1) := by decide +kernel
theorem dX11_likely_81 : decode cX11_likely 81 = .ok (.iload_n 2, 1) := by decide +kernel
theorem dX11_likely_82 : decode cX11_likely 82 = .ok (.invokestatic 281, 3) := by decide +kernel
theorem dX11_likely_85 : decode cX11_likely 85 = .ok (.ireturn, 1) := by decide +kernel
theorem dX11_plan_0 : decode cX11_plan 0 = .ok (.aload_n 0, 1) := by decide +kernel
theorem dX11_plan_1 : decode cX11_plan 1 = .ok (.iload_n 1, 1) := by decide +kernel
theorem dX11_plan_2 : decode cX11_plan 2 = .ok (.invokevirtual 146, 3) := by decide +kernel
theorem dX11_plan_5 : decode cX11_plan 5 = .ok (.ifCond .eq 35, 3) := by decide +kernel
theorem dX11_plan_8 : decode cX11_plan 8 = .ok (.iload_n 2, 1) := by decide +kernel
theorem dX11_plan_9 : decode cX11_plan 9 = .ok (.ifCond .eq 31, 3) := by decide +kernel
theorem dX11_plan_12 : decode cX11_plan 12 = .ok (.iload_n 3, 1) := by decide +kernel
theorem dX11_plan_13 : decode cX11_plan 13 = .ok (.ifCond .lt 27, 3) := by decide +kernel
theorem dX11_plan_16 : decode cX11_plan 16 = .ok (.iload_n 3, 1) := by decide +kernel
theorem dX11_plan_17 : decode cX11_plan 17 = .ok (.iconst 1, 1) := by decide +kernel
theorem dX11_plan_18 : decode cX11_plan 18 = .ok (.if_icmp .gt 22, 3) := by decide +kernel
theorem dX11_plan_21 : decode cX11_plan 21 = .ok (.iload_n 2, 1) := by decide +kernel
theorem dX11_plan_22 : decode cX11_plan 22 = .ok (.aload_n 0, 1) := by decide +kernel
theorem dX11_plan_23 : decode cX11_plan 23 = .ok (.getfield 21, 3) := by decide +kernel
theorem dX11_plan_26 : decode cX11_plan 26 = .ok (.getfield 111, 3) := by decide +kernel
theorem dX11_plan_29 : decode cX11_plan 29 = .ok (.getfield 285, 3) := by decide +kernel
theorem dX11_plan_32 : decode cX11_plan 32 = .ok (.iload_n 1, 1) := by decide +kernel
theorem dX11_plan_33 : decode cX11_plan 33 = .ok (.iaload, 1) := by decide +kernel
theorem dX11_plan_34 : decode cX11_plan 34 = .ok (.iconst (-1), 1) := by decide +kernel
theorem dX11_plan_35 : decode cX11_plan 35 = .ok (.ixor, 1) := by decide +kernel
theorem dX11_plan_36 : decode cX11_plan 36 = .ok (.iand, 1) := by decide +kernel
theorem dX11_plan_37 : decode cX11_plan 37 = .ok (.ifCond .eq 11, 3) := by decide +kernel
theorem dX11_plan_40 : decode cX11_plan 40 = .ok (.new 150, 3) := by decide +kernel
theorem dX11_plan_43 : decode cX11_plan 43 = .ok (.dup, 1) := by decide +kernel
theorem dX11_plan_44 : decode cX11_plan 44 = .ok (.invokespecial 152, 3) := by decide +kernel
theorem dX11_plan_47 : decode cX11_plan 47 = .ok (.athrow, 1) := by decide +kernel
theorem dX11_plan_48 : decode cX11_plan 48 = .ok (.aload_n 0, 1) := by decide +kernel
theorem dX11_plan_49 : decode cX11_plan 49 = .ok (.getfield 67, 3) := by decide +kernel
theorem dX11_plan_52 : decode cX11_plan 52 = .ok (.aload_n 0, 1) := by decide +kernel
theorem dX11_plan_53 : decode cX11_plan 53 = .ok (.getfield 21, 3) := by decide +kernel
theorem dX11_plan_56 : decode cX11_plan 56 = .ok (.getfield 111, 3) := by decide +kernel
theorem dX11_plan_59 : decode cX11_plan 59 = .ok (.iload_n 1, 1) := by decide +kernel
theorem dX11_plan_60 : decode cX11_plan 60 = .ok (.iload_n 2, 1) := by decide +kernel
theorem dX11_plan_61 : decode cX11_plan 61 = .ok (.invokevirtual 288, 3) := by decide +kernel
theorem dX11_plan_64 : decode cX11_plan 64 = .ok (.aload_n 0, 1) := by decide +kernel
theorem dX11_plan_65 : decode cX11_plan 65 = .ok (.getfield 67, 3) := by decide +kernel
theorem dX11_plan_68 : decode cX11_plan 68 = .ok (.getfield 292, 3) := by decide +kernel
theorem dX11_plan_71 : decode cX11_plan 71 = .ok (.aload_n 0, 1) := by decide +kernel
theorem dX11_plan_72 : decode cX11_plan 72 = .ok (.getfield 67, 3) := by decide +kernel
theorem dX11_plan_75 : decode cX11_plan 75 = .ok (.getfield 295, 3) := by decide +kernel
theorem dX11_plan_78 : decode cX11_plan 78 = .ok (.iload_n 3, 1) := by decide +kernel
theorem dX11_plan_79 : decode cX11_plan 79 = .ok (.invokestatic 281, 3) := by decide +kernel
theorem dX11_plan_82 : decode cX11_plan 82 = .ok (.ireturn, 1) := by decide +kernel
theorem dX11_planAt_0 : decode cX11_planAt 0 = .ok (.iload_n 1, 1) := by decide +kernel
theorem dX11_planAt_1 : decode cX11_planAt 1 = .ok (.ifCond .lt 26, 3) := by decide +kernel
theorem dX11_planAt_4 : decode cX11_planAt 4 = .ok (.iload_n 1, 1) := by decide +kernel
theorem dX11_planAt_5 : decode cX11_planAt 5 = .ok (.aload_n 0, 1) := by decide +kernel
theorem dX11_planAt_6 : decode cX11_planAt 6 = .ok (.getfield 67, 3) := by decide +kernel
theorem dX11_planAt_9 : decode cX11_planAt 9 = .ok (.getfield 298, 3) := by decide +kernel
theorem dX11_planAt_12 : decode cX11_planAt 12 = .ok (.if_icmp .ge 15, 3) := by decide +kernel
theorem dX11_planAt_15 : decode cX11_planAt 15 = .ok (.aload_n 0, 1) := by decide +kernel
theorem dX11_planAt_16 : decode cX11_planAt 16 = .ok (.getfield 67, 3) := by decide +kernel
theorem dX11_planAt_19 : decode cX11_planAt 19 = .ok (.getfield 301, 3) := by decide +kernel
theorem dX11_planAt_22 : decode cX11_planAt 22 = .ok (.iload_n 1, 1) := by decide +kernel
theorem dX11_planAt_23 : decode cX11_planAt 23 = .ok (.iaload, 1) := by decide +kernel
theorem dX11_planAt_24 : decode cX11_planAt 24 = .ok (.goto 4, 3) := by decide +kernel
theorem dX11_planAt_27 : decode cX11_planAt 27 = .ok (.iconst (-1), 1) := by decide +kernel
theorem dX11_planAt_28 : decode cX11_planAt 28 = .ok (.ireturn, 1) := by decide +kernel
theorem dX11_ready_0 : decode cX11_ready 0 = .ok (.aload_n 0, 1) := by decide +kernel
theorem dX11_ready_1 : decode cX11_ready 1 = .ok (.iload_n 1, 1) := by decide +kernel
theorem dX11_ready_2 : decode cX11_ready 2 = .ok (.invokevirtual 146, 3) := by decide +kernel
theorem dX11_ready_5 : decode cX11_ready 5 = .ok (.ifCond .eq 17, 3) := by decide +kernel
theorem dX11_ready_8 : decode cX11_ready 8 = .ok (.aload_n 0, 1) := by decide +kernel
theorem dX11_ready_9 : decode cX11_ready 9 = .ok (.getfield 21, 3) := by decide +kernel
theorem dX11_ready_12 : decode cX11_ready 12 = .ok (.getfield 111, 3) := by decide +kernel
theorem dX11_ready_15 : decode cX11_ready 15 = .ok (.iload_n 1, 1) := by decide +kernel
theorem dX11_ready_16 : decode cX11_ready 16 = .ok (.invokevirtual 304, 3) := by decide +kernel
theorem dX11_ready_19 : decode cX11_ready 19 = .ok (.goto 4, 3) := by decide +kernel
theorem dX11_ready_22 : decode cX11_ready 22 = .ok (.iconst (-1), 1) := by decide +kernel
theorem dX11_ready_23 : decode cX11_ready 23 = .ok (.ireturn, 1) := by decide +kernel
theorem dX11_starts_0 : decode cX11_starts 0 = .ok (.aload_n 0, 1) := by decide +kernel
theorem dX11_starts_1 : decode cX11_starts 1 = .ok (.iload_n 1, 1) := by decide +kernel
theorem dX11_starts_2 : decode cX11_starts 2 = .ok (.invokevirtual 146, 3) := by decide +kernel
theorem dX11_starts_5 : decode cX11_starts 5 = .ok (.ifCond .eq 30, 3) := by decide +kernel
theorem dX11_starts_8 : decode cX11_starts 8 = .ok (.aload_n 0, 1) := by decide +kernel
theorem dX11_starts_9 : decode cX11_starts 9 = .ok (.getfield 21, 3) := by decide +kernel
theorem dX11_starts_12 : decode cX11_starts 12 = .ok (.getfield 111, 3) := by decide +kernel
theorem dX11_starts_15 : decode cX11_starts 15 = .ok (.iload_n 1, 1) := by decide +kernel
theorem dX11_starts_16 : decode cX11_starts 16 = .ok (.invokevirtual 304, 3) := by decide +kernel
theorem dX11_starts_19 : decode cX11_starts 19 = .ok (.aload_n 0, 1) := by decide +kernel
theorem dX11_starts_20 : decode cX11_starts 20 = .ok (.getfield 21, 3) := by decide +kernel
theorem dX11_starts_23 : decode cX11_starts 23 = .ok (.getfield 111, 3) := by decide +kernel
theorem dX11_starts_26 : decode cX11_starts 26 = .ok (.getfield 153, 3) := by decide +kernel
theorem dX11_starts_29 : decode cX11_starts 29 = .ok (.iload_n 1, 1) := by decide +kernel
theorem dX11_starts_30 : decode cX11_starts 30 = .ok (.iaload, 1) := by decide +kernel
theorem dX11_starts_31 : decode cX11_starts 31 = .ok (.isub, 1) := by decide +kernel
theorem dX11_starts_32 : decode cX11_starts 32 = .ok (.goto 4, 3) := by decide +kernel
theorem dX11_starts_35 : decode cX11_starts 35 = .ok (.iconst (-1), 1) := by decide +kernel
theorem dX11_starts_36 : decode cX11_starts 36 = .ok (.ireturn, 1) := by decide +kernel
theorem dX11_helped_0 : decode cX11_helped 0 = .ok (.aload_n 0, 1) := by decide +kernel
theorem dX11_helped_1 : decode cX11_helped 1 = .ok (.invokevirtual 307, 3) := by decide +kernel
theorem dX11_helped_4 : decode cX11_helped 4 = .ok (.istore_n 1, 1) := by decide +kernel
theorem dX11_helped_5 : decode cX11_helped 5 = .ok (.iload_n 1, 1) := by decide +kernel
theorem dX11_helped_6 : decode cX11_helped 6 = .ok (.iconst (-1), 1) := by decide +kernel
theorem dX11_helped_7 : decode cX11_helped 7 = .ok (.if_icmp .ne 19, 3) := by decide +kernel
theorem dX11_helped_10 : decode cX11_helped 10 = .ok (.aload_n 0, 1) := by decide +kernel
theorem dX11_helped_11 : decode cX11_helped 11 = .ok (.getfield 14, 3) := by decide +kernel
theorem dX11_helped_14 : decode cX11_helped 14 = .ok (.iconst 0, 1) := by decide +kernel
theorem dX11_helped_15 : decode cX11_helped 15 = .ok (.putfield 88, 3) := by decide +kernel
end
section
theorem dX11_helped_18 : decode cX11_helped 18 = .ok (.new 150, 3) := by decide +kernel
theorem dX11_helped_21 : decode cX11_helped 21 = .ok (.dup, 1) := by decide +kernel
theorem dX11_helped_22 : decode cX11_helped 22 = .ok (.invokespecial 152, 3) := by decide +kernel
theorem dX11_helped_25 : decode cX11_helped 25 = .ok (.athrow, 1) := by decide +kernel
theorem dX11_helped_26 : decode cX11_helped 26 = .ok (.aload_n 0, 1) := by decide +kernel
theorem dX11_helped_27 : decode cX11_helped 27 = .ok (.aload_n 0, 1) := by decide +kernel
theorem dX11_helped_28 : decode cX11_helped 28 = .ok (.getfield 14, 3) := by decide +kernel
theorem dX11_helped_31 : decode cX11_helped 31 = .ok (.getfield 88, 3) := by decide +kernel
theorem dX11_helped_34 : decode cX11_helped 34 = .ok (.iconst 2, 1) := by decide +kernel
theorem dX11_helped_35 : decode cX11_helped 35 = .ok (.idiv, 1) := by decide +kernel
theorem dX11_helped_36 : decode cX11_helped 36 = .ok (.iload_n 1, 1) := by decide +kernel
theorem dX11_helped_37 : decode cX11_helped 37 = .ok (.invokevirtual 310, 3) := by decide +kernel
theorem dX11_helped_40 : decode cX11_helped 40 = .ok (.istore_n 2, 1) := by decide +kernel
theorem dX11_helped_41 : decode cX11_helped 41 = .ok (.aload_n 0, 1) := by decide +kernel
theorem dX11_helped_42 : decode cX11_helped 42 = .ok (.getfield 14, 3) := by decide +kernel
theorem dX11_helped_45 : decode cX11_helped 45 = .ok (.iconst 0, 1) := by decide +kernel
theorem dX11_helped_46 : decode cX11_helped 46 = .ok (.putfield 88, 3) := by decide +kernel
theorem dX11_helped_49 : decode cX11_helped 49 = .ok (.iload_n 2, 1) := by decide +kernel
theorem dX11_helped_50 : decode cX11_helped 50 = .ok (.ireturn, 1) := by decide +kernel
theorem dX11_lots_0 : decode cX11_lots 0 = .ok (.aload_n 0, 1) := by decide +kernel
theorem dX11_lots_1 : decode cX11_lots 1 = .ok (.getfield 81, 3) := by decide +kernel
theorem dX11_lots_4 : decode cX11_lots 4 = .ok (.ireturn, 1) := by decide +kernel
theorem dX11_alike_0 : decode cX11_alike 0 = .ok (.aload_n 0, 1) := by decide +kernel
theorem dX11_alike_1 : decode cX11_alike 1 = .ok (.iload_n 1, 1) := by decide +kernel
theorem dX11_alike_2 : decode cX11_alike 2 = .ok (.invokevirtual 189, 3) := by decide +kernel
theorem dX11_alike_5 : decode cX11_alike 5 = .ok (.ifCond .eq 23, 3) := by decide +kernel
theorem dX11_alike_8 : decode cX11_alike 8 = .ok (.aload_n 0, 1) := by decide +kernel
theorem dX11_alike_9 : decode cX11_alike 9 = .ok (.getfield 21, 3) := by decide +kernel
theorem dX11_alike_12 : decode cX11_alike 12 = .ok (.getfield 111, 3) := by decide +kernel
theorem dX11_alike_15 : decode cX11_alike 15 = .ok (.iload_n 1, 1) := by decide +kernel
theorem dX11_alike_16 : decode cX11_alike 16 = .ok (.invokevirtual 313, 3) := by decide +kernel
theorem dX11_alike_19 : decode cX11_alike 19 = .ok (.iconst 1, 1) := by decide +kernel
theorem dX11_alike_20 : decode cX11_alike 20 = .ok (.iload_n 1, 1) := by decide +kernel
theorem dX11_alike_21 : decode cX11_alike 21 = .ok (.ishl, 1) := by decide +kernel
theorem dX11_alike_22 : decode cX11_alike 22 = .ok (.iconst (-1), 1) := by decide +kernel
theorem dX11_alike_23 : decode cX11_alike 23 = .ok (.ixor, 1) := by decide +kernel
theorem dX11_alike_24 : decode cX11_alike 24 = .ok (.iand, 1) := by decide +kernel
theorem dX11_alike_25 : decode cX11_alike 25 = .ok (.goto 4, 3) := by decide +kernel
theorem dX11_alike_28 : decode cX11_alike 28 = .ok (.iconst (-1), 1) := by decide +kernel
theorem dX11_alike_29 : decode cX11_alike 29 = .ok (.ireturn, 1) := by decide +kernel
theorem dX11_kinds_0 : decode cX11_kinds 0 = .ok (.iconst 0, 1) := by decide +kernel
theorem dX11_kinds_1 : decode cX11_kinds 1 = .ok (.istore_n 1, 1) := by decide +kernel
theorem dX11_kinds_2 : decode cX11_kinds 2 = .ok (.iconst 0, 1) := by decide +kernel
theorem dX11_kinds_3 : decode cX11_kinds 3 = .ok (.istore_n 2, 1) := by decide +kernel
theorem dX11_kinds_4 : decode cX11_kinds 4 = .ok (.iload_n 2, 1) := by decide +kernel
theorem dX11_kinds_5 : decode cX11_kinds 5 = .ok (.aload_n 0, 1) := by decide +kernel
theorem dX11_kinds_6 : decode cX11_kinds 6 = .ok (.getfield 21, 3) := by decide +kernel
theorem dX11_kinds_9 : decode cX11_kinds 9 = .ok (.getfield 111, 3) := by decide +kernel
theorem dX11_kinds_12 : decode cX11_kinds 12 = .ok (.getfield 316, 3) := by decide +kernel
theorem dX11_kinds_15 : decode cX11_kinds 15 = .ok (.if_icmp .ge 32, 3) := by decide +kernel
theorem dX11_kinds_18 : decode cX11_kinds 18 = .ok (.aload_n 0, 1) := by decide +kernel
theorem dX11_kinds_19 : decode cX11_kinds 19 = .ok (.getfield 21, 3) := by decide +kernel
theorem dX11_kinds_22 : decode cX11_kinds 22 = .ok (.getfield 111, 3) := by decide +kernel
theorem dX11_kinds_25 : decode cX11_kinds 25 = .ok (.iload_n 2, 1) := by decide +kernel
theorem dX11_kinds_26 : decode cX11_kinds 26 = .ok (.invokevirtual 313, 3) := by decide +kernel
theorem dX11_kinds_29 : decode cX11_kinds 29 = .ok (.iconst 1, 1) := by decide +kernel
theorem dX11_kinds_30 : decode cX11_kinds 30 = .ok (.iload_n 2, 1) := by decide +kernel
theorem dX11_kinds_31 : decode cX11_kinds 31 = .ok (.ishl, 1) := by decide +kernel
theorem dX11_kinds_32 : decode cX11_kinds 32 = .ok (.iconst 1, 1) := by decide +kernel
theorem dX11_kinds_33 : decode cX11_kinds 33 = .ok (.isub, 1) := by decide +kernel
theorem dX11_kinds_34 : decode cX11_kinds 34 = .ok (.iand, 1) := by decide +kernel
theorem dX11_kinds_35 : decode cX11_kinds 35 = .ok (.ifCond .ne 6, 3) := by decide +kernel
theorem dX11_kinds_38 : decode cX11_kinds 38 = .ok (.iinc 1 1, 3) := by decide +kernel
theorem dX11_kinds_41 : decode cX11_kinds 41 = .ok (.iinc 2 1, 3) := by decide +kernel
theorem dX11_kinds_44 : decode cX11_kinds 44 = .ok (.goto (-40), 3) := by decide +kernel
theorem dX11_kinds_47 : decode cX11_kinds 47 = .ok (.iload_n 1, 1) := by decide +kernel
theorem dX11_kinds_48 : decode cX11_kinds 48 = .ok (.ireturn, 1) := by decide +kernel
theorem dX11_look_0 : decode cX11_look 0 = .ok (.aload_n 0, 1) := by decide +kernel
theorem dX11_look_1 : decode cX11_look 1 = .ok (.getfield 21, 3) := by decide +kernel
theorem dX11_look_4 : decode cX11_look 4 = .ok (.getfield 111, 3) := by decide +kernel
theorem dX11_look_7 : decode cX11_look 7 = .ok (.astore_n 2, 1) := by decide +kernel
theorem dX11_look_8 : decode cX11_look 8 = .ok (.iload_n 1, 1) := by decide +kernel
theorem dX11_look_9 : decode cX11_look 9 = .ok (.ifCond .eq 18, 3) := by decide +kernel
theorem dX11_look_12 : decode cX11_look 12 = .ok (.iload_n 1, 1) := by decide +kernel
theorem dX11_look_13 : decode cX11_look 13 = .ok (.iconst 1, 1) := by decide +kernel
theorem dX11_look_14 : decode cX11_look 14 = .ok (.aload_n 2, 1) := by decide +kernel
theorem dX11_look_15 : decode cX11_look 15 = .ok (.getfield 316, 3) := by decide +kernel
theorem dX11_look_18 : decode cX11_look 18 = .ok (.ishl, 1) := by decide +kernel
theorem dX11_look_19 : decode cX11_look 19 = .ok (.iconst 1, 1) := by decide +kernel
theorem dX11_look_20 : decode cX11_look 20 = .ok (.isub, 1) := by decide +kernel
theorem dX11_look_21 : decode cX11_look 21 = .ok (.iconst (-1), 1) := by decide +kernel
theorem dX11_look_22 : decode cX11_look 22 = .ok (.ixor, 1) := by decide +kernel
theorem dX11_look_23 : decode cX11_look 23 = .ok (.iand, 1) := by decide +kernel
theorem dX11_look_24 : decode cX11_look 24 = .ok (.ifCond .eq 5, 3) := by decide +kernel
theorem dX11_look_27 : decode cX11_look 27 = .ok (.iconst (-1), 1) := by decide +kernel
theorem dX11_look_28 : decode cX11_look 28 = .ok (.ireturn, 1) := by decide +kernel
theorem dX11_look_29 : decode cX11_look 29 = .ok (.iconst 0, 1) := by decide +kernel
theorem dX11_look_30 : decode cX11_look 30 = .ok (.istore_n 3, 1) := by decide +kernel
theorem dX11_look_31 : decode cX11_look 31 = .ok (.aload_n 2, 1) := by decide +kernel
theorem dX11_look_32 : decode cX11_look 32 = .ok (.iconst 0, 1) := by decide +kernel
theorem dX11_look_33 : decode cX11_look 33 = .ok (.iload_n 1, 1) := by decide +kernel
theorem dX11_look_34 : decode cX11_look 34 = .ok (.invokevirtual 319, 3) := by decide +kernel
theorem dX11_look_37 : decode cX11_look 37 = .ok (.istore 4, 2) := by decide +kernel
theorem dX11_look_39 : decode cX11_look 39 = .ok (.iconst 1, 1) := by decide +kernel
theorem dX11_look_40 : decode cX11_look 40 = .ok (.istore 5, 2) := by decide +kernel
theorem dX11_look_42 : decode cX11_look 42 = .ok (.iload 5, 2) := by decide +kernel
theorem dX11_look_44 : decode cX11_look 44 = .ok (.aload_n 2, 1) := by decide +kernel
theorem dX11_look_45 : decode cX11_look 45 = .ok (.getfield 322, 3) := by decide +kernel
theorem dX11_look_48 : decode cX11_look 48 = .ok (.if_icmp .ge 32, 3) := by decide +kernel
theorem dX11_look_51 : decode cX11_look 51 = .ok (.aload_n 2, 1) := by decide +kernel
theorem dX11_look_52 : decode cX11_look 52 = .ok (.iload 5, 2) := by decide +kernel
theorem dX11_look_54 : decode cX11_look 54 = .ok (.iload_n 1, 1) := by decide +kernel
theorem dX11_look_55 : decode cX11_look 55 = .ok (.invokevirtual 319, 3) := by decide +kernel
theorem dX11_look_58 : decode cX11_look 58 = .ok (.istore 6, 2) := by decide +kernel
theorem dX11_look_60 : decode cX11_look 60 = .ok (.iload 6, 2) := by decide +kernel
theorem dX11_look_62 : decode cX11_look 62 = .ok (.iload 4, 2) := by decide +kernel
theorem dX11_look_64 : decode cX11_look 64 = .ok (.if_icmp .ge 10, 3) := by decide +kernel
theorem dX11_look_67 : decode cX11_look 67 = .ok (.iload 5, 2) := by decide +kernel
theorem dX11_look_69 : decode cX11_look 69 = .ok (.istore_n 3, 1) := by decide +kernel
theorem dX11_look_70 : decode cX11_look 70 = .ok (.iload 6, 2) := by decide +kernel
theorem dX11_look_72 : decode cX11_look 72 = .ok (.istore 4, 2) := by decide +kernel
theorem dX11_look_74 : decode cX11_look 74 = .ok (.iinc 5 1, 3) := by decide +kernel
theorem dX11_look_77 : decode cX11_look 77 = .ok (.goto (-35), 3) := by decide +kernel
theorem dX11_look_80 : decode cX11_look 80 = .ok (.aload_n 0, 1) := by decide +kernel
theorem dX11_look_81 : decode cX11_look 81 = .ok (.iload 4, 2) := by decide +kernel
theorem dX11_look_83 : decode cX11_look 83 = .ok (.putfield 85, 3) := by decide +kernel
theorem dX11_look_86 : decode cX11_look 86 = .ok (.iload_n 3, 1) := by decide +kernel
theorem dX11_look_87 : decode cX11_look 87 = .ok (.ireturn, 1) := by decide +kernel
theorem dX11_left_0 : decode cX11_left 0 = .ok (.aload_n 0, 1) := by decide +kernel
theorem dX11_left_1 : decode cX11_left 1 = .ok (.getfield 85, 3) := by decide +kernel
theorem dX11_left_4 : decode cX11_left 4 = .ok (.ireturn, 1) := by decide +kernel
theorem dX11_fits_0 : decode cX11_fits 0 = .ok (.iconst (-1), 1) := by decide +kernel
theorem dX11_fits_1 : decode cX11_fits 1 = .ok (.istore_n 2, 1) := by decide +kernel
theorem dX11_fits_2 : decode cX11_fits 2 = .ok (.aload_n 0, 1) := by decide +kernel
theorem dX11_fits_3 : decode cX11_fits 3 = .ok (.iload_n 1, 1) := by decide +kernel
theorem dX11_fits_4 : decode cX11_fits 4 = .ok (.invokevirtual 146, 3) := by decide +kernel
theorem dX11_fits_7 : decode cX11_fits 7 = .ok (.ifCond .eq 32, 3) := by decide +kernel
theorem dX11_fits_10 : decode cX11_fits 10 = .ok (.aload_n 0, 1) := by decide +kernel
theorem dX11_fits_11 : decode cX11_fits 11 = .ok (.getfield 14, 3) := by decide +kernel
theorem dX11_fits_14 : decode cX11_fits 14 = .ok (.getfield 88, 3) := by decide +kernel
theorem dX11_fits_17 : decode cX11_fits 17 = .ok (.iconst 1, 1) := by decide +kernel
theorem dX11_fits_18 : decode cX11_fits 18 = .ok (.if_icmp .lt 21, 3) := by decide +kernel
theorem dX11_fits_21 : decode cX11_fits 21 = .ok (.aload_n 0, 1) := by decide +kernel
theorem dX11_fits_22 : decode cX11_fits 22 = .ok (.getfield 14, 3) := by decide +kernel
theorem dX11_fits_25 : decode cX11_fits 25 = .ok (.getfield 88, 3) := by decide +kernel
theorem dX11_fits_28 : decode cX11_fits 28 = .ok (.bipush 60, 2) := by decide +kernel
theorem dX11_fits_30 : decode cX11_fits 30 = .ok (.if_icmp .gt 9, 3) := by decide +kernel
theorem dX11_fits_33 : decode cX11_fits 33 = .ok (.aload_n 0, 1) := by decide +kernel
theorem dX11_fits_34 : decode cX11_fits 34 = .ok (.iload_n 1, 1) := by decide +kernel
theorem dX11_fits_35 : decode cX11_fits 35 = .ok (.invokevirtual 325, 3) := by decide +kernel
theorem dX11_fits_38 : decode cX11_fits 38 = .ok (.istore_n 2, 1) := by decide +kernel
theorem dX11_fits_39 : decode cX11_fits 39 = .ok (.aload_n 0, 1) := by decide +kernel
theorem dX11_fits_40 : decode cX11_fits 40 = .ok (.getfield 14, 3) := by decide +kernel
theorem dX11_fits_43 : decode cX11_fits 43 = .ok (.iconst 0, 1) := by decide +kernel
theorem dX11_fits_44 : decode cX11_fits 44 = .ok (.putfield 88, 3) := by decide +kernel
theorem dX11_fits_47 : decode cX11_fits 47 = .ok (.iload_n 2, 1) := by decide +kernel
theorem dX11_fits_48 : decode cX11_fits 48 = .ok (.ireturn, 1) := by decide +kernel
theorem dX11_heals_0 : decode cX11_heals 0 = .ok (.aload_n 0, 1) := by decide +kernel
theorem dX11_heals_1 : decode cX11_heals 1 = .ok (.iload_n 1, 1) := by decide +kernel
theorem dX11_heals_2 : decode cX11_heals 2 = .ok (.invokevirtual 189, 3) := by decide +kernel
theorem dX11_heals_5 : decode cX11_heals 5 = .ok (.ifCond .eq 35, 3) := by decide +kernel
theorem dX11_heals_8 : decode cX11_heals 8 = .ok (.aload_n 0, 1) := by decide +kernel
theorem dX11_heals_9 : decode cX11_heals 9 = .ok (.getfield 21, 3) := by decide +kernel
theorem dX11_heals_12 : decode cX11_heals 12 = .ok (.getfield 124, 3) := by decide +kernel
theorem dX11_heals_15 : decode cX11_heals 15 = .ok (.getfield 175, 3) := by decide +kernel
theorem dX11_heals_18 : decode cX11_heals 18 = .ok (.iload_n 1, 1) := by decide +kernel
theorem dX11_heals_19 : decode cX11_heals 19 = .ok (.invokestatic 171, 3) := by decide +kernel
theorem dX11_heals_22 : decode cX11_heals 22 = .ok (.ifCond .eq 18, 3) := by decide +kernel
theorem dX11_heals_25 : decode cX11_heals 25 = .ok (.aload_n 0, 1) := by decide +kernel
theorem dX11_heals_26 : decode cX11_heals 26 = .ok (.getfield 21, 3) := by decide +kernel
theorem dX11_heals_29 : decode cX11_heals 29 = .ok (.getfield 111, 3) := by decide +kernel
theorem dX11_heals_32 : decode cX11_heals 32 = .ok (.getfield 195, 3) := by decide +kernel
theorem dX11_heals_35 : decode cX11_heals 35 = .ok (.iload_n 1, 1) := by decide +kernel
theorem dX11_heals_36 : decode cX11_heals 36 = .ok (.iaload, 1) := by decide +kernel
theorem dX11_heals_37 : decode cX11_heals 37 = .ok (.ifCond .ne 5, 3) := by decide +kernel
theorem dX11_heals_40 : decode cX11_heals 40 = .ok (.iconst (-1), 1) := by decide +kernel
theorem dX11_heals_41 : decode cX11_heals 41 = .ok (.ireturn, 1) := by decide +kernel
theorem dX11_heals_42 : decode cX11_heals 42 = .ok (.aload_n 0, 1) := by decide +kernel
theorem dX11_heals_43 : decode cX11_heals 43 = .ok (.getfield 21, 3) := by decide +kernel
theorem dX11_heals_46 : decode cX11_heals 46 = .ok (.getfield 111, 3) := by decide +kernel
theorem dX11_heals_49 : decode cX11_heals 49 = .ok (.getfield 195, 3) := by decide +kernel
theorem dX11_heals_52 : decode cX11_heals 52 = .ok (.iload_n 1, 1) := by decide +kernel
theorem dX11_heals_53 : decode cX11_heals 53 = .ok (.iaload, 1) := by decide +kernel
theorem dX11_heals_54 : decode cX11_heals 54 = .ok (.aload_n 0, 1) := by decide +kernel
theorem dX11_heals_55 : decode cX11_heals 55 = .ok (.getfield 21, 3) := by decide +kernel
theorem dX11_heals_58 : decode cX11_heals 58 = .ok (.getfield 124, 3) := by decide +kernel
theorem dX11_heals_61 : decode cX11_heals 61 = .ok (.getfield 204, 3) := by decide +kernel
theorem dX11_heals_64 : decode cX11_heals 64 = .ok (.iload_n 1, 1) := by decide +kernel
theorem dX11_heals_65 : decode cX11_heals 65 = .ok (.iaload, 1) := by decide +kernel
theorem dX11_heals_66 : decode cX11_heals 66 = .ok (.isub, 1) := by decide +kernel
theorem dX11_heals_67 : decode cX11_heals 67 = .ok (.ireturn, 1) := by decide +kernel
theorem dX11_worksIn_0 : decode cX11_worksIn 0 = .ok (.aload_n 0, 1) := by decide +kernel
theorem dX11_worksIn_1 : decode cX11_worksIn 1 = .ok (.iload_n 1, 1) := by decide +kernel
theorem dX11_worksIn_2 : decode cX11_worksIn 2 = .ok (.invokevirtual 146, 3) := by decide +kernel
theorem dX11_worksIn_5 : decode cX11_worksIn 5 = .ok (.ifCond .ne 5, 3) := by decide +kernel
theorem dX11_worksIn_8 : decode cX11_worksIn 8 = .ok (.iconst (-1), 1) := by decide +kernel
theorem dX11_worksIn_9 : decode cX11_worksIn 9 = .ok (.ireturn, 1) := by decide +kernel
theorem dX11_worksIn_10 : decode cX11_worksIn 10 = .ok (.aload_n 0, 1) := by decide +kernel
theorem dX11_worksIn_11 : decode cX11_worksIn 11 = .ok (.getfield 39, 3) := by decide +kernel
theorem dX11_worksIn_14 : decode cX11_worksIn 14 = .ok (.aload_n 0, 1) := by decide +kernel
theorem dX11_worksIn_15 : decode cX11_worksIn 15 = .ok (.getfield 21, 3) := by decide +kernel
theorem dX11_worksIn_18 : decode cX11_worksIn 18 = .ok (.getfield 124, 3) := by decide +kernel
theorem dX11_worksIn_21 : decode cX11_worksIn 21 = .ok (.invokevirtual 328, 3) := by decide +kernel
theorem dX11_worksIn_24 : decode cX11_worksIn 24 = .ok (.iconst 0, 1) := by decide +kernel
theorem dX11_worksIn_25 : decode cX11_worksIn 25 = .ok (.istore_n 2, 1) := by decide +kernel
theorem dX11_worksIn_26 : decode cX11_worksIn 26 = .ok (.iload_n 2, 1) := by decide +kernel
theorem dX11_worksIn_27 : decode cX11_worksIn 27 = .ok (.sipush 240, 3) := by decide +kernel
theorem dX11_worksIn_30 : decode cX11_worksIn 30 = .ok (.if_icmp .gt 53, 3) := by decide +kernel
theorem dX11_worksIn_33 : decode cX11_worksIn 33 = .ok (.aload_n 0, 1) := by decide +kernel
theorem dX11_worksIn_34 : decode cX11_worksIn 34 = .ok (.getfield 39, 3) := by decide +kernel
theorem dX11_worksIn_37 : decode cX11_worksIn 37 = .ok (.aload_n 0, 1) := by decide +kernel
theorem dX11_worksIn_38 : decode cX11_worksIn 38 = .ok (.getfield 21, 3) := by decide +kernel
theorem dX11_worksIn_41 : decode cX11_worksIn 41 = .ok (.getfield 111, 3) := by decide +kernel
theorem dX11_worksIn_44 : decode cX11_worksIn 44 = .ok (.invokevirtual 182, 3) := by decide +kernel
theorem dX11_worksIn_47 : decode cX11_worksIn 47 = .ok (.iload_n 1, 1) := by decide +kernel
theorem dX11_worksIn_48 : decode cX11_worksIn 48 = .ok (.invokestatic 171, 3) := by decide +kernel
theorem dX11_worksIn_51 : decode cX11_worksIn 51 = .ok (.iconst 1, 1) := by decide +kernel
theorem dX11_worksIn_52 : decode cX11_worksIn 52 = .ok (.if_icmp .ne 5, 3) := by decide +kernel
theorem dX11_worksIn_55 : decode cX11_worksIn 55 = .ok (.iload_n 2, 1) := by decide +kernel
theorem dX11_worksIn_56 : decode cX11_worksIn 56 = .ok (.ireturn, 1) := by decide +kernel
theorem dX11_worksIn_57 : decode cX11_worksIn 57 = .ok (.aload_n 0, 1) := by decide +kernel
theorem dX11_worksIn_58 : decode cX11_worksIn 58 = .ok (.getfield 39, 3) := by decide +kernel
theorem dX11_worksIn_61 : decode cX11_worksIn 61 = .ok (.aload_n 0, 1) := by decide +kernel
theorem dX11_worksIn_62 : decode cX11_worksIn 62 = .ok (.getfield 21, 3) := by decide +kernel
theorem dX11_worksIn_65 : decode cX11_worksIn 65 = .ok (.getfield 111, 3) := by decide +kernel
theorem dX11_worksIn_68 : decode cX11_worksIn 68 = .ok (.iconst 1, 1) := by decide +kernel
theorem dX11_worksIn_69 : decode cX11_worksIn 69 = .ok (.invokevirtual 258, 3) := by decide +kernel
theorem dX11_worksIn_72 : decode cX11_worksIn 72 = .ok (.ifCond .ne 5, 3) := by decide +kernel
theorem dX11_worksIn_75 : decode cX11_worksIn 75 = .ok (.iconst (-1), 1) := by decide +kernel
theorem dX11_worksIn_76 : decode cX11_worksIn 76 = .ok (.ireturn, 1) := by decide +kernel
theorem dX11_worksIn_77 : decode cX11_worksIn 77 = .ok (.iinc 2 1, 3) := by decide +kernel
theorem dX11_worksIn_80 : decode cX11_worksIn 80 = .ok (.goto (-54), 3) := by decide +kernel
theorem dX11_worksIn_83 : decode cX11_worksIn 83 = .ok (.iconst (-1), 1) := by decide +kernel
theorem dX11_worksIn_84 : decode cX11_worksIn 84 = .ok (.ireturn, 1) := by decide +kernel
theorem dX11_tell_0 : decode cX11_tell 0 = .ok (.aload_n 0, 1) := by decide +kernel
theorem dX11_tell_1 : decode cX11_tell 1 = .ok (.iload_n 1, 1) := by decide +kernel
theorem dX11_tell_2 : decode cX11_tell 2 = .ok (.invokevirtual 146, 3) := by decide +kernel
theorem dX11_tell_5 : decode cX11_tell 5 = .ok (.ifCond .ne 5, 3) := by decide +kernel
theorem dX11_tell_8 : decode cX11_tell 8 = .ok (.iconst (-1), 1) := by decide +kernel
theorem dX11_tell_9 : decode cX11_tell 9 = .ok (.ireturn, 1) := by decide +kernel
theorem dX11_tell_10 : decode cX11_tell 10 = .ok (.aload_n 0, 1) := by decide +kernel
theorem dX11_tell_11 : decode cX11_tell 11 = .ok (.getfield 21, 3) := by decide +kernel
theorem dX11_tell_14 : decode cX11_tell 14 = .ok (.getfield 124, 3) := by decide +kernel
theorem dX11_tell_17 : decode cX11_tell 17 = .ok (.astore_n 2, 1) := by decide +kernel
theorem dX11_tell_18 : decode cX11_tell 18 = .ok (.aload_n 0, 1) := by decide +kernel
theorem dX11_tell_19 : decode cX11_tell 19 = .ok (.getfield 71, 3) := by decide +kernel
theorem dX11_tell_22 : decode cX11_tell 22 = .ok (.iconst 0, 1) := by decide +kernel
theorem dX11_tell_23 : decode cX11_tell 23 = .ok (.putfield 88, 3) := by decide +kernel
theorem dX11_tell_26 : decode cX11_tell 26 = .ok (.aload_n 0, 1) := by decide +kernel
theorem dX11_tell_27 : decode cX11_tell 27 = .ok (.getfield 71, 3) := by decide +kernel
theorem dX11_tell_30 : decode cX11_tell 30 = .ok (.aload_n 0, 1) := by decide +kernel
theorem dX11_tell_31 : decode cX11_tell 31 = .ok (.getfield 21, 3) := by decide +kernel
theorem dX11_tell_34 : decode cX11_tell 34 = .ok (.getfield 111, 3) := by decide +kernel
theorem dX11_tell_37 : decode cX11_tell 37 = .ok (.getfield 330, 3) := by decide +kernel
theorem dX11_tell_40 : decode cX11_tell 40 = .ok (.iload_n 1, 1) := by decide +kernel
theorem dX11_tell_41 : decode cX11_tell 41 = .ok (.laload, 1) := by decide +kernel
theorem dX11_tell_42 : decode cX11_tell 42 = .ok (.invokevirtual 334, 3) := by decide +kernel
theorem dX11_tell_45 : decode cX11_tell 45 = .ok (.aload_n 2, 1) := by decide +kernel
theorem dX11_tell_46 : decode cX11_tell 46 = .ok (.aload_n 0, 1) := by decide +kernel
theorem dX11_tell_47 : decode cX11_tell 47 = .ok (.getfield 21, 3) := by decide +kernel
theorem dX11_tell_50 : decode cX11_tell 50 = .ok (.getfield 111, 3) := by decide +kernel
theorem dX11_tell_53 : decode cX11_tell 53 = .ok (.iload_n 1, 1) := by decide +kernel
theorem dX11_tell_54 : decode cX11_tell 54 = .ok (.aload_n 2, 1) := by decide +kernel
theorem dX11_tell_55 : decode cX11_tell 55 = .ok (.getfield 175, 3) := by decide +kernel
theorem dX11_tell_58 : decode cX11_tell 58 = .ok (.invokevirtual 178, 3) := by decide +kernel
theorem dX11_tell_61 : decode cX11_tell 61 = .ok (.lookupswitch 133 #[(0, 43), (16, 56), (17, 82), (18, 95)], 43) := by decide +kernel
theorem dX11_tell_104 : decode cX11_tell 104 = .ok (.aload_n 0, 1) := by decide +kernel
theorem dX11_tell_105 : decode cX11_tell 105 = .ok (.getfield 71, 3) := by decide +kernel
theorem dX11_tell_108 : decode cX11_tell 108 = .ok (.ldc_w 338, 3) := by decide +kernel
theorem dX11_tell_111 : decode cX11_tell 111 = .ok (.invokevirtual 340, 3) := by decide +kernel
theorem dX11_tell_114 : decode cX11_tell 114 = .ok (.goto 113, 3) := by decide +kernel
theorem dX11_tell_117 : decode cX11_tell 117 = .ok (.aload_n 0, 1) := by decide +kernel
theorem dX11_tell_118 : decode cX11_tell 118 = .ok (.getfield 71, 3) := by decide +kernel
theorem dX11_tell_121 : decode cX11_tell 121 = .ok (.ldc_w 344, 3) := by decide +kernel
theorem dX11_tell_124 : decode cX11_tell 124 = .ok (.invokevirtual 340, 3) := by decide +kernel
theorem dX11_tell_127 : decode cX11_tell 127 = .ok (.aload_n 0, 1) := by decide +kernel
theorem dX11_tell_128 : decode cX11_tell 128 = .ok (.getfield 71, 3) := by decide +kernel
theorem dX11_tell_131 : decode cX11_tell 131 = .ok (.aload_n 2, 1) := by decide +kernel
theorem dX11_tell_132 : decode cX11_tell 132 = .ok (.getfield 165, 3) := by decide +kernel
theorem dX11_tell_135 : decode cX11_tell 135 = .ok (.iload_n 1, 1) := by decide +kernel
theorem dX11_tell_136 : decode cX11_tell 136 = .ok (.iaload, 1) := by decide +kernel
theorem dX11_tell_137 : decode cX11_tell 137 = .ok (.invokevirtual 346, 3) := by decide +kernel
theorem dX11_tell_140 : decode cX11_tell 140 = .ok (.goto 87, 3) := by decide +kernel
theorem dX11_tell_143 : decode cX11_tell 143 = .ok (.aload_n 0, 1) := by decide +kernel
theorem dX11_tell_144 : decode cX11_tell 144 = .ok (.getfield 71, 3) := by decide +kernel
theorem dX11_tell_147 : decode cX11_tell 147 = .ok (.ldc_w 349, 3) := by decide +kernel
theorem dX11_tell_150 : decode cX11_tell 150 = .ok (.invokevirtual 340, 3) := by decide +kernel
theorem dX11_tell_153 : decode cX11_tell 153 = .ok (.goto 74, 3) := by decide +kernel
theorem dX11_tell_156 : decode cX11_tell 156 = .ok (.aload_n 0, 1) := by decide +kernel
theorem dX11_tell_157 : decode cX11_tell 157 = .ok (.getfield 71, 3) := by decide +kernel
theorem dX11_tell_160 : decode cX11_tell 160 = .ok (.aload_n 2, 1) := by decide +kernel
theorem dX11_tell_161 : decode cX11_tell 161 = .ok (.aload_n 0, 1) := by decide +kernel
theorem dX11_tell_162 : decode cX11_tell 162 = .ok (.getfield 21, 3) := by decide +kernel
theorem dX11_tell_165 : decode cX11_tell 165 = .ok (.getfield 111, 3) := by decide +kernel
theorem dX11_tell_168 : decode cX11_tell 168 = .ok (.invokevirtual 182, 3) := by decide +kernel
theorem dX11_tell_171 : decode cX11_tell 171 = .ok (.iload_n 1, 1) := by decide +kernel
theorem dX11_tell_172 : decode cX11_tell 172 = .ok (.invokestatic 171, 3) := by decide +kernel
theorem dX11_tell_175 : decode cX11_tell 175 = .ok (.iconst 1, 1) := by decide +kernel
theorem dX11_tell_176 : decode cX11_tell 176 = .ok (.if_icmp .ne 9, 3) := by decide +kernel
theorem dX11_tell_179 : decode cX11_tell 179 = .ok (.ldc_w 351, 3) := by decide +kernel
theorem dX11_tell_182 : decode cX11_tell 182 = .ok (.goto 6, 3) := by decide +kernel
theorem dX11_tell_185 : decode cX11_tell 185 = .ok (.ldc_w 353, 3) := by decide +kernel
theorem dX11_tell_188 : decode cX11_tell 188 = .ok (.invokevirtual 340, 3) := by decide +kernel
theorem dX11_tell_191 : decode cX11_tell 191 = .ok (.goto 36, 3) := by decide +kernel
theorem dX11_tell_194 : decode cX11_tell 194 = .ok (.aload_n 0, 1) := by decide +kernel
theorem dX11_tell_195 : decode cX11_tell 195 = .ok (.getfield 71, 3) := by decide +kernel
theorem dX11_tell_198 : decode cX11_tell 198 = .ok (.ldc_w 355, 3) := by decide +kernel
theorem dX11_tell_201 : decode cX11_tell 201 = .ok (.invokevirtual 340, 3) := by decide +kernel
theorem dX11_tell_204 : decode cX11_tell 204 = .ok (.aload_n 0, 1) := by decide +kernel
theorem dX11_tell_205 : decode cX11_tell 205 = .ok (.getfield 71, 3) := by decide +kernel
theorem dX11_tell_208 : decode cX11_tell 208 = .ok (.aload_n 0, 1) := by decide +kernel
theorem dX11_tell_209 : decode cX11_tell 209 = .ok (.getfield 21, 3) := by decide +kernel
theorem dX11_tell_212 : decode cX11_tell 212 = .ok (.getfield 111, 3) := by decide +kernel
theorem dX11_tell_215 : decode cX11_tell 215 = .ok (.getfield 357, 3) := by decide +kernel
theorem dX11_tell_218 : decode cX11_tell 218 = .ok (.aload_n 0, 1) := by decide +kernel
theorem dX11_tell_219 : decode cX11_tell 219 = .ok (.iload_n 1, 1) := by decide +kernel
theorem dX11_tell_220 : decode cX11_tell 220 = .ok (.invokevirtual 360, 3) := by decide +kernel
theorem dX11_tell_223 : decode cX11_tell 223 = .ok (.laload, 1) := by decide +kernel
theorem dX11_tell_224 : decode cX11_tell 224 = .ok (.invokevirtual 334, 3) := by decide +kernel
theorem dX11_tell_227 : decode cX11_tell 227 = .ok (.aload_n 0, 1) := by decide +kernel
theorem dX11_tell_228 : decode cX11_tell 228 = .ok (.getfield 71, 3) := by decide +kernel
theorem dX11_tell_231 : decode cX11_tell 231 = .ok (.getfield 88, 3) := by decide +kernel
theorem dX11_tell_234 : decode cX11_tell 234 = .ok (.ireturn, 1) := by decide +kernel
theorem dX11_byteAt_0 : decode cX11_byteAt 0 = .ok (.aload_n 0, 1) := by decide +kernel
theorem dX11_byteAt_1 : decode cX11_byteAt 1 = .ok (.getfield 71, 3) := by decide +kernel
theorem dX11_byteAt_4 : decode cX11_byteAt 4 = .ok (.iload_n 1, 1) := by decide +kernel
theorem dX11_byteAt_5 : decode cX11_byteAt 5 = .ok (.invokevirtual 363, 3) := by decide +kernel
theorem dX11_byteAt_8 : decode cX11_byteAt 8 = .ok (.ireturn, 1) := by decide +kernel
theorem dX11_drawn_0 : decode cX11_drawn 0 = .ok (.iload_n 1, 1) := by decide +kernel
theorem dX11_drawn_1 : decode cX11_drawn 1 = .ok (.iconst 1, 1) := by decide +kernel
theorem dX11_drawn_2 : decode cX11_drawn 2 = .ok (.if_icmp .lt 22, 3) := by decide +kernel
theorem dX11_drawn_5 : decode cX11_drawn 5 = .ok (.iload_n 1, 1) := by decide +kernel
theorem dX11_drawn_6 : decode cX11_drawn 6 = .ok (.bipush 60, 2) := by decide +kernel
theorem dX11_drawn_8 : decode cX11_drawn 8 = .ok (.if_icmp .gt 16, 3) := by decide +kernel
theorem dX11_drawn_11 : decode cX11_drawn 11 = .ok (.aload_n 0, 1) := by decide +kernel
theorem dX11_drawn_12 : decode cX11_drawn 12 = .ok (.getfield 21, 3) := by decide +kernel
theorem dX11_drawn_15 : decode cX11_drawn 15 = .ok (.getfield 111, 3) := by decide +kernel
theorem dX11_drawn_18 : decode cX11_drawn 18 = .ok (.getfield 322, 3) := by decide +kernel
theorem dX11_drawn_21 : decode cX11_drawn 21 = .ok (.ifCond .ne 5, 3) := by decide +kernel
theorem dX11_drawn_24 : decode cX11_drawn 24 = .ok (.iconst (-1), 1) := by decide +kernel
theorem dX11_drawn_25 : decode cX11_drawn 25 = .ok (.ireturn, 1) := by decide +kernel
theorem dX11_drawn_26 : decode cX11_drawn 26 = .ok (.aload_n 0, 1) := by decide +kernel
theorem dX11_drawn_27 : decode cX11_drawn 27 = .ok (.getfield 32, 3) := by decide +kernel
theorem dX11_drawn_30 : decode cX11_drawn 30 = .ok (.aload_n 0, 1) := by decide +kernel
theorem dX11_drawn_31 : decode cX11_drawn 31 = .ok (.getfield 21, 3) := by decide +kernel
theorem dX11_drawn_34 : decode cX11_drawn 34 = .ok (.getfield 124, 3) := by decide +kernel
theorem dX11_drawn_37 : decode cX11_drawn 37 = .ok (.invokevirtual 232, 3) := by decide +kernel
theorem dX11_drawn_40 : decode cX11_drawn 40 = .ok (.aload_n 0, 1) := by decide +kernel
theorem dX11_drawn_41 : decode cX11_drawn 41 = .ok (.getfield 21, 3) := by decide +kernel
theorem dX11_drawn_44 : decode cX11_drawn 44 = .ok (.getfield 124, 3) := by decide +kernel
theorem dX11_drawn_47 : decode cX11_drawn 47 = .ok (.iload_n 2, 1) := by decide +kernel
theorem dX11_drawn_48 : decode cX11_drawn 48 = .ok (.putfield 243, 3) := by decide +kernel
theorem dX11_drawn_51 : decode cX11_drawn 51 = .ok (.aload_n 0, 1) := by decide +kernel
theorem dX11_drawn_52 : decode cX11_drawn 52 = .ok (.getfield 21, 3) := by decide +kernel
theorem dX11_drawn_55 : decode cX11_drawn 55 = .ok (.getfield 124, 3) := by decide +kernel
theorem dX11_drawn_58 : decode cX11_drawn 58 = .ok (.aload_n 0, 1) := by decide +kernel
theorem dX11_drawn_59 : decode cX11_drawn 59 = .ok (.getfield 21, 3) := by decide +kernel
theorem dX11_drawn_62 : decode cX11_drawn 62 = .ok (.getfield 111, 3) := by decide +kernel
theorem dX11_drawn_65 : decode cX11_drawn 65 = .ok (.iload_n 1, 1) := by decide +kernel
theorem dX11_drawn_66 : decode cX11_drawn 66 = .ok (.invokevirtual 366, 3) := by decide +kernel
theorem dX11_drawn_69 : decode cX11_drawn 69 = .ok (.istore_n 3, 1) := by decide +kernel
theorem dX11_drawn_70 : decode cX11_drawn 70 = .ok (.iload_n 3, 1) := by decide +kernel
theorem dX11_drawn_71 : decode cX11_drawn 71 = .ok (.ifCond .le 10, 3) := by decide +kernel
theorem dX11_drawn_74 : decode cX11_drawn 74 = .ok (.aload_n 0, 1) := by decide +kernel
theorem dX11_drawn_75 : decode cX11_drawn 75 = .ok (.getfield 32, 3) := by decide +kernel
theorem dX11_drawn_78 : decode cX11_drawn 78 = .ok (.invokevirtual 261, 3) := by decide +kernel
theorem dX11_drawn_81 : decode cX11_drawn 81 = .ok (.iload_n 3, 1) := by decide +kernel
theorem dX11_drawn_82 : decode cX11_drawn 82 = .ok (.ireturn, 1) := by decide +kernel
theorem dX11_odds_0 : decode cX11_odds 0 = .ok (.aload_n 0, 1) := by decide +kernel
theorem dX11_odds_1 : decode cX11_odds 1 = .ok (.iload_n 1, 1) := by decide +kernel
theorem dX11_odds_2 : decode cX11_odds 2 = .ok (.invokevirtual 146, 3) := by decide +kernel
theorem dX11_odds_5 : decode cX11_odds 5 = .ok (.ifCond .eq 14, 3) := by decide +kernel
theorem dX11_odds_8 : decode cX11_odds 8 = .ok (.iload_n 2, 1) := by decide +kernel
theorem dX11_odds_9 : decode cX11_odds 9 = .ok (.iconst 1, 1) := by decide +kernel
theorem dX11_odds_10 : decode cX11_odds 10 = .ok (.if_icmp .lt 9, 3) := by decide +kernel
theorem dX11_odds_13 : decode cX11_odds 13 = .ok (.iload_n 2, 1) := by decide +kernel
theorem dX11_odds_14 : decode cX11_odds 14 = .ok (.bipush 30, 2) := by decide +kernel
theorem dX11_odds_16 : decode cX11_odds 16 = .ok (.if_icmp .le 5, 3) := by decide +kernel
theorem dX11_odds_19 : decode cX11_odds 19 = .ok (.iconst (-1), 1) := by decide +kernel
theorem dX11_odds_20 : decode cX11_odds 20 = .ok (.ireturn, 1) := by decide +kernel
theorem dX11_odds_21 : decode cX11_odds 21 = .ok (.iconst 0, 1) := by decide +kernel
theorem dX11_odds_22 : decode cX11_odds 22 = .ok (.istore 4, 2) := by decide +kernel
theorem dX11_odds_24 : decode cX11_odds 24 = .ok (.iconst 0, 1) := by decide +kernel
theorem dX11_odds_25 : decode cX11_odds 25 = .ok (.istore 5, 2) := by decide +kernel
theorem dX11_odds_27 : decode cX11_odds 27 = .ok (.iload 5, 2) := by decide +kernel
theorem dX11_odds_29 : decode cX11_odds 29 = .ok (.iload_n 2, 1) := by decide +kernel
theorem dX11_odds_30 : decode cX11_odds 30 = .ok (.if_icmp .ge 74, 3) := by decide +kernel
theorem dX11_odds_33 : decode cX11_odds 33 = .ok (.aload_n 0, 1) := by decide +kernel
theorem dX11_odds_34 : decode cX11_odds 34 = .ok (.getfield 39, 3) := by decide +kernel
theorem dX11_odds_37 : decode cX11_odds 37 = .ok (.aload_n 0, 1) := by decide +kernel
theorem dX11_odds_38 : decode cX11_odds 38 = .ok (.getfield 21, 3) := by decide +kernel
theorem dX11_odds_41 : decode cX11_odds 41 = .ok (.getfield 124, 3) := by decide +kernel
theorem dX11_odds_44 : decode cX11_odds 44 = .ok (.invokevirtual 328, 3) := by decide +kernel
theorem dX11_odds_47 : decode cX11_odds 47 = .ok (.aload_n 0, 1) := by decide +kernel
theorem dX11_odds_48 : decode cX11_odds 48 = .ok (.getfield 39, 3) := by decide +kernel
theorem dX11_odds_51 : decode cX11_odds 51 = .ok (.iload_n 3, 1) := by decide +kernel
theorem dX11_odds_52 : decode cX11_odds 52 = .ok (.iload 5, 2) := by decide +kernel
theorem dX11_odds_54 : decode cX11_odds 54 = .ok (.iadd, 1) := by decide +kernel
theorem dX11_odds_55 : decode cX11_odds 55 = .ok (.putfield 243, 3) := by decide +kernel
theorem dX11_odds_58 : decode cX11_odds 58 = .ok (.aload_n 0, 1) := by decide +kernel
theorem dX11_odds_59 : decode cX11_odds 59 = .ok (.getfield 39, 3) := by decide +kernel
theorem dX11_odds_62 : decode cX11_odds 62 = .ok (.aload_n 0, 1) := by decide +kernel
theorem dX11_odds_63 : decode cX11_odds 63 = .ok (.getfield 21, 3) := by decide +kernel
theorem dX11_odds_66 : decode cX11_odds 66 = .ok (.getfield 111, 3) := by decide +kernel
theorem dX11_odds_69 : decode cX11_odds 69 = .ok (.bipush 60, 2) := by decide +kernel
theorem dX11_odds_71 : decode cX11_odds 71 = .ok (.invokevirtual 366, 3) := by decide +kernel
theorem dX11_odds_74 : decode cX11_odds 74 = .ok (.pop, 1) := by decide +kernel
theorem dX11_odds_75 : decode cX11_odds 75 = .ok (.iload 4, 2) := by decide +kernel
theorem dX11_odds_77 : decode cX11_odds 77 = .ok (.aload_n 0, 1) := by decide +kernel
theorem dX11_odds_78 : decode cX11_odds 78 = .ok (.getfield 39, 3) := by decide +kernel
end
section
theorem dX11_odds_81 : decode cX11_odds 81 = .ok (.aload_n 0, 1) := by decide +kernel
theorem dX11_odds_82 : decode cX11_odds 82 = .ok (.getfield 21, 3) := by decide +kernel
theorem dX11_odds_85 : decode cX11_odds 85 = .ok (.getfield 111, 3) := by decide +kernel
theorem dX11_odds_88 : decode cX11_odds 88 = .ok (.invokevirtual 182, 3) := by decide +kernel
theorem dX11_odds_91 : decode cX11_odds 91 = .ok (.iload_n 1, 1) := by decide +kernel
theorem dX11_odds_92 : decode cX11_odds 92 = .ok (.invokestatic 171, 3) := by decide +kernel
theorem dX11_odds_95 : decode cX11_odds 95 = .ok (.iadd, 1) := by decide +kernel
theorem dX11_odds_96 : decode cX11_odds 96 = .ok (.istore 4, 2) := by decide +kernel
theorem dX11_odds_98 : decode cX11_odds 98 = .ok (.iinc 5 1, 3) := by decide +kernel
theorem dX11_odds_101 : decode cX11_odds 101 = .ok (.goto (-74), 3) := by decide +kernel
theorem dX11_odds_104 : decode cX11_odds 104 = .ok (.iload 4, 2) := by decide +kernel
theorem dX11_odds_106 : decode cX11_odds 106 = .ok (.ireturn, 1) := by decide +kernel
theorem dX11_log_0 : decode cX11_log 0 = .ok (.iload_n 1, 1) := by decide +kernel
theorem dX11_log_1 : decode cX11_log 1 = .ok (.ifCond .lt 8, 3) := by decide +kernel
theorem dX11_log_4 : decode cX11_log 4 = .ok (.iload_n 1, 1) := by decide +kernel
theorem dX11_log_5 : decode cX11_log 5 = .ok (.iconst 1, 1) := by decide +kernel
theorem dX11_log_6 : decode cX11_log 6 = .ok (.if_icmp .le 7, 3) := by decide +kernel
theorem dX11_log_9 : decode cX11_log 9 = .ok (.sipush (-1000), 3) := by decide +kernel
theorem dX11_log_12 : decode cX11_log 12 = .ok (.ireturn, 1) := by decide +kernel
theorem dX11_log_13 : decode cX11_log 13 = .ok (.aload_n 0, 1) := by decide +kernel
theorem dX11_log_14 : decode cX11_log 14 = .ok (.getfield 53, 3) := by decide +kernel
theorem dX11_log_17 : decode cX11_log 17 = .ok (.aload_n 0, 1) := by decide +kernel
theorem dX11_log_18 : decode cX11_log 18 = .ok (.getfield 14, 3) := by decide +kernel
theorem dX11_log_21 : decode cX11_log 21 = .ok (.aload_n 0, 1) := by decide +kernel
theorem dX11_log_22 : decode cX11_log 22 = .ok (.getfield 21, 3) := by decide +kernel
theorem dX11_log_25 : decode cX11_log 25 = .ok (.getfield 111, 3) := by decide +kernel
theorem dX11_log_28 : decode cX11_log 28 = .ok (.invokevirtual 369, 3) := by decide +kernel
theorem dX11_log_31 : decode cX11_log 31 = .ok (.istore_n 2, 1) := by decide +kernel
theorem dX11_log_32 : decode cX11_log 32 = .ok (.aload_n 0, 1) := by decide +kernel
theorem dX11_log_33 : decode cX11_log 33 = .ok (.aload_n 0, 1) := by decide +kernel
theorem dX11_log_34 : decode cX11_log 34 = .ok (.getfield 53, 3) := by decide +kernel
theorem dX11_log_37 : decode cX11_log 37 = .ok (.getfield 373, 3) := by decide +kernel
theorem dX11_log_40 : decode cX11_log 40 = .ok (.invokevirtual 102, 3) := by decide +kernel
theorem dX11_log_43 : decode cX11_log 43 = .ok (.iload_n 2, 1) := by decide +kernel
theorem dX11_log_44 : decode cX11_log 44 = .ok (.ifCond .ne 17, 3) := by decide +kernel
theorem dX11_log_47 : decode cX11_log 47 = .ok (.bipush (-2), 2) := by decide +kernel
theorem dX11_log_49 : decode cX11_log 49 = .ok (.aload_n 0, 1) := by decide +kernel
theorem dX11_log_50 : decode cX11_log 50 = .ok (.getfield 53, 3) := by decide +kernel
theorem dX11_log_53 : decode cX11_log 53 = .ok (.getfield 373, 3) := by decide +kernel
theorem dX11_log_56 : decode cX11_log 56 = .ok (.getfield 106, 3) := by decide +kernel
theorem dX11_log_59 : decode cX11_log 59 = .ok (.isub, 1) := by decide +kernel
theorem dX11_log_60 : decode cX11_log 60 = .ok (.ireturn, 1) := by decide +kernel
theorem dX11_log_61 : decode cX11_log 61 = .ok (.aload_n 0, 1) := by decide +kernel
theorem dX11_log_62 : decode cX11_log 62 = .ok (.getfield 39, 3) := by decide +kernel
theorem dX11_log_65 : decode cX11_log 65 = .ok (.astore_n 3, 1) := by decide +kernel
theorem dX11_log_66 : decode cX11_log 66 = .ok (.iload_n 1, 1) := by decide +kernel
theorem dX11_log_67 : decode cX11_log 67 = .ok (.iconst 1, 1) := by decide +kernel
theorem dX11_log_68 : decode cX11_log 68 = .ok (.if_icmp .ne 35, 3) := by decide +kernel
theorem dX11_log_71 : decode cX11_log 71 = .ok (.aload_n 0, 1) := by decide +kernel
theorem dX11_log_72 : decode cX11_log 72 = .ok (.getfield 32, 3) := by decide +kernel
theorem dX11_log_75 : decode cX11_log 75 = .ok (.aload_n 0, 1) := by decide +kernel
theorem dX11_log_76 : decode cX11_log 76 = .ok (.getfield 21, 3) := by decide +kernel
theorem dX11_log_79 : decode cX11_log 79 = .ok (.getfield 124, 3) := by decide +kernel
theorem dX11_log_82 : decode cX11_log 82 = .ok (.invokevirtual 232, 3) := by decide +kernel
theorem dX11_log_85 : decode cX11_log 85 = .ok (.aload_n 0, 1) := by decide +kernel
theorem dX11_log_86 : decode cX11_log 86 = .ok (.getfield 32, 3) := by decide +kernel
theorem dX11_log_89 : decode cX11_log 89 = .ok (.invokevirtual 261, 3) := by decide +kernel
theorem dX11_log_92 : decode cX11_log 92 = .ok (.aload_n 0, 1) := by decide +kernel
theorem dX11_log_93 : decode cX11_log 93 = .ok (.getfield 21, 3) := by decide +kernel
theorem dX11_log_96 : decode cX11_log 96 = .ok (.getfield 124, 3) := by decide +kernel
theorem dX11_log_99 : decode cX11_log 99 = .ok (.astore_n 3, 1) := by decide +kernel
theorem dX11_log_100 : decode cX11_log 100 = .ok (.goto 14, 3) := by decide +kernel
theorem dX11_log_103 : decode cX11_log 103 = .ok (.aload_n 3, 1) := by decide +kernel
theorem dX11_log_104 : decode cX11_log 104 = .ok (.aload_n 0, 1) := by decide +kernel
theorem dX11_log_105 : decode cX11_log 105 = .ok (.getfield 21, 3) := by decide +kernel
theorem dX11_log_108 : decode cX11_log 108 = .ok (.getfield 124, 3) := by decide +kernel
theorem dX11_log_111 : decode cX11_log 111 = .ok (.invokevirtual 328, 3) := by decide +kernel
theorem dX11_log_114 : decode cX11_log 114 = .ok (.aload_n 0, 1) := by decide +kernel
theorem dX11_log_115 : decode cX11_log 115 = .ok (.getfield 53, 3) := by decide +kernel
theorem dX11_log_118 : decode cX11_log 118 = .ok (.aload_n 0, 1) := by decide +kernel
theorem dX11_log_119 : decode cX11_log 119 = .ok (.getfield 21, 3) := by decide +kernel
theorem dX11_log_122 : decode cX11_log 122 = .ok (.getfield 111, 3) := by decide +kernel
theorem dX11_log_125 : decode cX11_log 125 = .ok (.aload_n 3, 1) := by decide +kernel
theorem dX11_log_126 : decode cX11_log 126 = .ok (.invokevirtual 374, 3) := by decide +kernel
theorem dX11_log_129 : decode cX11_log 129 = .ok (.istore 4, 2) := by decide +kernel
theorem dX11_log_131 : decode cX11_log 131 = .ok (.aload_n 0, 1) := by decide +kernel
theorem dX11_log_132 : decode cX11_log 132 = .ok (.iconst 1, 1) := by decide +kernel
theorem dX11_log_133 : decode cX11_log 133 = .ok (.putfield 378, 3) := by decide +kernel
theorem dX11_log_136 : decode cX11_log 136 = .ok (.aload_n 0, 1) := by decide +kernel
theorem dX11_log_137 : decode cX11_log 137 = .ok (.getfield 78, 3) := by decide +kernel
theorem dX11_log_140 : decode cX11_log 140 = .ok (.iconst 0, 1) := by decide +kernel
theorem dX11_log_141 : decode cX11_log 141 = .ok (.aload_n 0, 1) := by decide +kernel
theorem dX11_log_142 : decode cX11_log 142 = .ok (.getfield 53, 3) := by decide +kernel
theorem dX11_log_145 : decode cX11_log 145 = .ok (.getfield 382, 3) := by decide +kernel
theorem dX11_log_148 : decode cX11_log 148 = .ok (.iastore, 1) := by decide +kernel
theorem dX11_log_149 : decode cX11_log 149 = .ok (.aload_n 0, 1) := by decide +kernel
theorem dX11_log_150 : decode cX11_log 150 = .ok (.getfield 78, 3) := by decide +kernel
theorem dX11_log_153 : decode cX11_log 153 = .ok (.iconst 1, 1) := by decide +kernel
theorem dX11_log_154 : decode cX11_log 154 = .ok (.iload 4, 2) := by decide +kernel
theorem dX11_log_156 : decode cX11_log 156 = .ok (.iastore, 1) := by decide +kernel
theorem dX11_log_157 : decode cX11_log 157 = .ok (.aload_n 0, 1) := by decide +kernel
theorem dX11_log_158 : decode cX11_log 158 = .ok (.getfield 78, 3) := by decide +kernel
theorem dX11_log_161 : decode cX11_log 161 = .ok (.iconst 2, 1) := by decide +kernel
theorem dX11_log_162 : decode cX11_log 162 = .ok (.aload_n 3, 1) := by decide +kernel
theorem dX11_log_163 : decode cX11_log 163 = .ok (.getfield 216, 3) := by decide +kernel
theorem dX11_log_166 : decode cX11_log 166 = .ok (.iastore, 1) := by decide +kernel
theorem dX11_log_167 : decode cX11_log 167 = .ok (.aload_n 0, 1) := by decide +kernel
theorem dX11_log_168 : decode cX11_log 168 = .ok (.getfield 78, 3) := by decide +kernel
theorem dX11_log_171 : decode cX11_log 171 = .ok (.iconst 3, 1) := by decide +kernel
theorem dX11_log_172 : decode cX11_log 172 = .ok (.aload_n 3, 1) := by decide +kernel
theorem dX11_log_173 : decode cX11_log 173 = .ok (.aload_n 0, 1) := by decide +kernel
theorem dX11_log_174 : decode cX11_log 174 = .ok (.getfield 21, 3) := by decide +kernel
theorem dX11_log_177 : decode cX11_log 177 = .ok (.getfield 111, 3) := by decide +kernel
theorem dX11_log_180 : decode cX11_log 180 = .ok (.invokevirtual 182, 3) := by decide +kernel
theorem dX11_log_183 : decode cX11_log 183 = .ok (.iastore, 1) := by decide +kernel
theorem dX11_log_184 : decode cX11_log 184 = .ok (.aload_n 0, 1) := by decide +kernel
theorem dX11_log_185 : decode cX11_log 185 = .ok (.getfield 53, 3) := by decide +kernel
theorem dX11_log_188 : decode cX11_log 188 = .ok (.getfield 382, 3) := by decide +kernel
theorem dX11_log_191 : decode cX11_log 191 = .ok (.ifCond .ne 7, 3) := by decide +kernel
theorem dX11_log_194 : decode cX11_log 194 = .ok (.iconst (-1), 1) := by decide +kernel
theorem dX11_log_195 : decode cX11_log 195 = .ok (.goto 5, 3) := by decide +kernel
theorem dX11_log_198 : decode cX11_log 198 = .ok (.iload 4, 2) := by decide +kernel
theorem dX11_log_200 : decode cX11_log 200 = .ok (.ireturn, 1) := by decide +kernel
theorem dX11_logged_0 : decode cX11_logged 0 = .ok (.aload_n 0, 1) := by decide +kernel
theorem dX11_logged_1 : decode cX11_logged 1 = .ok (.getfield 378, 3) := by decide +kernel
theorem dX11_logged_4 : decode cX11_logged 4 = .ok (.ifCond .eq 25, 3) := by decide +kernel
theorem dX11_logged_7 : decode cX11_logged 7 = .ok (.iload_n 1, 1) := by decide +kernel
theorem dX11_logged_8 : decode cX11_logged 8 = .ok (.ifCond .lt 21, 3) := by decide +kernel
theorem dX11_logged_11 : decode cX11_logged 11 = .ok (.iload_n 1, 1) := by decide +kernel
theorem dX11_logged_12 : decode cX11_logged 12 = .ok (.aload_n 0, 1) := by decide +kernel
theorem dX11_logged_13 : decode cX11_logged 13 = .ok (.getfield 78, 3) := by decide +kernel
theorem dX11_logged_16 : decode cX11_logged 16 = .ok (.arraylength, 1) := by decide +kernel
theorem dX11_logged_17 : decode cX11_logged 17 = .ok (.if_icmp .ge 12, 3) := by decide +kernel
theorem dX11_logged_20 : decode cX11_logged 20 = .ok (.aload_n 0, 1) := by decide +kernel
theorem dX11_logged_21 : decode cX11_logged 21 = .ok (.getfield 78, 3) := by decide +kernel
theorem dX11_logged_24 : decode cX11_logged 24 = .ok (.iload_n 1, 1) := by decide +kernel
theorem dX11_logged_25 : decode cX11_logged 25 = .ok (.iaload, 1) := by decide +kernel
theorem dX11_logged_26 : decode cX11_logged 26 = .ok (.goto 4, 3) := by decide +kernel
theorem dX11_logged_29 : decode cX11_logged 29 = .ok (.iconst (-1), 1) := by decide +kernel
theorem dX11_logged_30 : decode cX11_logged 30 = .ok (.ireturn, 1) := by decide +kernel
theorem dX11_sentence_0 : decode cX11_sentence 0 = .ok (.aload_n 0, 1) := by decide +kernel
theorem dX11_sentence_1 : decode cX11_sentence 1 = .ok (.getfield 60, 3) := by decide +kernel
theorem dX11_sentence_4 : decode cX11_sentence 4 = .ok (.aload_n 0, 1) := by decide +kernel
theorem dX11_sentence_5 : decode cX11_sentence 5 = .ok (.getfield 14, 3) := by decide +kernel
theorem dX11_sentence_8 : decode cX11_sentence 8 = .ok (.aload_n 0, 1) := by decide +kernel
theorem dX11_sentence_9 : decode cX11_sentence 9 = .ok (.getfield 21, 3) := by decide +kernel
theorem dX11_sentence_12 : decode cX11_sentence 12 = .ok (.getfield 111, 3) := by decide +kernel
theorem dX11_sentence_15 : decode cX11_sentence 15 = .ok (.invokevirtual 385, 3) := by decide +kernel
theorem dX11_sentence_18 : decode cX11_sentence 18 = .ok (.istore_n 1, 1) := by decide +kernel
theorem dX11_sentence_19 : decode cX11_sentence 19 = .ok (.aload_n 0, 1) := by decide +kernel
theorem dX11_sentence_20 : decode cX11_sentence 20 = .ok (.aload_n 0, 1) := by decide +kernel
theorem dX11_sentence_21 : decode cX11_sentence 21 = .ok (.getfield 60, 3) := by decide +kernel
theorem dX11_sentence_24 : decode cX11_sentence 24 = .ok (.getfield 388, 3) := by decide +kernel
theorem dX11_sentence_27 : decode cX11_sentence 27 = .ok (.invokevirtual 102, 3) := by decide +kernel
theorem dX11_sentence_30 : decode cX11_sentence 30 = .ok (.iload_n 1, 1) := by decide +kernel
theorem dX11_sentence_31 : decode cX11_sentence 31 = .ok (.ifCond .ne 16, 3) := by decide +kernel
theorem dX11_sentence_34 : decode cX11_sentence 34 = .ok (.iconst (-1), 1) := by decide +kernel
theorem dX11_sentence_35 : decode cX11_sentence 35 = .ok (.aload_n 0, 1) := by decide +kernel
theorem dX11_sentence_36 : decode cX11_sentence 36 = .ok (.getfield 60, 3) := by decide +kernel
theorem dX11_sentence_39 : decode cX11_sentence 39 = .ok (.getfield 388, 3) := by decide +kernel
theorem dX11_sentence_42 : decode cX11_sentence 42 = .ok (.getfield 106, 3) := by decide +kernel
theorem dX11_sentence_45 : decode cX11_sentence 45 = .ok (.isub, 1) := by decide +kernel
theorem dX11_sentence_46 : decode cX11_sentence 46 = .ok (.ireturn, 1) := by decide +kernel
theorem dX11_sentence_47 : decode cX11_sentence 47 = .ok (.aload_n 0, 1) := by decide +kernel
theorem dX11_sentence_48 : decode cX11_sentence 48 = .ok (.getfield 21, 3) := by decide +kernel
theorem dX11_sentence_51 : decode cX11_sentence 51 = .ok (.getfield 130, 3) := by decide +kernel
theorem dX11_sentence_54 : decode cX11_sentence 54 = .ok (.aload_n 0, 1) := by decide +kernel
theorem dX11_sentence_55 : decode cX11_sentence 55 = .ok (.getfield 60, 3) := by decide +kernel
theorem dX11_sentence_58 : decode cX11_sentence 58 = .ok (.getfield 389, 3) := by decide +kernel
theorem dX11_sentence_61 : decode cX11_sentence 61 = .ok (.invokevirtual 391, 3) := by decide +kernel
theorem dX11_sentence_64 : decode cX11_sentence 64 = .ok (.aload_n 0, 1) := by decide +kernel
theorem dX11_sentence_65 : decode cX11_sentence 65 = .ok (.getfield 21, 3) := by decide +kernel
theorem dX11_sentence_68 : decode cX11_sentence 68 = .ok (.getfield 130, 3) := by decide +kernel
theorem dX11_sentence_71 : decode cX11_sentence 71 = .ok (.getfield 394, 3) := by decide +kernel
theorem dX11_sentence_74 : decode cX11_sentence 74 = .ok (.ireturn, 1) := by decide +kernel
theorem dX11_said_0 : decode cX11_said 0 = .ok (.aload_n 0, 1) := by decide +kernel
theorem dX11_said_1 : decode cX11_said 1 = .ok (.getfield 21, 3) := by decide +kernel
theorem dX11_said_4 : decode cX11_said 4 = .ok (.getfield 130, 3) := by decide +kernel
theorem dX11_said_7 : decode cX11_said 7 = .ok (.getfield 394, 3) := by decide +kernel
theorem dX11_said_10 : decode cX11_said 10 = .ok (.ifCond .ne 5, 3) := by decide +kernel
theorem dX11_said_13 : decode cX11_said 13 = .ok (.iconst (-1), 1) := by decide +kernel
theorem dX11_said_14 : decode cX11_said 14 = .ok (.ireturn, 1) := by decide +kernel
theorem dX11_said_15 : decode cX11_said 15 = .ok (.aload_n 0, 1) := by decide +kernel
theorem dX11_said_16 : decode cX11_said 16 = .ok (.getfield 21, 3) := by decide +kernel
theorem dX11_said_19 : decode cX11_said 19 = .ok (.getfield 130, 3) := by decide +kernel
theorem dX11_said_22 : decode cX11_said 22 = .ok (.aload_n 0, 1) := by decide +kernel
theorem dX11_said_23 : decode cX11_said 23 = .ok (.getfield 21, 3) := by decide +kernel
theorem dX11_said_26 : decode cX11_said 26 = .ok (.getfield 111, 3) := by decide +kernel
theorem dX11_said_29 : decode cX11_said 29 = .ok (.aload_n 0, 1) := by decide +kernel
theorem dX11_said_30 : decode cX11_said 30 = .ok (.getfield 21, 3) := by decide +kernel
theorem dX11_said_33 : decode cX11_said 33 = .ok (.getfield 124, 3) := by decide +kernel
theorem dX11_said_36 : decode cX11_said 36 = .ok (.invokevirtual 397, 3) := by decide +kernel
theorem dX11_said_39 : decode cX11_said 39 = .ok (.istore_n 2, 1) := by decide +kernel
theorem dX11_said_40 : decode cX11_said 40 = .ok (.iload_n 1, 1) := by decide +kernel
theorem dX11_said_41 : decode cX11_said 41 = .ok (.iconst (-1), 1) := by decide +kernel
theorem dX11_said_42 : decode cX11_said 42 = .ok (.if_icmp .ne 8, 3) := by decide +kernel
theorem dX11_said_45 : decode cX11_said 45 = .ok (.iload_n 2, 1) := by decide +kernel
theorem dX11_said_46 : decode cX11_said 46 = .ok (.invokestatic 400, 3) := by decide +kernel
theorem dX11_said_49 : decode cX11_said 49 = .ok (.ireturn, 1) := by decide +kernel
theorem dX11_said_50 : decode cX11_said 50 = .ok (.iconst 0, 1) := by decide +kernel
theorem dX11_said_51 : decode cX11_said 51 = .ok (.istore_n 3, 1) := by decide +kernel
theorem dX11_said_52 : decode cX11_said 52 = .ok (.iconst 0, 1) := by decide +kernel
theorem dX11_said_53 : decode cX11_said 53 = .ok (.istore 4, 2) := by decide +kernel
theorem dX11_said_55 : decode cX11_said 55 = .ok (.iload 4, 2) := by decide +kernel
theorem dX11_said_57 : decode cX11_said 57 = .ok (.aload_n 0, 1) := by decide +kernel
theorem dX11_said_58 : decode cX11_said 58 = .ok (.getfield 21, 3) := by decide +kernel
theorem dX11_said_61 : decode cX11_said 61 = .ok (.getfield 111, 3) := by decide +kernel
theorem dX11_said_64 : decode cX11_said 64 = .ok (.getfield 322, 3) := by decide +kernel
theorem dX11_said_67 : decode cX11_said 67 = .ok (.if_icmp .ge 30, 3) := by decide +kernel
theorem dX11_said_70 : decode cX11_said 70 = .ok (.iload_n 2, 1) := by decide +kernel
theorem dX11_said_71 : decode cX11_said 71 = .ok (.iload 4, 2) := by decide +kernel
theorem dX11_said_73 : decode cX11_said 73 = .ok (.invokestatic 171, 3) := by decide +kernel
theorem dX11_said_76 : decode cX11_said 76 = .ok (.iconst 1, 1) := by decide +kernel
theorem dX11_said_77 : decode cX11_said 77 = .ok (.if_icmp .ne 14, 3) := by decide +kernel
theorem dX11_said_80 : decode cX11_said 80 = .ok (.iload_n 3, 1) := by decide +kernel
theorem dX11_said_81 : decode cX11_said 81 = .ok (.iload_n 1, 1) := by decide +kernel
theorem dX11_said_82 : decode cX11_said 82 = .ok (.if_icmp .ne 6, 3) := by decide +kernel
theorem dX11_said_85 : decode cX11_said 85 = .ok (.iload 4, 2) := by decide +kernel
theorem dX11_said_87 : decode cX11_said 87 = .ok (.ireturn, 1) := by decide +kernel
theorem dX11_said_88 : decode cX11_said 88 = .ok (.iinc 3 1, 3) := by decide +kernel
theorem dX11_said_91 : decode cX11_said 91 = .ok (.iinc 4 1, 3) := by decide +kernel
theorem dX11_said_94 : decode cX11_said 94 = .ok (.goto (-39), 3) := by decide +kernel
theorem dX11_said_97 : decode cX11_said 97 = .ok (.iconst (-1), 1) := by decide +kernel
theorem dX11_said_98 : decode cX11_said 98 = .ok (.ireturn, 1) := by decide +kernel
theorem dX11_image_0 : decode cX11_image 0 = .ok (.iload_n 1, 1) := by decide +kernel
theorem dX11_image_1 : decode cX11_image 1 = .ok (.ifCond .lt 8, 3) := by decide +kernel
theorem dX11_image_4 : decode cX11_image 4 = .ok (.iload_n 1, 1) := by decide +kernel
theorem dX11_image_5 : decode cX11_image 5 = .ok (.iconst 2, 1) := by decide +kernel
theorem dX11_image_6 : decode cX11_image 6 = .ok (.if_icmp .lt 5, 3) := by decide +kernel
theorem dX11_image_9 : decode cX11_image 9 = .ok (.iconst 0, 1) := by decide +kernel
theorem dX11_image_10 : decode cX11_image 10 = .ok (.ireturn, 1) := by decide +kernel
theorem dX11_image_11 : decode cX11_image 11 = .ok (.aload_n 0, 1) := by decide +kernel
theorem dX11_image_12 : decode cX11_image 12 = .ok (.getfield 25, 3) := by decide +kernel
theorem dX11_image_15 : decode cX11_image 15 = .ok (.iload_n 1, 1) := by decide +kernel
theorem dX11_image_16 : decode cX11_image 16 = .ok (.aaload, 1) := by decide +kernel
theorem dX11_image_17 : decode cX11_image 17 = .ok (.aload_n 0, 1) := by decide +kernel
theorem dX11_image_18 : decode cX11_image 18 = .ok (.getfield 21, 3) := by decide +kernel
theorem dX11_image_21 : decode cX11_image 21 = .ok (.invokevirtual 405, 3) := by decide +kernel
theorem dX11_image_24 : decode cX11_image 24 = .ok (.aload_n 0, 1) := by decide +kernel
theorem dX11_image_25 : decode cX11_image 25 = .ok (.getfield 25, 3) := by decide +kernel
theorem dX11_image_28 : decode cX11_image 28 = .ok (.iload_n 1, 1) := by decide +kernel
theorem dX11_image_29 : decode cX11_image 29 = .ok (.aaload, 1) := by decide +kernel
theorem dX11_image_30 : decode cX11_image 30 = .ok (.iconst 1, 1) := by decide +kernel
theorem dX11_image_31 : decode cX11_image 31 = .ok (.putfield 408, 3) := by decide +kernel
theorem dX11_image_34 : decode cX11_image 34 = .ok (.iconst 1, 1) := by decide +kernel
theorem dX11_image_35 : decode cX11_image 35 = .ok (.ireturn, 1) := by decide +kernel
theorem dX11_restore_0 : decode cX11_restore 0 = .ok (.iload_n 1, 1) := by decide +kernel
theorem dX11_restore_1 : decode cX11_restore 1 = .ok (.ifCond .lt 20, 3) := by decide +kernel
theorem dX11_restore_4 : decode cX11_restore 4 = .ok (.iload_n 1, 1) := by decide +kernel
theorem dX11_restore_5 : decode cX11_restore 5 = .ok (.iconst 2, 1) := by decide +kernel
theorem dX11_restore_6 : decode cX11_restore 6 = .ok (.if_icmp .ge 15, 3) := by decide +kernel
theorem dX11_restore_9 : decode cX11_restore 9 = .ok (.aload_n 0, 1) := by decide +kernel
theorem dX11_restore_10 : decode cX11_restore 10 = .ok (.getfield 25, 3) := by decide +kernel
theorem dX11_restore_13 : decode cX11_restore 13 = .ok (.iload_n 1, 1) := by decide +kernel
theorem dX11_restore_14 : decode cX11_restore 14 = .ok (.aaload, 1) := by decide +kernel
theorem dX11_restore_15 : decode cX11_restore 15 = .ok (.getfield 408, 3) := by decide +kernel
theorem dX11_restore_18 : decode cX11_restore 18 = .ok (.ifCond .ne 5, 3) := by decide +kernel
theorem dX11_restore_21 : decode cX11_restore 21 = .ok (.iconst 0, 1) := by decide +kernel
theorem dX11_restore_22 : decode cX11_restore 22 = .ok (.ireturn, 1) := by decide +kernel
theorem dX11_restore_23 : decode cX11_restore 23 = .ok (.aload_n 0, 1) := by decide +kernel
theorem dX11_restore_24 : decode cX11_restore 24 = .ok (.getfield 21, 3) := by decide +kernel
theorem dX11_restore_27 : decode cX11_restore 27 = .ok (.aload_n 0, 1) := by decide +kernel
theorem dX11_restore_28 : decode cX11_restore 28 = .ok (.getfield 25, 3) := by decide +kernel
theorem dX11_restore_31 : decode cX11_restore 31 = .ok (.iload_n 1, 1) := by decide +kernel
theorem dX11_restore_32 : decode cX11_restore 32 = .ok (.aaload, 1) := by decide +kernel
theorem dX11_restore_33 : decode cX11_restore 33 = .ok (.invokevirtual 405, 3) := by decide +kernel
theorem dX11_restore_36 : decode cX11_restore 36 = .ok (.aload_n 0, 1) := by decide +kernel
theorem dX11_restore_37 : decode cX11_restore 37 = .ok (.getfield 32, 3) := by decide +kernel
theorem dX11_restore_40 : decode cX11_restore 40 = .ok (.invokevirtual 139, 3) := by decide +kernel
theorem dX11_restore_43 : decode cX11_restore 43 = .ok (.iconst 1, 1) := by decide +kernel
theorem dX11_restore_44 : decode cX11_restore 44 = .ok (.ireturn, 1) := by decide +kernel
theorem dX11_count_0 : decode cX11_count 0 = .ok (.iload_n 1, 1) := by decide +kernel
theorem dX11_count_1 : decode cX11_count 1 = .ok (.tableswitch 72 0 3 #[31, 42, 53, 64], 31) := by decide +kernel
theorem dX11_count_32 : decode cX11_count 32 = .ok (.aload_n 0, 1) := by decide +kernel
theorem dX11_count_33 : decode cX11_count 33 = .ok (.getfield 21, 3) := by decide +kernel
theorem dX11_count_36 : decode cX11_count 36 = .ok (.getfield 111, 3) := by decide +kernel
theorem dX11_count_39 : decode cX11_count 39 = .ok (.getfield 322, 3) := by decide +kernel
theorem dX11_count_42 : decode cX11_count 42 = .ok (.ireturn, 1) := by decide +kernel
theorem dX11_count_43 : decode cX11_count 43 = .ok (.aload_n 0, 1) := by decide +kernel
theorem dX11_count_44 : decode cX11_count 44 = .ok (.getfield 21, 3) := by decide +kernel
theorem dX11_count_47 : decode cX11_count 47 = .ok (.getfield 111, 3) := by decide +kernel
theorem dX11_count_50 : decode cX11_count 50 = .ok (.getfield 316, 3) := by decide +kernel
theorem dX11_count_53 : decode cX11_count 53 = .ok (.ireturn, 1) := by decide +kernel
theorem dX11_count_54 : decode cX11_count 54 = .ok (.aload_n 0, 1) := by decide +kernel
theorem dX11_count_55 : decode cX11_count 55 = .ok (.getfield 21, 3) := by decide +kernel
theorem dX11_count_58 : decode cX11_count 58 = .ok (.getfield 111, 3) := by decide +kernel
theorem dX11_count_61 : decode cX11_count 61 = .ok (.getfield 411, 3) := by decide +kernel
theorem dX11_count_64 : decode cX11_count 64 = .ok (.ireturn, 1) := by decide +kernel
theorem dX11_count_65 : decode cX11_count 65 = .ok (.aload_n 0, 1) := by decide +kernel
theorem dX11_count_66 : decode cX11_count 66 = .ok (.getfield 14, 3) := by decide +kernel
theorem dX11_count_69 : decode cX11_count 69 = .ok (.getfield 88, 3) := by decide +kernel
theorem dX11_count_72 : decode cX11_count 72 = .ok (.ireturn, 1) := by decide +kernel
theorem dX11_count_73 : decode cX11_count 73 = .ok (.iconst (-1), 1) := by decide +kernel
theorem dX11_count_74 : decode cX11_count 74 = .ok (.ireturn, 1) := by decide +kernel
theorem dX11_isThing_0 : decode cX11_isThing 0 = .ok (.iload_n 1, 1) := by decide +kernel
theorem dX11_isThing_1 : decode cX11_isThing 1 = .ok (.ifCond .lt 21, 3) := by decide +kernel
theorem dX11_isThing_4 : decode cX11_isThing 4 = .ok (.iload_n 1, 1) := by decide +kernel
theorem dX11_isThing_5 : decode cX11_isThing 5 = .ok (.aload_n 0, 1) := by decide +kernel
theorem dX11_isThing_6 : decode cX11_isThing 6 = .ok (.getfield 21, 3) := by decide +kernel
theorem dX11_isThing_9 : decode cX11_isThing 9 = .ok (.getfield 111, 3) := by decide +kernel
theorem dX11_isThing_12 : decode cX11_isThing 12 = .ok (.getfield 322, 3) := by decide +kernel
theorem dX11_isThing_15 : decode cX11_isThing 15 = .ok (.if_icmp .ge 7, 3) := by decide +kernel
theorem dX11_isThing_18 : decode cX11_isThing 18 = .ok (.iconst 1, 1) := by decide +kernel
theorem dX11_isThing_19 : decode cX11_isThing 19 = .ok (.goto 4, 3) := by decide +kernel
theorem dX11_isThing_22 : decode cX11_isThing 22 = .ok (.iconst 0, 1) := by decide +kernel
theorem dX11_isThing_23 : decode cX11_isThing 23 = .ok (.ireturn, 1) := by decide +kernel
theorem dX11_isFault_0 : decode cX11_isFault 0 = .ok (.iload_n 1, 1) := by decide +kernel
theorem dX11_isFault_1 : decode cX11_isFault 1 = .ok (.ifCond .lt 21, 3) := by decide +kernel
theorem dX11_isFault_4 : decode cX11_isFault 4 = .ok (.iload_n 1, 1) := by decide +kernel
theorem dX11_isFault_5 : decode cX11_isFault 5 = .ok (.aload_n 0, 1) := by decide +kernel
theorem dX11_isFault_6 : decode cX11_isFault 6 = .ok (.getfield 21, 3) := by decide +kernel
theorem dX11_isFault_9 : decode cX11_isFault 9 = .ok (.getfield 111, 3) := by decide +kernel
theorem dX11_isFault_12 : decode cX11_isFault 12 = .ok (.getfield 316, 3) := by decide +kernel
theorem dX11_isFault_15 : decode cX11_isFault 15 = .ok (.if_icmp .ge 7, 3) := by decide +kernel
theorem dX11_isFault_18 : decode cX11_isFault 18 = .ok (.iconst 1, 1) := by decide +kernel
theorem dX11_isFault_19 : decode cX11_isFault 19 = .ok (.goto 4, 3) := by decide +kernel
theorem dX11_isFault_22 : decode cX11_isFault 22 = .ok (.iconst 0, 1) := by decide +kernel
theorem dX11_isFault_23 : decode cX11_isFault 23 = .ok (.ireturn, 1) := by decide +kernel
theorem dX11_takeText_0 : decode cX11_takeText 0 = .ok (.aload_n 0, 1) := by decide +kernel
theorem dX11_takeText_1 : decode cX11_takeText 1 = .ok (.getfield 14, 3) := by decide +kernel
theorem dX11_takeText_4 : decode cX11_takeText 4 = .ok (.iconst 0, 1) := by decide +kernel
theorem dX11_takeText_5 : decode cX11_takeText 5 = .ok (.putfield 88, 3) := by decide +kernel
theorem dX11_takeText_8 : decode cX11_takeText 8 = .ok (.aload_n 0, 1) := by decide +kernel
theorem dX11_takeText_9 : decode cX11_takeText 9 = .ok (.aload_n 1, 1) := by decide +kernel
theorem dX11_takeText_10 : decode cX11_takeText 10 = .ok (.getfield 414, 3) := by decide +kernel
theorem dX11_takeText_13 : decode cX11_takeText 13 = .ok (.putfield 143, 3) := by decide +kernel
theorem dX11_takeText_16 : decode cX11_takeText 16 = .ok (.return_, 1) := by decide +kernel
theorem dX11_faultsByLamps_0 : decode cX11_faultsByLamps 0 = .ok (.aload_n 0, 1) := by decide +kernel
theorem dX11_faultsByLamps_1 : decode cX11_faultsByLamps 1 = .ok (.getfield 21, 3) := by decide +kernel
theorem dX11_faultsByLamps_4 : decode cX11_faultsByLamps 4 = .ok (.getfield 111, 3) := by decide +kernel
theorem dX11_faultsByLamps_7 : decode cX11_faultsByLamps 7 = .ok (.astore_n 1, 1) := by decide +kernel
theorem dX11_faultsByLamps_8 : decode cX11_faultsByLamps 8 = .ok (.aload_n 0, 1) := by decide +kernel
theorem dX11_faultsByLamps_9 : decode cX11_faultsByLamps 9 = .ok (.getfield 14, 3) := by decide +kernel
theorem dX11_faultsByLamps_12 : decode cX11_faultsByLamps 12 = .ok (.getfield 88, 3) := by decide +kernel
theorem dX11_faultsByLamps_15 : decode cX11_faultsByLamps 15 = .ok (.iconst 2, 1) := by decide +kernel
theorem dX11_faultsByLamps_16 : decode cX11_faultsByLamps 16 = .ok (.if_icmp .lt 27, 3) := by decide +kernel
theorem dX11_faultsByLamps_19 : decode cX11_faultsByLamps 19 = .ok (.aload_n 0, 1) := by decide +kernel
theorem dX11_faultsByLamps_20 : decode cX11_faultsByLamps 20 = .ok (.getfield 14, 3) := by decide +kernel
theorem dX11_faultsByLamps_23 : decode cX11_faultsByLamps 23 = .ok (.getfield 88, 3) := by decide +kernel
theorem dX11_faultsByLamps_26 : decode cX11_faultsByLamps 26 = .ok (.bipush 12, 2) := by decide +kernel
theorem dX11_faultsByLamps_28 : decode cX11_faultsByLamps 28 = .ok (.if_icmp .gt 15, 3) := by decide +kernel
theorem dX11_faultsByLamps_31 : decode cX11_faultsByLamps 31 = .ok (.aload_n 0, 1) := by decide +kernel
theorem dX11_faultsByLamps_32 : decode cX11_faultsByLamps 32 = .ok (.getfield 14, 3) := by decide +kernel
theorem dX11_faultsByLamps_35 : decode cX11_faultsByLamps 35 = .ok (.getfield 88, 3) := by decide +kernel
theorem dX11_faultsByLamps_38 : decode cX11_faultsByLamps 38 = .ok (.iconst 2, 1) := by decide +kernel
theorem dX11_faultsByLamps_39 : decode cX11_faultsByLamps 39 = .ok (.irem, 1) := by decide +kernel
theorem dX11_faultsByLamps_40 : decode cX11_faultsByLamps 40 = .ok (.ifCond .eq 5, 3) := by decide +kernel
theorem dX11_faultsByLamps_43 : decode cX11_faultsByLamps 43 = .ok (.iconst (-1), 1) := by decide +kernel
theorem dX11_faultsByLamps_44 : decode cX11_faultsByLamps 44 = .ok (.ireturn, 1) := by decide +kernel
theorem dX11_faultsByLamps_45 : decode cX11_faultsByLamps 45 = .ok (.iconst 1, 1) := by decide +kernel
theorem dX11_faultsByLamps_46 : decode cX11_faultsByLamps 46 = .ok (.aload_n 1, 1) := by decide +kernel
theorem dX11_faultsByLamps_47 : decode cX11_faultsByLamps 47 = .ok (.getfield 316, 3) := by decide +kernel
theorem dX11_faultsByLamps_50 : decode cX11_faultsByLamps 50 = .ok (.ishl, 1) := by decide +kernel
theorem dX11_faultsByLamps_51 : decode cX11_faultsByLamps 51 = .ok (.iconst 1, 1) := by decide +kernel
theorem dX11_faultsByLamps_52 : decode cX11_faultsByLamps 52 = .ok (.isub, 1) := by decide +kernel
theorem dX11_faultsByLamps_53 : decode cX11_faultsByLamps 53 = .ok (.istore_n 2, 1) := by decide +kernel
theorem dX11_faultsByLamps_54 : decode cX11_faultsByLamps 54 = .ok (.iconst 0, 1) := by decide +kernel
theorem dX11_faultsByLamps_55 : decode cX11_faultsByLamps 55 = .ok (.istore_n 3, 1) := by decide +kernel
theorem dX11_faultsByLamps_56 : decode cX11_faultsByLamps 56 = .ok (.iload_n 3, 1) := by decide +kernel
theorem dX11_faultsByLamps_57 : decode cX11_faultsByLamps 57 = .ok (.aload_n 0, 1) := by decide +kernel
theorem dX11_faultsByLamps_58 : decode cX11_faultsByLamps 58 = .ok (.getfield 14, 3) := by decide +kernel
theorem dX11_faultsByLamps_61 : decode cX11_faultsByLamps 61 = .ok (.getfield 88, 3) := by decide +kernel
theorem dX11_faultsByLamps_64 : decode cX11_faultsByLamps 64 = .ok (.if_icmp .ge 49, 3) := by decide +kernel
theorem dX11_faultsByLamps_67 : decode cX11_faultsByLamps 67 = .ok (.aload_n 0, 1) := by decide +kernel
theorem dX11_faultsByLamps_68 : decode cX11_faultsByLamps 68 = .ok (.getfield 14, 3) := by decide +kernel
theorem dX11_faultsByLamps_71 : decode cX11_faultsByLamps 71 = .ok (.iload_n 3, 1) := by decide +kernel
theorem dX11_faultsByLamps_72 : decode cX11_faultsByLamps 72 = .ok (.invokevirtual 363, 3) := by decide +kernel
theorem dX11_faultsByLamps_75 : decode cX11_faultsByLamps 75 = .ok (.istore 4, 2) := by decide +kernel
theorem dX11_faultsByLamps_77 : decode cX11_faultsByLamps 77 = .ok (.aload_n 0, 1) := by decide +kernel
theorem dX11_faultsByLamps_78 : decode cX11_faultsByLamps 78 = .ok (.iload 4, 2) := by decide +kernel
theorem dX11_faultsByLamps_80 : decode cX11_faultsByLamps 80 = .ok (.invokevirtual 146, 3) := by decide +kernel
theorem dX11_faultsByLamps_83 : decode cX11_faultsByLamps 83 = .ok (.ifCond .ne 5, 3) := by decide +kernel
theorem dX11_faultsByLamps_86 : decode cX11_faultsByLamps 86 = .ok (.iconst (-1), 1) := by decide +kernel
theorem dX11_faultsByLamps_87 : decode cX11_faultsByLamps 87 = .ok (.ireturn, 1) := by decide +kernel
theorem dX11_faultsByLamps_88 : decode cX11_faultsByLamps 88 = .ok (.iload_n 2, 1) := by decide +kernel
theorem dX11_faultsByLamps_89 : decode cX11_faultsByLamps 89 = .ok (.aload_n 1, 1) := by decide +kernel
theorem dX11_faultsByLamps_90 : decode cX11_faultsByLamps 90 = .ok (.iload 4, 2) := by decide +kernel
theorem dX11_faultsByLamps_92 : decode cX11_faultsByLamps 92 = .ok (.aload_n 0, 1) := by decide +kernel
theorem dX11_faultsByLamps_93 : decode cX11_faultsByLamps 93 = .ok (.getfield 14, 3) := by decide +kernel
theorem dX11_faultsByLamps_96 : decode cX11_faultsByLamps 96 = .ok (.iload_n 3, 1) := by decide +kernel
theorem dX11_faultsByLamps_97 : decode cX11_faultsByLamps 97 = .ok (.iconst 1, 1) := by decide +kernel
theorem dX11_faultsByLamps_98 : decode cX11_faultsByLamps 98 = .ok (.iadd, 1) := by decide +kernel
theorem dX11_faultsByLamps_99 : decode cX11_faultsByLamps 99 = .ok (.invokevirtual 363, 3) := by decide +kernel
theorem dX11_faultsByLamps_102 : decode cX11_faultsByLamps 102 = .ok (.invokevirtual 417, 3) := by decide +kernel
theorem dX11_faultsByLamps_105 : decode cX11_faultsByLamps 105 = .ok (.iand, 1) := by decide +kernel
theorem dX11_faultsByLamps_106 : decode cX11_faultsByLamps 106 = .ok (.istore_n 2, 1) := by decide +kernel
theorem dX11_faultsByLamps_107 : decode cX11_faultsByLamps 107 = .ok (.iinc 3 2, 3) := by decide +kernel
theorem dX11_faultsByLamps_110 : decode cX11_faultsByLamps 110 = .ok (.goto (-54), 3) := by decide +kernel
theorem dX11_faultsByLamps_113 : decode cX11_faultsByLamps 113 = .ok (.iload_n 2, 1) := by decide +kernel
theorem dX11_faultsByLamps_114 : decode cX11_faultsByLamps 114 = .ok (.ireturn, 1) := by decide +kernel
theorem dX11_eveningsWithDeed_0 : decode cX11_eveningsWithDeed 0 = .ok (.aload_n 0, 1) := by decide +kernel
theorem dX11_eveningsWithDeed_1 : decode cX11_eveningsWithDeed 1 = .ok (.getfield 14, 3) := by decide +kernel
theorem dX11_eveningsWithDeed_4 : decode cX11_eveningsWithDeed 4 = .ok (.getfield 88, 3) := by decide +kernel
theorem dX11_eveningsWithDeed_7 : decode cX11_eveningsWithDeed 7 = .ok (.iconst 4, 1) := by decide +kernel
theorem dX11_eveningsWithDeed_8 : decode cX11_eveningsWithDeed 8 = .ok (.if_icmp .lt 27, 3) := by decide +kernel
theorem dX11_eveningsWithDeed_11 : decode cX11_eveningsWithDeed 11 = .ok (.aload_n 0, 1) := by decide +kernel
theorem dX11_eveningsWithDeed_12 : decode cX11_eveningsWithDeed 12 = .ok (.getfield 14, 3) := by decide +kernel
theorem dX11_eveningsWithDeed_15 : decode cX11_eveningsWithDeed 15 = .ok (.getfield 88, 3) := by decide +kernel
theorem dX11_eveningsWithDeed_18 : decode cX11_eveningsWithDeed 18 = .ok (.bipush 20, 2) := by decide +kernel
theorem dX11_eveningsWithDeed_20 : decode cX11_eveningsWithDeed 20 = .ok (.if_icmp .gt 15, 3) := by decide +kernel
theorem dX11_eveningsWithDeed_23 : decode cX11_eveningsWithDeed 23 = .ok (.aload_n 0, 1) := by decide +kernel
theorem dX11_eveningsWithDeed_24 : decode cX11_eveningsWithDeed 24 = .ok (.getfield 14, 3) := by decide +kernel
theorem dX11_eveningsWithDeed_27 : decode cX11_eveningsWithDeed 27 = .ok (.getfield 88, 3) := by decide +kernel
theorem dX11_eveningsWithDeed_30 : decode cX11_eveningsWithDeed 30 = .ok (.iconst 2, 1) := by decide +kernel
theorem dX11_eveningsWithDeed_31 : decode cX11_eveningsWithDeed 31 = .ok (.irem, 1) := by decide +kernel
theorem dX11_eveningsWithDeed_32 : decode cX11_eveningsWithDeed 32 = .ok (.ifCond .eq 5, 3) := by decide +kernel
theorem dX11_eveningsWithDeed_35 : decode cX11_eveningsWithDeed 35 = .ok (.iconst (-1), 1) := by decide +kernel
theorem dX11_eveningsWithDeed_36 : decode cX11_eveningsWithDeed 36 = .ok (.ireturn, 1) := by decide +kernel
theorem dX11_eveningsWithDeed_37 : decode cX11_eveningsWithDeed 37 = .ok (.iconst 0, 1) := by decide +kernel
theorem dX11_eveningsWithDeed_38 : decode cX11_eveningsWithDeed 38 = .ok (.istore_n 1, 1) := by decide +kernel
end
section
theorem dX11_eveningsWithDeed_39 : decode cX11_eveningsWithDeed 39 = .ok (.iconst 0, 1) := by decide +kernel
theorem dX11_eveningsWithDeed_40 : decode cX11_eveningsWithDeed 40 = .ok (.istore_n 2, 1) := by decide +kernel
theorem dX11_eveningsWithDeed_41 : decode cX11_eveningsWithDeed 41 = .ok (.iload_n 2, 1) := by decide +kernel
theorem dX11_eveningsWithDeed_42 : decode cX11_eveningsWithDeed 42 = .ok (.aload_n 0, 1) := by decide +kernel
theorem dX11_eveningsWithDeed_43 : decode cX11_eveningsWithDeed 43 = .ok (.getfield 14, 3) := by decide +kernel
theorem dX11_eveningsWithDeed_46 : decode cX11_eveningsWithDeed 46 = .ok (.getfield 88, 3) := by decide +kernel
theorem dX11_eveningsWithDeed_49 : decode cX11_eveningsWithDeed 49 = .ok (.if_icmp .ge 29, 3) := by decide +kernel
theorem dX11_eveningsWithDeed_52 : decode cX11_eveningsWithDeed 52 = .ok (.aload_n 0, 1) := by decide +kernel
theorem dX11_eveningsWithDeed_53 : decode cX11_eveningsWithDeed 53 = .ok (.getfield 14, 3) := by decide +kernel
theorem dX11_eveningsWithDeed_56 : decode cX11_eveningsWithDeed 56 = .ok (.iload_n 2, 1) := by decide +kernel
theorem dX11_eveningsWithDeed_57 : decode cX11_eveningsWithDeed 57 = .ok (.invokevirtual 363, 3) := by decide +kernel
theorem dX11_eveningsWithDeed_60 : decode cX11_eveningsWithDeed 60 = .ok (.istore_n 3, 1) := by decide +kernel
theorem dX11_eveningsWithDeed_61 : decode cX11_eveningsWithDeed 61 = .ok (.iload_n 3, 1) := by decide +kernel
theorem dX11_eveningsWithDeed_62 : decode cX11_eveningsWithDeed 62 = .ok (.iconst 1, 1) := by decide +kernel
theorem dX11_eveningsWithDeed_63 : decode cX11_eveningsWithDeed 63 = .ok (.if_icmp .le 5, 3) := by decide +kernel
theorem dX11_eveningsWithDeed_66 : decode cX11_eveningsWithDeed 66 = .ok (.iconst (-1), 1) := by decide +kernel
theorem dX11_eveningsWithDeed_67 : decode cX11_eveningsWithDeed 67 = .ok (.ireturn, 1) := by decide +kernel
theorem dX11_eveningsWithDeed_68 : decode cX11_eveningsWithDeed 68 = .ok (.iload_n 1, 1) := by decide +kernel
theorem dX11_eveningsWithDeed_69 : decode cX11_eveningsWithDeed 69 = .ok (.iload_n 3, 1) := by decide +kernel
theorem dX11_eveningsWithDeed_70 : decode cX11_eveningsWithDeed 70 = .ok (.iadd, 1) := by decide +kernel
theorem dX11_eveningsWithDeed_71 : decode cX11_eveningsWithDeed 71 = .ok (.istore_n 1, 1) := by decide +kernel
theorem dX11_eveningsWithDeed_72 : decode cX11_eveningsWithDeed 72 = .ok (.iinc 2 2, 3) := by decide +kernel
theorem dX11_eveningsWithDeed_75 : decode cX11_eveningsWithDeed 75 = .ok (.goto (-34), 3) := by decide +kernel
theorem dX11_eveningsWithDeed_78 : decode cX11_eveningsWithDeed 78 = .ok (.iload_n 1, 1) := by decide +kernel
theorem dX11_eveningsWithDeed_79 : decode cX11_eveningsWithDeed 79 = .ok (.ifCond .eq 16, 3) := by decide +kernel
theorem dX11_eveningsWithDeed_82 : decode cX11_eveningsWithDeed 82 = .ok (.iload_n 1, 1) := by decide +kernel
theorem dX11_eveningsWithDeed_83 : decode cX11_eveningsWithDeed 83 = .ok (.aload_n 0, 1) := by decide +kernel
theorem dX11_eveningsWithDeed_84 : decode cX11_eveningsWithDeed 84 = .ok (.getfield 14, 3) := by decide +kernel
theorem dX11_eveningsWithDeed_87 : decode cX11_eveningsWithDeed 87 = .ok (.getfield 88, 3) := by decide +kernel
theorem dX11_eveningsWithDeed_90 : decode cX11_eveningsWithDeed 90 = .ok (.iconst 2, 1) := by decide +kernel
theorem dX11_eveningsWithDeed_91 : decode cX11_eveningsWithDeed 91 = .ok (.idiv, 1) := by decide +kernel
theorem dX11_eveningsWithDeed_92 : decode cX11_eveningsWithDeed 92 = .ok (.if_icmp .ne 7, 3) := by decide +kernel
theorem dX11_eveningsWithDeed_95 : decode cX11_eveningsWithDeed 95 = .ok (.iconst (-1), 1) := by decide +kernel
theorem dX11_eveningsWithDeed_96 : decode cX11_eveningsWithDeed 96 = .ok (.goto 4, 3) := by decide +kernel
theorem dX11_eveningsWithDeed_99 : decode cX11_eveningsWithDeed 99 = .ok (.iload_n 1, 1) := by decide +kernel
theorem dX11_eveningsWithDeed_100 : decode cX11_eveningsWithDeed 100 = .ok (.ireturn, 1) := by decide +kernel
theorem dX12_init_0 : decode cX12_init 0 = .ok (.aload_n 0, 1) := by decide +kernel
theorem dX12_init_1 : decode cX12_init 1 = .ok (.invokespecial 1, 3) := by decide +kernel
theorem dX12_init_4 : decode cX12_init 4 = .ok (.aload_n 0, 1) := by decide +kernel
theorem dX12_init_5 : decode cX12_init 5 = .ok (.sipush 940, 3) := by decide +kernel
theorem dX12_init_8 : decode cX12_init 8 = .ok (.newarray .int, 2) := by decide +kernel
theorem dX12_init_10 : decode cX12_init 10 = .ok (.putfield 7, 3) := by decide +kernel
theorem dX12_init_13 : decode cX12_init 13 = .ok (.aload_n 0, 1) := by decide +kernel
theorem dX12_init_14 : decode cX12_init 14 = .ok (.sipush 379, 3) := by decide +kernel
theorem dX12_init_17 : decode cX12_init 17 = .ok (.newarray .int, 2) := by decide +kernel
theorem dX12_init_19 : decode cX12_init 19 = .ok (.putfield 13, 3) := by decide +kernel
theorem dX12_init_22 : decode cX12_init 22 = .ok (.aload_n 0, 1) := by decide +kernel
theorem dX12_init_23 : decode cX12_init 23 = .ok (.bipush 77, 2) := by decide +kernel
theorem dX12_init_25 : decode cX12_init 25 = .ok (.newarray .int, 2) := by decide +kernel
theorem dX12_init_27 : decode cX12_init 27 = .ok (.putfield 16, 3) := by decide +kernel
theorem dX12_init_30 : decode cX12_init 30 = .ok (.aload_n 0, 1) := by decide +kernel
theorem dX12_init_31 : decode cX12_init 31 = .ok (.sipush 758, 3) := by decide +kernel
theorem dX12_init_34 : decode cX12_init 34 = .ok (.newarray .int, 2) := by decide +kernel
theorem dX12_init_36 : decode cX12_init 36 = .ok (.putfield 19, 3) := by decide +kernel
theorem dX12_init_39 : decode cX12_init 39 = .ok (.aload_n 0, 1) := by decide +kernel
theorem dX12_init_40 : decode cX12_init 40 = .ok (.sipush 480, 3) := by decide +kernel
theorem dX12_init_43 : decode cX12_init 43 = .ok (.newarray .int, 2) := by decide +kernel
theorem dX12_init_45 : decode cX12_init 45 = .ok (.putfield 22, 3) := by decide +kernel
theorem dX12_init_48 : decode cX12_init 48 = .ok (.aload_n 0, 1) := by decide +kernel
theorem dX12_init_49 : decode cX12_init 49 = .ok (.bipush 60, 2) := by decide +kernel
theorem dX12_init_51 : decode cX12_init 51 = .ok (.newarray .int, 2) := by decide +kernel
theorem dX12_init_53 : decode cX12_init 53 = .ok (.putfield 25, 3) := by decide +kernel
theorem dX12_init_56 : decode cX12_init 56 = .ok (.aload_n 0, 1) := by decide +kernel
theorem dX12_init_57 : decode cX12_init 57 = .ok (.bipush 14, 2) := by decide +kernel
theorem dX12_init_59 : decode cX12_init 59 = .ok (.newarray .long, 2) := by decide +kernel
theorem dX12_init_61 : decode cX12_init 61 = .ok (.putfield 28, 3) := by decide +kernel
theorem dX12_init_64 : decode cX12_init 64 = .ok (.aload_n 0, 1) := by decide +kernel
theorem dX12_init_65 : decode cX12_init 65 = .ok (.bipush 14, 2) := by decide +kernel
theorem dX12_init_67 : decode cX12_init 67 = .ok (.newarray .long, 2) := by decide +kernel
theorem dX12_init_69 : decode cX12_init 69 = .ok (.putfield 32, 3) := by decide +kernel
theorem dX12_init_72 : decode cX12_init 72 = .ok (.aload_n 0, 1) := by decide +kernel
theorem dX12_init_73 : decode cX12_init 73 = .ok (.bipush 28, 2) := by decide +kernel
theorem dX12_init_75 : decode cX12_init 75 = .ok (.newarray .long, 2) := by decide +kernel
theorem dX12_init_77 : decode cX12_init 77 = .ok (.putfield 35, 3) := by decide +kernel
theorem dX12_init_80 : decode cX12_init 80 = .ok (.aload_n 0, 1) := by decide +kernel
theorem dX12_init_81 : decode cX12_init 81 = .ok (.iconst 2, 1) := by decide +kernel
theorem dX12_init_82 : decode cX12_init 82 = .ok (.newarray .boolean, 2) := by decide +kernel
theorem dX12_init_84 : decode cX12_init 84 = .ok (.putfield 38, 3) := by decide +kernel
theorem dX12_init_87 : decode cX12_init 87 = .ok (.aload_n 0, 1) := by decide +kernel
theorem dX12_init_88 : decode cX12_init 88 = .ok (.bipush 8, 2) := by decide +kernel
theorem dX12_init_90 : decode cX12_init 90 = .ok (.newarray .int, 2) := by decide +kernel
theorem dX12_init_92 : decode cX12_init 92 = .ok (.putfield 42, 3) := by decide +kernel
theorem dX12_init_95 : decode cX12_init 95 = .ok (.aload_n 0, 1) := by decide +kernel
theorem dX12_init_96 : decode cX12_init 96 = .ok (.bipush 32, 2) := by decide +kernel
theorem dX12_init_98 : decode cX12_init 98 = .ok (.newarray .int, 2) := by decide +kernel
theorem dX12_init_100 : decode cX12_init 100 = .ok (.putfield 45, 3) := by decide +kernel
theorem dX12_init_103 : decode cX12_init 103 = .ok (.aload_n 0, 1) := by decide +kernel
theorem dX12_init_104 : decode cX12_init 104 = .ok (.iconst 4, 1) := by decide +kernel
theorem dX12_init_105 : decode cX12_init 105 = .ok (.newarray .int, 2) := by decide +kernel
theorem dX12_init_107 : decode cX12_init 107 = .ok (.putfield 48, 3) := by decide +kernel
theorem dX12_init_110 : decode cX12_init 110 = .ok (.aload_n 0, 1) := by decide +kernel
theorem dX12_init_111 : decode cX12_init 111 = .ok (.iconst 4, 1) := by decide +kernel
theorem dX12_init_112 : decode cX12_init 112 = .ok (.newarray .int, 2) := by decide +kernel
theorem dX12_init_114 : decode cX12_init 114 = .ok (.putfield 51, 3) := by decide +kernel
theorem dX12_init_117 : decode cX12_init 117 = .ok (.aload_n 0, 1) := by decide +kernel
theorem dX12_init_118 : decode cX12_init 118 = .ok (.iconst (-1), 1) := by decide +kernel
theorem dX12_init_119 : decode cX12_init 119 = .ok (.putfield 54, 3) := by decide +kernel
theorem dX12_init_122 : decode cX12_init 122 = .ok (.aload_n 0, 1) := by decide +kernel
theorem dX12_init_123 : decode cX12_init 123 = .ok (.iconst (-1), 1) := by decide +kernel
theorem dX12_init_124 : decode cX12_init 124 = .ok (.putfield 58, 3) := by decide +kernel
theorem dX12_init_127 : decode cX12_init 127 = .ok (.aload_n 0, 1) := by decide +kernel
theorem dX12_init_128 : decode cX12_init 128 = .ok (.bipush 64, 2) := by decide +kernel
theorem dX12_init_130 : decode cX12_init 130 = .ok (.newarray .int, 2) := by decide +kernel
theorem dX12_init_132 : decode cX12_init 132 = .ok (.putfield 61, 3) := by decide +kernel
theorem dX12_init_135 : decode cX12_init 135 = .ok (.aload_n 0, 1) := by decide +kernel
theorem dX12_init_136 : decode cX12_init 136 = .ok (.bipush 120, 2) := by decide +kernel
theorem dX12_init_138 : decode cX12_init 138 = .ok (.newarray .int, 2) := by decide +kernel
theorem dX12_init_140 : decode cX12_init 140 = .ok (.putfield 64, 3) := by decide +kernel
theorem dX12_init_143 : decode cX12_init 143 = .ok (.aload_n 0, 1) := by decide +kernel
theorem dX12_init_144 : decode cX12_init 144 = .ok (.iconst 4, 1) := by decide +kernel
theorem dX12_init_145 : decode cX12_init 145 = .ok (.newarray .int, 2) := by decide +kernel
theorem dX12_init_147 : decode cX12_init 147 = .ok (.putfield 67, 3) := by decide +kernel
theorem dX12_init_150 : decode cX12_init 150 = .ok (.aload_n 0, 1) := by decide +kernel
theorem dX12_init_151 : decode cX12_init 151 = .ok (.sipush 240, 3) := by decide +kernel
theorem dX12_init_154 : decode cX12_init 154 = .ok (.newarray .int, 2) := by decide +kernel
theorem dX12_init_156 : decode cX12_init 156 = .ok (.putfield 70, 3) := by decide +kernel
theorem dX12_init_159 : decode cX12_init 159 = .ok (.return_, 1) := by decide +kernel
theorem dX12_thrown_0 : decode cX12_thrown 0 = .ok (.aload_n 0, 1) := by decide +kernel
theorem dX12_thrown_1 : decode cX12_thrown 1 = .ok (.getfield 73, 3) := by decide +kernel
theorem dX12_thrown_4 : decode cX12_thrown 4 = .ok (.ireturn, 1) := by decide +kernel
theorem dX12_refuse_0 : decode cX12_refuse 0 = .ok (.aload_n 0, 1) := by decide +kernel
theorem dX12_refuse_1 : decode cX12_refuse 1 = .ok (.iconst 1, 1) := by decide +kernel
theorem dX12_refuse_2 : decode cX12_refuse 2 = .ok (.putfield 73, 3) := by decide +kernel
theorem dX12_refuse_5 : decode cX12_refuse 5 = .ok (.iconst 0, 1) := by decide +kernel
theorem dX12_refuse_6 : decode cX12_refuse 6 = .ok (.ireturn, 1) := by decide +kernel
theorem dX12_come_0 : decode cX12_come 0 = .ok (.bipush 24, 2) := by decide +kernel
theorem dX12_come_2 : decode cX12_come 2 = .ok (.istore_n 2, 1) := by decide +kernel
theorem dX12_come_3 : decode cX12_come 3 = .ok (.iload_n 2, 1) := by decide +kernel
theorem dX12_come_4 : decode cX12_come 4 = .ok (.ifCond .lt 35, 3) := by decide +kernel
theorem dX12_come_7 : decode cX12_come 7 = .ok (.aload_n 0, 1) := by decide +kernel
theorem dX12_come_8 : decode cX12_come 8 = .ok (.getfield 7, 3) := by decide +kernel
theorem dX12_come_11 : decode cX12_come 11 = .ok (.aload_n 0, 1) := by decide +kernel
theorem dX12_come_12 : decode cX12_come 12 = .ok (.getfield 76, 3) := by decide +kernel
theorem dX12_come_15 : decode cX12_come 15 = .ok (.iload_n 1, 1) := by decide +kernel
theorem dX12_come_16 : decode cX12_come 16 = .ok (.iload_n 2, 1) := by decide +kernel
theorem dX12_come_17 : decode cX12_come 17 = .ok (.iushr, 1) := by decide +kernel
theorem dX12_come_18 : decode cX12_come 18 = .ok (.sipush 255, 3) := by decide +kernel
theorem dX12_come_21 : decode cX12_come 21 = .ok (.iand, 1) := by decide +kernel
theorem dX12_come_22 : decode cX12_come 22 = .ok (.iastore, 1) := by decide +kernel
theorem dX12_come_23 : decode cX12_come 23 = .ok (.aload_n 0, 1) := by decide +kernel
theorem dX12_come_24 : decode cX12_come 24 = .ok (.dup, 1) := by decide +kernel
theorem dX12_come_25 : decode cX12_come 25 = .ok (.getfield 76, 3) := by decide +kernel
theorem dX12_come_28 : decode cX12_come 28 = .ok (.iconst 1, 1) := by decide +kernel
theorem dX12_come_29 : decode cX12_come 29 = .ok (.iadd, 1) := by decide +kernel
theorem dX12_come_30 : decode cX12_come 30 = .ok (.putfield 76, 3) := by decide +kernel
theorem dX12_come_33 : decode cX12_come 33 = .ok (.iinc 2 (-8), 3) := by decide +kernel
theorem dX12_come_36 : decode cX12_come 36 = .ok (.goto (-33), 3) := by decide +kernel
theorem dX12_come_39 : decode cX12_come 39 = .ok (.return_, 1) := by decide +kernel
theorem dX12_feed_0 : decode cX12_feed 0 = .ok (.aload_n 0, 1) := by decide +kernel
theorem dX12_feed_1 : decode cX12_feed 1 = .ok (.iconst 0, 1) := by decide +kernel
theorem dX12_feed_2 : decode cX12_feed 2 = .ok (.putfield 73, 3) := by decide +kernel
theorem dX12_feed_5 : decode cX12_feed 5 = .ok (.aload_n 0, 1) := by decide +kernel
theorem dX12_feed_6 : decode cX12_feed 6 = .ok (.getfield 76, 3) := by decide +kernel
theorem dX12_feed_9 : decode cX12_feed 9 = .ok (.bipush 20, 2) := by decide +kernel
theorem dX12_feed_11 : decode cX12_feed 11 = .ok (.iadd, 1) := by decide +kernel
theorem dX12_feed_12 : decode cX12_feed 12 = .ok (.sipush 940, 3) := by decide +kernel
theorem dX12_feed_15 : decode cX12_feed 15 = .ok (.if_icmp .le 5, 3) := by decide +kernel
theorem dX12_feed_18 : decode cX12_feed 18 = .ok (.iconst (-1), 1) := by decide +kernel
theorem dX12_feed_19 : decode cX12_feed 19 = .ok (.ireturn, 1) := by decide +kernel
theorem dX12_feed_20 : decode cX12_feed 20 = .ok (.aload_n 0, 1) := by decide +kernel
theorem dX12_feed_21 : decode cX12_feed 21 = .ok (.iload_n 1, 1) := by decide +kernel
theorem dX12_feed_22 : decode cX12_feed 22 = .ok (.invokevirtual 79, 3) := by decide +kernel
theorem dX12_feed_25 : decode cX12_feed 25 = .ok (.aload_n 0, 1) := by decide +kernel
theorem dX12_feed_26 : decode cX12_feed 26 = .ok (.iload_n 2, 1) := by decide +kernel
theorem dX12_feed_27 : decode cX12_feed 27 = .ok (.invokevirtual 79, 3) := by decide +kernel
theorem dX12_feed_30 : decode cX12_feed 30 = .ok (.aload_n 0, 1) := by decide +kernel
theorem dX12_feed_31 : decode cX12_feed 31 = .ok (.iload_n 3, 1) := by decide +kernel
theorem dX12_feed_32 : decode cX12_feed 32 = .ok (.invokevirtual 79, 3) := by decide +kernel
theorem dX12_feed_35 : decode cX12_feed 35 = .ok (.aload_n 0, 1) := by decide +kernel
theorem dX12_feed_36 : decode cX12_feed 36 = .ok (.iload 4, 2) := by decide +kernel
theorem dX12_feed_38 : decode cX12_feed 38 = .ok (.invokevirtual 79, 3) := by decide +kernel
theorem dX12_feed_41 : decode cX12_feed 41 = .ok (.aload_n 0, 1) := by decide +kernel
theorem dX12_feed_42 : decode cX12_feed 42 = .ok (.iload 5, 2) := by decide +kernel
theorem dX12_feed_44 : decode cX12_feed 44 = .ok (.invokevirtual 79, 3) := by decide +kernel
theorem dX12_feed_47 : decode cX12_feed 47 = .ok (.aload_n 0, 1) := by decide +kernel
theorem dX12_feed_48 : decode cX12_feed 48 = .ok (.getfield 76, 3) := by decide +kernel
theorem dX12_feed_51 : decode cX12_feed 51 = .ok (.ireturn, 1) := by decide +kernel
theorem dX12_end_0 : decode cX12_end 0 = .ok (.aload_n 0, 1) := by decide +kernel
theorem dX12_end_1 : decode cX12_end 1 = .ok (.iconst 0, 1) := by decide +kernel
theorem dX12_end_2 : decode cX12_end 2 = .ok (.putfield 73, 3) := by decide +kernel
theorem dX12_end_5 : decode cX12_end 5 = .ok (.iload_n 1, 1) := by decide +kernel
theorem dX12_end_6 : decode cX12_end 6 = .ok (.ifCond .lt 11, 3) := by decide +kernel
theorem dX12_end_9 : decode cX12_end 9 = .ok (.iload_n 1, 1) := by decide +kernel
theorem dX12_end_10 : decode cX12_end 10 = .ok (.aload_n 0, 1) := by decide +kernel
theorem dX12_end_11 : decode cX12_end 11 = .ok (.getfield 76, 3) := by decide +kernel
theorem dX12_end_14 : decode cX12_end 14 = .ok (.if_icmp .le 5, 3) := by decide +kernel
theorem dX12_end_17 : decode cX12_end 17 = .ok (.iconst 0, 1) := by decide +kernel
theorem dX12_end_18 : decode cX12_end 18 = .ok (.ireturn, 1) := by decide +kernel
theorem dX12_end_19 : decode cX12_end 19 = .ok (.aload_n 0, 1) := by decide +kernel
theorem dX12_end_20 : decode cX12_end 20 = .ok (.iload_n 1, 1) := by decide +kernel
theorem dX12_end_21 : decode cX12_end 21 = .ok (.putfield 76, 3) := by decide +kernel
theorem dX12_end_24 : decode cX12_end 24 = .ok (.iconst 1, 1) := by decide +kernel
theorem dX12_end_25 : decode cX12_end 25 = .ok (.ireturn, 1) := by decide +kernel
theorem dX12_take_0 : decode cX12_take 0 = .ok (.aload_n 0, 1) := by decide +kernel
theorem dX12_take_1 : decode cX12_take 1 = .ok (.getfield 76, 3) := by decide +kernel
theorem dX12_take_4 : decode cX12_take 4 = .ok (.istore_n 1, 1) := by decide +kernel
theorem dX12_take_5 : decode cX12_take 5 = .ok (.aload_n 0, 1) := by decide +kernel
theorem dX12_take_6 : decode cX12_take 6 = .ok (.iconst 0, 1) := by decide +kernel
theorem dX12_take_7 : decode cX12_take 7 = .ok (.putfield 76, 3) := by decide +kernel
theorem dX12_take_10 : decode cX12_take 10 = .ok (.iload_n 1, 1) := by decide +kernel
theorem dX12_take_11 : decode cX12_take 11 = .ok (.ireturn, 1) := by decide +kernel
theorem dX12_isIn_0 : decode cX12_isIn 0 = .ok (.iload_n 0, 1) := by decide +kernel
theorem dX12_isIn_1 : decode cX12_isIn 1 = .ok (.iload_n 1, 1) := by decide +kernel
theorem dX12_isIn_2 : decode cX12_isIn 2 = .ok (.if_icmp .lt 12, 3) := by decide +kernel
theorem dX12_isIn_5 : decode cX12_isIn 5 = .ok (.iload_n 0, 1) := by decide +kernel
theorem dX12_isIn_6 : decode cX12_isIn 6 = .ok (.iload_n 2, 1) := by decide +kernel
theorem dX12_isIn_7 : decode cX12_isIn 7 = .ok (.if_icmp .gt 7, 3) := by decide +kernel
theorem dX12_isIn_10 : decode cX12_isIn 10 = .ok (.iconst 1, 1) := by decide +kernel
theorem dX12_isIn_11 : decode cX12_isIn 11 = .ok (.goto 4, 3) := by decide +kernel
theorem dX12_isIn_14 : decode cX12_isIn 14 = .ok (.iconst 0, 1) := by decide +kernel
theorem dX12_isIn_15 : decode cX12_isIn 15 = .ok (.ireturn, 1) := by decide +kernel
theorem dX12_has_0 : decode cX12_has 0 = .ok (.iload_n 0, 1) := by decide +kernel
theorem dX12_has_1 : decode cX12_has 1 = .ok (.iload_n 1, 1) := by decide +kernel
theorem dX12_has_2 : decode cX12_has 2 = .ok (.ishr, 1) := by decide +kernel
theorem dX12_has_3 : decode cX12_has 3 = .ok (.iconst 1, 1) := by decide +kernel
theorem dX12_has_4 : decode cX12_has 4 = .ok (.iand, 1) := by decide +kernel
theorem dX12_has_5 : decode cX12_has 5 = .ok (.iconst 1, 1) := by decide +kernel
theorem dX12_has_6 : decode cX12_has 6 = .ok (.if_icmp .ne 7, 3) := by decide +kernel
theorem dX12_has_9 : decode cX12_has 9 = .ok (.iconst 1, 1) := by decide +kernel
theorem dX12_has_10 : decode cX12_has 10 = .ok (.goto 4, 3) := by decide +kernel
theorem dX12_has_13 : decode cX12_has 13 = .ok (.iconst 0, 1) := by decide +kernel
theorem dX12_has_14 : decode cX12_has 14 = .ok (.ireturn, 1) := by decide +kernel
theorem dX12_least_0 : decode cX12_least 0 = .ok (.iload_n 0, 1) := by decide +kernel
theorem dX12_least_1 : decode cX12_least 1 = .ok (.iload_n 1, 1) := by decide +kernel
theorem dX12_least_2 : decode cX12_least 2 = .ok (.if_icmp .ge 7, 3) := by decide +kernel
theorem dX12_least_5 : decode cX12_least 5 = .ok (.iload_n 0, 1) := by decide +kernel
theorem dX12_least_6 : decode cX12_least 6 = .ok (.goto 4, 3) := by decide +kernel
theorem dX12_least_9 : decode cX12_least 9 = .ok (.iload_n 1, 1) := by decide +kernel
theorem dX12_least_10 : decode cX12_least 10 = .ok (.ireturn, 1) := by decide +kernel
theorem dX12_go_0 : decode cX12_go 0 = .ok (.aload_n 0, 1) := by decide +kernel
theorem dX12_go_1 : decode cX12_go 1 = .ok (.getfield 86, 3) := by decide +kernel
theorem dX12_go_4 : decode cX12_go 4 = .ok (.aload_n 0, 1) := by decide +kernel
theorem dX12_go_5 : decode cX12_go 5 = .ok (.getfield 83, 3) := by decide +kernel
theorem dX12_go_8 : decode cX12_go 8 = .ok (.if_icmp .ge 44, 3) := by decide +kernel
theorem dX12_go_11 : decode cX12_go 11 = .ok (.aload_n 0, 1) := by decide +kernel
theorem dX12_go_12 : decode cX12_go 12 = .ok (.getfield 7, 3) := by decide +kernel
theorem dX12_go_15 : decode cX12_go 15 = .ok (.aload_n 0, 1) := by decide +kernel
theorem dX12_go_16 : decode cX12_go 16 = .ok (.getfield 86, 3) := by decide +kernel
theorem dX12_go_19 : decode cX12_go 19 = .ok (.iaload, 1) := by decide +kernel
theorem dX12_go_20 : decode cX12_go 20 = .ok (.bipush 32, 2) := by decide +kernel
theorem dX12_go_22 : decode cX12_go 22 = .ok (.if_icmp .eq 17, 3) := by decide +kernel
theorem dX12_go_25 : decode cX12_go 25 = .ok (.aload_n 0, 1) := by decide +kernel
theorem dX12_go_26 : decode cX12_go 26 = .ok (.getfield 7, 3) := by decide +kernel
theorem dX12_go_29 : decode cX12_go 29 = .ok (.aload_n 0, 1) := by decide +kernel
theorem dX12_go_30 : decode cX12_go 30 = .ok (.getfield 86, 3) := by decide +kernel
theorem dX12_go_33 : decode cX12_go 33 = .ok (.iaload, 1) := by decide +kernel
theorem dX12_go_34 : decode cX12_go 34 = .ok (.bipush 10, 2) := by decide +kernel
theorem dX12_go_36 : decode cX12_go 36 = .ok (.if_icmp .ne 16, 3) := by decide +kernel
theorem dX12_go_39 : decode cX12_go 39 = .ok (.aload_n 0, 1) := by decide +kernel
theorem dX12_go_40 : decode cX12_go 40 = .ok (.dup, 1) := by decide +kernel
theorem dX12_go_41 : decode cX12_go 41 = .ok (.getfield 86, 3) := by decide +kernel
theorem dX12_go_44 : decode cX12_go 44 = .ok (.iconst 1, 1) := by decide +kernel
theorem dX12_go_45 : decode cX12_go 45 = .ok (.iadd, 1) := by decide +kernel
theorem dX12_go_46 : decode cX12_go 46 = .ok (.putfield 86, 3) := by decide +kernel
theorem dX12_go_49 : decode cX12_go 49 = .ok (.goto (-49), 3) := by decide +kernel
theorem dX12_go_52 : decode cX12_go 52 = .ok (.aload_n 0, 1) := by decide +kernel
theorem dX12_go_53 : decode cX12_go 53 = .ok (.aload_n 0, 1) := by decide +kernel
theorem dX12_go_54 : decode cX12_go 54 = .ok (.getfield 86, 3) := by decide +kernel
theorem dX12_go_57 : decode cX12_go 57 = .ok (.putfield 89, 3) := by decide +kernel
theorem dX12_go_60 : decode cX12_go 60 = .ok (.aload_n 0, 1) := by decide +kernel
theorem dX12_go_61 : decode cX12_go 61 = .ok (.getfield 83, 3) := by decide +kernel
theorem dX12_go_64 : decode cX12_go 64 = .ok (.aload_n 0, 1) := by decide +kernel
theorem dX12_go_65 : decode cX12_go 65 = .ok (.getfield 92, 3) := by decide +kernel
theorem dX12_go_68 : decode cX12_go 68 = .ok (.if_icmp .le 28, 3) := by decide +kernel
theorem dX12_go_71 : decode cX12_go 71 = .ok (.aload_n 0, 1) := by decide +kernel
theorem dX12_go_72 : decode cX12_go 72 = .ok (.getfield 89, 3) := by decide +kernel
theorem dX12_go_75 : decode cX12_go 75 = .ok (.aload_n 0, 1) := by decide +kernel
theorem dX12_go_76 : decode cX12_go 76 = .ok (.getfield 92, 3) := by decide +kernel
theorem dX12_go_79 : decode cX12_go 79 = .ok (.if_icmp .lt 17, 3) := by decide +kernel
theorem dX12_go_82 : decode cX12_go 82 = .ok (.aload_n 0, 1) := by decide +kernel
theorem dX12_go_83 : decode cX12_go 83 = .ok (.aload_n 0, 1) := by decide +kernel
theorem dX12_go_84 : decode cX12_go 84 = .ok (.getfield 92, 3) := by decide +kernel
theorem dX12_go_87 : decode cX12_go 87 = .ok (.putfield 89, 3) := by decide +kernel
theorem dX12_go_90 : decode cX12_go 90 = .ok (.aload_n 0, 1) := by decide +kernel
theorem dX12_go_91 : decode cX12_go 91 = .ok (.iconst 1, 1) := by decide +kernel
theorem dX12_go_92 : decode cX12_go 92 = .ok (.putfield 95, 3) := by decide +kernel
theorem dX12_go_95 : decode cX12_go 95 = .ok (.return_, 1) := by decide +kernel
theorem dX12_go_96 : decode cX12_go 96 = .ok (.aload_n 0, 1) := by decide +kernel
theorem dX12_go_97 : decode cX12_go 97 = .ok (.getfield 86, 3) := by decide +kernel
theorem dX12_go_100 : decode cX12_go 100 = .ok (.aload_n 0, 1) := by decide +kernel
theorem dX12_go_101 : decode cX12_go 101 = .ok (.getfield 83, 3) := by decide +kernel
theorem dX12_go_104 : decode cX12_go 104 = .ok (.if_icmp .lt 9, 3) := by decide +kernel
theorem dX12_go_107 : decode cX12_go 107 = .ok (.aload_n 0, 1) := by decide +kernel
theorem dX12_go_108 : decode cX12_go 108 = .ok (.iconst 0, 1) := by decide +kernel
theorem dX12_go_109 : decode cX12_go 109 = .ok (.putfield 95, 3) := by decide +kernel
theorem dX12_go_112 : decode cX12_go 112 = .ok (.return_, 1) := by decide +kernel
theorem dX12_go_113 : decode cX12_go 113 = .ok (.aload_n 0, 1) := by decide +kernel
theorem dX12_go_114 : decode cX12_go 114 = .ok (.getfield 7, 3) := by decide +kernel
theorem dX12_go_117 : decode cX12_go 117 = .ok (.aload_n 0, 1) := by decide +kernel
theorem dX12_go_118 : decode cX12_go 118 = .ok (.getfield 86, 3) := by decide +kernel
theorem dX12_go_121 : decode cX12_go 121 = .ok (.iaload, 1) := by decide +kernel
theorem dX12_go_122 : decode cX12_go 122 = .ok (.istore_n 1, 1) := by decide +kernel
theorem dX12_go_123 : decode cX12_go 123 = .ok (.iload_n 1, 1) := by decide +kernel
theorem dX12_go_124 : decode cX12_go 124 = .ok (.invokestatic 98, 3) := by decide +kernel
theorem dX12_go_127 : decode cX12_go 127 = .ok (.ifCond .ne 71, 3) := by decide +kernel
theorem dX12_go_130 : decode cX12_go 130 = .ok (.iload_n 1, 1) := by decide +kernel
theorem dX12_go_131 : decode cX12_go 131 = .ok (.invokestatic 102, 3) := by decide +kernel
theorem dX12_go_134 : decode cX12_go 134 = .ok (.ifCond .ne 64, 3) := by decide +kernel
theorem dX12_go_137 : decode cX12_go 137 = .ok (.aload_n 0, 1) := by decide +kernel
theorem dX12_go_138 : decode cX12_go 138 = .ok (.iload_n 1, 1) := by decide +kernel
theorem dX12_go_139 : decode cX12_go 139 = .ok (.bipush 59, 2) := by decide +kernel
theorem dX12_go_141 : decode cX12_go 141 = .ok (.if_icmp .eq 33, 3) := by decide +kernel
theorem dX12_go_144 : decode cX12_go 144 = .ok (.iload_n 1, 1) := by decide +kernel
theorem dX12_go_145 : decode cX12_go 145 = .ok (.bipush 60, 2) := by decide +kernel
theorem dX12_go_147 : decode cX12_go 147 = .ok (.if_icmp .eq 27, 3) := by decide +kernel
theorem dX12_go_150 : decode cX12_go 150 = .ok (.iload_n 1, 1) := by decide +kernel
theorem dX12_go_151 : decode cX12_go 151 = .ok (.bipush 61, 2) := by decide +kernel
theorem dX12_go_153 : decode cX12_go 153 = .ok (.if_icmp .eq 21, 3) := by decide +kernel
theorem dX12_go_156 : decode cX12_go 156 = .ok (.iload_n 1, 1) := by decide +kernel
theorem dX12_go_157 : decode cX12_go 157 = .ok (.bipush 62, 2) := by decide +kernel
theorem dX12_go_159 : decode cX12_go 159 = .ok (.if_icmp .eq 15, 3) := by decide +kernel
theorem dX12_go_162 : decode cX12_go 162 = .ok (.iload_n 1, 1) := by decide +kernel
theorem dX12_go_163 : decode cX12_go 163 = .ok (.bipush 40, 2) := by decide +kernel
theorem dX12_go_165 : decode cX12_go 165 = .ok (.if_icmp .eq 9, 3) := by decide +kernel
theorem dX12_go_168 : decode cX12_go 168 = .ok (.iload_n 1, 1) := by decide +kernel
theorem dX12_go_169 : decode cX12_go 169 = .ok (.bipush 41, 2) := by decide +kernel
theorem dX12_go_171 : decode cX12_go 171 = .ok (.if_icmp .ne 7, 3) := by decide +kernel
theorem dX12_go_174 : decode cX12_go 174 = .ok (.iconst 4, 1) := by decide +kernel
theorem dX12_go_175 : decode cX12_go 175 = .ok (.goto 4, 3) := by decide +kernel
theorem dX12_go_178 : decode cX12_go 178 = .ok (.iconst 1, 1) := by decide +kernel
theorem dX12_go_179 : decode cX12_go 179 = .ok (.putfield 95, 3) := by decide +kernel
theorem dX12_go_182 : decode cX12_go 182 = .ok (.aload_n 0, 1) := by decide +kernel
theorem dX12_go_183 : decode cX12_go 183 = .ok (.iload_n 1, 1) := by decide +kernel
theorem dX12_go_184 : decode cX12_go 184 = .ok (.putfield 105, 3) := by decide +kernel
theorem dX12_go_187 : decode cX12_go 187 = .ok (.aload_n 0, 1) := by decide +kernel
theorem dX12_go_188 : decode cX12_go 188 = .ok (.dup, 1) := by decide +kernel
theorem dX12_go_189 : decode cX12_go 189 = .ok (.getfield 86, 3) := by decide +kernel
theorem dX12_go_192 : decode cX12_go 192 = .ok (.iconst 1, 1) := by decide +kernel
theorem dX12_go_193 : decode cX12_go 193 = .ok (.iadd, 1) := by decide +kernel
theorem dX12_go_194 : decode cX12_go 194 = .ok (.putfield 86, 3) := by decide +kernel
theorem dX12_go_197 : decode cX12_go 197 = .ok (.return_, 1) := by decide +kernel
theorem dX12_go_198 : decode cX12_go 198 = .ok (.iload_n 1, 1) := by decide +kernel
theorem dX12_go_199 : decode cX12_go 199 = .ok (.invokestatic 98, 3) := by decide +kernel
theorem dX12_go_202 : decode cX12_go 202 = .ok (.istore_n 2, 1) := by decide +kernel
theorem dX12_go_203 : decode cX12_go 203 = .ok (.iconst 1, 1) := by decide +kernel
theorem dX12_go_204 : decode cX12_go 204 = .ok (.istore_n 3, 1) := by decide +kernel
theorem dX12_go_205 : decode cX12_go 205 = .ok (.aload_n 0, 1) := by decide +kernel
theorem dX12_go_206 : decode cX12_go 206 = .ok (.lconst 0, 1) := by decide +kernel
theorem dX12_go_207 : decode cX12_go 207 = .ok (.putfield 108, 3) := by decide +kernel
theorem dX12_go_210 : decode cX12_go 210 = .ok (.aload_n 0, 1) := by decide +kernel
theorem dX12_go_211 : decode cX12_go 211 = .ok (.iconst 0, 1) := by decide +kernel
theorem dX12_go_212 : decode cX12_go 212 = .ok (.putfield 112, 3) := by decide +kernel
theorem dX12_go_215 : decode cX12_go 215 = .ok (.aload_n 0, 1) := by decide +kernel
theorem dX12_go_216 : decode cX12_go 216 = .ok (.aload_n 0, 1) := by decide +kernel
theorem dX12_go_217 : decode cX12_go 217 = .ok (.getfield 86, 3) := by decide +kernel
theorem dX12_go_220 : decode cX12_go 220 = .ok (.invokevirtual 115, 3) := by decide +kernel
theorem dX12_go_223 : decode cX12_go 223 = .ok (.invokestatic 98, 3) := by decide +kernel
theorem dX12_go_226 : decode cX12_go 226 = .ok (.ifCond .ne 17, 3) := by decide +kernel
theorem dX12_go_229 : decode cX12_go 229 = .ok (.aload_n 0, 1) := by decide +kernel
theorem dX12_go_230 : decode cX12_go 230 = .ok (.aload_n 0, 1) := by decide +kernel
theorem dX12_go_231 : decode cX12_go 231 = .ok (.getfield 86, 3) := by decide +kernel
theorem dX12_go_234 : decode cX12_go 234 = .ok (.invokevirtual 115, 3) := by decide +kernel
theorem dX12_go_237 : decode cX12_go 237 = .ok (.invokestatic 102, 3) := by decide +kernel
theorem dX12_go_240 : decode cX12_go 240 = .ok (.ifCond .eq 110, 3) := by decide +kernel
theorem dX12_go_243 : decode cX12_go 243 = .ok (.aload_n 0, 1) := by decide +kernel
theorem dX12_go_244 : decode cX12_go 244 = .ok (.getfield 7, 3) := by decide +kernel
theorem dX12_go_247 : decode cX12_go 247 = .ok (.aload_n 0, 1) := by decide +kernel
theorem dX12_go_248 : decode cX12_go 248 = .ok (.getfield 86, 3) := by decide +kernel
theorem dX12_go_251 : decode cX12_go 251 = .ok (.iaload, 1) := by decide +kernel
theorem dX12_go_252 : decode cX12_go 252 = .ok (.istore 4, 2) := by decide +kernel
theorem dX12_go_254 : decode cX12_go 254 = .ok (.iload_n 3, 1) := by decide +kernel
theorem dX12_go_255 : decode cX12_go 255 = .ok (.ifCond .eq 16, 3) := by decide +kernel
theorem dX12_go_258 : decode cX12_go 258 = .ok (.iload 4, 2) := by decide +kernel
theorem dX12_go_260 : decode cX12_go 260 = .ok (.invokestatic 98, 3) := by decide +kernel
theorem dX12_go_263 : decode cX12_go 263 = .ok (.iload_n 2, 1) := by decide +kernel
theorem dX12_go_264 : decode cX12_go 264 = .ok (.if_icmp .ne 7, 3) := by decide +kernel
theorem dX12_go_267 : decode cX12_go 267 = .ok (.iconst 1, 1) := by decide +kernel
theorem dX12_go_268 : decode cX12_go 268 = .ok (.goto 4, 3) := by decide +kernel
theorem dX12_go_271 : decode cX12_go 271 = .ok (.iconst 0, 1) := by decide +kernel
theorem dX12_go_272 : decode cX12_go 272 = .ok (.istore_n 3, 1) := by decide +kernel
theorem dX12_go_273 : decode cX12_go 273 = .ok (.aload_n 0, 1) := by decide +kernel
theorem dX12_go_274 : decode cX12_go 274 = .ok (.getfield 86, 3) := by decide +kernel
theorem dX12_go_277 : decode cX12_go 277 = .ok (.aload_n 0, 1) := by decide +kernel
theorem dX12_go_278 : decode cX12_go 278 = .ok (.getfield 89, 3) := by decide +kernel
theorem dX12_go_281 : decode cX12_go 281 = .ok (.isub, 1) := by decide +kernel
theorem dX12_go_282 : decode cX12_go 282 = .ok (.bipush 7, 2) := by decide +kernel
theorem dX12_go_284 : decode cX12_go 284 = .ok (.if_icmp .ge 23, 3) := by decide +kernel
theorem dX12_go_287 : decode cX12_go 287 = .ok (.aload_n 0, 1) := by decide +kernel
theorem dX12_go_288 : decode cX12_go 288 = .ok (.ldc2_w 119, 3) := by decide +kernel
theorem dX12_go_291 : decode cX12_go 291 = .ok (.aload_n 0, 1) := by decide +kernel
theorem dX12_go_292 : decode cX12_go 292 = .ok (.getfield 108, 3) := by decide +kernel
theorem dX12_go_295 : decode cX12_go 295 = .ok (.lmul, 1) := by decide +kernel
theorem dX12_go_296 : decode cX12_go 296 = .ok (.iload 4, 2) := by decide +kernel
theorem dX12_go_298 : decode cX12_go 298 = .ok (.i2l, 1) := by decide +kernel
theorem dX12_go_299 : decode cX12_go 299 = .ok (.ladd, 1) := by decide +kernel
theorem dX12_go_300 : decode cX12_go 300 = .ok (.ldc2_w 121, 3) := by decide +kernel
theorem dX12_go_303 : decode cX12_go 303 = .ok (.lsub, 1) := by decide +kernel
theorem dX12_go_304 : decode cX12_go 304 = .ok (.putfield 108, 3) := by decide +kernel
theorem dX12_go_307 : decode cX12_go 307 = .ok (.aload_n 0, 1) := by decide +kernel
theorem dX12_go_308 : decode cX12_go 308 = .ok (.getfield 86, 3) := by decide +kernel
theorem dX12_go_311 : decode cX12_go 311 = .ok (.aload_n 0, 1) := by decide +kernel
theorem dX12_go_312 : decode cX12_go 312 = .ok (.getfield 89, 3) := by decide +kernel
theorem dX12_go_315 : decode cX12_go 315 = .ok (.isub, 1) := by decide +kernel
theorem dX12_go_316 : decode cX12_go 316 = .ok (.iconst 3, 1) := by decide +kernel
theorem dX12_go_317 : decode cX12_go 317 = .ok (.if_icmp .ge 20, 3) := by decide +kernel
theorem dX12_go_320 : decode cX12_go 320 = .ok (.aload_n 0, 1) := by decide +kernel
theorem dX12_go_321 : decode cX12_go 321 = .ok (.bipush 10, 2) := by decide +kernel
theorem dX12_go_323 : decode cX12_go 323 = .ok (.aload_n 0, 1) := by decide +kernel
theorem dX12_go_324 : decode cX12_go 324 = .ok (.getfield 112, 3) := by decide +kernel
theorem dX12_go_327 : decode cX12_go 327 = .ok (.imul, 1) := by decide +kernel
end
section
theorem dX12_go_328 : decode cX12_go 328 = .ok (.iload 4, 2) := by decide +kernel
theorem dX12_go_330 : decode cX12_go 330 = .ok (.iadd, 1) := by decide +kernel
theorem dX12_go_331 : decode cX12_go 331 = .ok (.bipush 48, 2) := by decide +kernel
theorem dX12_go_333 : decode cX12_go 333 = .ok (.isub, 1) := by decide +kernel
theorem dX12_go_334 : decode cX12_go 334 = .ok (.putfield 112, 3) := by decide +kernel
theorem dX12_go_337 : decode cX12_go 337 = .ok (.aload_n 0, 1) := by decide +kernel
theorem dX12_go_338 : decode cX12_go 338 = .ok (.dup, 1) := by decide +kernel
theorem dX12_go_339 : decode cX12_go 339 = .ok (.getfield 86, 3) := by decide +kernel
theorem dX12_go_342 : decode cX12_go 342 = .ok (.iconst 1, 1) := by decide +kernel
theorem dX12_go_343 : decode cX12_go 343 = .ok (.iadd, 1) := by decide +kernel
theorem dX12_go_344 : decode cX12_go 344 = .ok (.putfield 86, 3) := by decide +kernel
theorem dX12_go_347 : decode cX12_go 347 = .ok (.goto (-132), 3) := by decide +kernel
theorem dX12_go_350 : decode cX12_go 350 = .ok (.aload_n 0, 1) := by decide +kernel
theorem dX12_go_351 : decode cX12_go 351 = .ok (.iload_n 3, 1) := by decide +kernel
theorem dX12_go_352 : decode cX12_go 352 = .ok (.ifCond .eq 25, 3) := by decide +kernel
theorem dX12_go_355 : decode cX12_go 355 = .ok (.aload_n 0, 1) := by decide +kernel
theorem dX12_go_356 : decode cX12_go 356 = .ok (.getfield 86, 3) := by decide +kernel
theorem dX12_go_359 : decode cX12_go 359 = .ok (.aload_n 0, 1) := by decide +kernel
theorem dX12_go_360 : decode cX12_go 360 = .ok (.getfield 89, 3) := by decide +kernel
theorem dX12_go_363 : decode cX12_go 363 = .ok (.isub, 1) := by decide +kernel
theorem dX12_go_364 : decode cX12_go 364 = .ok (.iload_n 2, 1) := by decide +kernel
theorem dX12_go_365 : decode cX12_go 365 = .ok (.ifCond .eq 8, 3) := by decide +kernel
theorem dX12_go_368 : decode cX12_go 368 = .ok (.bipush 7, 2) := by decide +kernel
theorem dX12_go_370 : decode cX12_go 370 = .ok (.goto 4, 3) := by decide +kernel
theorem dX12_go_373 : decode cX12_go 373 = .ok (.iconst 3, 1) := by decide +kernel
theorem dX12_go_374 : decode cX12_go 374 = .ok (.if_icmp .le 7, 3) := by decide +kernel
theorem dX12_go_377 : decode cX12_go 377 = .ok (.iconst 1, 1) := by decide +kernel
theorem dX12_go_378 : decode cX12_go 378 = .ok (.goto 12, 3) := by decide +kernel
theorem dX12_go_381 : decode cX12_go 381 = .ok (.iload_n 2, 1) := by decide +kernel
theorem dX12_go_382 : decode cX12_go 382 = .ok (.ifCond .eq 7, 3) := by decide +kernel
theorem dX12_go_385 : decode cX12_go 385 = .ok (.iconst 2, 1) := by decide +kernel
theorem dX12_go_386 : decode cX12_go 386 = .ok (.goto 4, 3) := by decide +kernel
theorem dX12_go_389 : decode cX12_go 389 = .ok (.iconst 3, 1) := by decide +kernel
theorem dX12_go_390 : decode cX12_go 390 = .ok (.putfield 95, 3) := by decide +kernel
theorem dX12_go_393 : decode cX12_go 393 = .ok (.return_, 1) := by decide +kernel
theorem dX12_isWord_0 : decode cX12_isWord 0 = .ok (.aload_n 0, 1) := by decide +kernel
theorem dX12_isWord_1 : decode cX12_isWord 1 = .ok (.getfield 95, 3) := by decide +kernel
theorem dX12_isWord_4 : decode cX12_isWord 4 = .ok (.iconst 2, 1) := by decide +kernel
theorem dX12_isWord_5 : decode cX12_isWord 5 = .ok (.if_icmp .ne 19, 3) := by decide +kernel
theorem dX12_isWord_8 : decode cX12_isWord 8 = .ok (.aload_n 0, 1) := by decide +kernel
theorem dX12_isWord_9 : decode cX12_isWord 9 = .ok (.getfield 108, 3) := by decide +kernel
theorem dX12_isWord_12 : decode cX12_isWord 12 = .ok (.iload_n 1, 1) := by decide +kernel
theorem dX12_isWord_13 : decode cX12_isWord 13 = .ok (.invokestatic 127, 3) := by decide +kernel
theorem dX12_isWord_16 : decode cX12_isWord 16 = .ok (.lcmp, 1) := by decide +kernel
theorem dX12_isWord_17 : decode cX12_isWord 17 = .ok (.ifCond .ne 7, 3) := by decide +kernel
theorem dX12_isWord_20 : decode cX12_isWord 20 = .ok (.iconst 1, 1) := by decide +kernel
theorem dX12_isWord_21 : decode cX12_isWord 21 = .ok (.goto 4, 3) := by decide +kernel
theorem dX12_isWord_24 : decode cX12_isWord 24 = .ok (.iconst 0, 1) := by decide +kernel
theorem dX12_isWord_25 : decode cX12_isWord 25 = .ok (.ireturn, 1) := by decide +kernel
theorem dX12_isSign_0 : decode cX12_isSign 0 = .ok (.aload_n 0, 1) := by decide +kernel
theorem dX12_isSign_1 : decode cX12_isSign 1 = .ok (.getfield 95, 3) := by decide +kernel
theorem dX12_isSign_4 : decode cX12_isSign 4 = .ok (.iconst 4, 1) := by decide +kernel
theorem dX12_isSign_5 : decode cX12_isSign 5 = .ok (.if_icmp .ne 15, 3) := by decide +kernel
theorem dX12_isSign_8 : decode cX12_isSign 8 = .ok (.aload_n 0, 1) := by decide +kernel
theorem dX12_isSign_9 : decode cX12_isSign 9 = .ok (.getfield 105, 3) := by decide +kernel
theorem dX12_isSign_12 : decode cX12_isSign 12 = .ok (.iload_n 1, 1) := by decide +kernel
theorem dX12_isSign_13 : decode cX12_isSign 13 = .ok (.if_icmp .ne 7, 3) := by decide +kernel
theorem dX12_isSign_16 : decode cX12_isSign 16 = .ok (.iconst 1, 1) := by decide +kernel
theorem dX12_isSign_17 : decode cX12_isSign 17 = .ok (.goto 4, 3) := by decide +kernel
theorem dX12_isSign_20 : decode cX12_isSign 20 = .ok (.iconst 0, 1) := by decide +kernel
theorem dX12_isSign_21 : decode cX12_isSign 21 = .ok (.ireturn, 1) := by decide +kernel
theorem dX12_bad_0 : decode cX12_bad 0 = .ok (.aload_n 0, 1) := by decide +kernel
theorem dX12_bad_1 : decode cX12_bad 1 = .ok (.aload_n 0, 1) := by decide +kernel
theorem dX12_bad_2 : decode cX12_bad 2 = .ok (.getfield 95, 3) := by decide +kernel
theorem dX12_bad_5 : decode cX12_bad 5 = .ok (.iconst 1, 1) := by decide +kernel
theorem dX12_bad_6 : decode cX12_bad 6 = .ok (.if_icmp .ne 7, 3) := by decide +kernel
theorem dX12_bad_9 : decode cX12_bad 9 = .ok (.iconst 1, 1) := by decide +kernel
theorem dX12_bad_10 : decode cX12_bad 10 = .ok (.goto 4, 3) := by decide +kernel
theorem dX12_bad_13 : decode cX12_bad 13 = .ok (.iload_n 1, 1) := by decide +kernel
theorem dX12_bad_14 : decode cX12_bad 14 = .ok (.putfield 131, 3) := by decide +kernel
theorem dX12_bad_17 : decode cX12_bad 17 = .ok (.aload_n 0, 1) := by decide +kernel
theorem dX12_bad_18 : decode cX12_bad 18 = .ok (.aload_n 0, 1) := by decide +kernel
theorem dX12_bad_19 : decode cX12_bad 19 = .ok (.getfield 89, 3) := by decide +kernel
theorem dX12_bad_22 : decode cX12_bad 22 = .ok (.putfield 134, 3) := by decide +kernel
theorem dX12_bad_25 : decode cX12_bad 25 = .ok (.iconst 0, 1) := by decide +kernel
theorem dX12_bad_26 : decode cX12_bad 26 = .ok (.ireturn, 1) := by decide +kernel
theorem dX12_begin_0 : decode cX12_begin 0 = .ok (.aload_n 0, 1) := by decide +kernel
theorem dX12_begin_1 : decode cX12_begin 1 = .ok (.iconst 0, 1) := by decide +kernel
theorem dX12_begin_2 : decode cX12_begin 2 = .ok (.putfield 73, 3) := by decide +kernel
theorem dX12_begin_5 : decode cX12_begin 5 = .ok (.aload_n 0, 1) := by decide +kernel
theorem dX12_begin_6 : decode cX12_begin 6 = .ok (.aload_n 0, 1) := by decide +kernel
theorem dX12_begin_7 : decode cX12_begin 7 = .ok (.invokevirtual 153, 3) := by decide +kernel
theorem dX12_begin_10 : decode cX12_begin 10 = .ok (.putfield 83, 3) := by decide +kernel
theorem dX12_begin_13 : decode cX12_begin 13 = .ok (.aload_n 0, 1) := by decide +kernel
theorem dX12_begin_14 : decode cX12_begin 14 = .ok (.iload_n 1, 1) := by decide +kernel
theorem dX12_begin_15 : decode cX12_begin 15 = .ok (.putfield 92, 3) := by decide +kernel
theorem dX12_begin_18 : decode cX12_begin 18 = .ok (.aload_n 0, 1) := by decide +kernel
theorem dX12_begin_19 : decode cX12_begin 19 = .ok (.iconst 0, 1) := by decide +kernel
theorem dX12_begin_20 : decode cX12_begin 20 = .ok (.putfield 131, 3) := by decide +kernel
theorem dX12_begin_23 : decode cX12_begin 23 = .ok (.aload_n 0, 1) := by decide +kernel
theorem dX12_begin_24 : decode cX12_begin 24 = .ok (.iconst 0, 1) := by decide +kernel
theorem dX12_begin_25 : decode cX12_begin 25 = .ok (.putfield 86, 3) := by decide +kernel
theorem dX12_begin_28 : decode cX12_begin 28 = .ok (.aload_n 0, 1) := by decide +kernel
theorem dX12_begin_29 : decode cX12_begin 29 = .ok (.invokevirtual 147, 3) := by decide +kernel
theorem dX12_begin_32 : decode cX12_begin 32 = .ok (.return_, 1) := by decide +kernel
theorem dX12_startSo_0 : decode cX12_startSo 0 = .ok (.bipush 77, 2) := by decide +kernel
theorem dX12_startSo_2 : decode cX12_startSo 2 = .ok (.istore_n 1, 1) := by decide +kernel
theorem dX12_startSo_3 : decode cX12_startSo 3 = .ok (.iload_n 1, 1) := by decide +kernel
theorem dX12_startSo_4 : decode cX12_startSo 4 = .ok (.sipush 379, 3) := by decide +kernel
theorem dX12_startSo_7 : decode cX12_startSo 7 = .ok (.if_icmp .ge 16, 3) := by decide +kernel
theorem dX12_startSo_10 : decode cX12_startSo 10 = .ok (.aload_n 0, 1) := by decide +kernel
theorem dX12_startSo_11 : decode cX12_startSo 11 = .ok (.getfield 13, 3) := by decide +kernel
theorem dX12_startSo_14 : decode cX12_startSo 14 = .ok (.iload_n 1, 1) := by decide +kernel
theorem dX12_startSo_15 : decode cX12_startSo 15 = .ok (.iconst 0, 1) := by decide +kernel
theorem dX12_startSo_16 : decode cX12_startSo 16 = .ok (.iastore, 1) := by decide +kernel
theorem dX12_startSo_17 : decode cX12_startSo 17 = .ok (.iinc 1 1, 3) := by decide +kernel
theorem dX12_startSo_20 : decode cX12_startSo 20 = .ok (.goto (-17), 3) := by decide +kernel
theorem dX12_startSo_23 : decode cX12_startSo 23 = .ok (.iconst 0, 1) := by decide +kernel
theorem dX12_startSo_24 : decode cX12_startSo 24 = .ok (.istore_n 1, 1) := by decide +kernel
theorem dX12_startSo_25 : decode cX12_startSo 25 = .ok (.iload_n 1, 1) := by decide +kernel
theorem dX12_startSo_26 : decode cX12_startSo 26 = .ok (.bipush 6, 2) := by decide +kernel
theorem dX12_startSo_28 : decode cX12_startSo 28 = .ok (.if_icmp .ge 29, 3) := by decide +kernel
theorem dX12_startSo_31 : decode cX12_startSo 31 = .ok (.aload_n 0, 1) := by decide +kernel
theorem dX12_startSo_32 : decode cX12_startSo 32 = .ok (.getfield 13, 3) := by decide +kernel
theorem dX12_startSo_35 : decode cX12_startSo 35 = .ok (.bipush 81, 2) := by decide +kernel
theorem dX12_startSo_37 : decode cX12_startSo 37 = .ok (.iload_n 1, 1) := by decide +kernel
theorem dX12_startSo_38 : decode cX12_startSo 38 = .ok (.iadd, 1) := by decide +kernel
theorem dX12_startSo_39 : decode cX12_startSo 39 = .ok (.iconst 2, 1) := by decide +kernel
theorem dX12_startSo_40 : decode cX12_startSo 40 = .ok (.iastore, 1) := by decide +kernel
theorem dX12_startSo_41 : decode cX12_startSo 41 = .ok (.aload_n 0, 1) := by decide +kernel
theorem dX12_startSo_42 : decode cX12_startSo 42 = .ok (.getfield 13, 3) := by decide +kernel
theorem dX12_startSo_45 : decode cX12_startSo 45 = .ok (.bipush 93, 2) := by decide +kernel
theorem dX12_startSo_47 : decode cX12_startSo 47 = .ok (.iload_n 1, 1) := by decide +kernel
theorem dX12_startSo_48 : decode cX12_startSo 48 = .ok (.iadd, 1) := by decide +kernel
theorem dX12_startSo_49 : decode cX12_startSo 49 = .ok (.iconst 1, 1) := by decide +kernel
theorem dX12_startSo_50 : decode cX12_startSo 50 = .ok (.iastore, 1) := by decide +kernel
theorem dX12_startSo_51 : decode cX12_startSo 51 = .ok (.iinc 1 1, 3) := by decide +kernel
theorem dX12_startSo_54 : decode cX12_startSo 54 = .ok (.goto (-29), 3) := by decide +kernel
theorem dX12_startSo_57 : decode cX12_startSo 57 = .ok (.return_, 1) := by decide +kernel
theorem dX12_house_0 : decode cX12_house 0 = .ok (.aload_n 0, 1) := by decide +kernel
theorem dX12_house_1 : decode cX12_house 1 = .ok (.sipush 900, 3) := by decide +kernel
theorem dX12_house_4 : decode cX12_house 4 = .ok (.invokevirtual 194, 3) := by decide +kernel
theorem dX12_house_7 : decode cX12_house 7 = .ok (.iconst 0, 1) := by decide +kernel
theorem dX12_house_8 : decode cX12_house 8 = .ok (.istore_n 1, 1) := by decide +kernel
theorem dX12_house_9 : decode cX12_house 9 = .ok (.iload_n 1, 1) := by decide +kernel
theorem dX12_house_10 : decode cX12_house 10 = .ok (.bipush 77, 2) := by decide +kernel
theorem dX12_house_12 : decode cX12_house 12 = .ok (.if_icmp .ge 16, 3) := by decide +kernel
theorem dX12_house_15 : decode cX12_house 15 = .ok (.aload_n 0, 1) := by decide +kernel
theorem dX12_house_16 : decode cX12_house 16 = .ok (.getfield 16, 3) := by decide +kernel
theorem dX12_house_19 : decode cX12_house 19 = .ok (.iload_n 1, 1) := by decide +kernel
theorem dX12_house_20 : decode cX12_house 20 = .ok (.iconst 0, 1) := by decide +kernel
theorem dX12_house_21 : decode cX12_house 21 = .ok (.iastore, 1) := by decide +kernel
theorem dX12_house_22 : decode cX12_house 22 = .ok (.iinc 1 1, 3) := by decide +kernel
theorem dX12_house_25 : decode cX12_house 25 = .ok (.goto (-16), 3) := by decide +kernel
theorem dX12_house_28 : decode cX12_house 28 = .ok (.iconst 0, 1) := by decide +kernel
theorem dX12_house_29 : decode cX12_house 29 = .ok (.istore_n 1, 1) := by decide +kernel
theorem dX12_house_30 : decode cX12_house 30 = .ok (.aload_n 0, 1) := by decide +kernel
theorem dX12_house_31 : decode cX12_house 31 = .ok (.getfield 95, 3) := by decide +kernel
theorem dX12_house_34 : decode cX12_house 34 = .ok (.ifCond .eq 30, 3) := by decide +kernel
theorem dX12_house_37 : decode cX12_house 37 = .ok (.aload_n 0, 1) := by decide +kernel
theorem dX12_house_38 : decode cX12_house 38 = .ok (.invokevirtual 197, 3) := by decide +kernel
theorem dX12_house_41 : decode cX12_house 41 = .ok (.ifCond .eq 10, 3) := by decide +kernel
theorem dX12_house_44 : decode cX12_house 44 = .ok (.aload_n 0, 1) := by decide +kernel
theorem dX12_house_45 : decode cX12_house 45 = .ok (.invokevirtual 200, 3) := by decide +kernel
theorem dX12_house_48 : decode cX12_house 48 = .ok (.ifCond .ne 10, 3) := by decide +kernel
theorem dX12_house_51 : decode cX12_house 51 = .ok (.iconst (-1), 1) := by decide +kernel
theorem dX12_house_52 : decode cX12_house 52 = .ok (.aload_n 0, 1) := by decide +kernel
theorem dX12_house_53 : decode cX12_house 53 = .ok (.getfield 134, 3) := by decide +kernel
theorem dX12_house_56 : decode cX12_house 56 = .ok (.isub, 1) := by decide +kernel
theorem dX12_house_57 : decode cX12_house 57 = .ok (.ireturn, 1) := by decide +kernel
theorem dX12_house_58 : decode cX12_house 58 = .ok (.iinc 1 1, 3) := by decide +kernel
theorem dX12_house_61 : decode cX12_house 61 = .ok (.goto (-31), 3) := by decide +kernel
theorem dX12_house_64 : decode cX12_house 64 = .ok (.iconst 0, 1) := by decide +kernel
theorem dX12_house_65 : decode cX12_house 65 = .ok (.istore_n 2, 1) := by decide +kernel
theorem dX12_house_66 : decode cX12_house 66 = .ok (.iload_n 2, 1) := by decide +kernel
theorem dX12_house_67 : decode cX12_house 67 = .ok (.bipush 77, 2) := by decide +kernel
theorem dX12_house_69 : decode cX12_house 69 = .ok (.if_icmp .ge 21, 3) := by decide +kernel
theorem dX12_house_72 : decode cX12_house 72 = .ok (.aload_n 0, 1) := by decide +kernel
theorem dX12_house_73 : decode cX12_house 73 = .ok (.getfield 13, 3) := by decide +kernel
theorem dX12_house_76 : decode cX12_house 76 = .ok (.iload_n 2, 1) := by decide +kernel
theorem dX12_house_77 : decode cX12_house 77 = .ok (.aload_n 0, 1) := by decide +kernel
theorem dX12_house_78 : decode cX12_house 78 = .ok (.getfield 16, 3) := by decide +kernel
theorem dX12_house_81 : decode cX12_house 81 = .ok (.iload_n 2, 1) := by decide +kernel
theorem dX12_house_82 : decode cX12_house 82 = .ok (.iaload, 1) := by decide +kernel
theorem dX12_house_83 : decode cX12_house 83 = .ok (.iastore, 1) := by decide +kernel
theorem dX12_house_84 : decode cX12_house 84 = .ok (.iinc 2 1, 3) := by decide +kernel
theorem dX12_house_87 : decode cX12_house 87 = .ok (.goto (-21), 3) := by decide +kernel
theorem dX12_house_90 : decode cX12_house 90 = .ok (.iconst 0, 1) := by decide +kernel
theorem dX12_house_91 : decode cX12_house 91 = .ok (.istore_n 2, 1) := by decide +kernel
theorem dX12_house_92 : decode cX12_house 92 = .ok (.iload_n 2, 1) := by decide +kernel
theorem dX12_house_93 : decode cX12_house 93 = .ok (.bipush 14, 2) := by decide +kernel
theorem dX12_house_95 : decode cX12_house 95 = .ok (.if_icmp .ge 21, 3) := by decide +kernel
theorem dX12_house_98 : decode cX12_house 98 = .ok (.aload_n 0, 1) := by decide +kernel
theorem dX12_house_99 : decode cX12_house 99 = .ok (.getfield 28, 3) := by decide +kernel
theorem dX12_house_102 : decode cX12_house 102 = .ok (.iload_n 2, 1) := by decide +kernel
theorem dX12_house_103 : decode cX12_house 103 = .ok (.aload_n 0, 1) := by decide +kernel
theorem dX12_house_104 : decode cX12_house 104 = .ok (.getfield 32, 3) := by decide +kernel
theorem dX12_house_107 : decode cX12_house 107 = .ok (.iload_n 2, 1) := by decide +kernel
theorem dX12_house_108 : decode cX12_house 108 = .ok (.laload, 1) := by decide +kernel
theorem dX12_house_109 : decode cX12_house 109 = .ok (.lastore, 1) := by decide +kernel
theorem dX12_house_110 : decode cX12_house 110 = .ok (.iinc 2 1, 3) := by decide +kernel
theorem dX12_house_113 : decode cX12_house 113 = .ok (.goto (-21), 3) := by decide +kernel
theorem dX12_house_116 : decode cX12_house 116 = .ok (.aload_n 0, 1) := by decide +kernel
theorem dX12_house_117 : decode cX12_house 117 = .ok (.invokevirtual 203, 3) := by decide +kernel
theorem dX12_house_120 : decode cX12_house 120 = .ok (.aload_n 0, 1) := by decide +kernel
theorem dX12_house_121 : decode cX12_house 121 = .ok (.iconst 0, 1) := by decide +kernel
theorem dX12_house_122 : decode cX12_house 122 = .ok (.putfield 206, 3) := by decide +kernel
theorem dX12_house_125 : decode cX12_house 125 = .ok (.iload_n 1, 1) := by decide +kernel
theorem dX12_house_126 : decode cX12_house 126 = .ok (.ireturn, 1) := by decide +kernel
theorem dX12_fault_0 : decode cX12_fault 0 = .ok (.aload_n 0, 1) := by decide +kernel
theorem dX12_fault_1 : decode cX12_fault 1 = .ok (.iconst 0, 1) := by decide +kernel
theorem dX12_fault_2 : decode cX12_fault 2 = .ok (.putfield 73, 3) := by decide +kernel
theorem dX12_fault_5 : decode cX12_fault 5 = .ok (.aload_n 0, 1) := by decide +kernel
theorem dX12_fault_6 : decode cX12_fault 6 = .ok (.getfield 131, 3) := by decide +kernel
theorem dX12_fault_9 : decode cX12_fault 9 = .ok (.ireturn, 1) := by decide +kernel
theorem dX12_isThing_0 : decode cX12_isThing 0 = .ok (.iload_n 1, 1) := by decide +kernel
theorem dX12_isThing_1 : decode cX12_isThing 1 = .ok (.iconst 0, 1) := by decide +kernel
theorem dX12_isThing_2 : decode cX12_isThing 2 = .ok (.aload_n 0, 1) := by decide +kernel
theorem dX12_isThing_3 : decode cX12_isThing 3 = .ok (.getfield 13, 3) := by decide +kernel
theorem dX12_isThing_6 : decode cX12_isThing 6 = .ok (.iconst 0, 1) := by decide +kernel
theorem dX12_isThing_7 : decode cX12_isThing 7 = .ok (.iaload, 1) := by decide +kernel
theorem dX12_isThing_8 : decode cX12_isThing 8 = .ok (.iconst 1, 1) := by decide +kernel
theorem dX12_isThing_9 : decode cX12_isThing 9 = .ok (.isub, 1) := by decide +kernel
theorem dX12_isThing_10 : decode cX12_isThing 10 = .ok (.invokestatic 140, 3) := by decide +kernel
theorem dX12_isThing_13 : decode cX12_isThing 13 = .ok (.ireturn, 1) := by decide +kernel
theorem dX12_isFault_0 : decode cX12_isFault 0 = .ok (.iload_n 1, 1) := by decide +kernel
theorem dX12_isFault_1 : decode cX12_isFault 1 = .ok (.iconst 0, 1) := by decide +kernel
theorem dX12_isFault_2 : decode cX12_isFault 2 = .ok (.aload_n 0, 1) := by decide +kernel
theorem dX12_isFault_3 : decode cX12_isFault 3 = .ok (.getfield 13, 3) := by decide +kernel
theorem dX12_isFault_6 : decode cX12_isFault 6 = .ok (.iconst 1, 1) := by decide +kernel
theorem dX12_isFault_7 : decode cX12_isFault 7 = .ok (.iaload, 1) := by decide +kernel
theorem dX12_isFault_8 : decode cX12_isFault 8 = .ok (.iconst 1, 1) := by decide +kernel
theorem dX12_isFault_9 : decode cX12_isFault 9 = .ok (.isub, 1) := by decide +kernel
theorem dX12_isFault_10 : decode cX12_isFault 10 = .ok (.invokestatic 140, 3) := by decide +kernel
theorem dX12_isFault_13 : decode cX12_isFault 13 = .ok (.ireturn, 1) := by decide +kernel
theorem dX12_working_0 : decode cX12_working 0 = .ok (.iconst 0, 1) := by decide +kernel
theorem dX12_working_1 : decode cX12_working 1 = .ok (.istore_n 1, 1) := by decide +kernel
theorem dX12_working_2 : decode cX12_working 2 = .ok (.iconst 0, 1) := by decide +kernel
theorem dX12_working_3 : decode cX12_working 3 = .ok (.istore_n 2, 1) := by decide +kernel
theorem dX12_working_4 : decode cX12_working 4 = .ok (.iload_n 2, 1) := by decide +kernel
theorem dX12_working_5 : decode cX12_working 5 = .ok (.aload_n 0, 1) := by decide +kernel
theorem dX12_working_6 : decode cX12_working 6 = .ok (.getfield 13, 3) := by decide +kernel
theorem dX12_working_9 : decode cX12_working 9 = .ok (.iconst 0, 1) := by decide +kernel
theorem dX12_working_10 : decode cX12_working 10 = .ok (.iaload, 1) := by decide +kernel
theorem dX12_working_11 : decode cX12_working 11 = .ok (.if_icmp .ge 23, 3) := by decide +kernel
theorem dX12_working_14 : decode cX12_working 14 = .ok (.aload_n 0, 1) := by decide +kernel
theorem dX12_working_15 : decode cX12_working 15 = .ok (.iload_n 2, 1) := by decide +kernel
theorem dX12_working_16 : decode cX12_working 16 = .ok (.invokevirtual 218, 3) := by decide +kernel
theorem dX12_working_19 : decode cX12_working 19 = .ok (.ifCond .eq 9, 3) := by decide +kernel
theorem dX12_working_22 : decode cX12_working 22 = .ok (.iload_n 1, 1) := by decide +kernel
theorem dX12_working_23 : decode cX12_working 23 = .ok (.iconst 1, 1) := by decide +kernel
theorem dX12_working_24 : decode cX12_working 24 = .ok (.iload_n 2, 1) := by decide +kernel
theorem dX12_working_25 : decode cX12_working 25 = .ok (.ishl, 1) := by decide +kernel
theorem dX12_working_26 : decode cX12_working 26 = .ok (.ior, 1) := by decide +kernel
theorem dX12_working_27 : decode cX12_working 27 = .ok (.istore_n 1, 1) := by decide +kernel
theorem dX12_working_28 : decode cX12_working 28 = .ok (.iinc 2 1, 3) := by decide +kernel
theorem dX12_working_31 : decode cX12_working 31 = .ok (.goto (-27), 3) := by decide +kernel
theorem dX12_working_34 : decode cX12_working 34 = .ok (.iload_n 1, 1) := by decide +kernel
theorem dX12_working_35 : decode cX12_working 35 = .ok (.ireturn, 1) := by decide +kernel
theorem dX12_thing_0 : decode cX12_thing 0 = .ok (.aload_n 0, 1) := by decide +kernel
theorem dX12_thing_1 : decode cX12_thing 1 = .ok (.iconst 0, 1) := by decide +kernel
theorem dX12_thing_2 : decode cX12_thing 2 = .ok (.putfield 73, 3) := by decide +kernel
theorem dX12_thing_5 : decode cX12_thing 5 = .ok (.aload_n 0, 1) := by decide +kernel
theorem dX12_thing_6 : decode cX12_thing 6 = .ok (.iload_n 1, 1) := by decide +kernel
theorem dX12_thing_7 : decode cX12_thing 7 = .ok (.invokevirtual 221, 3) := by decide +kernel
theorem dX12_thing_10 : decode cX12_thing 10 = .ok (.ifCond .ne 8, 3) := by decide +kernel
theorem dX12_thing_13 : decode cX12_thing 13 = .ok (.aload_n 0, 1) := by decide +kernel
theorem dX12_thing_14 : decode cX12_thing 14 = .ok (.invokevirtual 224, 3) := by decide +kernel
theorem dX12_thing_17 : decode cX12_thing 17 = .ok (.ireturn, 1) := by decide +kernel
theorem dX12_thing_18 : decode cX12_thing 18 = .ok (.iload_n 2, 1) := by decide +kernel
theorem dX12_thing_19 : decode cX12_thing 19 = .ok (.tableswitch 138 0 8 #[49, 58, 68, 78, 88, 98, 108, 114, 128], 49) := by decide +kernel
theorem dX12_thing_68 : decode cX12_thing 68 = .ok (.aload_n 0, 1) := by decide +kernel
theorem dX12_thing_69 : decode cX12_thing 69 = .ok (.getfield 13, 3) := by decide +kernel
theorem dX12_thing_72 : decode cX12_thing 72 = .ok (.iconst 3, 1) := by decide +kernel
theorem dX12_thing_73 : decode cX12_thing 73 = .ok (.iload_n 1, 1) := by decide +kernel
theorem dX12_thing_74 : decode cX12_thing 74 = .ok (.iadd, 1) := by decide +kernel
theorem dX12_thing_75 : decode cX12_thing 75 = .ok (.iaload, 1) := by decide +kernel
theorem dX12_thing_76 : decode cX12_thing 76 = .ok (.ireturn, 1) := by decide +kernel
theorem dX12_thing_77 : decode cX12_thing 77 = .ok (.aload_n 0, 1) := by decide +kernel
theorem dX12_thing_78 : decode cX12_thing 78 = .ok (.getfield 13, 3) := by decide +kernel
theorem dX12_thing_81 : decode cX12_thing 81 = .ok (.bipush 9, 2) := by decide +kernel
theorem dX12_thing_83 : decode cX12_thing 83 = .ok (.iload_n 1, 1) := by decide +kernel
theorem dX12_thing_84 : decode cX12_thing 84 = .ok (.iadd, 1) := by decide +kernel
theorem dX12_thing_85 : decode cX12_thing 85 = .ok (.iaload, 1) := by decide +kernel
theorem dX12_thing_86 : decode cX12_thing 86 = .ok (.ireturn, 1) := by decide +kernel
theorem dX12_thing_87 : decode cX12_thing 87 = .ok (.aload_n 0, 1) := by decide +kernel
theorem dX12_thing_88 : decode cX12_thing 88 = .ok (.getfield 13, 3) := by decide +kernel
theorem dX12_thing_91 : decode cX12_thing 91 = .ok (.bipush 15, 2) := by decide +kernel
theorem dX12_thing_93 : decode cX12_thing 93 = .ok (.iload_n 1, 1) := by decide +kernel
theorem dX12_thing_94 : decode cX12_thing 94 = .ok (.iadd, 1) := by decide +kernel
theorem dX12_thing_95 : decode cX12_thing 95 = .ok (.iaload, 1) := by decide +kernel
theorem dX12_thing_96 : decode cX12_thing 96 = .ok (.ireturn, 1) := by decide +kernel
theorem dX12_thing_97 : decode cX12_thing 97 = .ok (.aload_n 0, 1) := by decide +kernel
theorem dX12_thing_98 : decode cX12_thing 98 = .ok (.getfield 13, 3) := by decide +kernel
theorem dX12_thing_101 : decode cX12_thing 101 = .ok (.bipush 81, 2) := by decide +kernel
theorem dX12_thing_103 : decode cX12_thing 103 = .ok (.iload_n 1, 1) := by decide +kernel
theorem dX12_thing_104 : decode cX12_thing 104 = .ok (.iadd, 1) := by decide +kernel
theorem dX12_thing_105 : decode cX12_thing 105 = .ok (.iaload, 1) := by decide +kernel
theorem dX12_thing_106 : decode cX12_thing 106 = .ok (.ireturn, 1) := by decide +kernel
theorem dX12_thing_107 : decode cX12_thing 107 = .ok (.aload_n 0, 1) := by decide +kernel
theorem dX12_thing_108 : decode cX12_thing 108 = .ok (.getfield 13, 3) := by decide +kernel
theorem dX12_thing_111 : decode cX12_thing 111 = .ok (.bipush 87, 2) := by decide +kernel
theorem dX12_thing_113 : decode cX12_thing 113 = .ok (.iload_n 1, 1) := by decide +kernel
theorem dX12_thing_114 : decode cX12_thing 114 = .ok (.iadd, 1) := by decide +kernel
theorem dX12_thing_115 : decode cX12_thing 115 = .ok (.iaload, 1) := by decide +kernel
theorem dX12_thing_116 : decode cX12_thing 116 = .ok (.ireturn, 1) := by decide +kernel
theorem dX12_thing_117 : decode cX12_thing 117 = .ok (.aload_n 0, 1) := by decide +kernel
theorem dX12_thing_118 : decode cX12_thing 118 = .ok (.getfield 13, 3) := by decide +kernel
theorem dX12_thing_121 : decode cX12_thing 121 = .ok (.bipush 93, 2) := by decide +kernel
theorem dX12_thing_123 : decode cX12_thing 123 = .ok (.iload_n 1, 1) := by decide +kernel
theorem dX12_thing_124 : decode cX12_thing 124 = .ok (.iadd, 1) := by decide +kernel
theorem dX12_thing_125 : decode cX12_thing 125 = .ok (.iaload, 1) := by decide +kernel
theorem dX12_thing_126 : decode cX12_thing 126 = .ok (.ireturn, 1) := by decide +kernel
theorem dX12_thing_127 : decode cX12_thing 127 = .ok (.aload_n 0, 1) := by decide +kernel
theorem dX12_thing_128 : decode cX12_thing 128 = .ok (.iload_n 1, 1) := by decide +kernel
theorem dX12_thing_129 : decode cX12_thing 129 = .ok (.invokevirtual 227, 3) := by decide +kernel
theorem dX12_thing_132 : decode cX12_thing 132 = .ok (.ireturn, 1) := by decide +kernel
theorem dX12_thing_133 : decode cX12_thing 133 = .ok (.aload_n 0, 1) := by decide +kernel
theorem dX12_thing_134 : decode cX12_thing 134 = .ok (.iload_n 1, 1) := by decide +kernel
theorem dX12_thing_135 : decode cX12_thing 135 = .ok (.invokevirtual 218, 3) := by decide +kernel
theorem dX12_thing_138 : decode cX12_thing 138 = .ok (.ifCond .eq 7, 3) := by decide +kernel
theorem dX12_thing_141 : decode cX12_thing 141 = .ok (.iconst 1, 1) := by decide +kernel
theorem dX12_thing_142 : decode cX12_thing 142 = .ok (.goto 4, 3) := by decide +kernel
theorem dX12_thing_145 : decode cX12_thing 145 = .ok (.iconst 0, 1) := by decide +kernel
theorem dX12_thing_146 : decode cX12_thing 146 = .ok (.ireturn, 1) := by decide +kernel
theorem dX12_thing_147 : decode cX12_thing 147 = .ok (.aload_n 0, 1) := by decide +kernel
theorem dX12_thing_148 : decode cX12_thing 148 = .ok (.getfield 13, 3) := by decide +kernel
theorem dX12_thing_151 : decode cX12_thing 151 = .ok (.bipush 99, 2) := by decide +kernel
theorem dX12_thing_153 : decode cX12_thing 153 = .ok (.iload_n 1, 1) := by decide +kernel
theorem dX12_thing_154 : decode cX12_thing 154 = .ok (.iadd, 1) := by decide +kernel
theorem dX12_thing_155 : decode cX12_thing 155 = .ok (.iaload, 1) := by decide +kernel
theorem dX12_thing_156 : decode cX12_thing 156 = .ok (.ireturn, 1) := by decide +kernel
theorem dX12_thing_157 : decode cX12_thing 157 = .ok (.aload_n 0, 1) := by decide +kernel
theorem dX12_thing_158 : decode cX12_thing 158 = .ok (.invokevirtual 224, 3) := by decide +kernel
theorem dX12_thing_161 : decode cX12_thing 161 = .ok (.ireturn, 1) := by decide +kernel
theorem dX12_trouble_0 : decode cX12_trouble 0 = .ok (.aload_n 0, 1) := by decide +kernel
theorem dX12_trouble_1 : decode cX12_trouble 1 = .ok (.iconst 0, 1) := by decide +kernel
theorem dX12_trouble_2 : decode cX12_trouble 2 = .ok (.putfield 73, 3) := by decide +kernel
theorem dX12_trouble_5 : decode cX12_trouble 5 = .ok (.aload_n 0, 1) := by decide +kernel
theorem dX12_trouble_6 : decode cX12_trouble 6 = .ok (.iload_n 1, 1) := by decide +kernel
theorem dX12_trouble_7 : decode cX12_trouble 7 = .ok (.invokevirtual 230, 3) := by decide +kernel
theorem dX12_trouble_10 : decode cX12_trouble 10 = .ok (.ifCond .ne 8, 3) := by decide +kernel
theorem dX12_trouble_13 : decode cX12_trouble 13 = .ok (.aload_n 0, 1) := by decide +kernel
theorem dX12_trouble_14 : decode cX12_trouble 14 = .ok (.invokevirtual 224, 3) := by decide +kernel
theorem dX12_trouble_17 : decode cX12_trouble 17 = .ok (.ireturn, 1) := by decide +kernel
theorem dX12_trouble_18 : decode cX12_trouble 18 = .ok (.iload_n 2, 1) := by decide +kernel
theorem dX12_trouble_19 : decode cX12_trouble 19 = .ok (.tableswitch 126 0 7 #[45, 55, 65, 75, 85, 95, 105, 115], 45) := by decide +kernel
theorem dX12_trouble_64 : decode cX12_trouble 64 = .ok (.aload_n 0, 1) := by decide +kernel
theorem dX12_trouble_65 : decode cX12_trouble 65 = .ok (.getfield 13, 3) := by decide +kernel
theorem dX12_trouble_68 : decode cX12_trouble 68 = .ok (.bipush 21, 2) := by decide +kernel
theorem dX12_trouble_70 : decode cX12_trouble 70 = .ok (.iload_n 1, 1) := by decide +kernel
theorem dX12_trouble_71 : decode cX12_trouble 71 = .ok (.iadd, 1) := by decide +kernel
theorem dX12_trouble_72 : decode cX12_trouble 72 = .ok (.iaload, 1) := by decide +kernel
theorem dX12_trouble_73 : decode cX12_trouble 73 = .ok (.ireturn, 1) := by decide +kernel
theorem dX12_trouble_74 : decode cX12_trouble 74 = .ok (.aload_n 0, 1) := by decide +kernel
theorem dX12_trouble_75 : decode cX12_trouble 75 = .ok (.getfield 13, 3) := by decide +kernel
theorem dX12_trouble_78 : decode cX12_trouble 78 = .ok (.bipush 29, 2) := by decide +kernel
theorem dX12_trouble_80 : decode cX12_trouble 80 = .ok (.iload_n 1, 1) := by decide +kernel
theorem dX12_trouble_81 : decode cX12_trouble 81 = .ok (.iadd, 1) := by decide +kernel
theorem dX12_trouble_82 : decode cX12_trouble 82 = .ok (.iaload, 1) := by decide +kernel
theorem dX12_trouble_83 : decode cX12_trouble 83 = .ok (.ireturn, 1) := by decide +kernel
theorem dX12_trouble_84 : decode cX12_trouble 84 = .ok (.aload_n 0, 1) := by decide +kernel
theorem dX12_trouble_85 : decode cX12_trouble 85 = .ok (.getfield 13, 3) := by decide +kernel
theorem dX12_trouble_88 : decode cX12_trouble 88 = .ok (.bipush 37, 2) := by decide +kernel
theorem dX12_trouble_90 : decode cX12_trouble 90 = .ok (.iload_n 1, 1) := by decide +kernel
theorem dX12_trouble_91 : decode cX12_trouble 91 = .ok (.iadd, 1) := by decide +kernel
theorem dX12_trouble_92 : decode cX12_trouble 92 = .ok (.iaload, 1) := by decide +kernel
theorem dX12_trouble_93 : decode cX12_trouble 93 = .ok (.ireturn, 1) := by decide +kernel
theorem dX12_trouble_94 : decode cX12_trouble 94 = .ok (.aload_n 0, 1) := by decide +kernel
theorem dX12_trouble_95 : decode cX12_trouble 95 = .ok (.getfield 13, 3) := by decide +kernel
theorem dX12_trouble_98 : decode cX12_trouble 98 = .ok (.bipush 45, 2) := by decide +kernel
theorem dX12_trouble_100 : decode cX12_trouble 100 = .ok (.iload_n 1, 1) := by decide +kernel
theorem dX12_trouble_101 : decode cX12_trouble 101 = .ok (.iadd, 1) := by decide +kernel
theorem dX12_trouble_102 : decode cX12_trouble 102 = .ok (.iaload, 1) := by decide +kernel
theorem dX12_trouble_103 : decode cX12_trouble 103 = .ok (.ireturn, 1) := by decide +kernel
theorem dX12_trouble_104 : decode cX12_trouble 104 = .ok (.aload_n 0, 1) := by decide +kernel
theorem dX12_trouble_105 : decode cX12_trouble 105 = .ok (.getfield 13, 3) := by decide +kernel
theorem dX12_trouble_108 : decode cX12_trouble 108 = .ok (.bipush 105, 2) := by decide +kernel
theorem dX12_trouble_110 : decode cX12_trouble 110 = .ok (.iload_n 1, 1) := by decide +kernel
theorem dX12_trouble_111 : decode cX12_trouble 111 = .ok (.iadd, 1) := by decide +kernel
theorem dX12_trouble_112 : decode cX12_trouble 112 = .ok (.iaload, 1) := by decide +kernel
theorem dX12_trouble_113 : decode cX12_trouble 113 = .ok (.ireturn, 1) := by decide +kernel
theorem dX12_trouble_114 : decode cX12_trouble 114 = .ok (.aload_n 0, 1) := by decide +kernel
theorem dX12_trouble_115 : decode cX12_trouble 115 = .ok (.getfield 13, 3) := by decide +kernel
theorem dX12_trouble_118 : decode cX12_trouble 118 = .ok (.bipush 113, 2) := by decide +kernel
theorem dX12_trouble_120 : decode cX12_trouble 120 = .ok (.iload_n 1, 1) := by decide +kernel
theorem dX12_trouble_121 : decode cX12_trouble 121 = .ok (.iadd, 1) := by decide +kernel
theorem dX12_trouble_122 : decode cX12_trouble 122 = .ok (.iaload, 1) := by decide +kernel
theorem dX12_trouble_123 : decode cX12_trouble 123 = .ok (.ireturn, 1) := by decide +kernel
theorem dX12_trouble_124 : decode cX12_trouble 124 = .ok (.aload_n 0, 1) := by decide +kernel
theorem dX12_trouble_125 : decode cX12_trouble 125 = .ok (.getfield 13, 3) := by decide +kernel
theorem dX12_trouble_128 : decode cX12_trouble 128 = .ok (.bipush 121, 2) := by decide +kernel
theorem dX12_trouble_130 : decode cX12_trouble 130 = .ok (.iload_n 1, 1) := by decide +kernel
theorem dX12_trouble_131 : decode cX12_trouble 131 = .ok (.iadd, 1) := by decide +kernel
theorem dX12_trouble_132 : decode cX12_trouble 132 = .ok (.iaload, 1) := by decide +kernel
theorem dX12_trouble_133 : decode cX12_trouble 133 = .ok (.ireturn, 1) := by decide +kernel
theorem dX12_trouble_134 : decode cX12_trouble 134 = .ok (.aload_n 0, 1) := by decide +kernel
theorem dX12_trouble_135 : decode cX12_trouble 135 = .ok (.getfield 13, 3) := by decide +kernel
theorem dX12_trouble_138 : decode cX12_trouble 138 = .ok (.sipush 129, 3) := by decide +kernel
theorem dX12_trouble_141 : decode cX12_trouble 141 = .ok (.iload_n 1, 1) := by decide +kernel
theorem dX12_trouble_142 : decode cX12_trouble 142 = .ok (.iadd, 1) := by decide +kernel
theorem dX12_trouble_143 : decode cX12_trouble 143 = .ok (.iaload, 1) := by decide +kernel
theorem dX12_trouble_144 : decode cX12_trouble 144 = .ok (.ireturn, 1) := by decide +kernel
theorem dX12_trouble_145 : decode cX12_trouble 145 = .ok (.aload_n 0, 1) := by decide +kernel
theorem dX12_trouble_146 : decode cX12_trouble 146 = .ok (.invokevirtual 224, 3) := by decide +kernel
theorem dX12_trouble_149 : decode cX12_trouble 149 = .ok (.ireturn, 1) := by decide +kernel
theorem dX12_cures_0 : decode cX12_cures 0 = .ok (.aload_n 0, 1) := by decide +kernel
theorem dX12_cures_1 : decode cX12_cures 1 = .ok (.iconst 0, 1) := by decide +kernel
theorem dX12_cures_2 : decode cX12_cures 2 = .ok (.putfield 73, 3) := by decide +kernel
theorem dX12_cures_5 : decode cX12_cures 5 = .ok (.aload_n 0, 1) := by decide +kernel
end
section
theorem dX12_cures_6 : decode cX12_cures 6 = .ok (.iload_n 1, 1) := by decide +kernel
theorem dX12_cures_7 : decode cX12_cures 7 = .ok (.invokevirtual 230, 3) := by decide +kernel
theorem dX12_cures_10 : decode cX12_cures 10 = .ok (.ifCond .eq 28, 3) := by decide +kernel
theorem dX12_cures_13 : decode cX12_cures 13 = .ok (.iload_n 2, 1) := by decide +kernel
theorem dX12_cures_14 : decode cX12_cures 14 = .ok (.iconst 0, 1) := by decide +kernel
theorem dX12_cures_15 : decode cX12_cures 15 = .ok (.iconst 2, 1) := by decide +kernel
theorem dX12_cures_16 : decode cX12_cures 16 = .ok (.invokestatic 140, 3) := by decide +kernel
theorem dX12_cures_19 : decode cX12_cures 19 = .ok (.ifCond .eq 19, 3) := by decide +kernel
theorem dX12_cures_22 : decode cX12_cures 22 = .ok (.aload_n 0, 1) := by decide +kernel
theorem dX12_cures_23 : decode cX12_cures 23 = .ok (.getfield 13, 3) := by decide +kernel
theorem dX12_cures_26 : decode cX12_cures 26 = .ok (.bipush 53, 2) := by decide +kernel
theorem dX12_cures_28 : decode cX12_cures 28 = .ok (.iconst 3, 1) := by decide +kernel
theorem dX12_cures_29 : decode cX12_cures 29 = .ok (.iload_n 1, 1) := by decide +kernel
theorem dX12_cures_30 : decode cX12_cures 30 = .ok (.imul, 1) := by decide +kernel
theorem dX12_cures_31 : decode cX12_cures 31 = .ok (.iadd, 1) := by decide +kernel
theorem dX12_cures_32 : decode cX12_cures 32 = .ok (.iload_n 2, 1) := by decide +kernel
theorem dX12_cures_33 : decode cX12_cures 33 = .ok (.iadd, 1) := by decide +kernel
theorem dX12_cures_34 : decode cX12_cures 34 = .ok (.iaload, 1) := by decide +kernel
theorem dX12_cures_35 : decode cX12_cures 35 = .ok (.goto 4, 3) := by decide +kernel
theorem dX12_cures_38 : decode cX12_cures 38 = .ok (.iconst (-1), 1) := by decide +kernel
theorem dX12_cures_39 : decode cX12_cures 39 = .ok (.ireturn, 1) := by decide +kernel
theorem dX12_now_0 : decode cX12_now 0 = .ok (.aload_n 0, 1) := by decide +kernel
theorem dX12_now_1 : decode cX12_now 1 = .ok (.iconst 0, 1) := by decide +kernel
theorem dX12_now_2 : decode cX12_now 2 = .ok (.putfield 73, 3) := by decide +kernel
theorem dX12_now_5 : decode cX12_now 5 = .ok (.iconst 0, 1) := by decide +kernel
theorem dX12_now_6 : decode cX12_now 6 = .ok (.istore_n 2, 1) := by decide +kernel
theorem dX12_now_7 : decode cX12_now 7 = .ok (.iload_n 1, 1) := by decide +kernel
theorem dX12_now_8 : decode cX12_now 8 = .ok (.tableswitch 154 0 6 #[44, 52, 57, 96, 130, 138, 146], 44) := by decide +kernel
theorem dX12_now_52 : decode cX12_now 52 = .ok (.aload_n 0, 1) := by decide +kernel
theorem dX12_now_53 : decode cX12_now 53 = .ok (.getfield 13, 3) := by decide +kernel
theorem dX12_now_56 : decode cX12_now 56 = .ok (.bipush 77, 2) := by decide +kernel
theorem dX12_now_58 : decode cX12_now 58 = .ok (.iaload, 1) := by decide +kernel
theorem dX12_now_59 : decode cX12_now 59 = .ok (.ireturn, 1) := by decide +kernel
theorem dX12_now_60 : decode cX12_now 60 = .ok (.aload_n 0, 1) := by decide +kernel
theorem dX12_now_61 : decode cX12_now 61 = .ok (.invokevirtual 233, 3) := by decide +kernel
theorem dX12_now_64 : decode cX12_now 64 = .ok (.ireturn, 1) := by decide +kernel
theorem dX12_now_65 : decode cX12_now 65 = .ok (.iconst 0, 1) := by decide +kernel
theorem dX12_now_66 : decode cX12_now 66 = .ok (.istore_n 3, 1) := by decide +kernel
theorem dX12_now_67 : decode cX12_now 67 = .ok (.iload_n 3, 1) := by decide +kernel
theorem dX12_now_68 : decode cX12_now 68 = .ok (.aload_n 0, 1) := by decide +kernel
theorem dX12_now_69 : decode cX12_now 69 = .ok (.getfield 13, 3) := by decide +kernel
theorem dX12_now_72 : decode cX12_now 72 = .ok (.iconst 0, 1) := by decide +kernel
theorem dX12_now_73 : decode cX12_now 73 = .ok (.iaload, 1) := by decide +kernel
theorem dX12_now_74 : decode cX12_now 74 = .ok (.if_icmp .ge 28, 3) := by decide +kernel
theorem dX12_now_77 : decode cX12_now 77 = .ok (.aload_n 0, 1) := by decide +kernel
theorem dX12_now_78 : decode cX12_now 78 = .ok (.getfield 13, 3) := by decide +kernel
theorem dX12_now_81 : decode cX12_now 81 = .ok (.bipush 81, 2) := by decide +kernel
theorem dX12_now_83 : decode cX12_now 83 = .ok (.iload_n 3, 1) := by decide +kernel
theorem dX12_now_84 : decode cX12_now 84 = .ok (.iadd, 1) := by decide +kernel
theorem dX12_now_85 : decode cX12_now 85 = .ok (.iaload, 1) := by decide +kernel
theorem dX12_now_86 : decode cX12_now 86 = .ok (.iconst 2, 1) := by decide +kernel
theorem dX12_now_87 : decode cX12_now 87 = .ok (.if_icmp .ne 9, 3) := by decide +kernel
theorem dX12_now_90 : decode cX12_now 90 = .ok (.iload_n 2, 1) := by decide +kernel
theorem dX12_now_91 : decode cX12_now 91 = .ok (.iconst 1, 1) := by decide +kernel
theorem dX12_now_92 : decode cX12_now 92 = .ok (.iload_n 3, 1) := by decide +kernel
theorem dX12_now_93 : decode cX12_now 93 = .ok (.ishl, 1) := by decide +kernel
theorem dX12_now_94 : decode cX12_now 94 = .ok (.ior, 1) := by decide +kernel
theorem dX12_now_95 : decode cX12_now 95 = .ok (.istore_n 2, 1) := by decide +kernel
theorem dX12_now_96 : decode cX12_now 96 = .ok (.iinc 3 1, 3) := by decide +kernel
theorem dX12_now_99 : decode cX12_now 99 = .ok (.goto (-32), 3) := by decide +kernel
theorem dX12_now_102 : decode cX12_now 102 = .ok (.iload_n 2, 1) := by decide +kernel
theorem dX12_now_103 : decode cX12_now 103 = .ok (.ireturn, 1) := by decide +kernel
theorem dX12_now_104 : decode cX12_now 104 = .ok (.iconst 0, 1) := by decide +kernel
theorem dX12_now_105 : decode cX12_now 105 = .ok (.istore_n 3, 1) := by decide +kernel
theorem dX12_now_106 : decode cX12_now 106 = .ok (.iload_n 3, 1) := by decide +kernel
theorem dX12_now_107 : decode cX12_now 107 = .ok (.aload_n 0, 1) := by decide +kernel
theorem dX12_now_108 : decode cX12_now 108 = .ok (.getfield 13, 3) := by decide +kernel
theorem dX12_now_111 : decode cX12_now 111 = .ok (.iconst 1, 1) := by decide +kernel
theorem dX12_now_112 : decode cX12_now 112 = .ok (.iaload, 1) := by decide +kernel
theorem dX12_now_113 : decode cX12_now 113 = .ok (.if_icmp .ge 23, 3) := by decide +kernel
theorem dX12_now_116 : decode cX12_now 116 = .ok (.aload_n 0, 1) := by decide +kernel
theorem dX12_now_117 : decode cX12_now 117 = .ok (.iload_n 3, 1) := by decide +kernel
theorem dX12_now_118 : decode cX12_now 118 = .ok (.invokevirtual 209, 3) := by decide +kernel
theorem dX12_now_121 : decode cX12_now 121 = .ok (.ifCond .eq 9, 3) := by decide +kernel
theorem dX12_now_124 : decode cX12_now 124 = .ok (.iload_n 2, 1) := by decide +kernel
theorem dX12_now_125 : decode cX12_now 125 = .ok (.iconst 1, 1) := by decide +kernel
theorem dX12_now_126 : decode cX12_now 126 = .ok (.iload_n 3, 1) := by decide +kernel
theorem dX12_now_127 : decode cX12_now 127 = .ok (.ishl, 1) := by decide +kernel
theorem dX12_now_128 : decode cX12_now 128 = .ok (.ior, 1) := by decide +kernel
theorem dX12_now_129 : decode cX12_now 129 = .ok (.istore_n 2, 1) := by decide +kernel
theorem dX12_now_130 : decode cX12_now 130 = .ok (.iinc 3 1, 3) := by decide +kernel
theorem dX12_now_133 : decode cX12_now 133 = .ok (.goto (-27), 3) := by decide +kernel
theorem dX12_now_136 : decode cX12_now 136 = .ok (.iload_n 2, 1) := by decide +kernel
theorem dX12_now_137 : decode cX12_now 137 = .ok (.ireturn, 1) := by decide +kernel
theorem dX12_now_138 : decode cX12_now 138 = .ok (.aload_n 0, 1) := by decide +kernel
theorem dX12_now_139 : decode cX12_now 139 = .ok (.getfield 13, 3) := by decide +kernel
theorem dX12_now_142 : decode cX12_now 142 = .ok (.bipush 78, 2) := by decide +kernel
theorem dX12_now_144 : decode cX12_now 144 = .ok (.iaload, 1) := by decide +kernel
theorem dX12_now_145 : decode cX12_now 145 = .ok (.ireturn, 1) := by decide +kernel
theorem dX12_now_146 : decode cX12_now 146 = .ok (.aload_n 0, 1) := by decide +kernel
theorem dX12_now_147 : decode cX12_now 147 = .ok (.getfield 13, 3) := by decide +kernel
theorem dX12_now_150 : decode cX12_now 150 = .ok (.bipush 79, 2) := by decide +kernel
theorem dX12_now_152 : decode cX12_now 152 = .ok (.iaload, 1) := by decide +kernel
theorem dX12_now_153 : decode cX12_now 153 = .ok (.ireturn, 1) := by decide +kernel
theorem dX12_now_154 : decode cX12_now 154 = .ok (.aload_n 0, 1) := by decide +kernel
theorem dX12_now_155 : decode cX12_now 155 = .ok (.getfield 13, 3) := by decide +kernel
theorem dX12_now_158 : decode cX12_now 158 = .ok (.bipush 80, 2) := by decide +kernel
theorem dX12_now_160 : decode cX12_now 160 = .ok (.iaload, 1) := by decide +kernel
theorem dX12_now_161 : decode cX12_now 161 = .ok (.ireturn, 1) := by decide +kernel
theorem dX12_now_162 : decode cX12_now 162 = .ok (.iconst (-1), 1) := by decide +kernel
theorem dX12_now_163 : decode cX12_now 163 = .ok (.ireturn, 1) := by decide +kernel
theorem dX12_snap_0 : decode cX12_snap 0 = .ok (.aload_n 0, 1) := by decide +kernel
theorem dX12_snap_1 : decode cX12_snap 1 = .ok (.getfield 206, 3) := by decide +kernel
theorem dX12_snap_4 : decode cX12_snap 4 = .ok (.bipush 8, 2) := by decide +kernel
theorem dX12_snap_6 : decode cX12_snap 6 = .ok (.if_icmp .ne 43, 3) := by decide +kernel
theorem dX12_snap_9 : decode cX12_snap 9 = .ok (.iconst 0, 1) := by decide +kernel
theorem dX12_snap_10 : decode cX12_snap 10 = .ok (.istore_n 1, 1) := by decide +kernel
theorem dX12_snap_11 : decode cX12_snap 11 = .ok (.iload_n 1, 1) := by decide +kernel
theorem dX12_snap_12 : decode cX12_snap 12 = .ok (.sipush 420, 3) := by decide +kernel
theorem dX12_snap_15 : decode cX12_snap 15 = .ok (.if_icmp .ge 24, 3) := by decide +kernel
theorem dX12_snap_18 : decode cX12_snap 18 = .ok (.aload_n 0, 1) := by decide +kernel
theorem dX12_snap_19 : decode cX12_snap 19 = .ok (.getfield 22, 3) := by decide +kernel
theorem dX12_snap_22 : decode cX12_snap 22 = .ok (.iload_n 1, 1) := by decide +kernel
theorem dX12_snap_23 : decode cX12_snap 23 = .ok (.aload_n 0, 1) := by decide +kernel
theorem dX12_snap_24 : decode cX12_snap 24 = .ok (.getfield 22, 3) := by decide +kernel
theorem dX12_snap_27 : decode cX12_snap 27 = .ok (.iload_n 1, 1) := by decide +kernel
theorem dX12_snap_28 : decode cX12_snap 28 = .ok (.bipush 60, 2) := by decide +kernel
theorem dX12_snap_30 : decode cX12_snap 30 = .ok (.iadd, 1) := by decide +kernel
theorem dX12_snap_31 : decode cX12_snap 31 = .ok (.iaload, 1) := by decide +kernel
theorem dX12_snap_32 : decode cX12_snap 32 = .ok (.iastore, 1) := by decide +kernel
theorem dX12_snap_33 : decode cX12_snap 33 = .ok (.iinc 1 1, 3) := by decide +kernel
theorem dX12_snap_36 : decode cX12_snap 36 = .ok (.goto (-25), 3) := by decide +kernel
theorem dX12_snap_39 : decode cX12_snap 39 = .ok (.aload_n 0, 1) := by decide +kernel
theorem dX12_snap_40 : decode cX12_snap 40 = .ok (.dup, 1) := by decide +kernel
theorem dX12_snap_41 : decode cX12_snap 41 = .ok (.getfield 206, 3) := by decide +kernel
theorem dX12_snap_44 : decode cX12_snap 44 = .ok (.iconst 1, 1) := by decide +kernel
theorem dX12_snap_45 : decode cX12_snap 45 = .ok (.isub, 1) := by decide +kernel
theorem dX12_snap_46 : decode cX12_snap 46 = .ok (.putfield 206, 3) := by decide +kernel
theorem dX12_snap_49 : decode cX12_snap 49 = .ok (.iconst 0, 1) := by decide +kernel
theorem dX12_snap_50 : decode cX12_snap 50 = .ok (.istore_n 1, 1) := by decide +kernel
theorem dX12_snap_51 : decode cX12_snap 51 = .ok (.iload_n 1, 1) := by decide +kernel
theorem dX12_snap_52 : decode cX12_snap 52 = .ok (.bipush 60, 2) := by decide +kernel
theorem dX12_snap_54 : decode cX12_snap 54 = .ok (.if_icmp .ge 32, 3) := by decide +kernel
theorem dX12_snap_57 : decode cX12_snap 57 = .ok (.aload_n 0, 1) := by decide +kernel
theorem dX12_snap_58 : decode cX12_snap 58 = .ok (.getfield 22, 3) := by decide +kernel
theorem dX12_snap_61 : decode cX12_snap 61 = .ok (.bipush 60, 2) := by decide +kernel
theorem dX12_snap_63 : decode cX12_snap 63 = .ok (.aload_n 0, 1) := by decide +kernel
theorem dX12_snap_64 : decode cX12_snap 64 = .ok (.getfield 206, 3) := by decide +kernel
theorem dX12_snap_67 : decode cX12_snap 67 = .ok (.imul, 1) := by decide +kernel
theorem dX12_snap_68 : decode cX12_snap 68 = .ok (.iload_n 1, 1) := by decide +kernel
theorem dX12_snap_69 : decode cX12_snap 69 = .ok (.iadd, 1) := by decide +kernel
theorem dX12_snap_70 : decode cX12_snap 70 = .ok (.aload_n 0, 1) := by decide +kernel
theorem dX12_snap_71 : decode cX12_snap 71 = .ok (.getfield 13, 3) := by decide +kernel
theorem dX12_snap_74 : decode cX12_snap 74 = .ok (.bipush 77, 2) := by decide +kernel
theorem dX12_snap_76 : decode cX12_snap 76 = .ok (.iload_n 1, 1) := by decide +kernel
theorem dX12_snap_77 : decode cX12_snap 77 = .ok (.iadd, 1) := by decide +kernel
theorem dX12_snap_78 : decode cX12_snap 78 = .ok (.iaload, 1) := by decide +kernel
theorem dX12_snap_79 : decode cX12_snap 79 = .ok (.iastore, 1) := by decide +kernel
theorem dX12_snap_80 : decode cX12_snap 80 = .ok (.iinc 1 1, 3) := by decide +kernel
theorem dX12_snap_83 : decode cX12_snap 83 = .ok (.goto (-32), 3) := by decide +kernel
theorem dX12_snap_86 : decode cX12_snap 86 = .ok (.aload_n 0, 1) := by decide +kernel
theorem dX12_snap_87 : decode cX12_snap 87 = .ok (.dup, 1) := by decide +kernel
theorem dX12_snap_88 : decode cX12_snap 88 = .ok (.getfield 206, 3) := by decide +kernel
theorem dX12_snap_91 : decode cX12_snap 91 = .ok (.iconst 1, 1) := by decide +kernel
theorem dX12_snap_92 : decode cX12_snap 92 = .ok (.iadd, 1) := by decide +kernel
theorem dX12_snap_93 : decode cX12_snap 93 = .ok (.putfield 206, 3) := by decide +kernel
theorem dX12_snap_96 : decode cX12_snap 96 = .ok (.return_, 1) := by decide +kernel
theorem dX12_off_0 : decode cX12_off 0 = .ok (.aload_n 0, 1) := by decide +kernel
theorem dX12_off_1 : decode cX12_off 1 = .ok (.iconst 0, 1) := by decide +kernel
theorem dX12_off_2 : decode cX12_off 2 = .ok (.putfield 73, 3) := by decide +kernel
theorem dX12_off_5 : decode cX12_off 5 = .ok (.aload_n 0, 1) := by decide +kernel
theorem dX12_off_6 : decode cX12_off 6 = .ok (.iload_n 1, 1) := by decide +kernel
theorem dX12_off_7 : decode cX12_off 7 = .ok (.invokevirtual 221, 3) := by decide +kernel
theorem dX12_off_10 : decode cX12_off 10 = .ok (.ifCond .eq 13, 3) := by decide +kernel
theorem dX12_off_13 : decode cX12_off 13 = .ok (.aload_n 0, 1) := by decide +kernel
theorem dX12_off_14 : decode cX12_off 14 = .ok (.iconst 0, 1) := by decide +kernel
theorem dX12_off_15 : decode cX12_off 15 = .ok (.iload_n 1, 1) := by decide +kernel
theorem dX12_off_16 : decode cX12_off 16 = .ok (.iconst 0, 1) := by decide +kernel
theorem dX12_off_17 : decode cX12_off 17 = .ok (.invokevirtual 269, 3) := by decide +kernel
theorem dX12_off_20 : decode cX12_off 20 = .ok (.goto 4, 3) := by decide +kernel
theorem dX12_off_23 : decode cX12_off 23 = .ok (.iconst (-1), 1) := by decide +kernel
theorem dX12_off_24 : decode cX12_off 24 = .ok (.ireturn, 1) := by decide +kernel
theorem dX12_on_0 : decode cX12_on 0 = .ok (.aload_n 0, 1) := by decide +kernel
theorem dX12_on_1 : decode cX12_on 1 = .ok (.iconst 0, 1) := by decide +kernel
theorem dX12_on_2 : decode cX12_on 2 = .ok (.putfield 73, 3) := by decide +kernel
theorem dX12_on_5 : decode cX12_on 5 = .ok (.aload_n 0, 1) := by decide +kernel
theorem dX12_on_6 : decode cX12_on 6 = .ok (.iload_n 1, 1) := by decide +kernel
theorem dX12_on_7 : decode cX12_on 7 = .ok (.invokevirtual 221, 3) := by decide +kernel
theorem dX12_on_10 : decode cX12_on 10 = .ok (.ifCond .eq 13, 3) := by decide +kernel
theorem dX12_on_13 : decode cX12_on 13 = .ok (.aload_n 0, 1) := by decide +kernel
theorem dX12_on_14 : decode cX12_on 14 = .ok (.iconst 1, 1) := by decide +kernel
theorem dX12_on_15 : decode cX12_on 15 = .ok (.iload_n 1, 1) := by decide +kernel
theorem dX12_on_16 : decode cX12_on 16 = .ok (.iload_n 2, 1) := by decide +kernel
theorem dX12_on_17 : decode cX12_on 17 = .ok (.invokevirtual 269, 3) := by decide +kernel
theorem dX12_on_20 : decode cX12_on 20 = .ok (.goto 4, 3) := by decide +kernel
theorem dX12_on_23 : decode cX12_on 23 = .ok (.iconst (-1), 1) := by decide +kernel
theorem dX12_on_24 : decode cX12_on 24 = .ok (.ireturn, 1) := by decide +kernel
theorem dX12_cable_0 : decode cX12_cable 0 = .ok (.aload_n 0, 1) := by decide +kernel
theorem dX12_cable_1 : decode cX12_cable 1 = .ok (.iconst 0, 1) := by decide +kernel
theorem dX12_cable_2 : decode cX12_cable 2 = .ok (.putfield 73, 3) := by decide +kernel
theorem dX12_cable_5 : decode cX12_cable 5 = .ok (.aload_n 0, 1) := by decide +kernel
theorem dX12_cable_6 : decode cX12_cable 6 = .ok (.iload_n 1, 1) := by decide +kernel
theorem dX12_cable_7 : decode cX12_cable 7 = .ok (.invokevirtual 221, 3) := by decide +kernel
theorem dX12_cable_10 : decode cX12_cable 10 = .ok (.ifCond .eq 13, 3) := by decide +kernel
theorem dX12_cable_13 : decode cX12_cable 13 = .ok (.aload_n 0, 1) := by decide +kernel
theorem dX12_cable_14 : decode cX12_cable 14 = .ok (.iconst 2, 1) := by decide +kernel
theorem dX12_cable_15 : decode cX12_cable 15 = .ok (.iload_n 1, 1) := by decide +kernel
theorem dX12_cable_16 : decode cX12_cable 16 = .ok (.iload_n 2, 1) := by decide +kernel
theorem dX12_cable_17 : decode cX12_cable 17 = .ok (.invokevirtual 269, 3) := by decide +kernel
theorem dX12_cable_20 : decode cX12_cable 20 = .ok (.goto 4, 3) := by decide +kernel
theorem dX12_cable_23 : decode cX12_cable 23 = .ok (.iconst (-1), 1) := by decide +kernel
theorem dX12_cable_24 : decode cX12_cable 24 = .ok (.ireturn, 1) := by decide +kernel
theorem dX12_pin_0 : decode cX12_pin 0 = .ok (.aload_n 0, 1) := by decide +kernel
theorem dX12_pin_1 : decode cX12_pin 1 = .ok (.iconst 0, 1) := by decide +kernel
theorem dX12_pin_2 : decode cX12_pin 2 = .ok (.putfield 73, 3) := by decide +kernel
theorem dX12_pin_5 : decode cX12_pin 5 = .ok (.aload_n 0, 1) := by decide +kernel
theorem dX12_pin_6 : decode cX12_pin 6 = .ok (.iload_n 1, 1) := by decide +kernel
theorem dX12_pin_7 : decode cX12_pin 7 = .ok (.invokevirtual 221, 3) := by decide +kernel
theorem dX12_pin_10 : decode cX12_pin 10 = .ok (.ifCond .eq 13, 3) := by decide +kernel
theorem dX12_pin_13 : decode cX12_pin 13 = .ok (.aload_n 0, 1) := by decide +kernel
theorem dX12_pin_14 : decode cX12_pin 14 = .ok (.iconst 3, 1) := by decide +kernel
theorem dX12_pin_15 : decode cX12_pin 15 = .ok (.iload_n 1, 1) := by decide +kernel
theorem dX12_pin_16 : decode cX12_pin 16 = .ok (.iload_n 2, 1) := by decide +kernel
theorem dX12_pin_17 : decode cX12_pin 17 = .ok (.invokevirtual 269, 3) := by decide +kernel
theorem dX12_pin_20 : decode cX12_pin 20 = .ok (.goto 4, 3) := by decide +kernel
theorem dX12_pin_23 : decode cX12_pin 23 = .ok (.iconst (-1), 1) := by decide +kernel
theorem dX12_pin_24 : decode cX12_pin 24 = .ok (.ireturn, 1) := by decide +kernel
theorem dX12_strike_0 : decode cX12_strike 0 = .ok (.aload_n 0, 1) := by decide +kernel
theorem dX12_strike_1 : decode cX12_strike 1 = .ok (.iconst 0, 1) := by decide +kernel
theorem dX12_strike_2 : decode cX12_strike 2 = .ok (.putfield 73, 3) := by decide +kernel
theorem dX12_strike_5 : decode cX12_strike 5 = .ok (.aload_n 0, 1) := by decide +kernel
theorem dX12_strike_6 : decode cX12_strike 6 = .ok (.iload_n 1, 1) := by decide +kernel
theorem dX12_strike_7 : decode cX12_strike 7 = .ok (.invokevirtual 230, 3) := by decide +kernel
theorem dX12_strike_10 : decode cX12_strike 10 = .ok (.ifCond .eq 13, 3) := by decide +kernel
theorem dX12_strike_13 : decode cX12_strike 13 = .ok (.aload_n 0, 1) := by decide +kernel
theorem dX12_strike_14 : decode cX12_strike 14 = .ok (.iconst 4, 1) := by decide +kernel
theorem dX12_strike_15 : decode cX12_strike 15 = .ok (.iload_n 1, 1) := by decide +kernel
theorem dX12_strike_16 : decode cX12_strike 16 = .ok (.iconst 0, 1) := by decide +kernel
theorem dX12_strike_17 : decode cX12_strike 17 = .ok (.invokevirtual 269, 3) := by decide +kernel
theorem dX12_strike_20 : decode cX12_strike 20 = .ok (.goto 4, 3) := by decide +kernel
theorem dX12_strike_23 : decode cX12_strike 23 = .ok (.iconst (-1), 1) := by decide +kernel
theorem dX12_strike_24 : decode cX12_strike 24 = .ok (.ireturn, 1) := by decide +kernel
theorem dX12_undo_0 : decode cX12_undo 0 = .ok (.aload_n 0, 1) := by decide +kernel
theorem dX12_undo_1 : decode cX12_undo 1 = .ok (.iconst 0, 1) := by decide +kernel
theorem dX12_undo_2 : decode cX12_undo 2 = .ok (.putfield 73, 3) := by decide +kernel
theorem dX12_undo_5 : decode cX12_undo 5 = .ok (.aload_n 0, 1) := by decide +kernel
theorem dX12_undo_6 : decode cX12_undo 6 = .ok (.getfield 206, 3) := by decide +kernel
theorem dX12_undo_9 : decode cX12_undo 9 = .ok (.ifCond .ne 5, 3) := by decide +kernel
theorem dX12_undo_12 : decode cX12_undo 12 = .ok (.iconst (-1), 1) := by decide +kernel
theorem dX12_undo_13 : decode cX12_undo 13 = .ok (.ireturn, 1) := by decide +kernel
theorem dX12_undo_14 : decode cX12_undo 14 = .ok (.aload_n 0, 1) := by decide +kernel
theorem dX12_undo_15 : decode cX12_undo 15 = .ok (.dup, 1) := by decide +kernel
theorem dX12_undo_16 : decode cX12_undo 16 = .ok (.getfield 206, 3) := by decide +kernel
theorem dX12_undo_19 : decode cX12_undo 19 = .ok (.iconst 1, 1) := by decide +kernel
theorem dX12_undo_20 : decode cX12_undo 20 = .ok (.isub, 1) := by decide +kernel
theorem dX12_undo_21 : decode cX12_undo 21 = .ok (.putfield 206, 3) := by decide +kernel
theorem dX12_undo_24 : decode cX12_undo 24 = .ok (.iconst 0, 1) := by decide +kernel
theorem dX12_undo_25 : decode cX12_undo 25 = .ok (.istore_n 1, 1) := by decide +kernel
theorem dX12_undo_26 : decode cX12_undo 26 = .ok (.iload_n 1, 1) := by decide +kernel
theorem dX12_undo_27 : decode cX12_undo 27 = .ok (.bipush 60, 2) := by decide +kernel
theorem dX12_undo_29 : decode cX12_undo 29 = .ok (.if_icmp .ge 32, 3) := by decide +kernel
theorem dX12_undo_32 : decode cX12_undo 32 = .ok (.aload_n 0, 1) := by decide +kernel
theorem dX12_undo_33 : decode cX12_undo 33 = .ok (.getfield 13, 3) := by decide +kernel
theorem dX12_undo_36 : decode cX12_undo 36 = .ok (.bipush 77, 2) := by decide +kernel
theorem dX12_undo_38 : decode cX12_undo 38 = .ok (.iload_n 1, 1) := by decide +kernel
theorem dX12_undo_39 : decode cX12_undo 39 = .ok (.iadd, 1) := by decide +kernel
theorem dX12_undo_40 : decode cX12_undo 40 = .ok (.aload_n 0, 1) := by decide +kernel
theorem dX12_undo_41 : decode cX12_undo 41 = .ok (.getfield 22, 3) := by decide +kernel
theorem dX12_undo_44 : decode cX12_undo 44 = .ok (.bipush 60, 2) := by decide +kernel
theorem dX12_undo_46 : decode cX12_undo 46 = .ok (.aload_n 0, 1) := by decide +kernel
theorem dX12_undo_47 : decode cX12_undo 47 = .ok (.getfield 206, 3) := by decide +kernel
theorem dX12_undo_50 : decode cX12_undo 50 = .ok (.imul, 1) := by decide +kernel
theorem dX12_undo_51 : decode cX12_undo 51 = .ok (.iload_n 1, 1) := by decide +kernel
theorem dX12_undo_52 : decode cX12_undo 52 = .ok (.iadd, 1) := by decide +kernel
theorem dX12_undo_53 : decode cX12_undo 53 = .ok (.iaload, 1) := by decide +kernel
theorem dX12_undo_54 : decode cX12_undo 54 = .ok (.iastore, 1) := by decide +kernel
theorem dX12_undo_55 : decode cX12_undo 55 = .ok (.iinc 1 1, 3) := by decide +kernel
theorem dX12_undo_58 : decode cX12_undo 58 = .ok (.goto (-32), 3) := by decide +kernel
theorem dX12_undo_61 : decode cX12_undo 61 = .ok (.aload_n 0, 1) := by decide +kernel
theorem dX12_undo_62 : decode cX12_undo 62 = .ok (.getfield 206, 3) := by decide +kernel
theorem dX12_undo_65 : decode cX12_undo 65 = .ok (.ireturn, 1) := by decide +kernel
theorem dX12_oneMinute_0 : decode cX12_oneMinute 0 = .ok (.iconst 0, 1) := by decide +kernel
theorem dX12_oneMinute_1 : decode cX12_oneMinute 1 = .ok (.istore_n 1, 1) := by decide +kernel
theorem dX12_oneMinute_2 : decode cX12_oneMinute 2 = .ok (.iload_n 1, 1) := by decide +kernel
theorem dX12_oneMinute_3 : decode cX12_oneMinute 3 = .ok (.aload_n 0, 1) := by decide +kernel
theorem dX12_oneMinute_4 : decode cX12_oneMinute 4 = .ok (.getfield 13, 3) := by decide +kernel
theorem dX12_oneMinute_7 : decode cX12_oneMinute 7 = .ok (.iconst 0, 1) := by decide +kernel
theorem dX12_oneMinute_8 : decode cX12_oneMinute 8 = .ok (.iaload, 1) := by decide +kernel
theorem dX12_oneMinute_9 : decode cX12_oneMinute 9 = .ok (.if_icmp .ge 140, 3) := by decide +kernel
theorem dX12_oneMinute_12 : decode cX12_oneMinute 12 = .ok (.aload_n 0, 1) := by decide +kernel
theorem dX12_oneMinute_13 : decode cX12_oneMinute 13 = .ok (.getfield 13, 3) := by decide +kernel
theorem dX12_oneMinute_16 : decode cX12_oneMinute 16 = .ok (.bipush 81, 2) := by decide +kernel
theorem dX12_oneMinute_18 : decode cX12_oneMinute 18 = .ok (.iload_n 1, 1) := by decide +kernel
theorem dX12_oneMinute_19 : decode cX12_oneMinute 19 = .ok (.iadd, 1) := by decide +kernel
theorem dX12_oneMinute_20 : decode cX12_oneMinute 20 = .ok (.iaload, 1) := by decide +kernel
theorem dX12_oneMinute_21 : decode cX12_oneMinute 21 = .ok (.ifCond .ne 32, 3) := by decide +kernel
theorem dX12_oneMinute_24 : decode cX12_oneMinute 24 = .ok (.aload_n 0, 1) := by decide +kernel
theorem dX12_oneMinute_25 : decode cX12_oneMinute 25 = .ok (.getfield 13, 3) := by decide +kernel
theorem dX12_oneMinute_28 : decode cX12_oneMinute 28 = .ok (.bipush 87, 2) := by decide +kernel
theorem dX12_oneMinute_30 : decode cX12_oneMinute 30 = .ok (.iload_n 1, 1) := by decide +kernel
theorem dX12_oneMinute_31 : decode cX12_oneMinute 31 = .ok (.iadd, 1) := by decide +kernel
theorem dX12_oneMinute_32 : decode cX12_oneMinute 32 = .ok (.dup2, 1) := by decide +kernel
theorem dX12_oneMinute_33 : decode cX12_oneMinute 33 = .ok (.iaload, 1) := by decide +kernel
theorem dX12_oneMinute_34 : decode cX12_oneMinute 34 = .ok (.iconst 1, 1) := by decide +kernel
theorem dX12_oneMinute_35 : decode cX12_oneMinute 35 = .ok (.iadd, 1) := by decide +kernel
theorem dX12_oneMinute_36 : decode cX12_oneMinute 36 = .ok (.iastore, 1) := by decide +kernel
theorem dX12_oneMinute_37 : decode cX12_oneMinute 37 = .ok (.aload_n 0, 1) := by decide +kernel
theorem dX12_oneMinute_38 : decode cX12_oneMinute 38 = .ok (.getfield 13, 3) := by decide +kernel
theorem dX12_oneMinute_41 : decode cX12_oneMinute 41 = .ok (.bipush 99, 2) := by decide +kernel
theorem dX12_oneMinute_43 : decode cX12_oneMinute 43 = .ok (.iload_n 1, 1) := by decide +kernel
theorem dX12_oneMinute_44 : decode cX12_oneMinute 44 = .ok (.iadd, 1) := by decide +kernel
theorem dX12_oneMinute_45 : decode cX12_oneMinute 45 = .ok (.dup2, 1) := by decide +kernel
theorem dX12_oneMinute_46 : decode cX12_oneMinute 46 = .ok (.iaload, 1) := by decide +kernel
theorem dX12_oneMinute_47 : decode cX12_oneMinute 47 = .ok (.iconst 1, 1) := by decide +kernel
theorem dX12_oneMinute_48 : decode cX12_oneMinute 48 = .ok (.iadd, 1) := by decide +kernel
theorem dX12_oneMinute_49 : decode cX12_oneMinute 49 = .ok (.iastore, 1) := by decide +kernel
theorem dX12_oneMinute_50 : decode cX12_oneMinute 50 = .ok (.goto 93, 3) := by decide +kernel
theorem dX12_oneMinute_53 : decode cX12_oneMinute 53 = .ok (.aload_n 0, 1) := by decide +kernel
theorem dX12_oneMinute_54 : decode cX12_oneMinute 54 = .ok (.getfield 13, 3) := by decide +kernel
theorem dX12_oneMinute_57 : decode cX12_oneMinute 57 = .ok (.bipush 81, 2) := by decide +kernel
theorem dX12_oneMinute_59 : decode cX12_oneMinute 59 = .ok (.iload_n 1, 1) := by decide +kernel
theorem dX12_oneMinute_60 : decode cX12_oneMinute 60 = .ok (.iadd, 1) := by decide +kernel
theorem dX12_oneMinute_61 : decode cX12_oneMinute 61 = .ok (.iaload, 1) := by decide +kernel
theorem dX12_oneMinute_62 : decode cX12_oneMinute 62 = .ok (.iconst 1, 1) := by decide +kernel
theorem dX12_oneMinute_63 : decode cX12_oneMinute 63 = .ok (.if_icmp .ne 80, 3) := by decide +kernel
theorem dX12_oneMinute_66 : decode cX12_oneMinute 66 = .ok (.aload_n 0, 1) := by decide +kernel
theorem dX12_oneMinute_67 : decode cX12_oneMinute 67 = .ok (.getfield 13, 3) := by decide +kernel
theorem dX12_oneMinute_70 : decode cX12_oneMinute 70 = .ok (.bipush 87, 2) := by decide +kernel
theorem dX12_oneMinute_72 : decode cX12_oneMinute 72 = .ok (.iload_n 1, 1) := by decide +kernel
theorem dX12_oneMinute_73 : decode cX12_oneMinute 73 = .ok (.iadd, 1) := by decide +kernel
theorem dX12_oneMinute_74 : decode cX12_oneMinute 74 = .ok (.dup2, 1) := by decide +kernel
theorem dX12_oneMinute_75 : decode cX12_oneMinute 75 = .ok (.iaload, 1) := by decide +kernel
theorem dX12_oneMinute_76 : decode cX12_oneMinute 76 = .ok (.iconst 1, 1) := by decide +kernel
theorem dX12_oneMinute_77 : decode cX12_oneMinute 77 = .ok (.isub, 1) := by decide +kernel
theorem dX12_oneMinute_78 : decode cX12_oneMinute 78 = .ok (.iastore, 1) := by decide +kernel
theorem dX12_oneMinute_79 : decode cX12_oneMinute 79 = .ok (.aload_n 0, 1) := by decide +kernel
theorem dX12_oneMinute_80 : decode cX12_oneMinute 80 = .ok (.getfield 13, 3) := by decide +kernel
theorem dX12_oneMinute_83 : decode cX12_oneMinute 83 = .ok (.bipush 87, 2) := by decide +kernel
theorem dX12_oneMinute_85 : decode cX12_oneMinute 85 = .ok (.iload_n 1, 1) := by decide +kernel
theorem dX12_oneMinute_86 : decode cX12_oneMinute 86 = .ok (.iadd, 1) := by decide +kernel
theorem dX12_oneMinute_87 : decode cX12_oneMinute 87 = .ok (.iaload, 1) := by decide +kernel
theorem dX12_oneMinute_88 : decode cX12_oneMinute 88 = .ok (.ifCond .le 6, 3) := by decide +kernel
theorem dX12_oneMinute_91 : decode cX12_oneMinute 91 = .ok (.goto 52, 3) := by decide +kernel
theorem dX12_oneMinute_94 : decode cX12_oneMinute 94 = .ok (.aload_n 0, 1) := by decide +kernel
theorem dX12_oneMinute_95 : decode cX12_oneMinute 95 = .ok (.getfield 13, 3) := by decide +kernel
theorem dX12_oneMinute_98 : decode cX12_oneMinute 98 = .ok (.bipush 81, 2) := by decide +kernel
theorem dX12_oneMinute_100 : decode cX12_oneMinute 100 = .ok (.iload_n 1, 1) := by decide +kernel
theorem dX12_oneMinute_101 : decode cX12_oneMinute 101 = .ok (.iadd, 1) := by decide +kernel
theorem dX12_oneMinute_102 : decode cX12_oneMinute 102 = .ok (.iconst 2, 1) := by decide +kernel
theorem dX12_oneMinute_103 : decode cX12_oneMinute 103 = .ok (.iastore, 1) := by decide +kernel
theorem dX12_oneMinute_104 : decode cX12_oneMinute 104 = .ok (.aload_n 0, 1) := by decide +kernel
theorem dX12_oneMinute_105 : decode cX12_oneMinute 105 = .ok (.getfield 13, 3) := by decide +kernel
theorem dX12_oneMinute_108 : decode cX12_oneMinute 108 = .ok (.bipush 15, 2) := by decide +kernel
theorem dX12_oneMinute_110 : decode cX12_oneMinute 110 = .ok (.iload_n 1, 1) := by decide +kernel
theorem dX12_oneMinute_111 : decode cX12_oneMinute 111 = .ok (.iadd, 1) := by decide +kernel
theorem dX12_oneMinute_112 : decode cX12_oneMinute 112 = .ok (.iaload, 1) := by decide +kernel
theorem dX12_oneMinute_113 : decode cX12_oneMinute 113 = .ok (.iconst (-1), 1) := by decide +kernel
theorem dX12_oneMinute_114 : decode cX12_oneMinute 114 = .ok (.if_icmp .eq 19, 3) := by decide +kernel
theorem dX12_oneMinute_117 : decode cX12_oneMinute 117 = .ok (.aload_n 0, 1) := by decide +kernel
theorem dX12_oneMinute_118 : decode cX12_oneMinute 118 = .ok (.aload_n 0, 1) := by decide +kernel
theorem dX12_oneMinute_119 : decode cX12_oneMinute 119 = .ok (.getfield 13, 3) := by decide +kernel
theorem dX12_oneMinute_122 : decode cX12_oneMinute 122 = .ok (.bipush 15, 2) := by decide +kernel
theorem dX12_oneMinute_124 : decode cX12_oneMinute 124 = .ok (.iload_n 1, 1) := by decide +kernel
theorem dX12_oneMinute_125 : decode cX12_oneMinute 125 = .ok (.iadd, 1) := by decide +kernel
theorem dX12_oneMinute_126 : decode cX12_oneMinute 126 = .ok (.iaload, 1) := by decide +kernel
theorem dX12_oneMinute_127 : decode cX12_oneMinute 127 = .ok (.invokevirtual 215, 3) := by decide +kernel
theorem dX12_oneMinute_130 : decode cX12_oneMinute 130 = .ok (.ifCond .eq 13, 3) := by decide +kernel
theorem dX12_oneMinute_133 : decode cX12_oneMinute 133 = .ok (.aload_n 0, 1) := by decide +kernel
theorem dX12_oneMinute_134 : decode cX12_oneMinute 134 = .ok (.getfield 13, 3) := by decide +kernel
theorem dX12_oneMinute_137 : decode cX12_oneMinute 137 = .ok (.bipush 93, 2) := by decide +kernel
theorem dX12_oneMinute_139 : decode cX12_oneMinute 139 = .ok (.iload_n 1, 1) := by decide +kernel
theorem dX12_oneMinute_140 : decode cX12_oneMinute 140 = .ok (.iadd, 1) := by decide +kernel
theorem dX12_oneMinute_141 : decode cX12_oneMinute 141 = .ok (.iconst 1, 1) := by decide +kernel
theorem dX12_oneMinute_142 : decode cX12_oneMinute 142 = .ok (.iastore, 1) := by decide +kernel
theorem dX12_oneMinute_143 : decode cX12_oneMinute 143 = .ok (.iinc 1 1, 3) := by decide +kernel
theorem dX12_oneMinute_146 : decode cX12_oneMinute 146 = .ok (.goto (-144), 3) := by decide +kernel
theorem dX12_oneMinute_149 : decode cX12_oneMinute 149 = .ok (.iconst 0, 1) := by decide +kernel
theorem dX12_oneMinute_150 : decode cX12_oneMinute 150 = .ok (.istore_n 1, 1) := by decide +kernel
theorem dX12_oneMinute_151 : decode cX12_oneMinute 151 = .ok (.iload_n 1, 1) := by decide +kernel
theorem dX12_oneMinute_152 : decode cX12_oneMinute 152 = .ok (.aload_n 0, 1) := by decide +kernel
theorem dX12_oneMinute_153 : decode cX12_oneMinute 153 = .ok (.getfield 13, 3) := by decide +kernel
theorem dX12_oneMinute_156 : decode cX12_oneMinute 156 = .ok (.iconst 1, 1) := by decide +kernel
theorem dX12_oneMinute_157 : decode cX12_oneMinute 157 = .ok (.iaload, 1) := by decide +kernel
theorem dX12_oneMinute_158 : decode cX12_oneMinute 158 = .ok (.if_icmp .ge 87, 3) := by decide +kernel
theorem dX12_oneMinute_161 : decode cX12_oneMinute 161 = .ok (.aload_n 0, 1) := by decide +kernel
theorem dX12_oneMinute_162 : decode cX12_oneMinute 162 = .ok (.iload_n 1, 1) := by decide +kernel
theorem dX12_oneMinute_163 : decode cX12_oneMinute 163 = .ok (.invokevirtual 209, 3) := by decide +kernel
theorem dX12_oneMinute_166 : decode cX12_oneMinute 166 = .ok (.ifCond .ne 6, 3) := by decide +kernel
theorem dX12_oneMinute_169 : decode cX12_oneMinute 169 = .ok (.goto 70, 3) := by decide +kernel
theorem dX12_oneMinute_172 : decode cX12_oneMinute 172 = .ok (.aload_n 0, 1) := by decide +kernel
theorem dX12_oneMinute_173 : decode cX12_oneMinute 173 = .ok (.getfield 13, 3) := by decide +kernel
theorem dX12_oneMinute_176 : decode cX12_oneMinute 176 = .ok (.bipush 113, 2) := by decide +kernel
theorem dX12_oneMinute_178 : decode cX12_oneMinute 178 = .ok (.iload_n 1, 1) := by decide +kernel
theorem dX12_oneMinute_179 : decode cX12_oneMinute 179 = .ok (.iadd, 1) := by decide +kernel
theorem dX12_oneMinute_180 : decode cX12_oneMinute 180 = .ok (.dup2, 1) := by decide +kernel
theorem dX12_oneMinute_181 : decode cX12_oneMinute 181 = .ok (.iaload, 1) := by decide +kernel
theorem dX12_oneMinute_182 : decode cX12_oneMinute 182 = .ok (.iconst 1, 1) := by decide +kernel
theorem dX12_oneMinute_183 : decode cX12_oneMinute 183 = .ok (.iadd, 1) := by decide +kernel
theorem dX12_oneMinute_184 : decode cX12_oneMinute 184 = .ok (.iastore, 1) := by decide +kernel
theorem dX12_oneMinute_185 : decode cX12_oneMinute 185 = .ok (.aload_n 0, 1) := by decide +kernel
theorem dX12_oneMinute_186 : decode cX12_oneMinute 186 = .ok (.getfield 13, 3) := by decide +kernel
theorem dX12_oneMinute_189 : decode cX12_oneMinute 189 = .ok (.bipush 113, 2) := by decide +kernel
theorem dX12_oneMinute_191 : decode cX12_oneMinute 191 = .ok (.iload_n 1, 1) := by decide +kernel
theorem dX12_oneMinute_192 : decode cX12_oneMinute 192 = .ok (.iadd, 1) := by decide +kernel
theorem dX12_oneMinute_193 : decode cX12_oneMinute 193 = .ok (.iaload, 1) := by decide +kernel
theorem dX12_oneMinute_194 : decode cX12_oneMinute 194 = .ok (.aload_n 0, 1) := by decide +kernel
theorem dX12_oneMinute_195 : decode cX12_oneMinute 195 = .ok (.getfield 13, 3) := by decide +kernel
theorem dX12_oneMinute_198 : decode cX12_oneMinute 198 = .ok (.bipush 29, 2) := by decide +kernel
theorem dX12_oneMinute_200 : decode cX12_oneMinute 200 = .ok (.iload_n 1, 1) := by decide +kernel
theorem dX12_oneMinute_201 : decode cX12_oneMinute 201 = .ok (.iadd, 1) := by decide +kernel
end
section
theorem dX12_oneMinute_202 : decode cX12_oneMinute 202 = .ok (.iaload, 1) := by decide +kernel
theorem dX12_oneMinute_203 : decode cX12_oneMinute 203 = .ok (.if_icmp .eq 6, 3) := by decide +kernel
theorem dX12_oneMinute_206 : decode cX12_oneMinute 206 = .ok (.goto 33, 3) := by decide +kernel
theorem dX12_oneMinute_209 : decode cX12_oneMinute 209 = .ok (.aload_n 0, 1) := by decide +kernel
theorem dX12_oneMinute_210 : decode cX12_oneMinute 210 = .ok (.iload_n 1, 1) := by decide +kernel
theorem dX12_oneMinute_211 : decode cX12_oneMinute 211 = .ok (.invokevirtual 243, 3) := by decide +kernel
theorem dX12_oneMinute_214 : decode cX12_oneMinute 214 = .ok (.aload_n 0, 1) := by decide +kernel
theorem dX12_oneMinute_215 : decode cX12_oneMinute 215 = .ok (.getfield 13, 3) := by decide +kernel
theorem dX12_oneMinute_218 : decode cX12_oneMinute 218 = .ok (.sipush 129, 3) := by decide +kernel
theorem dX12_oneMinute_221 : decode cX12_oneMinute 221 = .ok (.iload_n 1, 1) := by decide +kernel
theorem dX12_oneMinute_222 : decode cX12_oneMinute 222 = .ok (.iadd, 1) := by decide +kernel
theorem dX12_oneMinute_223 : decode cX12_oneMinute 223 = .ok (.dup2, 1) := by decide +kernel
theorem dX12_oneMinute_224 : decode cX12_oneMinute 224 = .ok (.iaload, 1) := by decide +kernel
theorem dX12_oneMinute_225 : decode cX12_oneMinute 225 = .ok (.iconst 1, 1) := by decide +kernel
theorem dX12_oneMinute_226 : decode cX12_oneMinute 226 = .ok (.iadd, 1) := by decide +kernel
theorem dX12_oneMinute_227 : decode cX12_oneMinute 227 = .ok (.iastore, 1) := by decide +kernel
theorem dX12_oneMinute_228 : decode cX12_oneMinute 228 = .ok (.aload_n 0, 1) := by decide +kernel
theorem dX12_oneMinute_229 : decode cX12_oneMinute 229 = .ok (.getfield 13, 3) := by decide +kernel
theorem dX12_oneMinute_232 : decode cX12_oneMinute 232 = .ok (.bipush 80, 2) := by decide +kernel
theorem dX12_oneMinute_234 : decode cX12_oneMinute 234 = .ok (.dup2, 1) := by decide +kernel
theorem dX12_oneMinute_235 : decode cX12_oneMinute 235 = .ok (.iaload, 1) := by decide +kernel
theorem dX12_oneMinute_236 : decode cX12_oneMinute 236 = .ok (.iconst 1, 1) := by decide +kernel
theorem dX12_oneMinute_237 : decode cX12_oneMinute 237 = .ok (.iadd, 1) := by decide +kernel
theorem dX12_oneMinute_238 : decode cX12_oneMinute 238 = .ok (.iastore, 1) := by decide +kernel
theorem dX12_oneMinute_239 : decode cX12_oneMinute 239 = .ok (.iinc 1 1, 3) := by decide +kernel
theorem dX12_oneMinute_242 : decode cX12_oneMinute 242 = .ok (.goto (-91), 3) := by decide +kernel
theorem dX12_oneMinute_245 : decode cX12_oneMinute 245 = .ok (.aload_n 0, 1) := by decide +kernel
theorem dX12_oneMinute_246 : decode cX12_oneMinute 246 = .ok (.getfield 13, 3) := by decide +kernel
theorem dX12_oneMinute_249 : decode cX12_oneMinute 249 = .ok (.bipush 77, 2) := by decide +kernel
theorem dX12_oneMinute_251 : decode cX12_oneMinute 251 = .ok (.dup2, 1) := by decide +kernel
theorem dX12_oneMinute_252 : decode cX12_oneMinute 252 = .ok (.iaload, 1) := by decide +kernel
theorem dX12_oneMinute_253 : decode cX12_oneMinute 253 = .ok (.iconst 1, 1) := by decide +kernel
theorem dX12_oneMinute_254 : decode cX12_oneMinute 254 = .ok (.iadd, 1) := by decide +kernel
theorem dX12_oneMinute_255 : decode cX12_oneMinute 255 = .ok (.iastore, 1) := by decide +kernel
theorem dX12_oneMinute_256 : decode cX12_oneMinute 256 = .ok (.return_, 1) := by decide +kernel
theorem dX12_passMinutes_0 : decode cX12_passMinutes 0 = .ok (.iload_n 1, 1) := by decide +kernel
theorem dX12_passMinutes_1 : decode cX12_passMinutes 1 = .ok (.sipush 1000, 3) := by decide +kernel
theorem dX12_passMinutes_4 : decode cX12_passMinutes 4 = .ok (.aload_n 0, 1) := by decide +kernel
theorem dX12_passMinutes_5 : decode cX12_passMinutes 5 = .ok (.getfield 13, 3) := by decide +kernel
theorem dX12_passMinutes_8 : decode cX12_passMinutes 8 = .ok (.bipush 77, 2) := by decide +kernel
theorem dX12_passMinutes_10 : decode cX12_passMinutes 10 = .ok (.iaload, 1) := by decide +kernel
theorem dX12_passMinutes_11 : decode cX12_passMinutes 11 = .ok (.isub, 1) := by decide +kernel
theorem dX12_passMinutes_12 : decode cX12_passMinutes 12 = .ok (.invokestatic 273, 3) := by decide +kernel
theorem dX12_passMinutes_15 : decode cX12_passMinutes 15 = .ok (.istore_n 2, 1) := by decide +kernel
theorem dX12_passMinutes_16 : decode cX12_passMinutes 16 = .ok (.iconst 0, 1) := by decide +kernel
theorem dX12_passMinutes_17 : decode cX12_passMinutes 17 = .ok (.istore_n 3, 1) := by decide +kernel
theorem dX12_passMinutes_18 : decode cX12_passMinutes 18 = .ok (.iload_n 3, 1) := by decide +kernel
theorem dX12_passMinutes_19 : decode cX12_passMinutes 19 = .ok (.iload_n 2, 1) := by decide +kernel
theorem dX12_passMinutes_20 : decode cX12_passMinutes 20 = .ok (.if_icmp .ge 13, 3) := by decide +kernel
theorem dX12_passMinutes_23 : decode cX12_passMinutes 23 = .ok (.aload_n 0, 1) := by decide +kernel
theorem dX12_passMinutes_24 : decode cX12_passMinutes 24 = .ok (.invokevirtual 276, 3) := by decide +kernel
theorem dX12_passMinutes_27 : decode cX12_passMinutes 27 = .ok (.iinc 3 1, 3) := by decide +kernel
theorem dX12_passMinutes_30 : decode cX12_passMinutes 30 = .ok (.goto (-12), 3) := by decide +kernel
theorem dX12_passMinutes_33 : decode cX12_passMinutes 33 = .ok (.iload_n 2, 1) := by decide +kernel
theorem dX12_passMinutes_34 : decode cX12_passMinutes 34 = .ok (.ireturn, 1) := by decide +kernel
theorem dX12_minutes_0 : decode cX12_minutes 0 = .ok (.aload_n 0, 1) := by decide +kernel
theorem dX12_minutes_1 : decode cX12_minutes 1 = .ok (.iconst 0, 1) := by decide +kernel
theorem dX12_minutes_2 : decode cX12_minutes 2 = .ok (.putfield 73, 3) := by decide +kernel
theorem dX12_minutes_5 : decode cX12_minutes 5 = .ok (.iload_n 1, 1) := by decide +kernel
theorem dX12_minutes_6 : decode cX12_minutes 6 = .ok (.iconst 1, 1) := by decide +kernel
theorem dX12_minutes_7 : decode cX12_minutes 7 = .ok (.bipush 60, 2) := by decide +kernel
theorem dX12_minutes_9 : decode cX12_minutes 9 = .ok (.invokestatic 140, 3) := by decide +kernel
theorem dX12_minutes_12 : decode cX12_minutes 12 = .ok (.ifCond .ne 5, 3) := by decide +kernel
theorem dX12_minutes_15 : decode cX12_minutes 15 = .ok (.iconst (-1), 1) := by decide +kernel
theorem dX12_minutes_16 : decode cX12_minutes 16 = .ok (.ireturn, 1) := by decide +kernel
theorem dX12_minutes_17 : decode cX12_minutes 17 = .ok (.aload_n 0, 1) := by decide +kernel
theorem dX12_minutes_18 : decode cX12_minutes 18 = .ok (.getfield 13, 3) := by decide +kernel
theorem dX12_minutes_21 : decode cX12_minutes 21 = .ok (.bipush 77, 2) := by decide +kernel
theorem dX12_minutes_23 : decode cX12_minutes 23 = .ok (.iaload, 1) := by decide +kernel
theorem dX12_minutes_24 : decode cX12_minutes 24 = .ok (.sipush 1000, 3) := by decide +kernel
theorem dX12_minutes_27 : decode cX12_minutes 27 = .ok (.if_icmp .ne 5, 3) := by decide +kernel
theorem dX12_minutes_30 : decode cX12_minutes 30 = .ok (.iconst 0, 1) := by decide +kernel
theorem dX12_minutes_31 : decode cX12_minutes 31 = .ok (.ireturn, 1) := by decide +kernel
theorem dX12_minutes_32 : decode cX12_minutes 32 = .ok (.aload_n 0, 1) := by decide +kernel
theorem dX12_minutes_33 : decode cX12_minutes 33 = .ok (.invokevirtual 263, 3) := by decide +kernel
theorem dX12_minutes_36 : decode cX12_minutes 36 = .ok (.aload_n 0, 1) := by decide +kernel
theorem dX12_minutes_37 : decode cX12_minutes 37 = .ok (.iload_n 1, 1) := by decide +kernel
theorem dX12_minutes_38 : decode cX12_minutes 38 = .ok (.invokevirtual 279, 3) := by decide +kernel
theorem dX12_minutes_41 : decode cX12_minutes 41 = .ok (.ireturn, 1) := by decide +kernel
theorem dX12_what_0 : decode cX12_what 0 = .ok (.aload_n 0, 1) := by decide +kernel
theorem dX12_what_1 : decode cX12_what 1 = .ok (.iconst 0, 1) := by decide +kernel
theorem dX12_what_2 : decode cX12_what 2 = .ok (.putfield 73, 3) := by decide +kernel
theorem dX12_what_5 : decode cX12_what 5 = .ok (.aload_n 0, 1) := by decide +kernel
theorem dX12_what_6 : decode cX12_what 6 = .ok (.invokevirtual 153, 3) := by decide +kernel
theorem dX12_what_9 : decode cX12_what 9 = .ok (.istore_n 1, 1) := by decide +kernel
theorem dX12_what_10 : decode cX12_what 10 = .ok (.iload_n 1, 1) := by decide +kernel
theorem dX12_what_11 : decode cX12_what 11 = .ok (.iconst 2, 1) := by decide +kernel
theorem dX12_what_12 : decode cX12_what 12 = .ok (.irem, 1) := by decide +kernel
theorem dX12_what_13 : decode cX12_what 13 = .ok (.ifCond .ne 15, 3) := by decide +kernel
theorem dX12_what_16 : decode cX12_what 16 = .ok (.iload_n 1, 1) := by decide +kernel
theorem dX12_what_17 : decode cX12_what 17 = .ok (.iconst 2, 1) := by decide +kernel
theorem dX12_what_18 : decode cX12_what 18 = .ok (.idiv, 1) := by decide +kernel
theorem dX12_what_19 : decode cX12_what 19 = .ok (.iconst 1, 1) := by decide +kernel
theorem dX12_what_20 : decode cX12_what 20 = .ok (.bipush 6, 2) := by decide +kernel
theorem dX12_what_22 : decode cX12_what 22 = .ok (.invokestatic 140, 3) := by decide +kernel
theorem dX12_what_25 : decode cX12_what 25 = .ok (.ifCond .ne 5, 3) := by decide +kernel
theorem dX12_what_28 : decode cX12_what 28 = .ok (.iconst (-1), 1) := by decide +kernel
theorem dX12_what_29 : decode cX12_what 29 = .ok (.ireturn, 1) := by decide +kernel
theorem dX12_what_30 : decode cX12_what 30 = .ok (.iconst 0, 1) := by decide +kernel
theorem dX12_what_31 : decode cX12_what 31 = .ok (.istore_n 2, 1) := by decide +kernel
theorem dX12_what_32 : decode cX12_what 32 = .ok (.iload_n 2, 1) := by decide +kernel
theorem dX12_what_33 : decode cX12_what 33 = .ok (.iload_n 1, 1) := by decide +kernel
theorem dX12_what_34 : decode cX12_what 34 = .ok (.if_icmp .ge 24, 3) := by decide +kernel
theorem dX12_what_37 : decode cX12_what 37 = .ok (.aload_n 0, 1) := by decide +kernel
theorem dX12_what_38 : decode cX12_what 38 = .ok (.aload_n 0, 1) := by decide +kernel
theorem dX12_what_39 : decode cX12_what 39 = .ok (.getfield 7, 3) := by decide +kernel
theorem dX12_what_42 : decode cX12_what 42 = .ok (.iload_n 2, 1) := by decide +kernel
theorem dX12_what_43 : decode cX12_what 43 = .ok (.iaload, 1) := by decide +kernel
theorem dX12_what_44 : decode cX12_what 44 = .ok (.invokevirtual 221, 3) := by decide +kernel
theorem dX12_what_47 : decode cX12_what 47 = .ok (.ifCond .ne 5, 3) := by decide +kernel
theorem dX12_what_50 : decode cX12_what 50 = .ok (.iconst (-1), 1) := by decide +kernel
theorem dX12_what_51 : decode cX12_what 51 = .ok (.ireturn, 1) := by decide +kernel
theorem dX12_what_52 : decode cX12_what 52 = .ok (.iinc 2 2, 3) := by decide +kernel
theorem dX12_what_55 : decode cX12_what 55 = .ok (.goto (-23), 3) := by decide +kernel
theorem dX12_what_58 : decode cX12_what 58 = .ok (.iconst 0, 1) := by decide +kernel
theorem dX12_what_59 : decode cX12_what 59 = .ok (.istore_n 2, 1) := by decide +kernel
theorem dX12_what_60 : decode cX12_what 60 = .ok (.iconst 0, 1) := by decide +kernel
theorem dX12_what_61 : decode cX12_what 61 = .ok (.istore_n 3, 1) := by decide +kernel
theorem dX12_what_62 : decode cX12_what 62 = .ok (.iload_n 3, 1) := by decide +kernel
theorem dX12_what_63 : decode cX12_what 63 = .ok (.aload_n 0, 1) := by decide +kernel
theorem dX12_what_64 : decode cX12_what 64 = .ok (.getfield 13, 3) := by decide +kernel
theorem dX12_what_67 : decode cX12_what 67 = .ok (.iconst 1, 1) := by decide +kernel
theorem dX12_what_68 : decode cX12_what 68 = .ok (.iaload, 1) := by decide +kernel
theorem dX12_what_69 : decode cX12_what 69 = .ok (.if_icmp .ge 24, 3) := by decide +kernel
theorem dX12_what_72 : decode cX12_what 72 = .ok (.aload_n 0, 1) := by decide +kernel
theorem dX12_what_73 : decode cX12_what 73 = .ok (.iload_n 1, 1) := by decide +kernel
theorem dX12_what_74 : decode cX12_what 74 = .ok (.iload_n 3, 1) := by decide +kernel
theorem dX12_what_75 : decode cX12_what 75 = .ok (.invokevirtual 282, 3) := by decide +kernel
theorem dX12_what_78 : decode cX12_what 78 = .ok (.ifCond .eq 9, 3) := by decide +kernel
theorem dX12_what_81 : decode cX12_what 81 = .ok (.iload_n 2, 1) := by decide +kernel
theorem dX12_what_82 : decode cX12_what 82 = .ok (.iconst 1, 1) := by decide +kernel
theorem dX12_what_83 : decode cX12_what 83 = .ok (.iload_n 3, 1) := by decide +kernel
theorem dX12_what_84 : decode cX12_what 84 = .ok (.ishl, 1) := by decide +kernel
theorem dX12_what_85 : decode cX12_what 85 = .ok (.ior, 1) := by decide +kernel
theorem dX12_what_86 : decode cX12_what 86 = .ok (.istore_n 2, 1) := by decide +kernel
theorem dX12_what_87 : decode cX12_what 87 = .ok (.iinc 3 1, 3) := by decide +kernel
theorem dX12_what_90 : decode cX12_what 90 = .ok (.goto (-28), 3) := by decide +kernel
theorem dX12_what_93 : decode cX12_what 93 = .ok (.iload_n 2, 1) := by decide +kernel
theorem dX12_what_94 : decode cX12_what 94 = .ok (.ifCond .ne 5, 3) := by decide +kernel
theorem dX12_what_97 : decode cX12_what 97 = .ok (.iconst 0, 1) := by decide +kernel
theorem dX12_what_98 : decode cX12_what 98 = .ok (.ireturn, 1) := by decide +kernel
theorem dX12_what_99 : decode cX12_what 99 = .ok (.aload_n 0, 1) := by decide +kernel
theorem dX12_what_100 : decode cX12_what 100 = .ok (.iload_n 2, 1) := by decide +kernel
theorem dX12_what_101 : decode cX12_what 101 = .ok (.putfield 285, 3) := by decide +kernel
theorem dX12_what_104 : decode cX12_what 104 = .ok (.iconst 0, 1) := by decide +kernel
theorem dX12_what_105 : decode cX12_what 105 = .ok (.istore_n 3, 1) := by decide +kernel
theorem dX12_what_106 : decode cX12_what 106 = .ok (.iload_n 3, 1) := by decide +kernel
theorem dX12_what_107 : decode cX12_what 107 = .ok (.bipush 8, 2) := by decide +kernel
theorem dX12_what_109 : decode cX12_what 109 = .ok (.if_icmp .ge 24, 3) := by decide +kernel
theorem dX12_what_112 : decode cX12_what 112 = .ok (.aload_n 0, 1) := by decide +kernel
theorem dX12_what_113 : decode cX12_what 113 = .ok (.getfield 42, 3) := by decide +kernel
theorem dX12_what_116 : decode cX12_what 116 = .ok (.iload_n 3, 1) := by decide +kernel
theorem dX12_what_117 : decode cX12_what 117 = .ok (.aload_n 0, 1) := by decide +kernel
theorem dX12_what_118 : decode cX12_what 118 = .ok (.getfield 13, 3) := by decide +kernel
theorem dX12_what_121 : decode cX12_what 121 = .ok (.bipush 37, 2) := by decide +kernel
theorem dX12_what_123 : decode cX12_what 123 = .ok (.iload_n 3, 1) := by decide +kernel
theorem dX12_what_124 : decode cX12_what 124 = .ok (.iadd, 1) := by decide +kernel
theorem dX12_what_125 : decode cX12_what 125 = .ok (.iaload, 1) := by decide +kernel
theorem dX12_what_126 : decode cX12_what 126 = .ok (.iastore, 1) := by decide +kernel
theorem dX12_what_127 : decode cX12_what 127 = .ok (.iinc 3 1, 3) := by decide +kernel
theorem dX12_what_130 : decode cX12_what 130 = .ok (.goto (-24), 3) := by decide +kernel
theorem dX12_what_133 : decode cX12_what 133 = .ok (.iload_n 2, 1) := by decide +kernel
theorem dX12_what_134 : decode cX12_what 134 = .ok (.ireturn, 1) := by decide +kernel
theorem dX12_likely_0 : decode cX12_likely 0 = .ok (.aload_n 0, 1) := by decide +kernel
theorem dX12_likely_1 : decode cX12_likely 1 = .ok (.iconst 0, 1) := by decide +kernel
theorem dX12_likely_2 : decode cX12_likely 2 = .ok (.putfield 73, 3) := by decide +kernel
theorem dX12_likely_5 : decode cX12_likely 5 = .ok (.iload_n 1, 1) := by decide +kernel
theorem dX12_likely_6 : decode cX12_likely 6 = .ok (.iconst 0, 1) := by decide +kernel
theorem dX12_likely_7 : decode cX12_likely 7 = .ok (.bipush 7, 2) := by decide +kernel
theorem dX12_likely_9 : decode cX12_likely 9 = .ok (.invokestatic 140, 3) := by decide +kernel
theorem dX12_likely_12 : decode cX12_likely 12 = .ok (.ifCond .eq 23, 3) := by decide +kernel
theorem dX12_likely_15 : decode cX12_likely 15 = .ok (.aload_n 0, 1) := by decide +kernel
theorem dX12_likely_16 : decode cX12_likely 16 = .ok (.getfield 285, 3) := by decide +kernel
theorem dX12_likely_19 : decode cX12_likely 19 = .ok (.iload_n 1, 1) := by decide +kernel
theorem dX12_likely_20 : decode cX12_likely 20 = .ok (.invokestatic 288, 3) := by decide +kernel
theorem dX12_likely_23 : decode cX12_likely 23 = .ok (.ifCond .eq 12, 3) := by decide +kernel
theorem dX12_likely_26 : decode cX12_likely 26 = .ok (.iload_n 2, 1) := by decide +kernel
theorem dX12_likely_27 : decode cX12_likely 27 = .ok (.iconst 0, 1) := by decide +kernel
theorem dX12_likely_28 : decode cX12_likely 28 = .ok (.iconst 1, 1) := by decide +kernel
theorem dX12_likely_29 : decode cX12_likely 29 = .ok (.invokestatic 140, 3) := by decide +kernel
theorem dX12_likely_32 : decode cX12_likely 32 = .ok (.ifCond .ne 8, 3) := by decide +kernel
theorem dX12_likely_35 : decode cX12_likely 35 = .ok (.aload_n 0, 1) := by decide +kernel
theorem dX12_likely_36 : decode cX12_likely 36 = .ok (.invokevirtual 224, 3) := by decide +kernel
theorem dX12_likely_39 : decode cX12_likely 39 = .ok (.ireturn, 1) := by decide +kernel
theorem dX12_likely_40 : decode cX12_likely 40 = .ok (.iconst 0, 1) := by decide +kernel
theorem dX12_likely_41 : decode cX12_likely 41 = .ok (.istore_n 3, 1) := by decide +kernel
theorem dX12_likely_42 : decode cX12_likely 42 = .ok (.iconst 0, 1) := by decide +kernel
theorem dX12_likely_43 : decode cX12_likely 43 = .ok (.istore 4, 2) := by decide +kernel
theorem dX12_likely_45 : decode cX12_likely 45 = .ok (.iload 4, 2) := by decide +kernel
theorem dX12_likely_47 : decode cX12_likely 47 = .ok (.bipush 8, 2) := by decide +kernel
theorem dX12_likely_49 : decode cX12_likely 49 = .ok (.if_icmp .ge 31, 3) := by decide +kernel
theorem dX12_likely_52 : decode cX12_likely 52 = .ok (.aload_n 0, 1) := by decide +kernel
theorem dX12_likely_53 : decode cX12_likely 53 = .ok (.getfield 285, 3) := by decide +kernel
theorem dX12_likely_56 : decode cX12_likely 56 = .ok (.iload 4, 2) := by decide +kernel
theorem dX12_likely_58 : decode cX12_likely 58 = .ok (.invokestatic 288, 3) := by decide +kernel
theorem dX12_likely_61 : decode cX12_likely 61 = .ok (.ifCond .eq 13, 3) := by decide +kernel
theorem dX12_likely_64 : decode cX12_likely 64 = .ok (.iload_n 3, 1) := by decide +kernel
theorem dX12_likely_65 : decode cX12_likely 65 = .ok (.aload_n 0, 1) := by decide +kernel
theorem dX12_likely_66 : decode cX12_likely 66 = .ok (.getfield 42, 3) := by decide +kernel
theorem dX12_likely_69 : decode cX12_likely 69 = .ok (.iload 4, 2) := by decide +kernel
theorem dX12_likely_71 : decode cX12_likely 71 = .ok (.iaload, 1) := by decide +kernel
theorem dX12_likely_72 : decode cX12_likely 72 = .ok (.iadd, 1) := by decide +kernel
theorem dX12_likely_73 : decode cX12_likely 73 = .ok (.istore_n 3, 1) := by decide +kernel
theorem dX12_likely_74 : decode cX12_likely 74 = .ok (.iinc 4 1, 3) := by decide +kernel
theorem dX12_likely_77 : decode cX12_likely 77 = .ok (.goto (-32), 3) := by decide +kernel
theorem dX12_likely_80 : decode cX12_likely 80 = .ok (.iload_n 2, 1) := by decide +kernel
theorem dX12_likely_81 : decode cX12_likely 81 = .ok (.ifCond .ne 12, 3) := by decide +kernel
theorem dX12_likely_84 : decode cX12_likely 84 = .ok (.aload_n 0, 1) := by decide +kernel
theorem dX12_likely_85 : decode cX12_likely 85 = .ok (.getfield 42, 3) := by decide +kernel
theorem dX12_likely_88 : decode cX12_likely 88 = .ok (.iload_n 1, 1) := by decide +kernel
theorem dX12_likely_89 : decode cX12_likely 89 = .ok (.iaload, 1) := by decide +kernel
theorem dX12_likely_90 : decode cX12_likely 90 = .ok (.goto 4, 3) := by decide +kernel
theorem dX12_likely_93 : decode cX12_likely 93 = .ok (.iload_n 3, 1) := by decide +kernel
theorem dX12_likely_94 : decode cX12_likely 94 = .ok (.iload_n 3, 1) := by decide +kernel
theorem dX12_likely_95 : decode cX12_likely 95 = .ok (.aload_n 0, 1) := by decide +kernel
theorem dX12_likely_96 : decode cX12_likely 96 = .ok (.getfield 42, 3) := by decide +kernel
theorem dX12_likely_99 : decode cX12_likely 99 = .ok (.iload_n 1, 1) := by decide +kernel
theorem dX12_likely_100 : decode cX12_likely 100 = .ok (.iaload, 1) := by decide +kernel
theorem dX12_likely_101 : decode cX12_likely 101 = .ok (.invokestatic 291, 3) := by decide +kernel
theorem dX12_likely_104 : decode cX12_likely 104 = .ok (.idiv, 1) := by decide +kernel
theorem dX12_likely_105 : decode cX12_likely 105 = .ok (.ireturn, 1) := by decide +kernel
theorem dX12_plan_0 : decode cX12_plan 0 = .ok (.aload_n 0, 1) := by decide +kernel
theorem dX12_plan_1 : decode cX12_plan 1 = .ok (.iconst 0, 1) := by decide +kernel
theorem dX12_plan_2 : decode cX12_plan 2 = .ok (.putfield 73, 3) := by decide +kernel
theorem dX12_plan_5 : decode cX12_plan 5 = .ok (.aload_n 0, 1) := by decide +kernel
theorem dX12_plan_6 : decode cX12_plan 6 = .ok (.iload_n 1, 1) := by decide +kernel
theorem dX12_plan_7 : decode cX12_plan 7 = .ok (.invokevirtual 221, 3) := by decide +kernel
theorem dX12_plan_10 : decode cX12_plan 10 = .ok (.ifCond .eq 29, 3) := by decide +kernel
theorem dX12_plan_13 : decode cX12_plan 13 = .ok (.iload_n 2, 1) := by decide +kernel
theorem dX12_plan_14 : decode cX12_plan 14 = .ok (.iconst 1, 1) := by decide +kernel
theorem dX12_plan_15 : decode cX12_plan 15 = .ok (.if_icmp .lt 24, 3) := by decide +kernel
theorem dX12_plan_18 : decode cX12_plan 18 = .ok (.iload_n 2, 1) := by decide +kernel
theorem dX12_plan_19 : decode cX12_plan 19 = .ok (.iconst 1, 1) := by decide +kernel
theorem dX12_plan_20 : decode cX12_plan 20 = .ok (.aload_n 0, 1) := by decide +kernel
theorem dX12_plan_21 : decode cX12_plan 21 = .ok (.getfield 13, 3) := by decide +kernel
theorem dX12_plan_24 : decode cX12_plan 24 = .ok (.iconst 1, 1) := by decide +kernel
theorem dX12_plan_25 : decode cX12_plan 25 = .ok (.iaload, 1) := by decide +kernel
theorem dX12_plan_26 : decode cX12_plan 26 = .ok (.ishl, 1) := by decide +kernel
theorem dX12_plan_27 : decode cX12_plan 27 = .ok (.if_icmp .ge 12, 3) := by decide +kernel
theorem dX12_plan_30 : decode cX12_plan 30 = .ok (.iload_n 3, 1) := by decide +kernel
theorem dX12_plan_31 : decode cX12_plan 31 = .ok (.iconst 0, 1) := by decide +kernel
theorem dX12_plan_32 : decode cX12_plan 32 = .ok (.iconst 1, 1) := by decide +kernel
theorem dX12_plan_33 : decode cX12_plan 33 = .ok (.invokestatic 140, 3) := by decide +kernel
theorem dX12_plan_36 : decode cX12_plan 36 = .ok (.ifCond .ne 8, 3) := by decide +kernel
theorem dX12_plan_39 : decode cX12_plan 39 = .ok (.aload_n 0, 1) := by decide +kernel
theorem dX12_plan_40 : decode cX12_plan 40 = .ok (.invokevirtual 224, 3) := by decide +kernel
theorem dX12_plan_43 : decode cX12_plan 43 = .ok (.ireturn, 1) := by decide +kernel
theorem dX12_plan_44 : decode cX12_plan 44 = .ok (.iconst 0, 1) := by decide +kernel
theorem dX12_plan_45 : decode cX12_plan 45 = .ok (.istore 4, 2) := by decide +kernel
theorem dX12_plan_47 : decode cX12_plan 47 = .ok (.iload 4, 2) := by decide +kernel
theorem dX12_plan_49 : decode cX12_plan 49 = .ok (.bipush 8, 2) := by decide +kernel
theorem dX12_plan_51 : decode cX12_plan 51 = .ok (.if_icmp .ge 71, 3) := by decide +kernel
theorem dX12_plan_54 : decode cX12_plan 54 = .ok (.iload_n 2, 1) := by decide +kernel
theorem dX12_plan_55 : decode cX12_plan 55 = .ok (.iload 4, 2) := by decide +kernel
theorem dX12_plan_57 : decode cX12_plan 57 = .ok (.invokestatic 288, 3) := by decide +kernel
theorem dX12_plan_60 : decode cX12_plan 60 = .ok (.ifCond .eq 22, 3) := by decide +kernel
theorem dX12_plan_63 : decode cX12_plan 63 = .ok (.aload_n 0, 1) := by decide +kernel
theorem dX12_plan_64 : decode cX12_plan 64 = .ok (.getfield 13, 3) := by decide +kernel
theorem dX12_plan_67 : decode cX12_plan 67 = .ok (.bipush 21, 2) := by decide +kernel
theorem dX12_plan_69 : decode cX12_plan 69 = .ok (.iload 4, 2) := by decide +kernel
theorem dX12_plan_71 : decode cX12_plan 71 = .ok (.iadd, 1) := by decide +kernel
theorem dX12_plan_72 : decode cX12_plan 72 = .ok (.iaload, 1) := by decide +kernel
theorem dX12_plan_73 : decode cX12_plan 73 = .ok (.iload_n 1, 1) := by decide +kernel
theorem dX12_plan_74 : decode cX12_plan 74 = .ok (.if_icmp .eq 8, 3) := by decide +kernel
theorem dX12_plan_77 : decode cX12_plan 77 = .ok (.aload_n 0, 1) := by decide +kernel
theorem dX12_plan_78 : decode cX12_plan 78 = .ok (.invokevirtual 224, 3) := by decide +kernel
theorem dX12_plan_81 : decode cX12_plan 81 = .ok (.ireturn, 1) := by decide +kernel
theorem dX12_plan_82 : decode cX12_plan 82 = .ok (.aload_n 0, 1) := by decide +kernel
theorem dX12_plan_83 : decode cX12_plan 83 = .ok (.getfield 45, 3) := by decide +kernel
theorem dX12_plan_86 : decode cX12_plan 86 = .ok (.iload 4, 2) := by decide +kernel
theorem dX12_plan_88 : decode cX12_plan 88 = .ok (.iload_n 2, 1) := by decide +kernel
theorem dX12_plan_89 : decode cX12_plan 89 = .ok (.iload 4, 2) := by decide +kernel
theorem dX12_plan_91 : decode cX12_plan 91 = .ok (.invokestatic 288, 3) := by decide +kernel
theorem dX12_plan_94 : decode cX12_plan 94 = .ok (.ifCond .eq 20, 3) := by decide +kernel
theorem dX12_plan_97 : decode cX12_plan 97 = .ok (.sipush 1728, 3) := by decide +kernel
theorem dX12_plan_100 : decode cX12_plan 100 = .ok (.aload_n 0, 1) := by decide +kernel
theorem dX12_plan_101 : decode cX12_plan 101 = .ok (.getfield 13, 3) := by decide +kernel
theorem dX12_plan_104 : decode cX12_plan 104 = .ok (.bipush 37, 2) := by decide +kernel
theorem dX12_plan_106 : decode cX12_plan 106 = .ok (.iload 4, 2) := by decide +kernel
theorem dX12_plan_108 : decode cX12_plan 108 = .ok (.iadd, 1) := by decide +kernel
theorem dX12_plan_109 : decode cX12_plan 109 = .ok (.iaload, 1) := by decide +kernel
theorem dX12_plan_110 : decode cX12_plan 110 = .ok (.imul, 1) := by decide +kernel
theorem dX12_plan_111 : decode cX12_plan 111 = .ok (.goto 4, 3) := by decide +kernel
theorem dX12_plan_114 : decode cX12_plan 114 = .ok (.iconst 0, 1) := by decide +kernel
theorem dX12_plan_115 : decode cX12_plan 115 = .ok (.iastore, 1) := by decide +kernel
theorem dX12_plan_116 : decode cX12_plan 116 = .ok (.iinc 4 1, 3) := by decide +kernel
theorem dX12_plan_119 : decode cX12_plan 119 = .ok (.goto (-72), 3) := by decide +kernel
theorem dX12_plan_122 : decode cX12_plan 122 = .ok (.aload_n 0, 1) := by decide +kernel
theorem dX12_plan_123 : decode cX12_plan 123 = .ok (.iconst 0, 1) := by decide +kernel
theorem dX12_plan_124 : decode cX12_plan 124 = .ok (.invokevirtual 300, 3) := by decide +kernel
theorem dX12_plan_127 : decode cX12_plan 127 = .ok (.istore 4, 2) := by decide +kernel
theorem dX12_plan_129 : decode cX12_plan 129 = .ok (.aload_n 0, 1) := by decide +kernel
theorem dX12_plan_130 : decode cX12_plan 130 = .ok (.ldc_w 313, 3) := by decide +kernel
theorem dX12_plan_133 : decode cX12_plan 133 = .ok (.putfield 294, 3) := by decide +kernel
theorem dX12_plan_136 : decode cX12_plan 136 = .ok (.aload_n 0, 1) := by decide +kernel
theorem dX12_plan_137 : decode cX12_plan 137 = .ok (.iload_n 1, 1) := by decide +kernel
theorem dX12_plan_138 : decode cX12_plan 138 = .ok (.iconst 0, 1) := by decide +kernel
theorem dX12_plan_139 : decode cX12_plan 139 = .ok (.iconst 0, 1) := by decide +kernel
theorem dX12_plan_140 : decode cX12_plan 140 = .ok (.iconst 0, 1) := by decide +kernel
theorem dX12_plan_141 : decode cX12_plan 141 = .ok (.invokevirtual 309, 3) := by decide +kernel
theorem dX12_plan_144 : decode cX12_plan 144 = .ok (.iload_n 3, 1) := by decide +kernel
theorem dX12_plan_145 : decode cX12_plan 145 = .ok (.ifCond .ne 10, 3) := by decide +kernel
theorem dX12_plan_148 : decode cX12_plan 148 = .ok (.aload_n 0, 1) := by decide +kernel
theorem dX12_plan_149 : decode cX12_plan 149 = .ok (.getfield 294, 3) := by decide +kernel
theorem dX12_plan_152 : decode cX12_plan 152 = .ok (.goto 5, 3) := by decide +kernel
theorem dX12_plan_155 : decode cX12_plan 155 = .ok (.iload 4, 2) := by decide +kernel
theorem dX12_plan_157 : decode cX12_plan 157 = .ok (.iload 4, 2) := by decide +kernel
theorem dX12_plan_159 : decode cX12_plan 159 = .ok (.aload_n 0, 1) := by decide +kernel
theorem dX12_plan_160 : decode cX12_plan 160 = .ok (.getfield 294, 3) := by decide +kernel
theorem dX12_plan_163 : decode cX12_plan 163 = .ok (.invokestatic 291, 3) := by decide +kernel
theorem dX12_plan_166 : decode cX12_plan 166 = .ok (.idiv, 1) := by decide +kernel
theorem dX12_plan_167 : decode cX12_plan 167 = .ok (.ireturn, 1) := by decide +kernel
theorem dX12_planAt_0 : decode cX12_planAt 0 = .ok (.aload_n 0, 1) := by decide +kernel
theorem dX12_planAt_1 : decode cX12_planAt 1 = .ok (.iconst 0, 1) := by decide +kernel
theorem dX12_planAt_2 : decode cX12_planAt 2 = .ok (.putfield 73, 3) := by decide +kernel
theorem dX12_planAt_5 : decode cX12_planAt 5 = .ok (.iload_n 1, 1) := by decide +kernel
theorem dX12_planAt_6 : decode cX12_planAt 6 = .ok (.iconst 0, 1) := by decide +kernel
theorem dX12_planAt_7 : decode cX12_planAt 7 = .ok (.aload_n 0, 1) := by decide +kernel
theorem dX12_planAt_8 : decode cX12_planAt 8 = .ok (.getfield 297, 3) := by decide +kernel
theorem dX12_planAt_11 : decode cX12_planAt 11 = .ok (.iconst 1, 1) := by decide +kernel
theorem dX12_planAt_12 : decode cX12_planAt 12 = .ok (.isub, 1) := by decide +kernel
theorem dX12_planAt_13 : decode cX12_planAt 13 = .ok (.invokestatic 140, 3) := by decide +kernel
theorem dX12_planAt_16 : decode cX12_planAt 16 = .ok (.ifCond .eq 12, 3) := by decide +kernel
theorem dX12_planAt_19 : decode cX12_planAt 19 = .ok (.aload_n 0, 1) := by decide +kernel
theorem dX12_planAt_20 : decode cX12_planAt 20 = .ok (.getfield 51, 3) := by decide +kernel
theorem dX12_planAt_23 : decode cX12_planAt 23 = .ok (.iload_n 1, 1) := by decide +kernel
theorem dX12_planAt_24 : decode cX12_planAt 24 = .ok (.iaload, 1) := by decide +kernel
theorem dX12_planAt_25 : decode cX12_planAt 25 = .ok (.goto 4, 3) := by decide +kernel
theorem dX12_planAt_28 : decode cX12_planAt 28 = .ok (.iconst (-1), 1) := by decide +kernel
theorem dX12_planAt_29 : decode cX12_planAt 29 = .ok (.ireturn, 1) := by decide +kernel
theorem dX12_ready_0 : decode cX12_ready 0 = .ok (.aload_n 0, 1) := by decide +kernel
theorem dX12_ready_1 : decode cX12_ready 1 = .ok (.iconst 0, 1) := by decide +kernel
theorem dX12_ready_2 : decode cX12_ready 2 = .ok (.putfield 73, 3) := by decide +kernel
theorem dX12_ready_5 : decode cX12_ready 5 = .ok (.aload_n 0, 1) := by decide +kernel
theorem dX12_ready_6 : decode cX12_ready 6 = .ok (.iload_n 1, 1) := by decide +kernel
theorem dX12_ready_7 : decode cX12_ready 7 = .ok (.invokevirtual 221, 3) := by decide +kernel
theorem dX12_ready_10 : decode cX12_ready 10 = .ok (.ifCond .eq 20, 3) := by decide +kernel
theorem dX12_ready_13 : decode cX12_ready 13 = .ok (.aload_n 0, 1) := by decide +kernel
theorem dX12_ready_14 : decode cX12_ready 14 = .ok (.iload_n 1, 1) := by decide +kernel
theorem dX12_ready_15 : decode cX12_ready 15 = .ok (.invokevirtual 314, 3) := by decide +kernel
theorem dX12_ready_18 : decode cX12_ready 18 = .ok (.aload_n 0, 1) := by decide +kernel
theorem dX12_ready_19 : decode cX12_ready 19 = .ok (.getfield 13, 3) := by decide +kernel
theorem dX12_ready_22 : decode cX12_ready 22 = .ok (.iconst 3, 1) := by decide +kernel
theorem dX12_ready_23 : decode cX12_ready 23 = .ok (.iload_n 1, 1) := by decide +kernel
theorem dX12_ready_24 : decode cX12_ready 24 = .ok (.iadd, 1) := by decide +kernel
theorem dX12_ready_25 : decode cX12_ready 25 = .ok (.iaload, 1) := by decide +kernel
theorem dX12_ready_26 : decode cX12_ready 26 = .ok (.iadd, 1) := by decide +kernel
theorem dX12_ready_27 : decode cX12_ready 27 = .ok (.goto 4, 3) := by decide +kernel
theorem dX12_ready_30 : decode cX12_ready 30 = .ok (.iconst (-1), 1) := by decide +kernel
theorem dX12_ready_31 : decode cX12_ready 31 = .ok (.ireturn, 1) := by decide +kernel
theorem dX12_starts_0 : decode cX12_starts 0 = .ok (.aload_n 0, 1) := by decide +kernel
theorem dX12_starts_1 : decode cX12_starts 1 = .ok (.iconst 0, 1) := by decide +kernel
theorem dX12_starts_2 : decode cX12_starts 2 = .ok (.putfield 73, 3) := by decide +kernel
theorem dX12_starts_5 : decode cX12_starts 5 = .ok (.aload_n 0, 1) := by decide +kernel
theorem dX12_starts_6 : decode cX12_starts 6 = .ok (.iload_n 1, 1) := by decide +kernel
theorem dX12_starts_7 : decode cX12_starts 7 = .ok (.invokevirtual 221, 3) := by decide +kernel
theorem dX12_starts_10 : decode cX12_starts 10 = .ok (.ifCond .eq 11, 3) := by decide +kernel
theorem dX12_starts_13 : decode cX12_starts 13 = .ok (.aload_n 0, 1) := by decide +kernel
theorem dX12_starts_14 : decode cX12_starts 14 = .ok (.iload_n 1, 1) := by decide +kernel
theorem dX12_starts_15 : decode cX12_starts 15 = .ok (.invokevirtual 314, 3) := by decide +kernel
theorem dX12_starts_18 : decode cX12_starts 18 = .ok (.goto 4, 3) := by decide +kernel
theorem dX12_starts_21 : decode cX12_starts 21 = .ok (.iconst (-1), 1) := by decide +kernel
theorem dX12_starts_22 : decode cX12_starts 22 = .ok (.ireturn, 1) := by decide +kernel
theorem dX12_helped_0 : decode cX12_helped 0 = .ok (.aload_n 0, 1) := by decide +kernel
theorem dX12_helped_1 : decode cX12_helped 1 = .ok (.iconst 0, 1) := by decide +kernel
theorem dX12_helped_2 : decode cX12_helped 2 = .ok (.putfield 73, 3) := by decide +kernel
theorem dX12_helped_5 : decode cX12_helped 5 = .ok (.aload_n 0, 1) := by decide +kernel
theorem dX12_helped_6 : decode cX12_helped 6 = .ok (.invokevirtual 153, 3) := by decide +kernel
theorem dX12_helped_9 : decode cX12_helped 9 = .ok (.istore_n 1, 1) := by decide +kernel
theorem dX12_helped_10 : decode cX12_helped 10 = .ok (.iload_n 1, 1) := by decide +kernel
theorem dX12_helped_11 : decode cX12_helped 11 = .ok (.iconst 2, 1) := by decide +kernel
theorem dX12_helped_12 : decode cX12_helped 12 = .ok (.irem, 1) := by decide +kernel
theorem dX12_helped_13 : decode cX12_helped 13 = .ok (.ifCond .ne 15, 3) := by decide +kernel
theorem dX12_helped_16 : decode cX12_helped 16 = .ok (.iload_n 1, 1) := by decide +kernel
theorem dX12_helped_17 : decode cX12_helped 17 = .ok (.iconst 2, 1) := by decide +kernel
theorem dX12_helped_18 : decode cX12_helped 18 = .ok (.idiv, 1) := by decide +kernel
theorem dX12_helped_19 : decode cX12_helped 19 = .ok (.iconst 2, 1) := by decide +kernel
theorem dX12_helped_20 : decode cX12_helped 20 = .ok (.bipush 10, 2) := by decide +kernel
theorem dX12_helped_22 : decode cX12_helped 22 = .ok (.invokestatic 140, 3) := by decide +kernel
theorem dX12_helped_25 : decode cX12_helped 25 = .ok (.ifCond .ne 8, 3) := by decide +kernel
theorem dX12_helped_28 : decode cX12_helped 28 = .ok (.aload_n 0, 1) := by decide +kernel
theorem dX12_helped_29 : decode cX12_helped 29 = .ok (.invokevirtual 224, 3) := by decide +kernel
theorem dX12_helped_32 : decode cX12_helped 32 = .ok (.ireturn, 1) := by decide +kernel
theorem dX12_helped_33 : decode cX12_helped 33 = .ok (.iconst 0, 1) := by decide +kernel
theorem dX12_helped_34 : decode cX12_helped 34 = .ok (.istore_n 2, 1) := by decide +kernel
theorem dX12_helped_35 : decode cX12_helped 35 = .ok (.iconst 0, 1) := by decide +kernel
theorem dX12_helped_36 : decode cX12_helped 36 = .ok (.istore_n 3, 1) := by decide +kernel
theorem dX12_helped_37 : decode cX12_helped 37 = .ok (.iconst 0, 1) := by decide +kernel
theorem dX12_helped_38 : decode cX12_helped 38 = .ok (.istore 4, 2) := by decide +kernel
theorem dX12_helped_40 : decode cX12_helped 40 = .ok (.iload 4, 2) := by decide +kernel
theorem dX12_helped_42 : decode cX12_helped 42 = .ok (.iload_n 1, 1) := by decide +kernel
theorem dX12_helped_43 : decode cX12_helped 43 = .ok (.if_icmp .ge 55, 3) := by decide +kernel
theorem dX12_helped_46 : decode cX12_helped 46 = .ok (.aload_n 0, 1) := by decide +kernel
theorem dX12_helped_47 : decode cX12_helped 47 = .ok (.getfield 7, 3) := by decide +kernel
theorem dX12_helped_50 : decode cX12_helped 50 = .ok (.iload 4, 2) := by decide +kernel
theorem dX12_helped_52 : decode cX12_helped 52 = .ok (.iaload, 1) := by decide +kernel
theorem dX12_helped_53 : decode cX12_helped 53 = .ok (.iconst 1, 1) := by decide +kernel
theorem dX12_helped_54 : decode cX12_helped 54 = .ok (.if_icmp .le 8, 3) := by decide +kernel
theorem dX12_helped_57 : decode cX12_helped 57 = .ok (.aload_n 0, 1) := by decide +kernel
theorem dX12_helped_58 : decode cX12_helped 58 = .ok (.invokevirtual 224, 3) := by decide +kernel
end
section
theorem dX12_helped_61 : decode cX12_helped 61 = .ok (.ireturn, 1) := by decide +kernel
theorem dX12_helped_62 : decode cX12_helped 62 = .ok (.iload_n 2, 1) := by decide +kernel
theorem dX12_helped_63 : decode cX12_helped 63 = .ok (.aload_n 0, 1) := by decide +kernel
theorem dX12_helped_64 : decode cX12_helped 64 = .ok (.getfield 7, 3) := by decide +kernel
theorem dX12_helped_67 : decode cX12_helped 67 = .ok (.iload 4, 2) := by decide +kernel
theorem dX12_helped_69 : decode cX12_helped 69 = .ok (.iaload, 1) := by decide +kernel
theorem dX12_helped_70 : decode cX12_helped 70 = .ok (.iadd, 1) := by decide +kernel
theorem dX12_helped_71 : decode cX12_helped 71 = .ok (.istore_n 2, 1) := by decide +kernel
theorem dX12_helped_72 : decode cX12_helped 72 = .ok (.iload_n 3, 1) := by decide +kernel
theorem dX12_helped_73 : decode cX12_helped 73 = .ok (.aload_n 0, 1) := by decide +kernel
theorem dX12_helped_74 : decode cX12_helped 74 = .ok (.getfield 7, 3) := by decide +kernel
theorem dX12_helped_77 : decode cX12_helped 77 = .ok (.iload 4, 2) := by decide +kernel
theorem dX12_helped_79 : decode cX12_helped 79 = .ok (.iaload, 1) := by decide +kernel
theorem dX12_helped_80 : decode cX12_helped 80 = .ok (.aload_n 0, 1) := by decide +kernel
theorem dX12_helped_81 : decode cX12_helped 81 = .ok (.getfield 7, 3) := by decide +kernel
theorem dX12_helped_84 : decode cX12_helped 84 = .ok (.iload 4, 2) := by decide +kernel
theorem dX12_helped_86 : decode cX12_helped 86 = .ok (.iconst 1, 1) := by decide +kernel
theorem dX12_helped_87 : decode cX12_helped 87 = .ok (.iadd, 1) := by decide +kernel
theorem dX12_helped_88 : decode cX12_helped 88 = .ok (.iaload, 1) := by decide +kernel
theorem dX12_helped_89 : decode cX12_helped 89 = .ok (.imul, 1) := by decide +kernel
theorem dX12_helped_90 : decode cX12_helped 90 = .ok (.iadd, 1) := by decide +kernel
theorem dX12_helped_91 : decode cX12_helped 91 = .ok (.istore_n 3, 1) := by decide +kernel
theorem dX12_helped_92 : decode cX12_helped 92 = .ok (.iinc 4 2, 3) := by decide +kernel
theorem dX12_helped_95 : decode cX12_helped 95 = .ok (.goto (-55), 3) := by decide +kernel
theorem dX12_helped_98 : decode cX12_helped 98 = .ok (.iload_n 1, 1) := by decide +kernel
theorem dX12_helped_99 : decode cX12_helped 99 = .ok (.iconst 2, 1) := by decide +kernel
theorem dX12_helped_100 : decode cX12_helped 100 = .ok (.idiv, 1) := by decide +kernel
theorem dX12_helped_101 : decode cX12_helped 101 = .ok (.istore_n 1, 1) := by decide +kernel
theorem dX12_helped_102 : decode cX12_helped 102 = .ok (.iload_n 2, 1) := by decide +kernel
theorem dX12_helped_103 : decode cX12_helped 103 = .ok (.ifCond .eq 8, 3) := by decide +kernel
theorem dX12_helped_106 : decode cX12_helped 106 = .ok (.iload_n 2, 1) := by decide +kernel
theorem dX12_helped_107 : decode cX12_helped 107 = .ok (.iload_n 1, 1) := by decide +kernel
theorem dX12_helped_108 : decode cX12_helped 108 = .ok (.if_icmp .ne 8, 3) := by decide +kernel
theorem dX12_helped_111 : decode cX12_helped 111 = .ok (.aload_n 0, 1) := by decide +kernel
theorem dX12_helped_112 : decode cX12_helped 112 = .ok (.invokevirtual 224, 3) := by decide +kernel
theorem dX12_helped_115 : decode cX12_helped 115 = .ok (.ireturn, 1) := by decide +kernel
theorem dX12_helped_116 : decode cX12_helped 116 = .ok (.iconst 0, 1) := by decide +kernel
theorem dX12_helped_117 : decode cX12_helped 117 = .ok (.istore 4, 2) := by decide +kernel
theorem dX12_helped_119 : decode cX12_helped 119 = .ok (.aload_n 0, 1) := by decide +kernel
theorem dX12_helped_120 : decode cX12_helped 120 = .ok (.iconst 0, 1) := by decide +kernel
theorem dX12_helped_121 : decode cX12_helped 121 = .ok (.putfield 54, 3) := by decide +kernel
theorem dX12_helped_124 : decode cX12_helped 124 = .ok (.iconst 0, 1) := by decide +kernel
theorem dX12_helped_125 : decode cX12_helped 125 = .ok (.istore 5, 2) := by decide +kernel
theorem dX12_helped_127 : decode cX12_helped 127 = .ok (.iload 5, 2) := by decide +kernel
theorem dX12_helped_129 : decode cX12_helped 129 = .ok (.iconst 1, 1) := by decide +kernel
theorem dX12_helped_130 : decode cX12_helped 130 = .ok (.iload_n 1, 1) := by decide +kernel
theorem dX12_helped_131 : decode cX12_helped 131 = .ok (.ishl, 1) := by decide +kernel
theorem dX12_helped_132 : decode cX12_helped 132 = .ok (.if_icmp .ge 84, 3) := by decide +kernel
theorem dX12_helped_135 : decode cX12_helped 135 = .ok (.iload 5, 2) := by decide +kernel
theorem dX12_helped_137 : decode cX12_helped 137 = .ok (.invokestatic 317, 3) := by decide +kernel
theorem dX12_helped_140 : decode cX12_helped 140 = .ok (.iload_n 2, 1) := by decide +kernel
theorem dX12_helped_141 : decode cX12_helped 141 = .ok (.if_icmp .eq 6, 3) := by decide +kernel
theorem dX12_helped_144 : decode cX12_helped 144 = .ok (.goto 66, 3) := by decide +kernel
theorem dX12_helped_147 : decode cX12_helped 147 = .ok (.aload_n 0, 1) := by decide +kernel
theorem dX12_helped_148 : decode cX12_helped 148 = .ok (.dup, 1) := by decide +kernel
theorem dX12_helped_149 : decode cX12_helped 149 = .ok (.getfield 54, 3) := by decide +kernel
theorem dX12_helped_152 : decode cX12_helped 152 = .ok (.iconst 1, 1) := by decide +kernel
theorem dX12_helped_153 : decode cX12_helped 153 = .ok (.iadd, 1) := by decide +kernel
theorem dX12_helped_154 : decode cX12_helped 154 = .ok (.putfield 54, 3) := by decide +kernel
theorem dX12_helped_157 : decode cX12_helped 157 = .ok (.iconst 0, 1) := by decide +kernel
theorem dX12_helped_158 : decode cX12_helped 158 = .ok (.istore 6, 2) := by decide +kernel
theorem dX12_helped_160 : decode cX12_helped 160 = .ok (.iconst 0, 1) := by decide +kernel
theorem dX12_helped_161 : decode cX12_helped 161 = .ok (.istore 7, 2) := by decide +kernel
theorem dX12_helped_163 : decode cX12_helped 163 = .ok (.iload 7, 2) := by decide +kernel
theorem dX12_helped_165 : decode cX12_helped 165 = .ok (.iload_n 1, 1) := by decide +kernel
theorem dX12_helped_166 : decode cX12_helped 166 = .ok (.if_icmp .ge 35, 3) := by decide +kernel
theorem dX12_helped_169 : decode cX12_helped 169 = .ok (.iload 5, 2) := by decide +kernel
theorem dX12_helped_171 : decode cX12_helped 171 = .ok (.iload 7, 2) := by decide +kernel
theorem dX12_helped_173 : decode cX12_helped 173 = .ok (.invokestatic 288, 3) := by decide +kernel
theorem dX12_helped_176 : decode cX12_helped 176 = .ok (.ifCond .eq 19, 3) := by decide +kernel
theorem dX12_helped_179 : decode cX12_helped 179 = .ok (.iload 6, 2) := by decide +kernel
theorem dX12_helped_181 : decode cX12_helped 181 = .ok (.aload_n 0, 1) := by decide +kernel
theorem dX12_helped_182 : decode cX12_helped 182 = .ok (.getfield 7, 3) := by decide +kernel
theorem dX12_helped_185 : decode cX12_helped 185 = .ok (.iconst 2, 1) := by decide +kernel
theorem dX12_helped_186 : decode cX12_helped 186 = .ok (.iload 7, 2) := by decide +kernel
theorem dX12_helped_188 : decode cX12_helped 188 = .ok (.imul, 1) := by decide +kernel
theorem dX12_helped_189 : decode cX12_helped 189 = .ok (.iconst 1, 1) := by decide +kernel
theorem dX12_helped_190 : decode cX12_helped 190 = .ok (.iadd, 1) := by decide +kernel
theorem dX12_helped_191 : decode cX12_helped 191 = .ok (.iaload, 1) := by decide +kernel
theorem dX12_helped_192 : decode cX12_helped 192 = .ok (.iadd, 1) := by decide +kernel
theorem dX12_helped_193 : decode cX12_helped 193 = .ok (.istore 6, 2) := by decide +kernel
theorem dX12_helped_195 : decode cX12_helped 195 = .ok (.iinc 7 1, 3) := by decide +kernel
theorem dX12_helped_198 : decode cX12_helped 198 = .ok (.goto (-35), 3) := by decide +kernel
theorem dX12_helped_201 : decode cX12_helped 201 = .ok (.iload 6, 2) := by decide +kernel
theorem dX12_helped_203 : decode cX12_helped 203 = .ok (.iload_n 3, 1) := by decide +kernel
theorem dX12_helped_204 : decode cX12_helped 204 = .ok (.if_icmp .gt 6, 3) := by decide +kernel
theorem dX12_helped_207 : decode cX12_helped 207 = .ok (.iinc 4 1, 3) := by decide +kernel
theorem dX12_helped_210 : decode cX12_helped 210 = .ok (.iinc 5 1, 3) := by decide +kernel
theorem dX12_helped_213 : decode cX12_helped 213 = .ok (.goto (-86), 3) := by decide +kernel
theorem dX12_helped_216 : decode cX12_helped 216 = .ok (.iload 4, 2) := by decide +kernel
theorem dX12_helped_218 : decode cX12_helped 218 = .ok (.ireturn, 1) := by decide +kernel
theorem dX12_lots_0 : decode cX12_lots 0 = .ok (.aload_n 0, 1) := by decide +kernel
theorem dX12_lots_1 : decode cX12_lots 1 = .ok (.iconst 0, 1) := by decide +kernel
theorem dX12_lots_2 : decode cX12_lots 2 = .ok (.putfield 73, 3) := by decide +kernel
theorem dX12_lots_5 : decode cX12_lots 5 = .ok (.aload_n 0, 1) := by decide +kernel
theorem dX12_lots_6 : decode cX12_lots 6 = .ok (.getfield 54, 3) := by decide +kernel
theorem dX12_lots_9 : decode cX12_lots 9 = .ok (.ireturn, 1) := by decide +kernel
theorem dX12_alike_0 : decode cX12_alike 0 = .ok (.aload_n 0, 1) := by decide +kernel
theorem dX12_alike_1 : decode cX12_alike 1 = .ok (.iconst 0, 1) := by decide +kernel
theorem dX12_alike_2 : decode cX12_alike 2 = .ok (.putfield 73, 3) := by decide +kernel
theorem dX12_alike_5 : decode cX12_alike 5 = .ok (.aload_n 0, 1) := by decide +kernel
theorem dX12_alike_6 : decode cX12_alike 6 = .ok (.iload_n 1, 1) := by decide +kernel
theorem dX12_alike_7 : decode cX12_alike 7 = .ok (.invokevirtual 230, 3) := by decide +kernel
theorem dX12_alike_10 : decode cX12_alike 10 = .ok (.ifCond .ne 5, 3) := by decide +kernel
theorem dX12_alike_13 : decode cX12_alike 13 = .ok (.iconst (-1), 1) := by decide +kernel
theorem dX12_alike_14 : decode cX12_alike 14 = .ok (.ireturn, 1) := by decide +kernel
theorem dX12_alike_15 : decode cX12_alike 15 = .ok (.iconst 0, 1) := by decide +kernel
theorem dX12_alike_16 : decode cX12_alike 16 = .ok (.istore_n 2, 1) := by decide +kernel
theorem dX12_alike_17 : decode cX12_alike 17 = .ok (.iconst 0, 1) := by decide +kernel
theorem dX12_alike_18 : decode cX12_alike 18 = .ok (.istore_n 3, 1) := by decide +kernel
theorem dX12_alike_19 : decode cX12_alike 19 = .ok (.iload_n 3, 1) := by decide +kernel
theorem dX12_alike_20 : decode cX12_alike 20 = .ok (.aload_n 0, 1) := by decide +kernel
theorem dX12_alike_21 : decode cX12_alike 21 = .ok (.getfield 13, 3) := by decide +kernel
theorem dX12_alike_24 : decode cX12_alike 24 = .ok (.iconst 1, 1) := by decide +kernel
theorem dX12_alike_25 : decode cX12_alike 25 = .ok (.iaload, 1) := by decide +kernel
theorem dX12_alike_26 : decode cX12_alike 26 = .ok (.if_icmp .ge 29, 3) := by decide +kernel
theorem dX12_alike_29 : decode cX12_alike 29 = .ok (.iload_n 3, 1) := by decide +kernel
theorem dX12_alike_30 : decode cX12_alike 30 = .ok (.iload_n 1, 1) := by decide +kernel
theorem dX12_alike_31 : decode cX12_alike 31 = .ok (.if_icmp .eq 18, 3) := by decide +kernel
theorem dX12_alike_34 : decode cX12_alike 34 = .ok (.aload_n 0, 1) := by decide +kernel
theorem dX12_alike_35 : decode cX12_alike 35 = .ok (.iload_n 1, 1) := by decide +kernel
theorem dX12_alike_36 : decode cX12_alike 36 = .ok (.iload_n 3, 1) := by decide +kernel
theorem dX12_alike_37 : decode cX12_alike 37 = .ok (.invokevirtual 320, 3) := by decide +kernel
theorem dX12_alike_40 : decode cX12_alike 40 = .ok (.ifCond .eq 9, 3) := by decide +kernel
theorem dX12_alike_43 : decode cX12_alike 43 = .ok (.iload_n 2, 1) := by decide +kernel
theorem dX12_alike_44 : decode cX12_alike 44 = .ok (.iconst 1, 1) := by decide +kernel
theorem dX12_alike_45 : decode cX12_alike 45 = .ok (.iload_n 3, 1) := by decide +kernel
theorem dX12_alike_46 : decode cX12_alike 46 = .ok (.ishl, 1) := by decide +kernel
theorem dX12_alike_47 : decode cX12_alike 47 = .ok (.ior, 1) := by decide +kernel
theorem dX12_alike_48 : decode cX12_alike 48 = .ok (.istore_n 2, 1) := by decide +kernel
theorem dX12_alike_49 : decode cX12_alike 49 = .ok (.iinc 3 1, 3) := by decide +kernel
theorem dX12_alike_52 : decode cX12_alike 52 = .ok (.goto (-33), 3) := by decide +kernel
theorem dX12_alike_55 : decode cX12_alike 55 = .ok (.iload_n 2, 1) := by decide +kernel
theorem dX12_alike_56 : decode cX12_alike 56 = .ok (.ireturn, 1) := by decide +kernel
theorem dX12_kinds_0 : decode cX12_kinds 0 = .ok (.aload_n 0, 1) := by decide +kernel
theorem dX12_kinds_1 : decode cX12_kinds 1 = .ok (.iconst 0, 1) := by decide +kernel
theorem dX12_kinds_2 : decode cX12_kinds 2 = .ok (.putfield 73, 3) := by decide +kernel
theorem dX12_kinds_5 : decode cX12_kinds 5 = .ok (.iconst 0, 1) := by decide +kernel
theorem dX12_kinds_6 : decode cX12_kinds 6 = .ok (.istore_n 1, 1) := by decide +kernel
theorem dX12_kinds_7 : decode cX12_kinds 7 = .ok (.iconst 0, 1) := by decide +kernel
theorem dX12_kinds_8 : decode cX12_kinds 8 = .ok (.istore_n 2, 1) := by decide +kernel
theorem dX12_kinds_9 : decode cX12_kinds 9 = .ok (.iload_n 2, 1) := by decide +kernel
theorem dX12_kinds_10 : decode cX12_kinds 10 = .ok (.aload_n 0, 1) := by decide +kernel
theorem dX12_kinds_11 : decode cX12_kinds 11 = .ok (.getfield 13, 3) := by decide +kernel
theorem dX12_kinds_14 : decode cX12_kinds 14 = .ok (.iconst 1, 1) := by decide +kernel
theorem dX12_kinds_15 : decode cX12_kinds 15 = .ok (.iaload, 1) := by decide +kernel
theorem dX12_kinds_16 : decode cX12_kinds 16 = .ok (.if_icmp .ge 34, 3) := by decide +kernel
theorem dX12_kinds_19 : decode cX12_kinds 19 = .ok (.iconst 0, 1) := by decide +kernel
theorem dX12_kinds_20 : decode cX12_kinds 20 = .ok (.istore_n 3, 1) := by decide +kernel
theorem dX12_kinds_21 : decode cX12_kinds 21 = .ok (.aload_n 0, 1) := by decide +kernel
theorem dX12_kinds_22 : decode cX12_kinds 22 = .ok (.iload_n 2, 1) := by decide +kernel
theorem dX12_kinds_23 : decode cX12_kinds 23 = .ok (.iload_n 3, 1) := by decide +kernel
theorem dX12_kinds_24 : decode cX12_kinds 24 = .ok (.invokevirtual 320, 3) := by decide +kernel
theorem dX12_kinds_27 : decode cX12_kinds 27 = .ok (.ifCond .ne 9, 3) := by decide +kernel
theorem dX12_kinds_30 : decode cX12_kinds 30 = .ok (.iinc 3 1, 3) := by decide +kernel
theorem dX12_kinds_33 : decode cX12_kinds 33 = .ok (.goto (-12), 3) := by decide +kernel
theorem dX12_kinds_36 : decode cX12_kinds 36 = .ok (.iload_n 3, 1) := by decide +kernel
theorem dX12_kinds_37 : decode cX12_kinds 37 = .ok (.iload_n 2, 1) := by decide +kernel
theorem dX12_kinds_38 : decode cX12_kinds 38 = .ok (.if_icmp .ne 6, 3) := by decide +kernel
theorem dX12_kinds_41 : decode cX12_kinds 41 = .ok (.iinc 1 1, 3) := by decide +kernel
theorem dX12_kinds_44 : decode cX12_kinds 44 = .ok (.iinc 2 1, 3) := by decide +kernel
theorem dX12_kinds_47 : decode cX12_kinds 47 = .ok (.goto (-38), 3) := by decide +kernel
theorem dX12_kinds_50 : decode cX12_kinds 50 = .ok (.iload_n 1, 1) := by decide +kernel
theorem dX12_kinds_51 : decode cX12_kinds 51 = .ok (.ireturn, 1) := by decide +kernel
theorem dX12_look_0 : decode cX12_look 0 = .ok (.aload_n 0, 1) := by decide +kernel
theorem dX12_look_1 : decode cX12_look 1 = .ok (.iconst 0, 1) := by decide +kernel
theorem dX12_look_2 : decode cX12_look 2 = .ok (.putfield 73, 3) := by decide +kernel
theorem dX12_look_5 : decode cX12_look 5 = .ok (.iload_n 1, 1) := by decide +kernel
theorem dX12_look_6 : decode cX12_look 6 = .ok (.iconst 1, 1) := by decide +kernel
theorem dX12_look_7 : decode cX12_look 7 = .ok (.if_icmp .lt 15, 3) := by decide +kernel
theorem dX12_look_10 : decode cX12_look 10 = .ok (.iload_n 1, 1) := by decide +kernel
theorem dX12_look_11 : decode cX12_look 11 = .ok (.iconst 1, 1) := by decide +kernel
theorem dX12_look_12 : decode cX12_look 12 = .ok (.aload_n 0, 1) := by decide +kernel
theorem dX12_look_13 : decode cX12_look 13 = .ok (.getfield 13, 3) := by decide +kernel
theorem dX12_look_16 : decode cX12_look 16 = .ok (.iconst 1, 1) := by decide +kernel
theorem dX12_look_17 : decode cX12_look 17 = .ok (.iaload, 1) := by decide +kernel
theorem dX12_look_18 : decode cX12_look 18 = .ok (.ishl, 1) := by decide +kernel
theorem dX12_look_19 : decode cX12_look 19 = .ok (.if_icmp .lt 5, 3) := by decide +kernel
theorem dX12_look_22 : decode cX12_look 22 = .ok (.iconst (-1), 1) := by decide +kernel
theorem dX12_look_23 : decode cX12_look 23 = .ok (.ireturn, 1) := by decide +kernel
theorem dX12_look_24 : decode cX12_look 24 = .ok (.iconst (-1), 1) := by decide +kernel
theorem dX12_look_25 : decode cX12_look 25 = .ok (.istore_n 2, 1) := by decide +kernel
theorem dX12_look_26 : decode cX12_look 26 = .ok (.iconst 0, 1) := by decide +kernel
theorem dX12_look_27 : decode cX12_look 27 = .ok (.istore_n 3, 1) := by decide +kernel
theorem dX12_look_28 : decode cX12_look 28 = .ok (.iload_n 3, 1) := by decide +kernel
theorem dX12_look_29 : decode cX12_look 29 = .ok (.aload_n 0, 1) := by decide +kernel
theorem dX12_look_30 : decode cX12_look 30 = .ok (.getfield 13, 3) := by decide +kernel
theorem dX12_look_33 : decode cX12_look 33 = .ok (.iconst 0, 1) := by decide +kernel
theorem dX12_look_34 : decode cX12_look 34 = .ok (.iaload, 1) := by decide +kernel
theorem dX12_look_35 : decode cX12_look 35 = .ok (.if_icmp .ge 31, 3) := by decide +kernel
theorem dX12_look_38 : decode cX12_look 38 = .ok (.iload_n 2, 1) := by decide +kernel
theorem dX12_look_39 : decode cX12_look 39 = .ok (.iconst (-1), 1) := by decide +kernel
theorem dX12_look_40 : decode cX12_look 40 = .ok (.if_icmp .eq 18, 3) := by decide +kernel
theorem dX12_look_43 : decode cX12_look 43 = .ok (.aload_n 0, 1) := by decide +kernel
theorem dX12_look_44 : decode cX12_look 44 = .ok (.iload_n 3, 1) := by decide +kernel
theorem dX12_look_45 : decode cX12_look 45 = .ok (.iload_n 1, 1) := by decide +kernel
theorem dX12_look_46 : decode cX12_look 46 = .ok (.invokevirtual 323, 3) := by decide +kernel
theorem dX12_look_49 : decode cX12_look 49 = .ok (.aload_n 0, 1) := by decide +kernel
theorem dX12_look_50 : decode cX12_look 50 = .ok (.iload_n 2, 1) := by decide +kernel
theorem dX12_look_51 : decode cX12_look 51 = .ok (.iload_n 1, 1) := by decide +kernel
theorem dX12_look_52 : decode cX12_look 52 = .ok (.invokevirtual 323, 3) := by decide +kernel
theorem dX12_look_55 : decode cX12_look 55 = .ok (.if_icmp .ge 5, 3) := by decide +kernel
theorem dX12_look_58 : decode cX12_look 58 = .ok (.iload_n 3, 1) := by decide +kernel
theorem dX12_look_59 : decode cX12_look 59 = .ok (.istore_n 2, 1) := by decide +kernel
theorem dX12_look_60 : decode cX12_look 60 = .ok (.iinc 3 1, 3) := by decide +kernel
theorem dX12_look_63 : decode cX12_look 63 = .ok (.goto (-35), 3) := by decide +kernel
theorem dX12_look_66 : decode cX12_look 66 = .ok (.aload_n 0, 1) := by decide +kernel
theorem dX12_look_67 : decode cX12_look 67 = .ok (.aload_n 0, 1) := by decide +kernel
theorem dX12_look_68 : decode cX12_look 68 = .ok (.iload_n 2, 1) := by decide +kernel
theorem dX12_look_69 : decode cX12_look 69 = .ok (.iload_n 1, 1) := by decide +kernel
theorem dX12_look_70 : decode cX12_look 70 = .ok (.invokevirtual 323, 3) := by decide +kernel
theorem dX12_look_73 : decode cX12_look 73 = .ok (.putfield 58, 3) := by decide +kernel
theorem dX12_look_76 : decode cX12_look 76 = .ok (.iload_n 2, 1) := by decide +kernel
theorem dX12_look_77 : decode cX12_look 77 = .ok (.ireturn, 1) := by decide +kernel
theorem dX12_left_0 : decode cX12_left 0 = .ok (.aload_n 0, 1) := by decide +kernel
theorem dX12_left_1 : decode cX12_left 1 = .ok (.iconst 0, 1) := by decide +kernel
theorem dX12_left_2 : decode cX12_left 2 = .ok (.putfield 73, 3) := by decide +kernel
theorem dX12_left_5 : decode cX12_left 5 = .ok (.aload_n 0, 1) := by decide +kernel
theorem dX12_left_6 : decode cX12_left 6 = .ok (.getfield 58, 3) := by decide +kernel
theorem dX12_left_9 : decode cX12_left 9 = .ok (.ireturn, 1) := by decide +kernel
theorem dX12_layAside_0 : decode cX12_layAside 0 = .ok (.iconst 0, 1) := by decide +kernel
theorem dX12_layAside_1 : decode cX12_layAside 1 = .ok (.istore_n 1, 1) := by decide +kernel
theorem dX12_layAside_2 : decode cX12_layAside 2 = .ok (.iload_n 1, 1) := by decide +kernel
theorem dX12_layAside_3 : decode cX12_layAside 3 = .ok (.bipush 60, 2) := by decide +kernel
theorem dX12_layAside_5 : decode cX12_layAside 5 = .ok (.if_icmp .ge 24, 3) := by decide +kernel
theorem dX12_layAside_8 : decode cX12_layAside 8 = .ok (.aload_n 0, 1) := by decide +kernel
theorem dX12_layAside_9 : decode cX12_layAside 9 = .ok (.getfield 25, 3) := by decide +kernel
theorem dX12_layAside_12 : decode cX12_layAside 12 = .ok (.iload_n 1, 1) := by decide +kernel
theorem dX12_layAside_13 : decode cX12_layAside 13 = .ok (.aload_n 0, 1) := by decide +kernel
theorem dX12_layAside_14 : decode cX12_layAside 14 = .ok (.getfield 13, 3) := by decide +kernel
theorem dX12_layAside_17 : decode cX12_layAside 17 = .ok (.bipush 77, 2) := by decide +kernel
theorem dX12_layAside_19 : decode cX12_layAside 19 = .ok (.iload_n 1, 1) := by decide +kernel
theorem dX12_layAside_20 : decode cX12_layAside 20 = .ok (.iadd, 1) := by decide +kernel
theorem dX12_layAside_21 : decode cX12_layAside 21 = .ok (.iaload, 1) := by decide +kernel
theorem dX12_layAside_22 : decode cX12_layAside 22 = .ok (.iastore, 1) := by decide +kernel
theorem dX12_layAside_23 : decode cX12_layAside 23 = .ok (.iinc 1 1, 3) := by decide +kernel
theorem dX12_layAside_26 : decode cX12_layAside 26 = .ok (.goto (-24), 3) := by decide +kernel
theorem dX12_layAside_29 : decode cX12_layAside 29 = .ok (.return_, 1) := by decide +kernel
theorem dX12_fits_0 : decode cX12_fits 0 = .ok (.aload_n 0, 1) := by decide +kernel
theorem dX12_fits_1 : decode cX12_fits 1 = .ok (.iconst 0, 1) := by decide +kernel
theorem dX12_fits_2 : decode cX12_fits 2 = .ok (.putfield 73, 3) := by decide +kernel
theorem dX12_fits_5 : decode cX12_fits 5 = .ok (.aload_n 0, 1) := by decide +kernel
theorem dX12_fits_6 : decode cX12_fits 6 = .ok (.invokevirtual 153, 3) := by decide +kernel
theorem dX12_fits_9 : decode cX12_fits 9 = .ok (.istore_n 2, 1) := by decide +kernel
theorem dX12_fits_10 : decode cX12_fits 10 = .ok (.aload_n 0, 1) := by decide +kernel
theorem dX12_fits_11 : decode cX12_fits 11 = .ok (.iload_n 1, 1) := by decide +kernel
theorem dX12_fits_12 : decode cX12_fits 12 = .ok (.invokevirtual 221, 3) := by decide +kernel
theorem dX12_fits_15 : decode cX12_fits 15 = .ok (.ifCond .eq 13, 3) := by decide +kernel
theorem dX12_fits_18 : decode cX12_fits 18 = .ok (.iload_n 2, 1) := by decide +kernel
theorem dX12_fits_19 : decode cX12_fits 19 = .ok (.iconst 1, 1) := by decide +kernel
theorem dX12_fits_20 : decode cX12_fits 20 = .ok (.bipush 60, 2) := by decide +kernel
theorem dX12_fits_22 : decode cX12_fits 22 = .ok (.invokestatic 140, 3) := by decide +kernel
theorem dX12_fits_25 : decode cX12_fits 25 = .ok (.ifCond .ne 5, 3) := by decide +kernel
theorem dX12_fits_28 : decode cX12_fits 28 = .ok (.iconst (-1), 1) := by decide +kernel
theorem dX12_fits_29 : decode cX12_fits 29 = .ok (.ireturn, 1) := by decide +kernel
theorem dX12_fits_30 : decode cX12_fits 30 = .ok (.aload_n 0, 1) := by decide +kernel
theorem dX12_fits_31 : decode cX12_fits 31 = .ok (.invokevirtual 329, 3) := by decide +kernel
theorem dX12_fits_34 : decode cX12_fits 34 = .ok (.aload_n 0, 1) := by decide +kernel
theorem dX12_fits_35 : decode cX12_fits 35 = .ok (.iload_n 1, 1) := by decide +kernel
theorem dX12_fits_36 : decode cX12_fits 36 = .ok (.iload_n 2, 1) := by decide +kernel
theorem dX12_fits_37 : decode cX12_fits 37 = .ok (.iconst (-1), 1) := by decide +kernel
theorem dX12_fits_38 : decode cX12_fits 38 = .ok (.invokevirtual 332, 3) := by decide +kernel
theorem dX12_fits_41 : decode cX12_fits 41 = .ok (.ifCond .eq 9, 3) := by decide +kernel
theorem dX12_fits_44 : decode cX12_fits 44 = .ok (.sipush 256, 3) := by decide +kernel
theorem dX12_fits_47 : decode cX12_fits 47 = .ok (.goto 4, 3) := by decide +kernel
theorem dX12_fits_50 : decode cX12_fits 50 = .ok (.iconst 0, 1) := by decide +kernel
theorem dX12_fits_51 : decode cX12_fits 51 = .ok (.istore_n 3, 1) := by decide +kernel
theorem dX12_fits_52 : decode cX12_fits 52 = .ok (.iconst 0, 1) := by decide +kernel
theorem dX12_fits_53 : decode cX12_fits 53 = .ok (.istore 4, 2) := by decide +kernel
theorem dX12_fits_55 : decode cX12_fits 55 = .ok (.iload 4, 2) := by decide +kernel
theorem dX12_fits_57 : decode cX12_fits 57 = .ok (.aload_n 0, 1) := by decide +kernel
theorem dX12_fits_58 : decode cX12_fits 58 = .ok (.getfield 13, 3) := by decide +kernel
theorem dX12_fits_61 : decode cX12_fits 61 = .ok (.iconst 1, 1) := by decide +kernel
theorem dX12_fits_62 : decode cX12_fits 62 = .ok (.iaload, 1) := by decide +kernel
theorem dX12_fits_63 : decode cX12_fits 63 = .ok (.if_icmp .ge 41, 3) := by decide +kernel
theorem dX12_fits_66 : decode cX12_fits 66 = .ok (.aload_n 0, 1) := by decide +kernel
theorem dX12_fits_67 : decode cX12_fits 67 = .ok (.getfield 13, 3) := by decide +kernel
theorem dX12_fits_70 : decode cX12_fits 70 = .ok (.bipush 21, 2) := by decide +kernel
theorem dX12_fits_72 : decode cX12_fits 72 = .ok (.iload 4, 2) := by decide +kernel
theorem dX12_fits_74 : decode cX12_fits 74 = .ok (.iadd, 1) := by decide +kernel
theorem dX12_fits_75 : decode cX12_fits 75 = .ok (.iaload, 1) := by decide +kernel
theorem dX12_fits_76 : decode cX12_fits 76 = .ok (.iload_n 1, 1) := by decide +kernel
theorem dX12_fits_77 : decode cX12_fits 77 = .ok (.if_icmp .ne 21, 3) := by decide +kernel
theorem dX12_fits_80 : decode cX12_fits 80 = .ok (.aload_n 0, 1) := by decide +kernel
theorem dX12_fits_81 : decode cX12_fits 81 = .ok (.iload_n 1, 1) := by decide +kernel
theorem dX12_fits_82 : decode cX12_fits 82 = .ok (.iload_n 2, 1) := by decide +kernel
theorem dX12_fits_83 : decode cX12_fits 83 = .ok (.iload 4, 2) := by decide +kernel
theorem dX12_fits_85 : decode cX12_fits 85 = .ok (.invokevirtual 332, 3) := by decide +kernel
theorem dX12_fits_88 : decode cX12_fits 88 = .ok (.ifCond .eq 10, 3) := by decide +kernel
theorem dX12_fits_91 : decode cX12_fits 91 = .ok (.iload_n 3, 1) := by decide +kernel
theorem dX12_fits_92 : decode cX12_fits 92 = .ok (.iconst 1, 1) := by decide +kernel
theorem dX12_fits_93 : decode cX12_fits 93 = .ok (.iload 4, 2) := by decide +kernel
theorem dX12_fits_95 : decode cX12_fits 95 = .ok (.ishl, 1) := by decide +kernel
theorem dX12_fits_96 : decode cX12_fits 96 = .ok (.ior, 1) := by decide +kernel
theorem dX12_fits_97 : decode cX12_fits 97 = .ok (.istore_n 3, 1) := by decide +kernel
theorem dX12_fits_98 : decode cX12_fits 98 = .ok (.iinc 4 1, 3) := by decide +kernel
theorem dX12_fits_101 : decode cX12_fits 101 = .ok (.goto (-46), 3) := by decide +kernel
theorem dX12_fits_104 : decode cX12_fits 104 = .ok (.iload_n 3, 1) := by decide +kernel
theorem dX12_fits_105 : decode cX12_fits 105 = .ok (.ireturn, 1) := by decide +kernel
theorem dX12_heals_0 : decode cX12_heals 0 = .ok (.aload_n 0, 1) := by decide +kernel
theorem dX12_heals_1 : decode cX12_heals 1 = .ok (.iconst 0, 1) := by decide +kernel
theorem dX12_heals_2 : decode cX12_heals 2 = .ok (.putfield 73, 3) := by decide +kernel
theorem dX12_heals_5 : decode cX12_heals 5 = .ok (.aload_n 0, 1) := by decide +kernel
theorem dX12_heals_6 : decode cX12_heals 6 = .ok (.iload_n 1, 1) := by decide +kernel
theorem dX12_heals_7 : decode cX12_heals 7 = .ok (.invokevirtual 230, 3) := by decide +kernel
theorem dX12_heals_10 : decode cX12_heals 10 = .ok (.ifCond .eq 45, 3) := by decide +kernel
theorem dX12_heals_13 : decode cX12_heals 13 = .ok (.aload_n 0, 1) := by decide +kernel
theorem dX12_heals_14 : decode cX12_heals 14 = .ok (.iload_n 1, 1) := by decide +kernel
theorem dX12_heals_15 : decode cX12_heals 15 = .ok (.invokevirtual 209, 3) := by decide +kernel
theorem dX12_heals_18 : decode cX12_heals 18 = .ok (.ifCond .eq 37, 3) := by decide +kernel
theorem dX12_heals_21 : decode cX12_heals 21 = .ok (.aload_n 0, 1) := by decide +kernel
theorem dX12_heals_22 : decode cX12_heals 22 = .ok (.getfield 13, 3) := by decide +kernel
theorem dX12_heals_25 : decode cX12_heals 25 = .ok (.bipush 29, 2) := by decide +kernel
theorem dX12_heals_27 : decode cX12_heals 27 = .ok (.iload_n 1, 1) := by decide +kernel
theorem dX12_heals_28 : decode cX12_heals 28 = .ok (.iadd, 1) := by decide +kernel
theorem dX12_heals_29 : decode cX12_heals 29 = .ok (.iaload, 1) := by decide +kernel
theorem dX12_heals_30 : decode cX12_heals 30 = .ok (.ifCond .le 25, 3) := by decide +kernel
theorem dX12_heals_33 : decode cX12_heals 33 = .ok (.aload_n 0, 1) := by decide +kernel
theorem dX12_heals_34 : decode cX12_heals 34 = .ok (.getfield 13, 3) := by decide +kernel
theorem dX12_heals_37 : decode cX12_heals 37 = .ok (.bipush 29, 2) := by decide +kernel
theorem dX12_heals_39 : decode cX12_heals 39 = .ok (.iload_n 1, 1) := by decide +kernel
theorem dX12_heals_40 : decode cX12_heals 40 = .ok (.iadd, 1) := by decide +kernel
theorem dX12_heals_41 : decode cX12_heals 41 = .ok (.iaload, 1) := by decide +kernel
theorem dX12_heals_42 : decode cX12_heals 42 = .ok (.aload_n 0, 1) := by decide +kernel
theorem dX12_heals_43 : decode cX12_heals 43 = .ok (.getfield 13, 3) := by decide +kernel
theorem dX12_heals_46 : decode cX12_heals 46 = .ok (.bipush 113, 2) := by decide +kernel
theorem dX12_heals_48 : decode cX12_heals 48 = .ok (.iload_n 1, 1) := by decide +kernel
theorem dX12_heals_49 : decode cX12_heals 49 = .ok (.iadd, 1) := by decide +kernel
theorem dX12_heals_50 : decode cX12_heals 50 = .ok (.iaload, 1) := by decide +kernel
theorem dX12_heals_51 : decode cX12_heals 51 = .ok (.isub, 1) := by decide +kernel
theorem dX12_heals_52 : decode cX12_heals 52 = .ok (.goto 4, 3) := by decide +kernel
theorem dX12_heals_55 : decode cX12_heals 55 = .ok (.iconst (-1), 1) := by decide +kernel
theorem dX12_heals_56 : decode cX12_heals 56 = .ok (.ireturn, 1) := by decide +kernel
theorem dX12_worksIn_0 : decode cX12_worksIn 0 = .ok (.aload_n 0, 1) := by decide +kernel
theorem dX12_worksIn_1 : decode cX12_worksIn 1 = .ok (.iconst 0, 1) := by decide +kernel
theorem dX12_worksIn_2 : decode cX12_worksIn 2 = .ok (.putfield 73, 3) := by decide +kernel
theorem dX12_worksIn_5 : decode cX12_worksIn 5 = .ok (.aload_n 0, 1) := by decide +kernel
theorem dX12_worksIn_6 : decode cX12_worksIn 6 = .ok (.iload_n 1, 1) := by decide +kernel
theorem dX12_worksIn_7 : decode cX12_worksIn 7 = .ok (.invokevirtual 221, 3) := by decide +kernel
theorem dX12_worksIn_10 : decode cX12_worksIn 10 = .ok (.ifCond .ne 5, 3) := by decide +kernel
theorem dX12_worksIn_13 : decode cX12_worksIn 13 = .ok (.iconst (-1), 1) := by decide +kernel
theorem dX12_worksIn_14 : decode cX12_worksIn 14 = .ok (.ireturn, 1) := by decide +kernel
theorem dX12_worksIn_15 : decode cX12_worksIn 15 = .ok (.aload_n 0, 1) := by decide +kernel
theorem dX12_worksIn_16 : decode cX12_worksIn 16 = .ok (.invokevirtual 329, 3) := by decide +kernel
theorem dX12_worksIn_19 : decode cX12_worksIn 19 = .ok (.iconst (-1), 1) := by decide +kernel
theorem dX12_worksIn_20 : decode cX12_worksIn 20 = .ok (.istore_n 2, 1) := by decide +kernel
theorem dX12_worksIn_21 : decode cX12_worksIn 21 = .ok (.iconst 0, 1) := by decide +kernel
theorem dX12_worksIn_22 : decode cX12_worksIn 22 = .ok (.istore_n 3, 1) := by decide +kernel
theorem dX12_worksIn_23 : decode cX12_worksIn 23 = .ok (.iload_n 3, 1) := by decide +kernel
theorem dX12_worksIn_24 : decode cX12_worksIn 24 = .ok (.sipush 240, 3) := by decide +kernel
theorem dX12_worksIn_27 : decode cX12_worksIn 27 = .ok (.sipush 1000, 3) := by decide +kernel
theorem dX12_worksIn_30 : decode cX12_worksIn 30 = .ok (.aload_n 0, 1) := by decide +kernel
theorem dX12_worksIn_31 : decode cX12_worksIn 31 = .ok (.getfield 25, 3) := by decide +kernel
theorem dX12_worksIn_34 : decode cX12_worksIn 34 = .ok (.iconst 0, 1) := by decide +kernel
theorem dX12_worksIn_35 : decode cX12_worksIn 35 = .ok (.iaload, 1) := by decide +kernel
theorem dX12_worksIn_36 : decode cX12_worksIn 36 = .ok (.isub, 1) := by decide +kernel
theorem dX12_worksIn_37 : decode cX12_worksIn 37 = .ok (.invokestatic 273, 3) := by decide +kernel
theorem dX12_worksIn_40 : decode cX12_worksIn 40 = .ok (.if_icmp .gt 44, 3) := by decide +kernel
theorem dX12_worksIn_43 : decode cX12_worksIn 43 = .ok (.iload_n 2, 1) := by decide +kernel
theorem dX12_worksIn_44 : decode cX12_worksIn 44 = .ok (.iconst (-1), 1) := by decide +kernel
theorem dX12_worksIn_45 : decode cX12_worksIn 45 = .ok (.if_icmp .ne 39, 3) := by decide +kernel
theorem dX12_worksIn_48 : decode cX12_worksIn 48 = .ok (.aload_n 0, 1) := by decide +kernel
theorem dX12_worksIn_49 : decode cX12_worksIn 49 = .ok (.iload_n 1, 1) := by decide +kernel
theorem dX12_worksIn_50 : decode cX12_worksIn 50 = .ok (.invokevirtual 218, 3) := by decide +kernel
theorem dX12_worksIn_53 : decode cX12_worksIn 53 = .ok (.ifCond .eq 8, 3) := by decide +kernel
theorem dX12_worksIn_56 : decode cX12_worksIn 56 = .ok (.iload_n 3, 1) := by decide +kernel
theorem dX12_worksIn_57 : decode cX12_worksIn 57 = .ok (.istore_n 2, 1) := by decide +kernel
theorem dX12_worksIn_58 : decode cX12_worksIn 58 = .ok (.goto 20, 3) := by decide +kernel
theorem dX12_worksIn_61 : decode cX12_worksIn 61 = .ok (.aload_n 0, 1) := by decide +kernel
theorem dX12_worksIn_62 : decode cX12_worksIn 62 = .ok (.getfield 13, 3) := by decide +kernel
theorem dX12_worksIn_65 : decode cX12_worksIn 65 = .ok (.bipush 77, 2) := by decide +kernel
theorem dX12_worksIn_67 : decode cX12_worksIn 67 = .ok (.iaload, 1) := by decide +kernel
theorem dX12_worksIn_68 : decode cX12_worksIn 68 = .ok (.sipush 1000, 3) := by decide +kernel
theorem dX12_worksIn_71 : decode cX12_worksIn 71 = .ok (.if_icmp .ge 7, 3) := by decide +kernel
theorem dX12_worksIn_74 : decode cX12_worksIn 74 = .ok (.aload_n 0, 1) := by decide +kernel
theorem dX12_worksIn_75 : decode cX12_worksIn 75 = .ok (.invokevirtual 276, 3) := by decide +kernel
theorem dX12_worksIn_78 : decode cX12_worksIn 78 = .ok (.iinc 3 1, 3) := by decide +kernel
theorem dX12_worksIn_81 : decode cX12_worksIn 81 = .ok (.goto (-58), 3) := by decide +kernel
theorem dX12_worksIn_84 : decode cX12_worksIn 84 = .ok (.aload_n 0, 1) := by decide +kernel
theorem dX12_worksIn_85 : decode cX12_worksIn 85 = .ok (.invokevirtual 326, 3) := by decide +kernel
theorem dX12_worksIn_88 : decode cX12_worksIn 88 = .ok (.iload_n 2, 1) := by decide +kernel
theorem dX12_worksIn_89 : decode cX12_worksIn 89 = .ok (.ireturn, 1) := by decide +kernel
theorem dX12_tell_0 : decode cX12_tell 0 = .ok (.aload_n 0, 1) := by decide +kernel
theorem dX12_tell_1 : decode cX12_tell 1 = .ok (.iconst 0, 1) := by decide +kernel
theorem dX12_tell_2 : decode cX12_tell 2 = .ok (.putfield 73, 3) := by decide +kernel
theorem dX12_tell_5 : decode cX12_tell 5 = .ok (.aload_n 0, 1) := by decide +kernel
theorem dX12_tell_6 : decode cX12_tell 6 = .ok (.iload_n 1, 1) := by decide +kernel
theorem dX12_tell_7 : decode cX12_tell 7 = .ok (.invokevirtual 221, 3) := by decide +kernel
theorem dX12_tell_10 : decode cX12_tell 10 = .ok (.ifCond .ne 5, 3) := by decide +kernel
theorem dX12_tell_13 : decode cX12_tell 13 = .ok (.iconst (-1), 1) := by decide +kernel
theorem dX12_tell_14 : decode cX12_tell 14 = .ok (.ireturn, 1) := by decide +kernel
theorem dX12_tell_15 : decode cX12_tell 15 = .ok (.aload_n 0, 1) := by decide +kernel
theorem dX12_tell_16 : decode cX12_tell 16 = .ok (.iconst 0, 1) := by decide +kernel
theorem dX12_tell_17 : decode cX12_tell 17 = .ok (.putfield 335, 3) := by decide +kernel
theorem dX12_tell_20 : decode cX12_tell 20 = .ok (.aload_n 0, 1) := by decide +kernel
theorem dX12_tell_21 : decode cX12_tell 21 = .ok (.aload_n 0, 1) := by decide +kernel
theorem dX12_tell_22 : decode cX12_tell 22 = .ok (.getfield 28, 3) := by decide +kernel
theorem dX12_tell_25 : decode cX12_tell 25 = .ok (.iload_n 1, 1) := by decide +kernel
theorem dX12_tell_26 : decode cX12_tell 26 = .ok (.laload, 1) := by decide +kernel
theorem dX12_tell_27 : decode cX12_tell 27 = .ok (.invokevirtual 338, 3) := by decide +kernel
end
section
theorem dX12_tell_30 : decode cX12_tell 30 = .ok (.aload_n 0, 1) := by decide +kernel
theorem dX12_tell_31 : decode cX12_tell 31 = .ok (.iload_n 1, 1) := by decide +kernel
theorem dX12_tell_32 : decode cX12_tell 32 = .ok (.invokevirtual 227, 3) := by decide +kernel
theorem dX12_tell_35 : decode cX12_tell 35 = .ok (.istore_n 2, 1) := by decide +kernel
theorem dX12_tell_36 : decode cX12_tell 36 = .ok (.iload_n 2, 1) := by decide +kernel
theorem dX12_tell_37 : decode cX12_tell 37 = .ok (.ifCond .ne 30, 3) := by decide +kernel
theorem dX12_tell_40 : decode cX12_tell 40 = .ok (.aload_n 0, 1) := by decide +kernel
theorem dX12_tell_41 : decode cX12_tell 41 = .ok (.bipush 105, 2) := by decide +kernel
theorem dX12_tell_43 : decode cX12_tell 43 = .ok (.bipush 115, 2) := by decide +kernel
theorem dX12_tell_45 : decode cX12_tell 45 = .ok (.iconst 0, 1) := by decide +kernel
theorem dX12_tell_46 : decode cX12_tell 46 = .ok (.iconst 0, 1) := by decide +kernel
theorem dX12_tell_47 : decode cX12_tell 47 = .ok (.iconst 0, 1) := by decide +kernel
theorem dX12_tell_48 : decode cX12_tell 48 = .ok (.iconst 0, 1) := by decide +kernel
theorem dX12_tell_49 : decode cX12_tell 49 = .ok (.iconst 0, 1) := by decide +kernel
theorem dX12_tell_50 : decode cX12_tell 50 = .ok (.invokestatic 123, 3) := by decide +kernel
theorem dX12_tell_53 : decode cX12_tell 53 = .ok (.invokevirtual 348, 3) := by decide +kernel
theorem dX12_tell_56 : decode cX12_tell 56 = .ok (.aload_n 0, 1) := by decide +kernel
theorem dX12_tell_57 : decode cX12_tell 57 = .ok (.iconst 3, 1) := by decide +kernel
theorem dX12_tell_58 : decode cX12_tell 58 = .ok (.invokestatic 127, 3) := by decide +kernel
theorem dX12_tell_61 : decode cX12_tell 61 = .ok (.invokevirtual 348, 3) := by decide +kernel
theorem dX12_tell_64 : decode cX12_tell 64 = .ok (.goto 153, 3) := by decide +kernel
theorem dX12_tell_67 : decode cX12_tell 67 = .ok (.iload_n 2, 1) := by decide +kernel
theorem dX12_tell_68 : decode cX12_tell 68 = .ok (.bipush 16, 2) := by decide +kernel
theorem dX12_tell_70 : decode cX12_tell 70 = .ok (.if_icmp .ne 34, 3) := by decide +kernel
theorem dX12_tell_73 : decode cX12_tell 73 = .ok (.aload_n 0, 1) := by decide +kernel
theorem dX12_tell_74 : decode cX12_tell 74 = .ok (.bipush 14, 2) := by decide +kernel
theorem dX12_tell_76 : decode cX12_tell 76 = .ok (.invokestatic 127, 3) := by decide +kernel
theorem dX12_tell_79 : decode cX12_tell 79 = .ok (.invokevirtual 348, 3) := by decide +kernel
theorem dX12_tell_82 : decode cX12_tell 82 = .ok (.aload_n 0, 1) := by decide +kernel
theorem dX12_tell_83 : decode cX12_tell 83 = .ok (.bipush 32, 2) := by decide +kernel
theorem dX12_tell_85 : decode cX12_tell 85 = .ok (.invokevirtual 342, 3) := by decide +kernel
theorem dX12_tell_88 : decode cX12_tell 88 = .ok (.aload_n 0, 1) := by decide +kernel
theorem dX12_tell_89 : decode cX12_tell 89 = .ok (.aload_n 0, 1) := by decide +kernel
theorem dX12_tell_90 : decode cX12_tell 90 = .ok (.getfield 13, 3) := by decide +kernel
theorem dX12_tell_93 : decode cX12_tell 93 = .ok (.bipush 87, 2) := by decide +kernel
theorem dX12_tell_95 : decode cX12_tell 95 = .ok (.iload_n 1, 1) := by decide +kernel
theorem dX12_tell_96 : decode cX12_tell 96 = .ok (.iadd, 1) := by decide +kernel
theorem dX12_tell_97 : decode cX12_tell 97 = .ok (.iaload, 1) := by decide +kernel
theorem dX12_tell_98 : decode cX12_tell 98 = .ok (.invokevirtual 345, 3) := by decide +kernel
theorem dX12_tell_101 : decode cX12_tell 101 = .ok (.goto 116, 3) := by decide +kernel
theorem dX12_tell_104 : decode cX12_tell 104 = .ok (.iload_n 2, 1) := by decide +kernel
theorem dX12_tell_105 : decode cX12_tell 105 = .ok (.bipush 16, 2) := by decide +kernel
theorem dX12_tell_107 : decode cX12_tell 107 = .ok (.if_icmp .ge 32, 3) := by decide +kernel
theorem dX12_tell_110 : decode cX12_tell 110 = .ok (.aload_n 0, 1) := by decide +kernel
theorem dX12_tell_111 : decode cX12_tell 111 = .ok (.bipush 15, 2) := by decide +kernel
theorem dX12_tell_113 : decode cX12_tell 113 = .ok (.invokestatic 127, 3) := by decide +kernel
theorem dX12_tell_116 : decode cX12_tell 116 = .ok (.invokevirtual 348, 3) := by decide +kernel
theorem dX12_tell_119 : decode cX12_tell 119 = .ok (.aload_n 0, 1) := by decide +kernel
theorem dX12_tell_120 : decode cX12_tell 120 = .ok (.aload_n 0, 1) := by decide +kernel
theorem dX12_tell_121 : decode cX12_tell 121 = .ok (.getfield 28, 3) := by decide +kernel
theorem dX12_tell_124 : decode cX12_tell 124 = .ok (.bipush 6, 2) := by decide +kernel
theorem dX12_tell_126 : decode cX12_tell 126 = .ok (.aload_n 0, 1) := by decide +kernel
theorem dX12_tell_127 : decode cX12_tell 127 = .ok (.iload_n 1, 1) := by decide +kernel
theorem dX12_tell_128 : decode cX12_tell 128 = .ok (.invokevirtual 212, 3) := by decide +kernel
theorem dX12_tell_131 : decode cX12_tell 131 = .ok (.iadd, 1) := by decide +kernel
theorem dX12_tell_132 : decode cX12_tell 132 = .ok (.laload, 1) := by decide +kernel
theorem dX12_tell_133 : decode cX12_tell 133 = .ok (.invokevirtual 348, 3) := by decide +kernel
theorem dX12_tell_136 : decode cX12_tell 136 = .ok (.goto 81, 3) := by decide +kernel
theorem dX12_tell_139 : decode cX12_tell 139 = .ok (.iload_n 2, 1) := by decide +kernel
theorem dX12_tell_140 : decode cX12_tell 140 = .ok (.bipush 17, 2) := by decide +kernel
theorem dX12_tell_142 : decode cX12_tell 142 = .ok (.if_icmp .ne 40, 3) := by decide +kernel
theorem dX12_tell_145 : decode cX12_tell 145 = .ok (.aload_n 0, 1) := by decide +kernel
theorem dX12_tell_146 : decode cX12_tell 146 = .ok (.bipush 15, 2) := by decide +kernel
theorem dX12_tell_148 : decode cX12_tell 148 = .ok (.invokestatic 127, 3) := by decide +kernel
theorem dX12_tell_151 : decode cX12_tell 151 = .ok (.invokevirtual 348, 3) := by decide +kernel
theorem dX12_tell_154 : decode cX12_tell 154 = .ok (.aload_n 0, 1) := by decide +kernel
theorem dX12_tell_155 : decode cX12_tell 155 = .ok (.bipush 110, 2) := by decide +kernel
theorem dX12_tell_157 : decode cX12_tell 157 = .ok (.bipush 111, 2) := by decide +kernel
theorem dX12_tell_159 : decode cX12_tell 159 = .ok (.iconst 0, 1) := by decide +kernel
theorem dX12_tell_160 : decode cX12_tell 160 = .ok (.iconst 0, 1) := by decide +kernel
theorem dX12_tell_161 : decode cX12_tell 161 = .ok (.iconst 0, 1) := by decide +kernel
theorem dX12_tell_162 : decode cX12_tell 162 = .ok (.iconst 0, 1) := by decide +kernel
theorem dX12_tell_163 : decode cX12_tell 163 = .ok (.iconst 0, 1) := by decide +kernel
theorem dX12_tell_164 : decode cX12_tell 164 = .ok (.invokestatic 123, 3) := by decide +kernel
theorem dX12_tell_167 : decode cX12_tell 167 = .ok (.invokevirtual 348, 3) := by decide +kernel
theorem dX12_tell_170 : decode cX12_tell 170 = .ok (.aload_n 0, 1) := by decide +kernel
theorem dX12_tell_171 : decode cX12_tell 171 = .ok (.bipush 19, 2) := by decide +kernel
theorem dX12_tell_173 : decode cX12_tell 173 = .ok (.invokestatic 127, 3) := by decide +kernel
theorem dX12_tell_176 : decode cX12_tell 176 = .ok (.invokevirtual 348, 3) := by decide +kernel
theorem dX12_tell_179 : decode cX12_tell 179 = .ok (.goto 38, 3) := by decide +kernel
theorem dX12_tell_182 : decode cX12_tell 182 = .ok (.aload_n 0, 1) := by decide +kernel
theorem dX12_tell_183 : decode cX12_tell 183 = .ok (.aload_n 0, 1) := by decide +kernel
theorem dX12_tell_184 : decode cX12_tell 184 = .ok (.iload_n 1, 1) := by decide +kernel
theorem dX12_tell_185 : decode cX12_tell 185 = .ok (.invokevirtual 218, 3) := by decide +kernel
theorem dX12_tell_188 : decode cX12_tell 188 = .ok (.ifCond .eq 11, 3) := by decide +kernel
theorem dX12_tell_191 : decode cX12_tell 191 = .ok (.bipush 12, 2) := by decide +kernel
theorem dX12_tell_193 : decode cX12_tell 193 = .ok (.invokestatic 127, 3) := by decide +kernel
theorem dX12_tell_196 : decode cX12_tell 196 = .ok (.goto 18, 3) := by decide +kernel
theorem dX12_tell_199 : decode cX12_tell 199 = .ok (.bipush 119, 2) := by decide +kernel
theorem dX12_tell_201 : decode cX12_tell 201 = .ok (.bipush 97, 2) := by decide +kernel
theorem dX12_tell_203 : decode cX12_tell 203 = .ok (.bipush 105, 2) := by decide +kernel
theorem dX12_tell_205 : decode cX12_tell 205 = .ok (.bipush 116, 2) := by decide +kernel
theorem dX12_tell_207 : decode cX12_tell 207 = .ok (.bipush 115, 2) := by decide +kernel
theorem dX12_tell_209 : decode cX12_tell 209 = .ok (.iconst 0, 1) := by decide +kernel
theorem dX12_tell_210 : decode cX12_tell 210 = .ok (.iconst 0, 1) := by decide +kernel
theorem dX12_tell_211 : decode cX12_tell 211 = .ok (.invokestatic 123, 3) := by decide +kernel
theorem dX12_tell_214 : decode cX12_tell 214 = .ok (.invokevirtual 348, 3) := by decide +kernel
theorem dX12_tell_217 : decode cX12_tell 217 = .ok (.aload_n 0, 1) := by decide +kernel
theorem dX12_tell_218 : decode cX12_tell 218 = .ok (.getfield 335, 3) := by decide +kernel
theorem dX12_tell_221 : decode cX12_tell 221 = .ok (.ireturn, 1) := by decide +kernel
theorem dX12_byteAt_0 : decode cX12_byteAt 0 = .ok (.aload_n 0, 1) := by decide +kernel
theorem dX12_byteAt_1 : decode cX12_byteAt 1 = .ok (.iconst 0, 1) := by decide +kernel
theorem dX12_byteAt_2 : decode cX12_byteAt 2 = .ok (.putfield 73, 3) := by decide +kernel
theorem dX12_byteAt_5 : decode cX12_byteAt 5 = .ok (.iload_n 1, 1) := by decide +kernel
theorem dX12_byteAt_6 : decode cX12_byteAt 6 = .ok (.iconst 0, 1) := by decide +kernel
theorem dX12_byteAt_7 : decode cX12_byteAt 7 = .ok (.aload_n 0, 1) := by decide +kernel
theorem dX12_byteAt_8 : decode cX12_byteAt 8 = .ok (.getfield 335, 3) := by decide +kernel
theorem dX12_byteAt_11 : decode cX12_byteAt 11 = .ok (.iconst 1, 1) := by decide +kernel
theorem dX12_byteAt_12 : decode cX12_byteAt 12 = .ok (.isub, 1) := by decide +kernel
theorem dX12_byteAt_13 : decode cX12_byteAt 13 = .ok (.invokestatic 140, 3) := by decide +kernel
theorem dX12_byteAt_16 : decode cX12_byteAt 16 = .ok (.ifCond .eq 12, 3) := by decide +kernel
theorem dX12_byteAt_19 : decode cX12_byteAt 19 = .ok (.aload_n 0, 1) := by decide +kernel
theorem dX12_byteAt_20 : decode cX12_byteAt 20 = .ok (.getfield 61, 3) := by decide +kernel
theorem dX12_byteAt_23 : decode cX12_byteAt 23 = .ok (.iload_n 1, 1) := by decide +kernel
theorem dX12_byteAt_24 : decode cX12_byteAt 24 = .ok (.iaload, 1) := by decide +kernel
theorem dX12_byteAt_25 : decode cX12_byteAt 25 = .ok (.goto 4, 3) := by decide +kernel
theorem dX12_byteAt_28 : decode cX12_byteAt 28 = .ok (.iconst (-1), 1) := by decide +kernel
theorem dX12_byteAt_29 : decode cX12_byteAt 29 = .ok (.ireturn, 1) := by decide +kernel
theorem dX12_drawn_0 : decode cX12_drawn 0 = .ok (.aload_n 0, 1) := by decide +kernel
theorem dX12_drawn_1 : decode cX12_drawn 1 = .ok (.iconst 0, 1) := by decide +kernel
theorem dX12_drawn_2 : decode cX12_drawn 2 = .ok (.putfield 73, 3) := by decide +kernel
theorem dX12_drawn_5 : decode cX12_drawn 5 = .ok (.iload_n 1, 1) := by decide +kernel
theorem dX12_drawn_6 : decode cX12_drawn 6 = .ok (.iconst 1, 1) := by decide +kernel
theorem dX12_drawn_7 : decode cX12_drawn 7 = .ok (.bipush 60, 2) := by decide +kernel
theorem dX12_drawn_9 : decode cX12_drawn 9 = .ok (.invokestatic 140, 3) := by decide +kernel
theorem dX12_drawn_12 : decode cX12_drawn 12 = .ok (.ifCond .eq 12, 3) := by decide +kernel
theorem dX12_drawn_15 : decode cX12_drawn 15 = .ok (.aload_n 0, 1) := by decide +kernel
theorem dX12_drawn_16 : decode cX12_drawn 16 = .ok (.getfield 13, 3) := by decide +kernel
theorem dX12_drawn_19 : decode cX12_drawn 19 = .ok (.iconst 0, 1) := by decide +kernel
theorem dX12_drawn_20 : decode cX12_drawn 20 = .ok (.iaload, 1) := by decide +kernel
theorem dX12_drawn_21 : decode cX12_drawn 21 = .ok (.ifCond .ne 5, 3) := by decide +kernel
theorem dX12_drawn_24 : decode cX12_drawn 24 = .ok (.iconst (-1), 1) := by decide +kernel
theorem dX12_drawn_25 : decode cX12_drawn 25 = .ok (.ireturn, 1) := by decide +kernel
theorem dX12_drawn_26 : decode cX12_drawn 26 = .ok (.aload_n 0, 1) := by decide +kernel
theorem dX12_drawn_27 : decode cX12_drawn 27 = .ok (.getfield 13, 3) := by decide +kernel
theorem dX12_drawn_30 : decode cX12_drawn 30 = .ok (.bipush 77, 2) := by decide +kernel
theorem dX12_drawn_32 : decode cX12_drawn 32 = .ok (.iaload, 1) := by decide +kernel
theorem dX12_drawn_33 : decode cX12_drawn 33 = .ok (.sipush 1000, 3) := by decide +kernel
theorem dX12_drawn_36 : decode cX12_drawn 36 = .ok (.if_icmp .ne 5, 3) := by decide +kernel
theorem dX12_drawn_39 : decode cX12_drawn 39 = .ok (.iconst 0, 1) := by decide +kernel
theorem dX12_drawn_40 : decode cX12_drawn 40 = .ok (.ireturn, 1) := by decide +kernel
theorem dX12_drawn_41 : decode cX12_drawn 41 = .ok (.aload_n 0, 1) := by decide +kernel
theorem dX12_drawn_42 : decode cX12_drawn 42 = .ok (.invokevirtual 263, 3) := by decide +kernel
theorem dX12_drawn_45 : decode cX12_drawn 45 = .ok (.aload_n 0, 1) := by decide +kernel
theorem dX12_drawn_46 : decode cX12_drawn 46 = .ok (.iload_n 1, 1) := by decide +kernel
theorem dX12_drawn_47 : decode cX12_drawn 47 = .ok (.iload_n 2, 1) := by decide +kernel
theorem dX12_drawn_48 : decode cX12_drawn 48 = .ok (.invokevirtual 354, 3) := by decide +kernel
theorem dX12_drawn_51 : decode cX12_drawn 51 = .ok (.ireturn, 1) := by decide +kernel
theorem dX12_odds_0 : decode cX12_odds 0 = .ok (.aload_n 0, 1) := by decide +kernel
theorem dX12_odds_1 : decode cX12_odds 1 = .ok (.iconst 0, 1) := by decide +kernel
theorem dX12_odds_2 : decode cX12_odds 2 = .ok (.putfield 73, 3) := by decide +kernel
theorem dX12_odds_5 : decode cX12_odds 5 = .ok (.aload_n 0, 1) := by decide +kernel
theorem dX12_odds_6 : decode cX12_odds 6 = .ok (.iload_n 1, 1) := by decide +kernel
theorem dX12_odds_7 : decode cX12_odds 7 = .ok (.invokevirtual 221, 3) := by decide +kernel
theorem dX12_odds_10 : decode cX12_odds 10 = .ok (.ifCond .eq 13, 3) := by decide +kernel
theorem dX12_odds_13 : decode cX12_odds 13 = .ok (.iload_n 2, 1) := by decide +kernel
theorem dX12_odds_14 : decode cX12_odds 14 = .ok (.iconst 1, 1) := by decide +kernel
theorem dX12_odds_15 : decode cX12_odds 15 = .ok (.bipush 30, 2) := by decide +kernel
theorem dX12_odds_17 : decode cX12_odds 17 = .ok (.invokestatic 140, 3) := by decide +kernel
theorem dX12_odds_20 : decode cX12_odds 20 = .ok (.ifCond .ne 5, 3) := by decide +kernel
theorem dX12_odds_23 : decode cX12_odds 23 = .ok (.iconst (-1), 1) := by decide +kernel
theorem dX12_odds_24 : decode cX12_odds 24 = .ok (.ireturn, 1) := by decide +kernel
theorem dX12_odds_25 : decode cX12_odds 25 = .ok (.aload_n 0, 1) := by decide +kernel
theorem dX12_odds_26 : decode cX12_odds 26 = .ok (.invokevirtual 329, 3) := by decide +kernel
theorem dX12_odds_29 : decode cX12_odds 29 = .ok (.iconst 0, 1) := by decide +kernel
theorem dX12_odds_30 : decode cX12_odds 30 = .ok (.istore 4, 2) := by decide +kernel
theorem dX12_odds_32 : decode cX12_odds 32 = .ok (.iconst 0, 1) := by decide +kernel
theorem dX12_odds_33 : decode cX12_odds 33 = .ok (.istore 5, 2) := by decide +kernel
theorem dX12_odds_35 : decode cX12_odds 35 = .ok (.iload 5, 2) := by decide +kernel
theorem dX12_odds_37 : decode cX12_odds 37 = .ok (.iload_n 2, 1) := by decide +kernel
theorem dX12_odds_38 : decode cX12_odds 38 = .ok (.if_icmp .ge 35, 3) := by decide +kernel
theorem dX12_odds_41 : decode cX12_odds 41 = .ok (.aload_n 0, 1) := by decide +kernel
theorem dX12_odds_42 : decode cX12_odds 42 = .ok (.bipush 60, 2) := by decide +kernel
theorem dX12_odds_44 : decode cX12_odds 44 = .ok (.iload_n 3, 1) := by decide +kernel
theorem dX12_odds_45 : decode cX12_odds 45 = .ok (.iload 5, 2) := by decide +kernel
theorem dX12_odds_47 : decode cX12_odds 47 = .ok (.iadd, 1) := by decide +kernel
theorem dX12_odds_48 : decode cX12_odds 48 = .ok (.invokevirtual 354, 3) := by decide +kernel
theorem dX12_odds_51 : decode cX12_odds 51 = .ok (.pop, 1) := by decide +kernel
theorem dX12_odds_52 : decode cX12_odds 52 = .ok (.aload_n 0, 1) := by decide +kernel
theorem dX12_odds_53 : decode cX12_odds 53 = .ok (.iload_n 1, 1) := by decide +kernel
theorem dX12_odds_54 : decode cX12_odds 54 = .ok (.invokevirtual 218, 3) := by decide +kernel
theorem dX12_odds_57 : decode cX12_odds 57 = .ok (.ifCond .eq 6, 3) := by decide +kernel
theorem dX12_odds_60 : decode cX12_odds 60 = .ok (.iinc 4 1, 3) := by decide +kernel
theorem dX12_odds_63 : decode cX12_odds 63 = .ok (.aload_n 0, 1) := by decide +kernel
theorem dX12_odds_64 : decode cX12_odds 64 = .ok (.invokevirtual 326, 3) := by decide +kernel
theorem dX12_odds_67 : decode cX12_odds 67 = .ok (.iinc 5 1, 3) := by decide +kernel
theorem dX12_odds_70 : decode cX12_odds 70 = .ok (.goto (-35), 3) := by decide +kernel
theorem dX12_odds_73 : decode cX12_odds 73 = .ok (.iload 4, 2) := by decide +kernel
theorem dX12_odds_75 : decode cX12_odds 75 = .ok (.ireturn, 1) := by decide +kernel
theorem dX12_log_0 : decode cX12_log 0 = .ok (.aload_n 0, 1) := by decide +kernel
theorem dX12_log_1 : decode cX12_log 1 = .ok (.iconst 0, 1) := by decide +kernel
theorem dX12_log_2 : decode cX12_log 2 = .ok (.putfield 73, 3) := by decide +kernel
theorem dX12_log_5 : decode cX12_log 5 = .ok (.iload_n 1, 1) := by decide +kernel
theorem dX12_log_6 : decode cX12_log 6 = .ok (.iconst 0, 1) := by decide +kernel
theorem dX12_log_7 : decode cX12_log 7 = .ok (.iconst 1, 1) := by decide +kernel
theorem dX12_log_8 : decode cX12_log 8 = .ok (.invokestatic 140, 3) := by decide +kernel
theorem dX12_log_11 : decode cX12_log 11 = .ok (.ifCond .ne 7, 3) := by decide +kernel
theorem dX12_log_14 : decode cX12_log 14 = .ok (.sipush (-1000), 3) := by decide +kernel
theorem dX12_log_17 : decode cX12_log 17 = .ok (.ireturn, 1) := by decide +kernel
theorem dX12_log_18 : decode cX12_log 18 = .ok (.aload_n 0, 1) := by decide +kernel
theorem dX12_log_19 : decode cX12_log 19 = .ok (.sipush 400, 3) := by decide +kernel
theorem dX12_log_22 : decode cX12_log 22 = .ok (.invokevirtual 194, 3) := by decide +kernel
theorem dX12_log_25 : decode cX12_log 25 = .ok (.aload_n 0, 1) := by decide +kernel
theorem dX12_log_26 : decode cX12_log 26 = .ok (.iconst 0, 1) := by decide +kernel
theorem dX12_log_27 : decode cX12_log 27 = .ok (.putfield 360, 3) := by decide +kernel
theorem dX12_log_30 : decode cX12_log 30 = .ok (.aload_n 0, 1) := by decide +kernel
theorem dX12_log_31 : decode cX12_log 31 = .ok (.getfield 95, 3) := by decide +kernel
theorem dX12_log_34 : decode cX12_log 34 = .ok (.ifCond .eq 31, 3) := by decide +kernel
theorem dX12_log_37 : decode cX12_log 37 = .ok (.aload_n 0, 1) := by decide +kernel
theorem dX12_log_38 : decode cX12_log 38 = .ok (.invokevirtual 366, 3) := by decide +kernel
theorem dX12_log_41 : decode cX12_log 41 = .ok (.ifCond .ne 11, 3) := by decide +kernel
theorem dX12_log_44 : decode cX12_log 44 = .ok (.bipush (-2), 2) := by decide +kernel
theorem dX12_log_46 : decode cX12_log 46 = .ok (.aload_n 0, 1) := by decide +kernel
theorem dX12_log_47 : decode cX12_log 47 = .ok (.getfield 134, 3) := by decide +kernel
theorem dX12_log_50 : decode cX12_log 50 = .ok (.isub, 1) := by decide +kernel
theorem dX12_log_51 : decode cX12_log 51 = .ok (.ireturn, 1) := by decide +kernel
theorem dX12_log_52 : decode cX12_log 52 = .ok (.aload_n 0, 1) := by decide +kernel
theorem dX12_log_53 : decode cX12_log 53 = .ok (.dup, 1) := by decide +kernel
theorem dX12_log_54 : decode cX12_log 54 = .ok (.getfield 360, 3) := by decide +kernel
theorem dX12_log_57 : decode cX12_log 57 = .ok (.iconst 1, 1) := by decide +kernel
theorem dX12_log_58 : decode cX12_log 58 = .ok (.iadd, 1) := by decide +kernel
theorem dX12_log_59 : decode cX12_log 59 = .ok (.putfield 360, 3) := by decide +kernel
theorem dX12_log_62 : decode cX12_log 62 = .ok (.goto (-32), 3) := by decide +kernel
theorem dX12_log_65 : decode cX12_log 65 = .ok (.aload_n 0, 1) := by decide +kernel
theorem dX12_log_66 : decode cX12_log 66 = .ok (.invokevirtual 329, 3) := by decide +kernel
theorem dX12_log_69 : decode cX12_log 69 = .ok (.iconst 0, 1) := by decide +kernel
theorem dX12_log_70 : decode cX12_log 70 = .ok (.istore_n 2, 1) := by decide +kernel
theorem dX12_log_71 : decode cX12_log 71 = .ok (.iconst 0, 1) := by decide +kernel
theorem dX12_log_72 : decode cX12_log 72 = .ok (.istore_n 3, 1) := by decide +kernel
theorem dX12_log_73 : decode cX12_log 73 = .ok (.iload_n 2, 1) := by decide +kernel
theorem dX12_log_74 : decode cX12_log 74 = .ok (.aload_n 0, 1) := by decide +kernel
theorem dX12_log_75 : decode cX12_log 75 = .ok (.getfield 360, 3) := by decide +kernel
theorem dX12_log_78 : decode cX12_log 78 = .ok (.if_icmp .ge 25, 3) := by decide +kernel
theorem dX12_log_81 : decode cX12_log 81 = .ok (.iload_n 3, 1) := by decide +kernel
theorem dX12_log_82 : decode cX12_log 82 = .ok (.ifCond .ne 21, 3) := by decide +kernel
theorem dX12_log_85 : decode cX12_log 85 = .ok (.aload_n 0, 1) := by decide +kernel
theorem dX12_log_86 : decode cX12_log 86 = .ok (.iconst 3, 1) := by decide +kernel
theorem dX12_log_87 : decode cX12_log 87 = .ok (.iload_n 2, 1) := by decide +kernel
theorem dX12_log_88 : decode cX12_log 88 = .ok (.imul, 1) := by decide +kernel
theorem dX12_log_89 : decode cX12_log 89 = .ok (.invokevirtual 369, 3) := by decide +kernel
theorem dX12_log_92 : decode cX12_log 92 = .ok (.istore_n 3, 1) := by decide +kernel
theorem dX12_log_93 : decode cX12_log 93 = .ok (.iload_n 3, 1) := by decide +kernel
theorem dX12_log_94 : decode cX12_log 94 = .ok (.ifCond .ne (-21), 3) := by decide +kernel
theorem dX12_log_97 : decode cX12_log 97 = .ok (.iinc 2 1, 3) := by decide +kernel
theorem dX12_log_100 : decode cX12_log 100 = .ok (.goto (-27), 3) := by decide +kernel
theorem dX12_log_103 : decode cX12_log 103 = .ok (.aload_n 0, 1) := by decide +kernel
theorem dX12_log_104 : decode cX12_log 104 = .ok (.getfield 67, 3) := by decide +kernel
theorem dX12_log_107 : decode cX12_log 107 = .ok (.iconst 0, 1) := by decide +kernel
theorem dX12_log_108 : decode cX12_log 108 = .ok (.iload_n 3, 1) := by decide +kernel
theorem dX12_log_109 : decode cX12_log 109 = .ok (.iastore, 1) := by decide +kernel
theorem dX12_log_110 : decode cX12_log 110 = .ok (.aload_n 0, 1) := by decide +kernel
theorem dX12_log_111 : decode cX12_log 111 = .ok (.getfield 67, 3) := by decide +kernel
theorem dX12_log_114 : decode cX12_log 114 = .ok (.iconst 1, 1) := by decide +kernel
theorem dX12_log_115 : decode cX12_log 115 = .ok (.iload_n 2, 1) := by decide +kernel
theorem dX12_log_116 : decode cX12_log 116 = .ok (.iastore, 1) := by decide +kernel
theorem dX12_log_117 : decode cX12_log 117 = .ok (.aload_n 0, 1) := by decide +kernel
theorem dX12_log_118 : decode cX12_log 118 = .ok (.getfield 67, 3) := by decide +kernel
theorem dX12_log_121 : decode cX12_log 121 = .ok (.iconst 2, 1) := by decide +kernel
theorem dX12_log_122 : decode cX12_log 122 = .ok (.aload_n 0, 1) := by decide +kernel
theorem dX12_log_123 : decode cX12_log 123 = .ok (.getfield 13, 3) := by decide +kernel
theorem dX12_log_126 : decode cX12_log 126 = .ok (.bipush 77, 2) := by decide +kernel
theorem dX12_log_128 : decode cX12_log 128 = .ok (.iaload, 1) := by decide +kernel
theorem dX12_log_129 : decode cX12_log 129 = .ok (.iastore, 1) := by decide +kernel
theorem dX12_log_130 : decode cX12_log 130 = .ok (.aload_n 0, 1) := by decide +kernel
theorem dX12_log_131 : decode cX12_log 131 = .ok (.getfield 67, 3) := by decide +kernel
theorem dX12_log_134 : decode cX12_log 134 = .ok (.iconst 3, 1) := by decide +kernel
theorem dX12_log_135 : decode cX12_log 135 = .ok (.aload_n 0, 1) := by decide +kernel
theorem dX12_log_136 : decode cX12_log 136 = .ok (.invokevirtual 233, 3) := by decide +kernel
theorem dX12_log_139 : decode cX12_log 139 = .ok (.iastore, 1) := by decide +kernel
theorem dX12_log_140 : decode cX12_log 140 = .ok (.aload_n 0, 1) := by decide +kernel
theorem dX12_log_141 : decode cX12_log 141 = .ok (.iconst 1, 1) := by decide +kernel
theorem dX12_log_142 : decode cX12_log 142 = .ok (.putfield 372, 3) := by decide +kernel
theorem dX12_log_145 : decode cX12_log 145 = .ok (.aload_n 0, 1) := by decide +kernel
theorem dX12_log_146 : decode cX12_log 146 = .ok (.iload_n 1, 1) := by decide +kernel
theorem dX12_log_147 : decode cX12_log 147 = .ok (.iconst 1, 1) := by decide +kernel
theorem dX12_log_148 : decode cX12_log 148 = .ok (.if_icmp .ne 11, 3) := by decide +kernel
theorem dX12_log_151 : decode cX12_log 151 = .ok (.iload_n 2, 1) := by decide +kernel
theorem dX12_log_152 : decode cX12_log 152 = .ok (.ifCond .le 7, 3) := by decide +kernel
theorem dX12_log_155 : decode cX12_log 155 = .ok (.iconst 1, 1) := by decide +kernel
theorem dX12_log_156 : decode cX12_log 156 = .ok (.goto 4, 3) := by decide +kernel
theorem dX12_log_159 : decode cX12_log 159 = .ok (.iconst 0, 1) := by decide +kernel
theorem dX12_log_160 : decode cX12_log 160 = .ok (.invokevirtual 376, 3) := by decide +kernel
theorem dX12_log_163 : decode cX12_log 163 = .ok (.iload_n 3, 1) := by decide +kernel
theorem dX12_log_164 : decode cX12_log 164 = .ok (.ifCond .ne 7, 3) := by decide +kernel
theorem dX12_log_167 : decode cX12_log 167 = .ok (.iconst (-1), 1) := by decide +kernel
theorem dX12_log_168 : decode cX12_log 168 = .ok (.goto 4, 3) := by decide +kernel
theorem dX12_log_171 : decode cX12_log 171 = .ok (.iload_n 2, 1) := by decide +kernel
theorem dX12_log_172 : decode cX12_log 172 = .ok (.ireturn, 1) := by decide +kernel
theorem dX12_stay_0 : decode cX12_stay 0 = .ok (.iconst 0, 1) := by decide +kernel
theorem dX12_stay_1 : decode cX12_stay 1 = .ok (.istore_n 2, 1) := by decide +kernel
theorem dX12_stay_2 : decode cX12_stay 2 = .ok (.iload_n 2, 1) := by decide +kernel
theorem dX12_stay_3 : decode cX12_stay 3 = .ok (.bipush 60, 2) := by decide +kernel
theorem dX12_stay_5 : decode cX12_stay 5 = .ok (.if_icmp .ge 41, 3) := by decide +kernel
theorem dX12_stay_8 : decode cX12_stay 8 = .ok (.aload_n 0, 1) := by decide +kernel
theorem dX12_stay_9 : decode cX12_stay 9 = .ok (.getfield 13, 3) := by decide +kernel
theorem dX12_stay_12 : decode cX12_stay 12 = .ok (.bipush 77, 2) := by decide +kernel
theorem dX12_stay_14 : decode cX12_stay 14 = .ok (.iload_n 2, 1) := by decide +kernel
theorem dX12_stay_15 : decode cX12_stay 15 = .ok (.iadd, 1) := by decide +kernel
theorem dX12_stay_16 : decode cX12_stay 16 = .ok (.iaload, 1) := by decide +kernel
theorem dX12_stay_17 : decode cX12_stay 17 = .ok (.istore_n 3, 1) := by decide +kernel
theorem dX12_stay_18 : decode cX12_stay 18 = .ok (.aload_n 0, 1) := by decide +kernel
theorem dX12_stay_19 : decode cX12_stay 19 = .ok (.getfield 13, 3) := by decide +kernel
theorem dX12_stay_22 : decode cX12_stay 22 = .ok (.bipush 77, 2) := by decide +kernel
theorem dX12_stay_24 : decode cX12_stay 24 = .ok (.iload_n 2, 1) := by decide +kernel
theorem dX12_stay_25 : decode cX12_stay 25 = .ok (.iadd, 1) := by decide +kernel
theorem dX12_stay_26 : decode cX12_stay 26 = .ok (.aload_n 0, 1) := by decide +kernel
theorem dX12_stay_27 : decode cX12_stay 27 = .ok (.getfield 25, 3) := by decide +kernel
theorem dX12_stay_30 : decode cX12_stay 30 = .ok (.iload_n 2, 1) := by decide +kernel
theorem dX12_stay_31 : decode cX12_stay 31 = .ok (.iaload, 1) := by decide +kernel
theorem dX12_stay_32 : decode cX12_stay 32 = .ok (.iastore, 1) := by decide +kernel
theorem dX12_stay_33 : decode cX12_stay 33 = .ok (.aload_n 0, 1) := by decide +kernel
theorem dX12_stay_34 : decode cX12_stay 34 = .ok (.getfield 25, 3) := by decide +kernel
theorem dX12_stay_37 : decode cX12_stay 37 = .ok (.iload_n 2, 1) := by decide +kernel
theorem dX12_stay_38 : decode cX12_stay 38 = .ok (.iload_n 3, 1) := by decide +kernel
theorem dX12_stay_39 : decode cX12_stay 39 = .ok (.iastore, 1) := by decide +kernel
theorem dX12_stay_40 : decode cX12_stay 40 = .ok (.iinc 2 1, 3) := by decide +kernel
theorem dX12_stay_43 : decode cX12_stay 43 = .ok (.goto (-41), 3) := by decide +kernel
theorem dX12_stay_46 : decode cX12_stay 46 = .ok (.iload_n 1, 1) := by decide +kernel
theorem dX12_stay_47 : decode cX12_stay 47 = .ok (.ifCond .ne 4, 3) := by decide +kernel
theorem dX12_stay_50 : decode cX12_stay 50 = .ok (.return_, 1) := by decide +kernel
theorem dX12_stay_51 : decode cX12_stay 51 = .ok (.aload_n 0, 1) := by decide +kernel
theorem dX12_stay_52 : decode cX12_stay 52 = .ok (.invokevirtual 263, 3) := by decide +kernel
theorem dX12_stay_55 : decode cX12_stay 55 = .ok (.aload_n 0, 1) := by decide +kernel
theorem dX12_stay_56 : decode cX12_stay 56 = .ok (.invokevirtual 326, 3) := by decide +kernel
theorem dX12_stay_59 : decode cX12_stay 59 = .ok (.return_, 1) := by decide +kernel
theorem dX12_logged_0 : decode cX12_logged 0 = .ok (.aload_n 0, 1) := by decide +kernel
theorem dX12_logged_1 : decode cX12_logged 1 = .ok (.iconst 0, 1) := by decide +kernel
theorem dX12_logged_2 : decode cX12_logged 2 = .ok (.putfield 73, 3) := by decide +kernel
theorem dX12_logged_5 : decode cX12_logged 5 = .ok (.aload_n 0, 1) := by decide +kernel
theorem dX12_logged_6 : decode cX12_logged 6 = .ok (.getfield 372, 3) := by decide +kernel
theorem dX12_logged_9 : decode cX12_logged 9 = .ok (.ifCond .eq 21, 3) := by decide +kernel
theorem dX12_logged_12 : decode cX12_logged 12 = .ok (.iload_n 1, 1) := by decide +kernel
theorem dX12_logged_13 : decode cX12_logged 13 = .ok (.iconst 0, 1) := by decide +kernel
theorem dX12_logged_14 : decode cX12_logged 14 = .ok (.iconst 3, 1) := by decide +kernel
theorem dX12_logged_15 : decode cX12_logged 15 = .ok (.invokestatic 140, 3) := by decide +kernel
theorem dX12_logged_18 : decode cX12_logged 18 = .ok (.ifCond .eq 12, 3) := by decide +kernel
theorem dX12_logged_21 : decode cX12_logged 21 = .ok (.aload_n 0, 1) := by decide +kernel
theorem dX12_logged_22 : decode cX12_logged 22 = .ok (.getfield 67, 3) := by decide +kernel
theorem dX12_logged_25 : decode cX12_logged 25 = .ok (.iload_n 1, 1) := by decide +kernel
theorem dX12_logged_26 : decode cX12_logged 26 = .ok (.iaload, 1) := by decide +kernel
theorem dX12_logged_27 : decode cX12_logged 27 = .ok (.goto 4, 3) := by decide +kernel
theorem dX12_logged_30 : decode cX12_logged 30 = .ok (.iconst (-1), 1) := by decide +kernel
theorem dX12_logged_31 : decode cX12_logged 31 = .ok (.ireturn, 1) := by decide +kernel
theorem dX12_readOr_0 : decode cX12_readOr 0 = .ok (.aload_n 0, 1) := by decide +kernel
theorem dX12_readOr_1 : decode cX12_readOr 1 = .ok (.invokevirtual 383, 3) := by decide +kernel
theorem dX12_readOr_4 : decode cX12_readOr 4 = .ok (.ifCond .ne 5, 3) := by decide +kernel
theorem dX12_readOr_7 : decode cX12_readOr 7 = .ok (.iconst 0, 1) := by decide +kernel
theorem dX12_readOr_8 : decode cX12_readOr 8 = .ok (.ireturn, 1) := by decide +kernel
theorem dX12_readOr_9 : decode cX12_readOr 9 = .ok (.aload_n 0, 1) := by decide +kernel
theorem dX12_readOr_10 : decode cX12_readOr 10 = .ok (.getfield 386, 3) := by decide +kernel
theorem dX12_readOr_13 : decode cX12_readOr 13 = .ok (.istore_n 1, 1) := by decide +kernel
theorem dX12_readOr_14 : decode cX12_readOr 14 = .ok (.aload_n 0, 1) := by decide +kernel
theorem dX12_readOr_15 : decode cX12_readOr 15 = .ok (.bipush 9, 2) := by decide +kernel
theorem dX12_readOr_17 : decode cX12_readOr 17 = .ok (.invokevirtual 179, 3) := by decide +kernel
theorem dX12_readOr_20 : decode cX12_readOr 20 = .ok (.ifCond .eq 31, 3) := by decide +kernel
theorem dX12_readOr_23 : decode cX12_readOr 23 = .ok (.aload_n 0, 1) := by decide +kernel
theorem dX12_readOr_24 : decode cX12_readOr 24 = .ok (.invokevirtual 147, 3) := by decide +kernel
theorem dX12_readOr_27 : decode cX12_readOr 27 = .ok (.aload_n 0, 1) := by decide +kernel
theorem dX12_readOr_28 : decode cX12_readOr 28 = .ok (.invokevirtual 383, 3) := by decide +kernel
theorem dX12_readOr_31 : decode cX12_readOr 31 = .ok (.ifCond .ne 5, 3) := by decide +kernel
theorem dX12_readOr_34 : decode cX12_readOr 34 = .ok (.iconst 0, 1) := by decide +kernel
theorem dX12_readOr_35 : decode cX12_readOr 35 = .ok (.ireturn, 1) := by decide +kernel
theorem dX12_readOr_36 : decode cX12_readOr 36 = .ok (.aload_n 0, 1) := by decide +kernel
theorem dX12_readOr_37 : decode cX12_readOr 37 = .ok (.iconst 3, 1) := by decide +kernel
theorem dX12_readOr_38 : decode cX12_readOr 38 = .ok (.iload_n 1, 1) := by decide +kernel
theorem dX12_readOr_39 : decode cX12_readOr 39 = .ok (.aload_n 0, 1) := by decide +kernel
theorem dX12_readOr_40 : decode cX12_readOr 40 = .ok (.getfield 386, 3) := by decide +kernel
theorem dX12_readOr_43 : decode cX12_readOr 43 = .ok (.iconst 0, 1) := by decide +kernel
theorem dX12_readOr_44 : decode cX12_readOr 44 = .ok (.invokevirtual 389, 3) := by decide +kernel
theorem dX12_readOr_47 : decode cX12_readOr 47 = .ok (.istore_n 1, 1) := by decide +kernel
theorem dX12_readOr_48 : decode cX12_readOr 48 = .ok (.goto (-34), 3) := by decide +kernel
theorem dX12_readOr_51 : decode cX12_readOr 51 = .ok (.aload_n 0, 1) := by decide +kernel
theorem dX12_readOr_52 : decode cX12_readOr 52 = .ok (.iload_n 1, 1) := by decide +kernel
theorem dX12_readOr_53 : decode cX12_readOr 53 = .ok (.putfield 386, 3) := by decide +kernel
theorem dX12_readOr_56 : decode cX12_readOr 56 = .ok (.iconst 1, 1) := by decide +kernel
theorem dX12_readOr_57 : decode cX12_readOr 57 = .ok (.ireturn, 1) := by decide +kernel
theorem dX12_readAnd_0 : decode cX12_readAnd 0 = .ok (.aload_n 0, 1) := by decide +kernel
theorem dX12_readAnd_1 : decode cX12_readAnd 1 = .ok (.invokevirtual 393, 3) := by decide +kernel
theorem dX12_readAnd_4 : decode cX12_readAnd 4 = .ok (.ifCond .ne 5, 3) := by decide +kernel
theorem dX12_readAnd_7 : decode cX12_readAnd 7 = .ok (.iconst 0, 1) := by decide +kernel
theorem dX12_readAnd_8 : decode cX12_readAnd 8 = .ok (.ireturn, 1) := by decide +kernel
theorem dX12_readAnd_9 : decode cX12_readAnd 9 = .ok (.aload_n 0, 1) := by decide +kernel
theorem dX12_readAnd_10 : decode cX12_readAnd 10 = .ok (.getfield 386, 3) := by decide +kernel
theorem dX12_readAnd_13 : decode cX12_readAnd 13 = .ok (.istore_n 1, 1) := by decide +kernel
theorem dX12_readAnd_14 : decode cX12_readAnd 14 = .ok (.aload_n 0, 1) := by decide +kernel
theorem dX12_readAnd_15 : decode cX12_readAnd 15 = .ok (.bipush 10, 2) := by decide +kernel
theorem dX12_readAnd_17 : decode cX12_readAnd 17 = .ok (.invokevirtual 179, 3) := by decide +kernel
theorem dX12_readAnd_20 : decode cX12_readAnd 20 = .ok (.ifCond .eq 31, 3) := by decide +kernel
theorem dX12_readAnd_23 : decode cX12_readAnd 23 = .ok (.aload_n 0, 1) := by decide +kernel
theorem dX12_readAnd_24 : decode cX12_readAnd 24 = .ok (.invokevirtual 147, 3) := by decide +kernel
theorem dX12_readAnd_27 : decode cX12_readAnd 27 = .ok (.aload_n 0, 1) := by decide +kernel
theorem dX12_readAnd_28 : decode cX12_readAnd 28 = .ok (.invokevirtual 393, 3) := by decide +kernel
theorem dX12_readAnd_31 : decode cX12_readAnd 31 = .ok (.ifCond .ne 5, 3) := by decide +kernel
theorem dX12_readAnd_34 : decode cX12_readAnd 34 = .ok (.iconst 0, 1) := by decide +kernel
theorem dX12_readAnd_35 : decode cX12_readAnd 35 = .ok (.ireturn, 1) := by decide +kernel
theorem dX12_readAnd_36 : decode cX12_readAnd 36 = .ok (.aload_n 0, 1) := by decide +kernel
theorem dX12_readAnd_37 : decode cX12_readAnd 37 = .ok (.iconst 2, 1) := by decide +kernel
theorem dX12_readAnd_38 : decode cX12_readAnd 38 = .ok (.iload_n 1, 1) := by decide +kernel
theorem dX12_readAnd_39 : decode cX12_readAnd 39 = .ok (.aload_n 0, 1) := by decide +kernel
theorem dX12_readAnd_40 : decode cX12_readAnd 40 = .ok (.getfield 386, 3) := by decide +kernel
end
section
theorem dX12_readAnd_43 : decode cX12_readAnd 43 = .ok (.iconst 0, 1) := by decide +kernel
theorem dX12_readAnd_44 : decode cX12_readAnd 44 = .ok (.invokevirtual 389, 3) := by decide +kernel
theorem dX12_readAnd_47 : decode cX12_readAnd 47 = .ok (.istore_n 1, 1) := by decide +kernel
theorem dX12_readAnd_48 : decode cX12_readAnd 48 = .ok (.goto (-34), 3) := by decide +kernel
theorem dX12_readAnd_51 : decode cX12_readAnd 51 = .ok (.aload_n 0, 1) := by decide +kernel
theorem dX12_readAnd_52 : decode cX12_readAnd 52 = .ok (.iload_n 1, 1) := by decide +kernel
theorem dX12_readAnd_53 : decode cX12_readAnd 53 = .ok (.putfield 386, 3) := by decide +kernel
theorem dX12_readAnd_56 : decode cX12_readAnd 56 = .ok (.iconst 1, 1) := by decide +kernel
theorem dX12_readAnd_57 : decode cX12_readAnd 57 = .ok (.ireturn, 1) := by decide +kernel
theorem dX12_readSaid_0 : decode cX12_readSaid 0 = .ok (.aload_n 0, 1) := by decide +kernel
theorem dX12_readSaid_1 : decode cX12_readSaid 1 = .ok (.bipush 40, 2) := by decide +kernel
theorem dX12_readSaid_3 : decode cX12_readSaid 3 = .ok (.invokevirtual 150, 3) := by decide +kernel
theorem dX12_readSaid_6 : decode cX12_readSaid 6 = .ok (.istore_n 1, 1) := by decide +kernel
theorem dX12_readSaid_7 : decode cX12_readSaid 7 = .ok (.bipush 11, 2) := by decide +kernel
theorem dX12_readSaid_9 : decode cX12_readSaid 9 = .ok (.istore_n 2, 1) := by decide +kernel
theorem dX12_readSaid_10 : decode cX12_readSaid 10 = .ok (.iload_n 2, 1) := by decide +kernel
theorem dX12_readSaid_11 : decode cX12_readSaid 11 = .ok (.bipush 19, 2) := by decide +kernel
theorem dX12_readSaid_13 : decode cX12_readSaid 13 = .ok (.if_icmp .gt 17, 3) := by decide +kernel
theorem dX12_readSaid_16 : decode cX12_readSaid 16 = .ok (.aload_n 0, 1) := by decide +kernel
theorem dX12_readSaid_17 : decode cX12_readSaid 17 = .ok (.iload_n 2, 1) := by decide +kernel
theorem dX12_readSaid_18 : decode cX12_readSaid 18 = .ok (.invokevirtual 179, 3) := by decide +kernel
theorem dX12_readSaid_21 : decode cX12_readSaid 21 = .ok (.ifCond .ne 9, 3) := by decide +kernel
theorem dX12_readSaid_24 : decode cX12_readSaid 24 = .ok (.iinc 2 1, 3) := by decide +kernel
theorem dX12_readSaid_27 : decode cX12_readSaid 27 = .ok (.goto (-17), 3) := by decide +kernel
theorem dX12_readSaid_30 : decode cX12_readSaid 30 = .ok (.iload_n 1, 1) := by decide +kernel
theorem dX12_readSaid_31 : decode cX12_readSaid 31 = .ok (.ifCond .ne 15, 3) := by decide +kernel
theorem dX12_readSaid_34 : decode cX12_readSaid 34 = .ok (.iload_n 2, 1) := by decide +kernel
theorem dX12_readSaid_35 : decode cX12_readSaid 35 = .ok (.bipush 19, 2) := by decide +kernel
theorem dX12_readSaid_37 : decode cX12_readSaid 37 = .ok (.if_icmp .le 9, 3) := by decide +kernel
theorem dX12_readSaid_40 : decode cX12_readSaid 40 = .ok (.aload_n 0, 1) := by decide +kernel
theorem dX12_readSaid_41 : decode cX12_readSaid 41 = .ok (.iconst 1, 1) := by decide +kernel
theorem dX12_readSaid_42 : decode cX12_readSaid 42 = .ok (.invokevirtual 137, 3) := by decide +kernel
theorem dX12_readSaid_45 : decode cX12_readSaid 45 = .ok (.ireturn, 1) := by decide +kernel
theorem dX12_readSaid_46 : decode cX12_readSaid 46 = .ok (.aload_n 0, 1) := by decide +kernel
theorem dX12_readSaid_47 : decode cX12_readSaid 47 = .ok (.getfield 396, 3) := by decide +kernel
theorem dX12_readSaid_50 : decode cX12_readSaid 50 = .ok (.bipush 20, 2) := by decide +kernel
theorem dX12_readSaid_52 : decode cX12_readSaid 52 = .ok (.if_icmp .eq 12, 3) := by decide +kernel
theorem dX12_readSaid_55 : decode cX12_readSaid 55 = .ok (.aload_n 0, 1) := by decide +kernel
theorem dX12_readSaid_56 : decode cX12_readSaid 56 = .ok (.getfield 399, 3) := by decide +kernel
theorem dX12_readSaid_59 : decode cX12_readSaid 59 = .ok (.bipush 8, 2) := by decide +kernel
theorem dX12_readSaid_61 : decode cX12_readSaid 61 = .ok (.if_icmp .ne 9, 3) := by decide +kernel
theorem dX12_readSaid_64 : decode cX12_readSaid 64 = .ok (.aload_n 0, 1) := by decide +kernel
theorem dX12_readSaid_65 : decode cX12_readSaid 65 = .ok (.iconst 4, 1) := by decide +kernel
theorem dX12_readSaid_66 : decode cX12_readSaid 66 = .ok (.invokevirtual 137, 3) := by decide +kernel
theorem dX12_readSaid_69 : decode cX12_readSaid 69 = .ok (.ireturn, 1) := by decide +kernel
theorem dX12_readSaid_70 : decode cX12_readSaid 70 = .ok (.aload_n 0, 1) := by decide +kernel
theorem dX12_readSaid_71 : decode cX12_readSaid 71 = .ok (.dup, 1) := by decide +kernel
theorem dX12_readSaid_72 : decode cX12_readSaid 72 = .ok (.getfield 396, 3) := by decide +kernel
theorem dX12_readSaid_75 : decode cX12_readSaid 75 = .ok (.iconst 1, 1) := by decide +kernel
theorem dX12_readSaid_76 : decode cX12_readSaid 76 = .ok (.iadd, 1) := by decide +kernel
theorem dX12_readSaid_77 : decode cX12_readSaid 77 = .ok (.putfield 396, 3) := by decide +kernel
theorem dX12_readSaid_80 : decode cX12_readSaid 80 = .ok (.aload_n 0, 1) := by decide +kernel
theorem dX12_readSaid_81 : decode cX12_readSaid 81 = .ok (.dup, 1) := by decide +kernel
theorem dX12_readSaid_82 : decode cX12_readSaid 82 = .ok (.getfield 399, 3) := by decide +kernel
theorem dX12_readSaid_85 : decode cX12_readSaid 85 = .ok (.iconst 1, 1) := by decide +kernel
theorem dX12_readSaid_86 : decode cX12_readSaid 86 = .ok (.iadd, 1) := by decide +kernel
theorem dX12_readSaid_87 : decode cX12_readSaid 87 = .ok (.putfield 399, 3) := by decide +kernel
theorem dX12_readSaid_90 : decode cX12_readSaid 90 = .ok (.aload_n 0, 1) := by decide +kernel
theorem dX12_readSaid_91 : decode cX12_readSaid 91 = .ok (.invokevirtual 147, 3) := by decide +kernel
theorem dX12_readSaid_94 : decode cX12_readSaid 94 = .ok (.iconst 1, 1) := by decide +kernel
theorem dX12_readSaid_95 : decode cX12_readSaid 95 = .ok (.istore_n 3, 1) := by decide +kernel
theorem dX12_readSaid_96 : decode cX12_readSaid 96 = .ok (.iload_n 1, 1) := by decide +kernel
theorem dX12_readSaid_97 : decode cX12_readSaid 97 = .ok (.ifCond .eq 11, 3) := by decide +kernel
theorem dX12_readSaid_100 : decode cX12_readSaid 100 = .ok (.aload_n 0, 1) := by decide +kernel
theorem dX12_readSaid_101 : decode cX12_readSaid 101 = .ok (.invokevirtual 402, 3) := by decide +kernel
theorem dX12_readSaid_104 : decode cX12_readSaid 104 = .ok (.istore_n 3, 1) := by decide +kernel
theorem dX12_readSaid_105 : decode cX12_readSaid 105 = .ok (.goto 61, 3) := by decide +kernel
theorem dX12_readSaid_108 : decode cX12_readSaid 108 = .ok (.iload_n 2, 1) := by decide +kernel
theorem dX12_readSaid_109 : decode cX12_readSaid 109 = .ok (.bipush 11, 2) := by decide +kernel
theorem dX12_readSaid_111 : decode cX12_readSaid 111 = .ok (.if_icmp .ne 11, 3) := by decide +kernel
theorem dX12_readSaid_114 : decode cX12_readSaid 114 = .ok (.aload_n 0, 1) := by decide +kernel
theorem dX12_readSaid_115 : decode cX12_readSaid 115 = .ok (.invokevirtual 405, 3) := by decide +kernel
theorem dX12_readSaid_118 : decode cX12_readSaid 118 = .ok (.istore_n 3, 1) := by decide +kernel
theorem dX12_readSaid_119 : decode cX12_readSaid 119 = .ok (.goto 47, 3) := by decide +kernel
theorem dX12_readSaid_122 : decode cX12_readSaid 122 = .ok (.iload_n 2, 1) := by decide +kernel
theorem dX12_readSaid_123 : decode cX12_readSaid 123 = .ok (.bipush 15, 2) := by decide +kernel
theorem dX12_readSaid_125 : decode cX12_readSaid 125 = .ok (.if_icmp .ge 21, 3) := by decide +kernel
theorem dX12_readSaid_128 : decode cX12_readSaid 128 = .ok (.aload_n 0, 1) := by decide +kernel
theorem dX12_readSaid_129 : decode cX12_readSaid 129 = .ok (.aload_n 0, 1) := by decide +kernel
theorem dX12_readSaid_130 : decode cX12_readSaid 130 = .ok (.bipush 50, 2) := by decide +kernel
theorem dX12_readSaid_132 : decode cX12_readSaid 132 = .ok (.iload_n 2, 1) := by decide +kernel
theorem dX12_readSaid_133 : decode cX12_readSaid 133 = .ok (.iadd, 1) := by decide +kernel
theorem dX12_readSaid_134 : decode cX12_readSaid 134 = .ok (.iconst 0, 1) := by decide +kernel
theorem dX12_readSaid_135 : decode cX12_readSaid 135 = .ok (.iconst 0, 1) := by decide +kernel
theorem dX12_readSaid_136 : decode cX12_readSaid 136 = .ok (.iconst 0, 1) := by decide +kernel
theorem dX12_readSaid_137 : decode cX12_readSaid 137 = .ok (.invokevirtual 389, 3) := by decide +kernel
theorem dX12_readSaid_140 : decode cX12_readSaid 140 = .ok (.putfield 386, 3) := by decide +kernel
theorem dX12_readSaid_143 : decode cX12_readSaid 143 = .ok (.goto 23, 3) := by decide +kernel
theorem dX12_readSaid_146 : decode cX12_readSaid 146 = .ok (.iload_n 2, 1) := by decide +kernel
theorem dX12_readSaid_147 : decode cX12_readSaid 147 = .ok (.bipush 17, 2) := by decide +kernel
theorem dX12_readSaid_149 : decode cX12_readSaid 149 = .ok (.if_icmp .ge 11, 3) := by decide +kernel
theorem dX12_readSaid_152 : decode cX12_readSaid 152 = .ok (.aload_n 0, 1) := by decide +kernel
theorem dX12_readSaid_153 : decode cX12_readSaid 153 = .ok (.iload_n 2, 1) := by decide +kernel
theorem dX12_readSaid_154 : decode cX12_readSaid 154 = .ok (.invokevirtual 408, 3) := by decide +kernel
theorem dX12_readSaid_157 : decode cX12_readSaid 157 = .ok (.goto 8, 3) := by decide +kernel
theorem dX12_readSaid_160 : decode cX12_readSaid 160 = .ok (.aload_n 0, 1) := by decide +kernel
theorem dX12_readSaid_161 : decode cX12_readSaid 161 = .ok (.iload_n 2, 1) := by decide +kernel
theorem dX12_readSaid_162 : decode cX12_readSaid 162 = .ok (.invokevirtual 411, 3) := by decide +kernel
theorem dX12_readSaid_165 : decode cX12_readSaid 165 = .ok (.istore_n 3, 1) := by decide +kernel
theorem dX12_readSaid_166 : decode cX12_readSaid 166 = .ok (.aload_n 0, 1) := by decide +kernel
theorem dX12_readSaid_167 : decode cX12_readSaid 167 = .ok (.dup, 1) := by decide +kernel
theorem dX12_readSaid_168 : decode cX12_readSaid 168 = .ok (.getfield 399, 3) := by decide +kernel
theorem dX12_readSaid_171 : decode cX12_readSaid 171 = .ok (.iconst 1, 1) := by decide +kernel
theorem dX12_readSaid_172 : decode cX12_readSaid 172 = .ok (.isub, 1) := by decide +kernel
theorem dX12_readSaid_173 : decode cX12_readSaid 173 = .ok (.putfield 399, 3) := by decide +kernel
theorem dX12_readSaid_176 : decode cX12_readSaid 176 = .ok (.iload_n 3, 1) := by decide +kernel
theorem dX12_readSaid_177 : decode cX12_readSaid 177 = .ok (.ireturn, 1) := by decide +kernel
theorem dX12_sentence_0 : decode cX12_sentence 0 = .ok (.aload_n 0, 1) := by decide +kernel
theorem dX12_sentence_1 : decode cX12_sentence 1 = .ok (.sipush 200, 3) := by decide +kernel
theorem dX12_sentence_4 : decode cX12_sentence 4 = .ok (.invokevirtual 194, 3) := by decide +kernel
theorem dX12_sentence_7 : decode cX12_sentence 7 = .ok (.aload_n 0, 1) := by decide +kernel
theorem dX12_sentence_8 : decode cX12_sentence 8 = .ok (.iconst 0, 1) := by decide +kernel
theorem dX12_sentence_9 : decode cX12_sentence 9 = .ok (.putfield 380, 3) := by decide +kernel
theorem dX12_sentence_12 : decode cX12_sentence 12 = .ok (.aload_n 0, 1) := by decide +kernel
theorem dX12_sentence_13 : decode cX12_sentence 13 = .ok (.iconst 0, 1) := by decide +kernel
theorem dX12_sentence_14 : decode cX12_sentence 14 = .ok (.putfield 396, 3) := by decide +kernel
theorem dX12_sentence_17 : decode cX12_sentence 17 = .ok (.aload_n 0, 1) := by decide +kernel
theorem dX12_sentence_18 : decode cX12_sentence 18 = .ok (.iconst 0, 1) := by decide +kernel
theorem dX12_sentence_19 : decode cX12_sentence 19 = .ok (.putfield 399, 3) := by decide +kernel
theorem dX12_sentence_22 : decode cX12_sentence 22 = .ok (.aload_n 0, 1) := by decide +kernel
theorem dX12_sentence_23 : decode cX12_sentence 23 = .ok (.invokevirtual 414, 3) := by decide +kernel
theorem dX12_sentence_26 : decode cX12_sentence 26 = .ok (.ifCond .ne 10, 3) := by decide +kernel
theorem dX12_sentence_29 : decode cX12_sentence 29 = .ok (.iconst (-1), 1) := by decide +kernel
theorem dX12_sentence_30 : decode cX12_sentence 30 = .ok (.aload_n 0, 1) := by decide +kernel
theorem dX12_sentence_31 : decode cX12_sentence 31 = .ok (.getfield 134, 3) := by decide +kernel
theorem dX12_sentence_34 : decode cX12_sentence 34 = .ok (.isub, 1) := by decide +kernel
theorem dX12_sentence_35 : decode cX12_sentence 35 = .ok (.ireturn, 1) := by decide +kernel
theorem dX12_sentence_36 : decode cX12_sentence 36 = .ok (.aload_n 0, 1) := by decide +kernel
theorem dX12_sentence_37 : decode cX12_sentence 37 = .ok (.getfield 95, 3) := by decide +kernel
theorem dX12_sentence_40 : decode cX12_sentence 40 = .ok (.ifCond .eq 16, 3) := by decide +kernel
theorem dX12_sentence_43 : decode cX12_sentence 43 = .ok (.aload_n 0, 1) := by decide +kernel
theorem dX12_sentence_44 : decode cX12_sentence 44 = .ok (.iconst 1, 1) := by decide +kernel
theorem dX12_sentence_45 : decode cX12_sentence 45 = .ok (.invokevirtual 137, 3) := by decide +kernel
theorem dX12_sentence_48 : decode cX12_sentence 48 = .ok (.pop, 1) := by decide +kernel
theorem dX12_sentence_49 : decode cX12_sentence 49 = .ok (.iconst (-1), 1) := by decide +kernel
theorem dX12_sentence_50 : decode cX12_sentence 50 = .ok (.aload_n 0, 1) := by decide +kernel
theorem dX12_sentence_51 : decode cX12_sentence 51 = .ok (.getfield 134, 3) := by decide +kernel
theorem dX12_sentence_54 : decode cX12_sentence 54 = .ok (.isub, 1) := by decide +kernel
theorem dX12_sentence_55 : decode cX12_sentence 55 = .ok (.ireturn, 1) := by decide +kernel
theorem dX12_sentence_56 : decode cX12_sentence 56 = .ok (.aload_n 0, 1) := by decide +kernel
theorem dX12_sentence_57 : decode cX12_sentence 57 = .ok (.getfield 13, 3) := by decide +kernel
theorem dX12_sentence_60 : decode cX12_sentence 60 = .ok (.sipush 137, 3) := by decide +kernel
theorem dX12_sentence_63 : decode cX12_sentence 63 = .ok (.iconst 1, 1) := by decide +kernel
theorem dX12_sentence_64 : decode cX12_sentence 64 = .ok (.iastore, 1) := by decide +kernel
theorem dX12_sentence_65 : decode cX12_sentence 65 = .ok (.aload_n 0, 1) := by decide +kernel
theorem dX12_sentence_66 : decode cX12_sentence 66 = .ok (.getfield 13, 3) := by decide +kernel
theorem dX12_sentence_69 : decode cX12_sentence 69 = .ok (.sipush 138, 3) := by decide +kernel
theorem dX12_sentence_72 : decode cX12_sentence 72 = .ok (.aload_n 0, 1) := by decide +kernel
theorem dX12_sentence_73 : decode cX12_sentence 73 = .ok (.getfield 386, 3) := by decide +kernel
theorem dX12_sentence_76 : decode cX12_sentence 76 = .ok (.iastore, 1) := by decide +kernel
theorem dX12_sentence_77 : decode cX12_sentence 77 = .ok (.iconst 0, 1) := by decide +kernel
theorem dX12_sentence_78 : decode cX12_sentence 78 = .ok (.istore_n 1, 1) := by decide +kernel
theorem dX12_sentence_79 : decode cX12_sentence 79 = .ok (.iload_n 1, 1) := by decide +kernel
theorem dX12_sentence_80 : decode cX12_sentence 80 = .ok (.sipush 240, 3) := by decide +kernel
theorem dX12_sentence_83 : decode cX12_sentence 83 = .ok (.if_icmp .ge 25, 3) := by decide +kernel
theorem dX12_sentence_86 : decode cX12_sentence 86 = .ok (.aload_n 0, 1) := by decide +kernel
theorem dX12_sentence_87 : decode cX12_sentence 87 = .ok (.getfield 13, 3) := by decide +kernel
theorem dX12_sentence_90 : decode cX12_sentence 90 = .ok (.sipush 139, 3) := by decide +kernel
theorem dX12_sentence_93 : decode cX12_sentence 93 = .ok (.iload_n 1, 1) := by decide +kernel
theorem dX12_sentence_94 : decode cX12_sentence 94 = .ok (.iadd, 1) := by decide +kernel
theorem dX12_sentence_95 : decode cX12_sentence 95 = .ok (.aload_n 0, 1) := by decide +kernel
theorem dX12_sentence_96 : decode cX12_sentence 96 = .ok (.getfield 70, 3) := by decide +kernel
theorem dX12_sentence_99 : decode cX12_sentence 99 = .ok (.iload_n 1, 1) := by decide +kernel
theorem dX12_sentence_100 : decode cX12_sentence 100 = .ok (.iaload, 1) := by decide +kernel
theorem dX12_sentence_101 : decode cX12_sentence 101 = .ok (.iastore, 1) := by decide +kernel
theorem dX12_sentence_102 : decode cX12_sentence 102 = .ok (.iinc 1 1, 3) := by decide +kernel
theorem dX12_sentence_105 : decode cX12_sentence 105 = .ok (.goto (-26), 3) := by decide +kernel
theorem dX12_sentence_108 : decode cX12_sentence 108 = .ok (.aload_n 0, 1) := by decide +kernel
theorem dX12_sentence_109 : decode cX12_sentence 109 = .ok (.getfield 396, 3) := by decide +kernel
theorem dX12_sentence_112 : decode cX12_sentence 112 = .ok (.ireturn, 1) := by decide +kernel
theorem dX12_said_0 : decode cX12_said 0 = .ok (.aload_n 0, 1) := by decide +kernel
theorem dX12_said_1 : decode cX12_said 1 = .ok (.iconst 0, 1) := by decide +kernel
theorem dX12_said_2 : decode cX12_said 2 = .ok (.putfield 73, 3) := by decide +kernel
theorem dX12_said_5 : decode cX12_said 5 = .ok (.aload_n 0, 1) := by decide +kernel
theorem dX12_said_6 : decode cX12_said 6 = .ok (.getfield 13, 3) := by decide +kernel
theorem dX12_said_9 : decode cX12_said 9 = .ok (.sipush 137, 3) := by decide +kernel
theorem dX12_said_12 : decode cX12_said 12 = .ok (.iaload, 1) := by decide +kernel
theorem dX12_said_13 : decode cX12_said 13 = .ok (.ifCond .ne 5, 3) := by decide +kernel
theorem dX12_said_16 : decode cX12_said 16 = .ok (.iconst (-1), 1) := by decide +kernel
theorem dX12_said_17 : decode cX12_said 17 = .ok (.ireturn, 1) := by decide +kernel
theorem dX12_said_18 : decode cX12_said 18 = .ok (.iconst 0, 1) := by decide +kernel
theorem dX12_said_19 : decode cX12_said 19 = .ok (.istore_n 2, 1) := by decide +kernel
theorem dX12_said_20 : decode cX12_said 20 = .ok (.iconst 0, 1) := by decide +kernel
theorem dX12_said_21 : decode cX12_said 21 = .ok (.istore_n 3, 1) := by decide +kernel
theorem dX12_said_22 : decode cX12_said 22 = .ok (.iload_n 3, 1) := by decide +kernel
theorem dX12_said_23 : decode cX12_said 23 = .ok (.aload_n 0, 1) := by decide +kernel
theorem dX12_said_24 : decode cX12_said 24 = .ok (.getfield 13, 3) := by decide +kernel
theorem dX12_said_27 : decode cX12_said 27 = .ok (.iconst 0, 1) := by decide +kernel
theorem dX12_said_28 : decode cX12_said 28 = .ok (.iaload, 1) := by decide +kernel
theorem dX12_said_29 : decode cX12_said 29 = .ok (.if_icmp .ge 38, 3) := by decide +kernel
theorem dX12_said_32 : decode cX12_said 32 = .ok (.aload_n 0, 1) := by decide +kernel
theorem dX12_said_33 : decode cX12_said 33 = .ok (.aload_n 0, 1) := by decide +kernel
theorem dX12_said_34 : decode cX12_said 34 = .ok (.getfield 13, 3) := by decide +kernel
theorem dX12_said_37 : decode cX12_said 37 = .ok (.sipush 138, 3) := by decide +kernel
theorem dX12_said_40 : decode cX12_said 40 = .ok (.iaload, 1) := by decide +kernel
theorem dX12_said_41 : decode cX12_said 41 = .ok (.iload_n 3, 1) := by decide +kernel
theorem dX12_said_42 : decode cX12_said 42 = .ok (.invokevirtual 417, 3) := by decide +kernel
theorem dX12_said_45 : decode cX12_said 45 = .ok (.ifCond .ne 6, 3) := by decide +kernel
theorem dX12_said_48 : decode cX12_said 48 = .ok (.goto 13, 3) := by decide +kernel
theorem dX12_said_51 : decode cX12_said 51 = .ok (.iload_n 2, 1) := by decide +kernel
theorem dX12_said_52 : decode cX12_said 52 = .ok (.iload_n 1, 1) := by decide +kernel
theorem dX12_said_53 : decode cX12_said 53 = .ok (.if_icmp .ne 5, 3) := by decide +kernel
theorem dX12_said_56 : decode cX12_said 56 = .ok (.iload_n 3, 1) := by decide +kernel
theorem dX12_said_57 : decode cX12_said 57 = .ok (.ireturn, 1) := by decide +kernel
theorem dX12_said_58 : decode cX12_said 58 = .ok (.iinc 2 1, 3) := by decide +kernel
theorem dX12_said_61 : decode cX12_said 61 = .ok (.iinc 3 1, 3) := by decide +kernel
theorem dX12_said_64 : decode cX12_said 64 = .ok (.goto (-42), 3) := by decide +kernel
theorem dX12_said_67 : decode cX12_said 67 = .ok (.iload_n 1, 1) := by decide +kernel
theorem dX12_said_68 : decode cX12_said 68 = .ok (.iconst (-1), 1) := by decide +kernel
theorem dX12_said_69 : decode cX12_said 69 = .ok (.if_icmp .ne 7, 3) := by decide +kernel
theorem dX12_said_72 : decode cX12_said 72 = .ok (.iload_n 2, 1) := by decide +kernel
theorem dX12_said_73 : decode cX12_said 73 = .ok (.goto 4, 3) := by decide +kernel
theorem dX12_said_76 : decode cX12_said 76 = .ok (.iconst (-1), 1) := by decide +kernel
theorem dX12_said_77 : decode cX12_said 77 = .ok (.ireturn, 1) := by decide +kernel
theorem dX12_image_0 : decode cX12_image 0 = .ok (.aload_n 0, 1) := by decide +kernel
theorem dX12_image_1 : decode cX12_image 1 = .ok (.iconst 0, 1) := by decide +kernel
theorem dX12_image_2 : decode cX12_image 2 = .ok (.putfield 73, 3) := by decide +kernel
theorem dX12_image_5 : decode cX12_image 5 = .ok (.iload_n 1, 1) := by decide +kernel
theorem dX12_image_6 : decode cX12_image 6 = .ok (.iconst 0, 1) := by decide +kernel
theorem dX12_image_7 : decode cX12_image 7 = .ok (.iconst 1, 1) := by decide +kernel
theorem dX12_image_8 : decode cX12_image 8 = .ok (.invokestatic 140, 3) := by decide +kernel
theorem dX12_image_11 : decode cX12_image 11 = .ok (.ifCond .ne 5, 3) := by decide +kernel
theorem dX12_image_14 : decode cX12_image 14 = .ok (.iconst 0, 1) := by decide +kernel
theorem dX12_image_15 : decode cX12_image 15 = .ok (.ireturn, 1) := by decide +kernel
theorem dX12_image_16 : decode cX12_image 16 = .ok (.iconst 0, 1) := by decide +kernel
theorem dX12_image_17 : decode cX12_image 17 = .ok (.istore_n 2, 1) := by decide +kernel
theorem dX12_image_18 : decode cX12_image 18 = .ok (.iload_n 2, 1) := by decide +kernel
theorem dX12_image_19 : decode cX12_image 19 = .ok (.sipush 379, 3) := by decide +kernel
theorem dX12_image_22 : decode cX12_image 22 = .ok (.if_icmp .ge 27, 3) := by decide +kernel
theorem dX12_image_25 : decode cX12_image 25 = .ok (.aload_n 0, 1) := by decide +kernel
theorem dX12_image_26 : decode cX12_image 26 = .ok (.getfield 19, 3) := by decide +kernel
theorem dX12_image_29 : decode cX12_image 29 = .ok (.sipush 379, 3) := by decide +kernel
theorem dX12_image_32 : decode cX12_image 32 = .ok (.iload_n 1, 1) := by decide +kernel
theorem dX12_image_33 : decode cX12_image 33 = .ok (.imul, 1) := by decide +kernel
theorem dX12_image_34 : decode cX12_image 34 = .ok (.iload_n 2, 1) := by decide +kernel
theorem dX12_image_35 : decode cX12_image 35 = .ok (.iadd, 1) := by decide +kernel
theorem dX12_image_36 : decode cX12_image 36 = .ok (.aload_n 0, 1) := by decide +kernel
theorem dX12_image_37 : decode cX12_image 37 = .ok (.getfield 13, 3) := by decide +kernel
theorem dX12_image_40 : decode cX12_image 40 = .ok (.iload_n 2, 1) := by decide +kernel
theorem dX12_image_41 : decode cX12_image 41 = .ok (.iaload, 1) := by decide +kernel
theorem dX12_image_42 : decode cX12_image 42 = .ok (.iastore, 1) := by decide +kernel
theorem dX12_image_43 : decode cX12_image 43 = .ok (.iinc 2 1, 3) := by decide +kernel
theorem dX12_image_46 : decode cX12_image 46 = .ok (.goto (-28), 3) := by decide +kernel
theorem dX12_image_49 : decode cX12_image 49 = .ok (.iconst 0, 1) := by decide +kernel
theorem dX12_image_50 : decode cX12_image 50 = .ok (.istore_n 2, 1) := by decide +kernel
theorem dX12_image_51 : decode cX12_image 51 = .ok (.iload_n 2, 1) := by decide +kernel
theorem dX12_image_52 : decode cX12_image 52 = .ok (.bipush 14, 2) := by decide +kernel
theorem dX12_image_54 : decode cX12_image 54 = .ok (.if_icmp .ge 26, 3) := by decide +kernel
theorem dX12_image_57 : decode cX12_image 57 = .ok (.aload_n 0, 1) := by decide +kernel
theorem dX12_image_58 : decode cX12_image 58 = .ok (.getfield 35, 3) := by decide +kernel
theorem dX12_image_61 : decode cX12_image 61 = .ok (.bipush 14, 2) := by decide +kernel
theorem dX12_image_63 : decode cX12_image 63 = .ok (.iload_n 1, 1) := by decide +kernel
theorem dX12_image_64 : decode cX12_image 64 = .ok (.imul, 1) := by decide +kernel
theorem dX12_image_65 : decode cX12_image 65 = .ok (.iload_n 2, 1) := by decide +kernel
theorem dX12_image_66 : decode cX12_image 66 = .ok (.iadd, 1) := by decide +kernel
theorem dX12_image_67 : decode cX12_image 67 = .ok (.aload_n 0, 1) := by decide +kernel
theorem dX12_image_68 : decode cX12_image 68 = .ok (.getfield 28, 3) := by decide +kernel
theorem dX12_image_71 : decode cX12_image 71 = .ok (.iload_n 2, 1) := by decide +kernel
theorem dX12_image_72 : decode cX12_image 72 = .ok (.laload, 1) := by decide +kernel
theorem dX12_image_73 : decode cX12_image 73 = .ok (.lastore, 1) := by decide +kernel
theorem dX12_image_74 : decode cX12_image 74 = .ok (.iinc 2 1, 3) := by decide +kernel
theorem dX12_image_77 : decode cX12_image 77 = .ok (.goto (-26), 3) := by decide +kernel
theorem dX12_image_80 : decode cX12_image 80 = .ok (.aload_n 0, 1) := by decide +kernel
theorem dX12_image_81 : decode cX12_image 81 = .ok (.getfield 38, 3) := by decide +kernel
theorem dX12_image_84 : decode cX12_image 84 = .ok (.iload_n 1, 1) := by decide +kernel
theorem dX12_image_85 : decode cX12_image 85 = .ok (.iconst 1, 1) := by decide +kernel
theorem dX12_image_86 : decode cX12_image 86 = .ok (.bastore, 1) := by decide +kernel
theorem dX12_image_87 : decode cX12_image 87 = .ok (.iconst 1, 1) := by decide +kernel
theorem dX12_image_88 : decode cX12_image 88 = .ok (.ireturn, 1) := by decide +kernel
theorem dX12_restore_0 : decode cX12_restore 0 = .ok (.aload_n 0, 1) := by decide +kernel
theorem dX12_restore_1 : decode cX12_restore 1 = .ok (.iconst 0, 1) := by decide +kernel
theorem dX12_restore_2 : decode cX12_restore 2 = .ok (.putfield 73, 3) := by decide +kernel
theorem dX12_restore_5 : decode cX12_restore 5 = .ok (.iload_n 1, 1) := by decide +kernel
theorem dX12_restore_6 : decode cX12_restore 6 = .ok (.iconst 0, 1) := by decide +kernel
theorem dX12_restore_7 : decode cX12_restore 7 = .ok (.iconst 1, 1) := by decide +kernel
theorem dX12_restore_8 : decode cX12_restore 8 = .ok (.invokestatic 140, 3) := by decide +kernel
theorem dX12_restore_11 : decode cX12_restore 11 = .ok (.ifCond .eq 12, 3) := by decide +kernel
theorem dX12_restore_14 : decode cX12_restore 14 = .ok (.aload_n 0, 1) := by decide +kernel
theorem dX12_restore_15 : decode cX12_restore 15 = .ok (.getfield 38, 3) := by decide +kernel
theorem dX12_restore_18 : decode cX12_restore 18 = .ok (.iload_n 1, 1) := by decide +kernel
theorem dX12_restore_19 : decode cX12_restore 19 = .ok (.baload, 1) := by decide +kernel
theorem dX12_restore_20 : decode cX12_restore 20 = .ok (.ifCond .ne 5, 3) := by decide +kernel
theorem dX12_restore_23 : decode cX12_restore 23 = .ok (.iconst 0, 1) := by decide +kernel
theorem dX12_restore_24 : decode cX12_restore 24 = .ok (.ireturn, 1) := by decide +kernel
theorem dX12_restore_25 : decode cX12_restore 25 = .ok (.iconst 0, 1) := by decide +kernel
theorem dX12_restore_26 : decode cX12_restore 26 = .ok (.istore_n 2, 1) := by decide +kernel
theorem dX12_restore_27 : decode cX12_restore 27 = .ok (.iload_n 2, 1) := by decide +kernel
theorem dX12_restore_28 : decode cX12_restore 28 = .ok (.sipush 379, 3) := by decide +kernel
theorem dX12_restore_31 : decode cX12_restore 31 = .ok (.if_icmp .ge 27, 3) := by decide +kernel
theorem dX12_restore_34 : decode cX12_restore 34 = .ok (.aload_n 0, 1) := by decide +kernel
theorem dX12_restore_35 : decode cX12_restore 35 = .ok (.getfield 13, 3) := by decide +kernel
theorem dX12_restore_38 : decode cX12_restore 38 = .ok (.iload_n 2, 1) := by decide +kernel
theorem dX12_restore_39 : decode cX12_restore 39 = .ok (.aload_n 0, 1) := by decide +kernel
theorem dX12_restore_40 : decode cX12_restore 40 = .ok (.getfield 19, 3) := by decide +kernel
theorem dX12_restore_43 : decode cX12_restore 43 = .ok (.sipush 379, 3) := by decide +kernel
theorem dX12_restore_46 : decode cX12_restore 46 = .ok (.iload_n 1, 1) := by decide +kernel
theorem dX12_restore_47 : decode cX12_restore 47 = .ok (.imul, 1) := by decide +kernel
theorem dX12_restore_48 : decode cX12_restore 48 = .ok (.iload_n 2, 1) := by decide +kernel
theorem dX12_restore_49 : decode cX12_restore 49 = .ok (.iadd, 1) := by decide +kernel
theorem dX12_restore_50 : decode cX12_restore 50 = .ok (.iaload, 1) := by decide +kernel
theorem dX12_restore_51 : decode cX12_restore 51 = .ok (.iastore, 1) := by decide +kernel
theorem dX12_restore_52 : decode cX12_restore 52 = .ok (.iinc 2 1, 3) := by decide +kernel
theorem dX12_restore_55 : decode cX12_restore 55 = .ok (.goto (-28), 3) := by decide +kernel
theorem dX12_restore_58 : decode cX12_restore 58 = .ok (.iconst 0, 1) := by decide +kernel
theorem dX12_restore_59 : decode cX12_restore 59 = .ok (.istore_n 2, 1) := by decide +kernel
theorem dX12_restore_60 : decode cX12_restore 60 = .ok (.iload_n 2, 1) := by decide +kernel
theorem dX12_restore_61 : decode cX12_restore 61 = .ok (.bipush 14, 2) := by decide +kernel
theorem dX12_restore_63 : decode cX12_restore 63 = .ok (.if_icmp .ge 26, 3) := by decide +kernel
theorem dX12_restore_66 : decode cX12_restore 66 = .ok (.aload_n 0, 1) := by decide +kernel
theorem dX12_restore_67 : decode cX12_restore 67 = .ok (.getfield 28, 3) := by decide +kernel
theorem dX12_restore_70 : decode cX12_restore 70 = .ok (.iload_n 2, 1) := by decide +kernel
theorem dX12_restore_71 : decode cX12_restore 71 = .ok (.aload_n 0, 1) := by decide +kernel
theorem dX12_restore_72 : decode cX12_restore 72 = .ok (.getfield 35, 3) := by decide +kernel
theorem dX12_restore_75 : decode cX12_restore 75 = .ok (.bipush 14, 2) := by decide +kernel
theorem dX12_restore_77 : decode cX12_restore 77 = .ok (.iload_n 1, 1) := by decide +kernel
theorem dX12_restore_78 : decode cX12_restore 78 = .ok (.imul, 1) := by decide +kernel
theorem dX12_restore_79 : decode cX12_restore 79 = .ok (.iload_n 2, 1) := by decide +kernel
theorem dX12_restore_80 : decode cX12_restore 80 = .ok (.iadd, 1) := by decide +kernel
theorem dX12_restore_81 : decode cX12_restore 81 = .ok (.laload, 1) := by decide +kernel
theorem dX12_restore_82 : decode cX12_restore 82 = .ok (.lastore, 1) := by decide +kernel
theorem dX12_restore_83 : decode cX12_restore 83 = .ok (.iinc 2 1, 3) := by decide +kernel
theorem dX12_restore_86 : decode cX12_restore 86 = .ok (.goto (-26), 3) := by decide +kernel
theorem dX12_restore_89 : decode cX12_restore 89 = .ok (.aload_n 0, 1) := by decide +kernel
theorem dX12_restore_90 : decode cX12_restore 90 = .ok (.iconst 0, 1) := by decide +kernel
theorem dX12_restore_91 : decode cX12_restore 91 = .ok (.putfield 206, 3) := by decide +kernel
theorem dX12_restore_94 : decode cX12_restore 94 = .ok (.iconst 1, 1) := by decide +kernel
theorem dX12_restore_95 : decode cX12_restore 95 = .ok (.ireturn, 1) := by decide +kernel
theorem dX12_count_0 : decode cX12_count 0 = .ok (.aload_n 0, 1) := by decide +kernel
theorem dX12_count_1 : decode cX12_count 1 = .ok (.iconst 0, 1) := by decide +kernel
theorem dX12_count_2 : decode cX12_count 2 = .ok (.putfield 73, 3) := by decide +kernel
theorem dX12_count_5 : decode cX12_count 5 = .ok (.iload_n 1, 1) := by decide +kernel
theorem dX12_count_6 : decode cX12_count 6 = .ok (.tableswitch 56 0 3 #[30, 37, 44, 51], 30) := by decide +kernel
theorem dX12_count_36 : decode cX12_count 36 = .ok (.aload_n 0, 1) := by decide +kernel
theorem dX12_count_37 : decode cX12_count 37 = .ok (.getfield 13, 3) := by decide +kernel
theorem dX12_count_40 : decode cX12_count 40 = .ok (.iconst 0, 1) := by decide +kernel
theorem dX12_count_41 : decode cX12_count 41 = .ok (.iaload, 1) := by decide +kernel
theorem dX12_count_42 : decode cX12_count 42 = .ok (.ireturn, 1) := by decide +kernel
theorem dX12_count_43 : decode cX12_count 43 = .ok (.aload_n 0, 1) := by decide +kernel
theorem dX12_count_44 : decode cX12_count 44 = .ok (.getfield 13, 3) := by decide +kernel
theorem dX12_count_47 : decode cX12_count 47 = .ok (.iconst 1, 1) := by decide +kernel
theorem dX12_count_48 : decode cX12_count 48 = .ok (.iaload, 1) := by decide +kernel
theorem dX12_count_49 : decode cX12_count 49 = .ok (.ireturn, 1) := by decide +kernel
theorem dX12_count_50 : decode cX12_count 50 = .ok (.aload_n 0, 1) := by decide +kernel
theorem dX12_count_51 : decode cX12_count 51 = .ok (.getfield 13, 3) := by decide +kernel
theorem dX12_count_54 : decode cX12_count 54 = .ok (.iconst 2, 1) := by decide +kernel
theorem dX12_count_55 : decode cX12_count 55 = .ok (.iaload, 1) := by decide +kernel
theorem dX12_count_56 : decode cX12_count 56 = .ok (.ireturn, 1) := by decide +kernel
theorem dX12_count_57 : decode cX12_count 57 = .ok (.aload_n 0, 1) := by decide +kernel
theorem dX12_count_58 : decode cX12_count 58 = .ok (.getfield 76, 3) := by decide +kernel
theorem dX12_count_61 : decode cX12_count 61 = .ok (.ireturn, 1) := by decide +kernel
theorem dX12_count_62 : decode cX12_count 62 = .ok (.iconst (-1), 1) := by decide +kernel
theorem dX12_count_63 : decode cX12_count 63 = .ok (.ireturn, 1) := by decide +kernel
theorem dL_thing_0 : decode cL_thing 0 = .ok (.aload_n 3, 1) := by decide +kernel
theorem dL_thing_1 : decode cL_thing 1 = .ok (.iconst 0, 1) := by decide +kernel
theorem dL_thing_2 : decode cL_thing 2 = .ok (.aload_n 0, 1) := by decide +kernel
theorem dL_thing_3 : decode cL_thing 3 = .ok (.iload_n 1, 1) := by decide +kernel
theorem dL_thing_4 : decode cL_thing 4 = .ok (.iload_n 2, 1) := by decide +kernel
theorem dL_thing_5 : decode cL_thing 5 = .ok (.invokevirtual 7, 3) := by decide +kernel
theorem dL_thing_8 : decode cL_thing 8 = .ok (.i2l, 1) := by decide +kernel
theorem dL_thing_9 : decode cL_thing 9 = .ok (.lastore, 1) := by decide +kernel
theorem dL_thing_10 : decode cL_thing 10 = .ok (.goto 7, 3) := by decide +kernel
theorem dL_thing_13 : decode cL_thing 13 = .ok (.astore 4, 2) := by decide +kernel
theorem dL_thing_15 : decode cL_thing 15 = .ok (.iconst 1, 1) := by decide +kernel
theorem dL_thing_16 : decode cL_thing 16 = .ok (.ireturn, 1) := by decide +kernel
theorem dL_thing_17 : decode cL_thing 17 = .ok (.iconst 0, 1) := by decide +kernel
theorem dL_thing_18 : decode cL_thing 18 = .ok (.ireturn, 1) := by decide +kernel
theorem dL_trouble_0 : decode cL_trouble 0 = .ok (.aload_n 3, 1) := by decide +kernel
theorem dL_trouble_1 : decode cL_trouble 1 = .ok (.iconst 0, 1) := by decide +kernel
theorem dL_trouble_2 : decode cL_trouble 2 = .ok (.aload_n 0, 1) := by decide +kernel
theorem dL_trouble_3 : decode cL_trouble 3 = .ok (.iload_n 1, 1) := by decide +kernel
theorem dL_trouble_4 : decode cL_trouble 4 = .ok (.iload_n 2, 1) := by decide +kernel
theorem dL_trouble_5 : decode cL_trouble 5 = .ok (.invokevirtual 15, 3) := by decide +kernel
theorem dL_trouble_8 : decode cL_trouble 8 = .ok (.i2l, 1) := by decide +kernel
theorem dL_trouble_9 : decode cL_trouble 9 = .ok (.lastore, 1) := by decide +kernel
theorem dL_trouble_10 : decode cL_trouble 10 = .ok (.goto 7, 3) := by decide +kernel
theorem dL_trouble_13 : decode cL_trouble 13 = .ok (.astore 4, 2) := by decide +kernel
theorem dL_trouble_15 : decode cL_trouble 15 = .ok (.iconst 1, 1) := by decide +kernel
theorem dL_trouble_16 : decode cL_trouble 16 = .ok (.ireturn, 1) := by decide +kernel
theorem dL_trouble_17 : decode cL_trouble 17 = .ok (.iconst 0, 1) := by decide +kernel
theorem dL_trouble_18 : decode cL_trouble 18 = .ok (.ireturn, 1) := by decide +kernel
theorem dL_likely_0 : decode cL_likely 0 = .ok (.aload_n 3, 1) := by decide +kernel
theorem dL_likely_1 : decode cL_likely 1 = .ok (.iconst 0, 1) := by decide +kernel
theorem dL_likely_2 : decode cL_likely 2 = .ok (.aload_n 0, 1) := by decide +kernel
theorem dL_likely_3 : decode cL_likely 3 = .ok (.iload_n 1, 1) := by decide +kernel
theorem dL_likely_4 : decode cL_likely 4 = .ok (.iload_n 2, 1) := by decide +kernel
theorem dL_likely_5 : decode cL_likely 5 = .ok (.invokevirtual 18, 3) := by decide +kernel
theorem dL_likely_8 : decode cL_likely 8 = .ok (.i2l, 1) := by decide +kernel
theorem dL_likely_9 : decode cL_likely 9 = .ok (.lastore, 1) := by decide +kernel
theorem dL_likely_10 : decode cL_likely 10 = .ok (.goto 7, 3) := by decide +kernel
theorem dL_likely_13 : decode cL_likely 13 = .ok (.astore 4, 2) := by decide +kernel
theorem dL_likely_15 : decode cL_likely 15 = .ok (.iconst 1, 1) := by decide +kernel
theorem dL_likely_16 : decode cL_likely 16 = .ok (.ireturn, 1) := by decide +kernel
theorem dL_likely_17 : decode cL_likely 17 = .ok (.iconst 0, 1) := by decide +kernel
theorem dL_likely_18 : decode cL_likely 18 = .ok (.ireturn, 1) := by decide +kernel
theorem dL_plan_0 : decode cL_plan 0 = .ok (.aload 4, 2) := by decide +kernel
theorem dL_plan_2 : decode cL_plan 2 = .ok (.iconst 0, 1) := by decide +kernel
theorem dL_plan_3 : decode cL_plan 3 = .ok (.aload_n 0, 1) := by decide +kernel
theorem dL_plan_4 : decode cL_plan 4 = .ok (.iload_n 1, 1) := by decide +kernel
theorem dL_plan_5 : decode cL_plan 5 = .ok (.iload_n 2, 1) := by decide +kernel
theorem dL_plan_6 : decode cL_plan 6 = .ok (.iload_n 3, 1) := by decide +kernel
end
section
theorem dL_plan_7 : decode cL_plan 7 = .ok (.invokevirtual 21, 3) := by decide +kernel
theorem dL_plan_10 : decode cL_plan 10 = .ok (.i2l, 1) := by decide +kernel
theorem dL_plan_11 : decode cL_plan 11 = .ok (.lastore, 1) := by decide +kernel
theorem dL_plan_12 : decode cL_plan 12 = .ok (.goto 7, 3) := by decide +kernel
theorem dL_plan_15 : decode cL_plan 15 = .ok (.astore 5, 2) := by decide +kernel
theorem dL_plan_17 : decode cL_plan 17 = .ok (.iconst 1, 1) := by decide +kernel
theorem dL_plan_18 : decode cL_plan 18 = .ok (.ireturn, 1) := by decide +kernel
theorem dL_plan_19 : decode cL_plan 19 = .ok (.iconst 0, 1) := by decide +kernel
theorem dL_plan_20 : decode cL_plan 20 = .ok (.ireturn, 1) := by decide +kernel
theorem dL_helped_0 : decode cL_helped 0 = .ok (.aload_n 1, 1) := by decide +kernel
theorem dL_helped_1 : decode cL_helped 1 = .ok (.iconst 0, 1) := by decide +kernel
theorem dL_helped_2 : decode cL_helped 2 = .ok (.aload_n 0, 1) := by decide +kernel
theorem dL_helped_3 : decode cL_helped 3 = .ok (.invokevirtual 25, 3) := by decide +kernel
theorem dL_helped_6 : decode cL_helped 6 = .ok (.i2l, 1) := by decide +kernel
theorem dL_helped_7 : decode cL_helped 7 = .ok (.lastore, 1) := by decide +kernel
theorem dL_helped_8 : decode cL_helped 8 = .ok (.goto 6, 3) := by decide +kernel
theorem dL_helped_11 : decode cL_helped 11 = .ok (.astore_n 2, 1) := by decide +kernel
theorem dL_helped_12 : decode cL_helped 12 = .ok (.iconst 1, 1) := by decide +kernel
theorem dL_helped_13 : decode cL_helped 13 = .ok (.ireturn, 1) := by decide +kernel
theorem dL_helped_14 : decode cL_helped 14 = .ok (.iconst 0, 1) := by decide +kernel
theorem dL_helped_15 : decode cL_helped 15 = .ok (.ireturn, 1) := by decide +kernel
theorem dL_law_0 : decode cL_law 0 = .ok (.new 8, 3) := by decide +kernel
theorem dL_law_3 : decode cL_law 3 = .ok (.dup, 1) := by decide +kernel
theorem dL_law_4 : decode cL_law 4 = .ok (.invokespecial 29, 3) := by decide +kernel
theorem dL_law_7 : decode cL_law 7 = .ok (.astore_n 1, 1) := by decide +kernel
theorem dL_law_8 : decode cL_law 8 = .ok (.new 30, 3) := by decide +kernel
theorem dL_law_11 : decode cL_law 11 = .ok (.dup, 1) := by decide +kernel
theorem dL_law_12 : decode cL_law 12 = .ok (.invokespecial 32, 3) := by decide +kernel
theorem dL_law_15 : decode cL_law 15 = .ok (.astore_n 2, 1) := by decide +kernel
theorem dL_law_16 : decode cL_law 16 = .ok (.iconst 1, 1) := by decide +kernel
theorem dL_law_17 : decode cL_law 17 = .ok (.newarray .long, 2) := by decide +kernel
theorem dL_law_19 : decode cL_law 19 = .ok (.astore_n 3, 1) := by decide +kernel
theorem dL_law_20 : decode cL_law 20 = .ok (.iconst 0, 1) := by decide +kernel
theorem dL_law_21 : decode cL_law 21 = .ok (.istore 4, 2) := by decide +kernel
theorem dL_law_23 : decode cL_law 23 = .ok (.iload 4, 2) := by decide +kernel
theorem dL_law_25 : decode cL_law 25 = .ok (.aload_n 0, 1) := by decide +kernel
theorem dL_law_26 : decode cL_law 26 = .ok (.arraylength, 1) := by decide +kernel
theorem dL_law_27 : decode cL_law 27 = .ok (.bipush 6, 2) := by decide +kernel
theorem dL_law_29 : decode cL_law 29 = .ok (.isub, 1) := by decide +kernel
theorem dL_law_30 : decode cL_law 30 = .ok (.if_icmp .gt 1460, 3) := by decide +kernel
theorem dL_law_33 : decode cL_law 33 = .ok (.aload_n 0, 1) := by decide +kernel
theorem dL_law_34 : decode cL_law 34 = .ok (.iload 4, 2) := by decide +kernel
theorem dL_law_36 : decode cL_law 36 = .ok (.iaload, 1) := by decide +kernel
theorem dL_law_37 : decode cL_law 37 = .ok (.bipush 63, 2) := by decide +kernel
theorem dL_law_39 : decode cL_law 39 = .ok (.iand, 1) := by decide +kernel
theorem dL_law_40 : decode cL_law 40 = .ok (.tableswitch 1444 0 40 #[180, 253, 278, 291, 304, 372, 440, 477, 502, 527, 564, 601, 638, 663, 688, 701, 714, 782, 862, 887, 912, 937, 981, 994, 1019, 1032, 1057, 1070, 1095, 1120, 1145, 1170, 1195, 1232, 1281, 1306, 1331, 1344, 1369, 1394, 1419], 180) := by decide +kernel
theorem dL_law_220 : decode cL_law 220 = .ok (.aload_n 1, 1) := by decide +kernel
theorem dL_law_221 : decode cL_law 221 = .ok (.aload_n 0, 1) := by decide +kernel
theorem dL_law_222 : decode cL_law 222 = .ok (.iload 4, 2) := by decide +kernel
theorem dL_law_224 : decode cL_law 224 = .ok (.iconst 1, 1) := by decide +kernel
theorem dL_law_225 : decode cL_law 225 = .ok (.iadd, 1) := by decide +kernel
theorem dL_law_226 : decode cL_law 226 = .ok (.iaload, 1) := by decide +kernel
theorem dL_law_227 : decode cL_law 227 = .ok (.aload_n 0, 1) := by decide +kernel
theorem dL_law_228 : decode cL_law 228 = .ok (.iload 4, 2) := by decide +kernel
theorem dL_law_230 : decode cL_law 230 = .ok (.iconst 2, 1) := by decide +kernel
theorem dL_law_231 : decode cL_law 231 = .ok (.iadd, 1) := by decide +kernel
theorem dL_law_232 : decode cL_law 232 = .ok (.iaload, 1) := by decide +kernel
theorem dL_law_233 : decode cL_law 233 = .ok (.aload_n 0, 1) := by decide +kernel
theorem dL_law_234 : decode cL_law 234 = .ok (.iload 4, 2) := by decide +kernel
theorem dL_law_236 : decode cL_law 236 = .ok (.iconst 3, 1) := by decide +kernel
theorem dL_law_237 : decode cL_law 237 = .ok (.iadd, 1) := by decide +kernel
theorem dL_law_238 : decode cL_law 238 = .ok (.iaload, 1) := by decide +kernel
theorem dL_law_239 : decode cL_law 239 = .ok (.aload_n 0, 1) := by decide +kernel
theorem dL_law_240 : decode cL_law 240 = .ok (.iload 4, 2) := by decide +kernel
theorem dL_law_242 : decode cL_law 242 = .ok (.iconst 4, 1) := by decide +kernel
theorem dL_law_243 : decode cL_law 243 = .ok (.iadd, 1) := by decide +kernel
theorem dL_law_244 : decode cL_law 244 = .ok (.iaload, 1) := by decide +kernel
theorem dL_law_245 : decode cL_law 245 = .ok (.aload_n 0, 1) := by decide +kernel
theorem dL_law_246 : decode cL_law 246 = .ok (.iload 4, 2) := by decide +kernel
theorem dL_law_248 : decode cL_law 248 = .ok (.iconst 5, 1) := by decide +kernel
theorem dL_law_249 : decode cL_law 249 = .ok (.iadd, 1) := by decide +kernel
theorem dL_law_250 : decode cL_law 250 = .ok (.iaload, 1) := by decide +kernel
theorem dL_law_251 : decode cL_law 251 = .ok (.invokevirtual 33, 3) := by decide +kernel
theorem dL_law_254 : decode cL_law 254 = .ok (.aload_n 2, 1) := by decide +kernel
theorem dL_law_255 : decode cL_law 255 = .ok (.aload_n 0, 1) := by decide +kernel
theorem dL_law_256 : decode cL_law 256 = .ok (.iload 4, 2) := by decide +kernel
theorem dL_law_258 : decode cL_law 258 = .ok (.iconst 1, 1) := by decide +kernel
theorem dL_law_259 : decode cL_law 259 = .ok (.iadd, 1) := by decide +kernel
theorem dL_law_260 : decode cL_law 260 = .ok (.iaload, 1) := by decide +kernel
theorem dL_law_261 : decode cL_law 261 = .ok (.aload_n 0, 1) := by decide +kernel
theorem dL_law_262 : decode cL_law 262 = .ok (.iload 4, 2) := by decide +kernel
theorem dL_law_264 : decode cL_law 264 = .ok (.iconst 2, 1) := by decide +kernel
theorem dL_law_265 : decode cL_law 265 = .ok (.iadd, 1) := by decide +kernel
theorem dL_law_266 : decode cL_law 266 = .ok (.iaload, 1) := by decide +kernel
theorem dL_law_267 : decode cL_law 267 = .ok (.aload_n 0, 1) := by decide +kernel
theorem dL_law_268 : decode cL_law 268 = .ok (.iload 4, 2) := by decide +kernel
theorem dL_law_270 : decode cL_law 270 = .ok (.iconst 3, 1) := by decide +kernel
theorem dL_law_271 : decode cL_law 271 = .ok (.iadd, 1) := by decide +kernel
theorem dL_law_272 : decode cL_law 272 = .ok (.iaload, 1) := by decide +kernel
theorem dL_law_273 : decode cL_law 273 = .ok (.aload_n 0, 1) := by decide +kernel
theorem dL_law_274 : decode cL_law 274 = .ok (.iload 4, 2) := by decide +kernel
theorem dL_law_276 : decode cL_law 276 = .ok (.iconst 4, 1) := by decide +kernel
theorem dL_law_277 : decode cL_law 277 = .ok (.iadd, 1) := by decide +kernel
theorem dL_law_278 : decode cL_law 278 = .ok (.iaload, 1) := by decide +kernel
theorem dL_law_279 : decode cL_law 279 = .ok (.aload_n 0, 1) := by decide +kernel
theorem dL_law_280 : decode cL_law 280 = .ok (.iload 4, 2) := by decide +kernel
theorem dL_law_282 : decode cL_law 282 = .ok (.iconst 5, 1) := by decide +kernel
theorem dL_law_283 : decode cL_law 283 = .ok (.iadd, 1) := by decide +kernel
theorem dL_law_284 : decode cL_law 284 = .ok (.iaload, 1) := by decide +kernel
theorem dL_law_285 : decode cL_law 285 = .ok (.invokevirtual 37, 3) := by decide +kernel
theorem dL_law_288 : decode cL_law 288 = .ok (.if_icmp .eq 1196, 3) := by decide +kernel
theorem dL_law_293 : decode cL_law 293 = .ok (.aload_n 1, 1) := by decide +kernel
theorem dL_law_294 : decode cL_law 294 = .ok (.aload_n 0, 1) := by decide +kernel
theorem dL_law_295 : decode cL_law 295 = .ok (.iload 4, 2) := by decide +kernel
theorem dL_law_297 : decode cL_law 297 = .ok (.iconst 1, 1) := by decide +kernel
theorem dL_law_298 : decode cL_law 298 = .ok (.iadd, 1) := by decide +kernel
theorem dL_law_299 : decode cL_law 299 = .ok (.iaload, 1) := by decide +kernel
theorem dL_law_300 : decode cL_law 300 = .ok (.invokevirtual 38, 3) := by decide +kernel
theorem dL_law_303 : decode cL_law 303 = .ok (.aload_n 2, 1) := by decide +kernel
theorem dL_law_304 : decode cL_law 304 = .ok (.aload_n 0, 1) := by decide +kernel
theorem dL_law_305 : decode cL_law 305 = .ok (.iload 4, 2) := by decide +kernel
theorem dL_law_307 : decode cL_law 307 = .ok (.iconst 1, 1) := by decide +kernel
theorem dL_law_308 : decode cL_law 308 = .ok (.iadd, 1) := by decide +kernel
theorem dL_law_309 : decode cL_law 309 = .ok (.iaload, 1) := by decide +kernel
theorem dL_law_310 : decode cL_law 310 = .ok (.invokevirtual 42, 3) := by decide +kernel
theorem dL_law_313 : decode cL_law 313 = .ok (.if_icmp .eq 1171, 3) := by decide +kernel
theorem dL_law_318 : decode cL_law 318 = .ok (.aload_n 1, 1) := by decide +kernel
theorem dL_law_319 : decode cL_law 319 = .ok (.invokevirtual 43, 3) := by decide +kernel
theorem dL_law_322 : decode cL_law 322 = .ok (.aload_n 2, 1) := by decide +kernel
theorem dL_law_323 : decode cL_law 323 = .ok (.invokevirtual 46, 3) := by decide +kernel
theorem dL_law_326 : decode cL_law 326 = .ok (.if_icmp .eq 1158, 3) := by decide +kernel
theorem dL_law_331 : decode cL_law 331 = .ok (.aload_n 1, 1) := by decide +kernel
theorem dL_law_332 : decode cL_law 332 = .ok (.invokevirtual 47, 3) := by decide +kernel
theorem dL_law_335 : decode cL_law 335 = .ok (.aload_n 2, 1) := by decide +kernel
theorem dL_law_336 : decode cL_law 336 = .ok (.invokevirtual 50, 3) := by decide +kernel
theorem dL_law_339 : decode cL_law 339 = .ok (.if_icmp .eq 1145, 3) := by decide +kernel
theorem dL_law_344 : decode cL_law 344 = .ok (.aload_n 1, 1) := by decide +kernel
theorem dL_law_345 : decode cL_law 345 = .ok (.aload_n 0, 1) := by decide +kernel
theorem dL_law_346 : decode cL_law 346 = .ok (.iload 4, 2) := by decide +kernel
theorem dL_law_348 : decode cL_law 348 = .ok (.iconst 1, 1) := by decide +kernel
theorem dL_law_349 : decode cL_law 349 = .ok (.iadd, 1) := by decide +kernel
theorem dL_law_350 : decode cL_law 350 = .ok (.iaload, 1) := by decide +kernel
theorem dL_law_351 : decode cL_law 351 = .ok (.aload_n 0, 1) := by decide +kernel
theorem dL_law_352 : decode cL_law 352 = .ok (.iload 4, 2) := by decide +kernel
theorem dL_law_354 : decode cL_law 354 = .ok (.iconst 2, 1) := by decide +kernel
theorem dL_law_355 : decode cL_law 355 = .ok (.iadd, 1) := by decide +kernel
theorem dL_law_356 : decode cL_law 356 = .ok (.iaload, 1) := by decide +kernel
theorem dL_law_357 : decode cL_law 357 = .ok (.aload_n 3, 1) := by decide +kernel
theorem dL_law_358 : decode cL_law 358 = .ok (.invokestatic 51, 3) := by decide +kernel
theorem dL_law_361 : decode cL_law 361 = .ok (.istore 5, 2) := by decide +kernel
theorem dL_law_363 : decode cL_law 363 = .ok (.aload_n 2, 1) := by decide +kernel
theorem dL_law_364 : decode cL_law 364 = .ok (.aload_n 0, 1) := by decide +kernel
theorem dL_law_365 : decode cL_law 365 = .ok (.iload 4, 2) := by decide +kernel
theorem dL_law_367 : decode cL_law 367 = .ok (.iconst 1, 1) := by decide +kernel
theorem dL_law_368 : decode cL_law 368 = .ok (.iadd, 1) := by decide +kernel
theorem dL_law_369 : decode cL_law 369 = .ok (.iaload, 1) := by decide +kernel
theorem dL_law_370 : decode cL_law 370 = .ok (.aload_n 0, 1) := by decide +kernel
theorem dL_law_371 : decode cL_law 371 = .ok (.iload 4, 2) := by decide +kernel
theorem dL_law_373 : decode cL_law 373 = .ok (.iconst 2, 1) := by decide +kernel
theorem dL_law_374 : decode cL_law 374 = .ok (.iadd, 1) := by decide +kernel
theorem dL_law_375 : decode cL_law 375 = .ok (.iaload, 1) := by decide +kernel
theorem dL_law_376 : decode cL_law 376 = .ok (.invokevirtual 56, 3) := by decide +kernel
theorem dL_law_379 : decode cL_law 379 = .ok (.istore 6, 2) := by decide +kernel
theorem dL_law_381 : decode cL_law 381 = .ok (.aload_n 2, 1) := by decide +kernel
theorem dL_law_382 : decode cL_law 382 = .ok (.invokevirtual 57, 3) := by decide +kernel
theorem dL_law_385 : decode cL_law 385 = .ok (.iload 5, 2) := by decide +kernel
theorem dL_law_387 : decode cL_law 387 = .ok (.if_icmp .eq 5, 3) := by decide +kernel
theorem dL_law_392 : decode cL_law 392 = .ok (.iload 5, 2) := by decide +kernel
theorem dL_law_394 : decode cL_law 394 = .ok (.ifCond .ne 15, 3) := by decide +kernel
theorem dL_law_409 : decode cL_law 409 = .ok (.goto 1075, 3) := by decide +kernel
theorem dL_law_412 : decode cL_law 412 = .ok (.aload_n 1, 1) := by decide +kernel
theorem dL_law_413 : decode cL_law 413 = .ok (.aload_n 0, 1) := by decide +kernel
theorem dL_law_414 : decode cL_law 414 = .ok (.iload 4, 2) := by decide +kernel
theorem dL_law_416 : decode cL_law 416 = .ok (.iconst 1, 1) := by decide +kernel
theorem dL_law_417 : decode cL_law 417 = .ok (.iadd, 1) := by decide +kernel
theorem dL_law_418 : decode cL_law 418 = .ok (.iaload, 1) := by decide +kernel
theorem dL_law_419 : decode cL_law 419 = .ok (.aload_n 0, 1) := by decide +kernel
theorem dL_law_420 : decode cL_law 420 = .ok (.iload 4, 2) := by decide +kernel
theorem dL_law_422 : decode cL_law 422 = .ok (.iconst 2, 1) := by decide +kernel
theorem dL_law_423 : decode cL_law 423 = .ok (.iadd, 1) := by decide +kernel
theorem dL_law_424 : decode cL_law 424 = .ok (.iaload, 1) := by decide +kernel
theorem dL_law_425 : decode cL_law 425 = .ok (.aload_n 3, 1) := by decide +kernel
theorem dL_law_426 : decode cL_law 426 = .ok (.invokestatic 60, 3) := by decide +kernel
theorem dL_law_429 : decode cL_law 429 = .ok (.istore 5, 2) := by decide +kernel
theorem dL_law_431 : decode cL_law 431 = .ok (.aload_n 2, 1) := by decide +kernel
theorem dL_law_432 : decode cL_law 432 = .ok (.aload_n 0, 1) := by decide +kernel
theorem dL_law_433 : decode cL_law 433 = .ok (.iload 4, 2) := by decide +kernel
theorem dL_law_435 : decode cL_law 435 = .ok (.iconst 1, 1) := by decide +kernel
theorem dL_law_436 : decode cL_law 436 = .ok (.iadd, 1) := by decide +kernel
theorem dL_law_437 : decode cL_law 437 = .ok (.iaload, 1) := by decide +kernel
theorem dL_law_438 : decode cL_law 438 = .ok (.aload_n 0, 1) := by decide +kernel
theorem dL_law_439 : decode cL_law 439 = .ok (.iload 4, 2) := by decide +kernel
theorem dL_law_441 : decode cL_law 441 = .ok (.iconst 2, 1) := by decide +kernel
theorem dL_law_442 : decode cL_law 442 = .ok (.iadd, 1) := by decide +kernel
theorem dL_law_443 : decode cL_law 443 = .ok (.iaload, 1) := by decide +kernel
theorem dL_law_444 : decode cL_law 444 = .ok (.invokevirtual 62, 3) := by decide +kernel
theorem dL_law_447 : decode cL_law 447 = .ok (.istore 6, 2) := by decide +kernel
theorem dL_law_449 : decode cL_law 449 = .ok (.aload_n 2, 1) := by decide +kernel
theorem dL_law_450 : decode cL_law 450 = .ok (.invokevirtual 57, 3) := by decide +kernel
theorem dL_law_453 : decode cL_law 453 = .ok (.iload 5, 2) := by decide +kernel
theorem dL_law_455 : decode cL_law 455 = .ok (.if_icmp .eq 5, 3) := by decide +kernel
theorem dL_law_460 : decode cL_law 460 = .ok (.iload 5, 2) := by decide +kernel
theorem dL_law_462 : decode cL_law 462 = .ok (.ifCond .ne 15, 3) := by decide +kernel
theorem dL_law_477 : decode cL_law 477 = .ok (.goto 1007, 3) := by decide +kernel
theorem dL_law_480 : decode cL_law 480 = .ok (.aload_n 1, 1) := by decide +kernel
theorem dL_law_481 : decode cL_law 481 = .ok (.aload_n 0, 1) := by decide +kernel
theorem dL_law_482 : decode cL_law 482 = .ok (.iload 4, 2) := by decide +kernel
theorem dL_law_484 : decode cL_law 484 = .ok (.iconst 1, 1) := by decide +kernel
theorem dL_law_485 : decode cL_law 485 = .ok (.iadd, 1) := by decide +kernel
theorem dL_law_486 : decode cL_law 486 = .ok (.iaload, 1) := by decide +kernel
theorem dL_law_487 : decode cL_law 487 = .ok (.aload_n 0, 1) := by decide +kernel
theorem dL_law_488 : decode cL_law 488 = .ok (.iload 4, 2) := by decide +kernel
theorem dL_law_490 : decode cL_law 490 = .ok (.iconst 2, 1) := by decide +kernel
theorem dL_law_491 : decode cL_law 491 = .ok (.iadd, 1) := by decide +kernel
theorem dL_law_492 : decode cL_law 492 = .ok (.iaload, 1) := by decide +kernel
theorem dL_law_493 : decode cL_law 493 = .ok (.invokevirtual 63, 3) := by decide +kernel
theorem dL_law_496 : decode cL_law 496 = .ok (.aload_n 2, 1) := by decide +kernel
theorem dL_law_497 : decode cL_law 497 = .ok (.aload_n 0, 1) := by decide +kernel
theorem dL_law_498 : decode cL_law 498 = .ok (.iload 4, 2) := by decide +kernel
theorem dL_law_500 : decode cL_law 500 = .ok (.iconst 1, 1) := by decide +kernel
theorem dL_law_501 : decode cL_law 501 = .ok (.iadd, 1) := by decide +kernel
theorem dL_law_502 : decode cL_law 502 = .ok (.iaload, 1) := by decide +kernel
theorem dL_law_503 : decode cL_law 503 = .ok (.aload_n 0, 1) := by decide +kernel
theorem dL_law_504 : decode cL_law 504 = .ok (.iload 4, 2) := by decide +kernel
theorem dL_law_506 : decode cL_law 506 = .ok (.iconst 2, 1) := by decide +kernel
theorem dL_law_507 : decode cL_law 507 = .ok (.iadd, 1) := by decide +kernel
theorem dL_law_508 : decode cL_law 508 = .ok (.iaload, 1) := by decide +kernel
theorem dL_law_509 : decode cL_law 509 = .ok (.invokevirtual 66, 3) := by decide +kernel
theorem dL_law_512 : decode cL_law 512 = .ok (.if_icmp .eq 972, 3) := by decide +kernel
theorem dL_law_517 : decode cL_law 517 = .ok (.aload_n 1, 1) := by decide +kernel
theorem dL_law_518 : decode cL_law 518 = .ok (.aload_n 0, 1) := by decide +kernel
theorem dL_law_519 : decode cL_law 519 = .ok (.iload 4, 2) := by decide +kernel
theorem dL_law_521 : decode cL_law 521 = .ok (.iconst 1, 1) := by decide +kernel
theorem dL_law_522 : decode cL_law 522 = .ok (.iadd, 1) := by decide +kernel
theorem dL_law_523 : decode cL_law 523 = .ok (.iaload, 1) := by decide +kernel
theorem dL_law_524 : decode cL_law 524 = .ok (.invokevirtual 67, 3) := by decide +kernel
theorem dL_law_527 : decode cL_law 527 = .ok (.aload_n 2, 1) := by decide +kernel
theorem dL_law_528 : decode cL_law 528 = .ok (.aload_n 0, 1) := by decide +kernel
theorem dL_law_529 : decode cL_law 529 = .ok (.iload 4, 2) := by decide +kernel
theorem dL_law_531 : decode cL_law 531 = .ok (.iconst 1, 1) := by decide +kernel
theorem dL_law_532 : decode cL_law 532 = .ok (.iadd, 1) := by decide +kernel
theorem dL_law_533 : decode cL_law 533 = .ok (.iaload, 1) := by decide +kernel
theorem dL_law_534 : decode cL_law 534 = .ok (.invokevirtual 71, 3) := by decide +kernel
theorem dL_law_537 : decode cL_law 537 = .ok (.if_icmp .eq 947, 3) := by decide +kernel
theorem dL_law_542 : decode cL_law 542 = .ok (.aload_n 1, 1) := by decide +kernel
theorem dL_law_543 : decode cL_law 543 = .ok (.aload_n 0, 1) := by decide +kernel
theorem dL_law_544 : decode cL_law 544 = .ok (.iload 4, 2) := by decide +kernel
theorem dL_law_546 : decode cL_law 546 = .ok (.iconst 1, 1) := by decide +kernel
theorem dL_law_547 : decode cL_law 547 = .ok (.iadd, 1) := by decide +kernel
theorem dL_law_548 : decode cL_law 548 = .ok (.iaload, 1) := by decide +kernel
theorem dL_law_549 : decode cL_law 549 = .ok (.invokevirtual 72, 3) := by decide +kernel
theorem dL_law_552 : decode cL_law 552 = .ok (.aload_n 2, 1) := by decide +kernel
theorem dL_law_553 : decode cL_law 553 = .ok (.aload_n 0, 1) := by decide +kernel
theorem dL_law_554 : decode cL_law 554 = .ok (.iload 4, 2) := by decide +kernel
theorem dL_law_556 : decode cL_law 556 = .ok (.iconst 1, 1) := by decide +kernel
theorem dL_law_557 : decode cL_law 557 = .ok (.iadd, 1) := by decide +kernel
theorem dL_law_558 : decode cL_law 558 = .ok (.iaload, 1) := by decide +kernel
theorem dL_law_559 : decode cL_law 559 = .ok (.invokevirtual 75, 3) := by decide +kernel
theorem dL_law_562 : decode cL_law 562 = .ok (.if_icmp .eq 922, 3) := by decide +kernel
theorem dL_law_567 : decode cL_law 567 = .ok (.aload_n 1, 1) := by decide +kernel
theorem dL_law_568 : decode cL_law 568 = .ok (.aload_n 0, 1) := by decide +kernel
theorem dL_law_569 : decode cL_law 569 = .ok (.iload 4, 2) := by decide +kernel
theorem dL_law_571 : decode cL_law 571 = .ok (.iconst 1, 1) := by decide +kernel
theorem dL_law_572 : decode cL_law 572 = .ok (.iadd, 1) := by decide +kernel
theorem dL_law_573 : decode cL_law 573 = .ok (.iaload, 1) := by decide +kernel
theorem dL_law_574 : decode cL_law 574 = .ok (.aload_n 0, 1) := by decide +kernel
theorem dL_law_575 : decode cL_law 575 = .ok (.iload 4, 2) := by decide +kernel
theorem dL_law_577 : decode cL_law 577 = .ok (.iconst 2, 1) := by decide +kernel
theorem dL_law_578 : decode cL_law 578 = .ok (.iadd, 1) := by decide +kernel
theorem dL_law_579 : decode cL_law 579 = .ok (.iaload, 1) := by decide +kernel
theorem dL_law_580 : decode cL_law 580 = .ok (.invokevirtual 76, 3) := by decide +kernel
theorem dL_law_583 : decode cL_law 583 = .ok (.aload_n 2, 1) := by decide +kernel
theorem dL_law_584 : decode cL_law 584 = .ok (.aload_n 0, 1) := by decide +kernel
theorem dL_law_585 : decode cL_law 585 = .ok (.iload 4, 2) := by decide +kernel
theorem dL_law_587 : decode cL_law 587 = .ok (.iconst 1, 1) := by decide +kernel
theorem dL_law_588 : decode cL_law 588 = .ok (.iadd, 1) := by decide +kernel
theorem dL_law_589 : decode cL_law 589 = .ok (.iaload, 1) := by decide +kernel
theorem dL_law_590 : decode cL_law 590 = .ok (.aload_n 0, 1) := by decide +kernel
theorem dL_law_591 : decode cL_law 591 = .ok (.iload 4, 2) := by decide +kernel
theorem dL_law_593 : decode cL_law 593 = .ok (.iconst 2, 1) := by decide +kernel
theorem dL_law_594 : decode cL_law 594 = .ok (.iadd, 1) := by decide +kernel
theorem dL_law_595 : decode cL_law 595 = .ok (.iaload, 1) := by decide +kernel
theorem dL_law_596 : decode cL_law 596 = .ok (.invokevirtual 79, 3) := by decide +kernel
theorem dL_law_599 : decode cL_law 599 = .ok (.if_icmp .eq 885, 3) := by decide +kernel
theorem dL_law_604 : decode cL_law 604 = .ok (.aload_n 1, 1) := by decide +kernel
theorem dL_law_605 : decode cL_law 605 = .ok (.aload_n 0, 1) := by decide +kernel
theorem dL_law_606 : decode cL_law 606 = .ok (.iload 4, 2) := by decide +kernel
theorem dL_law_608 : decode cL_law 608 = .ok (.iconst 1, 1) := by decide +kernel
theorem dL_law_609 : decode cL_law 609 = .ok (.iadd, 1) := by decide +kernel
theorem dL_law_610 : decode cL_law 610 = .ok (.iaload, 1) := by decide +kernel
theorem dL_law_611 : decode cL_law 611 = .ok (.aload_n 0, 1) := by decide +kernel
theorem dL_law_612 : decode cL_law 612 = .ok (.iload 4, 2) := by decide +kernel
theorem dL_law_614 : decode cL_law 614 = .ok (.iconst 2, 1) := by decide +kernel
theorem dL_law_615 : decode cL_law 615 = .ok (.iadd, 1) := by decide +kernel
theorem dL_law_616 : decode cL_law 616 = .ok (.iaload, 1) := by decide +kernel
theorem dL_law_617 : decode cL_law 617 = .ok (.invokevirtual 80, 3) := by decide +kernel
theorem dL_law_620 : decode cL_law 620 = .ok (.aload_n 2, 1) := by decide +kernel
theorem dL_law_621 : decode cL_law 621 = .ok (.aload_n 0, 1) := by decide +kernel
theorem dL_law_622 : decode cL_law 622 = .ok (.iload 4, 2) := by decide +kernel
theorem dL_law_624 : decode cL_law 624 = .ok (.iconst 1, 1) := by decide +kernel
theorem dL_law_625 : decode cL_law 625 = .ok (.iadd, 1) := by decide +kernel
theorem dL_law_626 : decode cL_law 626 = .ok (.iaload, 1) := by decide +kernel
theorem dL_law_627 : decode cL_law 627 = .ok (.aload_n 0, 1) := by decide +kernel
theorem dL_law_628 : decode cL_law 628 = .ok (.iload 4, 2) := by decide +kernel
theorem dL_law_630 : decode cL_law 630 = .ok (.iconst 2, 1) := by decide +kernel
theorem dL_law_631 : decode cL_law 631 = .ok (.iadd, 1) := by decide +kernel
theorem dL_law_632 : decode cL_law 632 = .ok (.iaload, 1) := by decide +kernel
theorem dL_law_633 : decode cL_law 633 = .ok (.invokevirtual 83, 3) := by decide +kernel
theorem dL_law_636 : decode cL_law 636 = .ok (.if_icmp .eq 848, 3) := by decide +kernel
theorem dL_law_641 : decode cL_law 641 = .ok (.aload_n 1, 1) := by decide +kernel
theorem dL_law_642 : decode cL_law 642 = .ok (.aload_n 0, 1) := by decide +kernel
theorem dL_law_643 : decode cL_law 643 = .ok (.iload 4, 2) := by decide +kernel
theorem dL_law_645 : decode cL_law 645 = .ok (.iconst 1, 1) := by decide +kernel
theorem dL_law_646 : decode cL_law 646 = .ok (.iadd, 1) := by decide +kernel
theorem dL_law_647 : decode cL_law 647 = .ok (.iaload, 1) := by decide +kernel
theorem dL_law_648 : decode cL_law 648 = .ok (.aload_n 0, 1) := by decide +kernel
theorem dL_law_649 : decode cL_law 649 = .ok (.iload 4, 2) := by decide +kernel
theorem dL_law_651 : decode cL_law 651 = .ok (.iconst 2, 1) := by decide +kernel
theorem dL_law_652 : decode cL_law 652 = .ok (.iadd, 1) := by decide +kernel
theorem dL_law_653 : decode cL_law 653 = .ok (.iaload, 1) := by decide +kernel
theorem dL_law_654 : decode cL_law 654 = .ok (.invokevirtual 84, 3) := by decide +kernel
theorem dL_law_657 : decode cL_law 657 = .ok (.aload_n 2, 1) := by decide +kernel
theorem dL_law_658 : decode cL_law 658 = .ok (.aload_n 0, 1) := by decide +kernel
theorem dL_law_659 : decode cL_law 659 = .ok (.iload 4, 2) := by decide +kernel
theorem dL_law_661 : decode cL_law 661 = .ok (.iconst 1, 1) := by decide +kernel
theorem dL_law_662 : decode cL_law 662 = .ok (.iadd, 1) := by decide +kernel
theorem dL_law_663 : decode cL_law 663 = .ok (.iaload, 1) := by decide +kernel
theorem dL_law_664 : decode cL_law 664 = .ok (.aload_n 0, 1) := by decide +kernel
theorem dL_law_665 : decode cL_law 665 = .ok (.iload 4, 2) := by decide +kernel
theorem dL_law_667 : decode cL_law 667 = .ok (.iconst 2, 1) := by decide +kernel
theorem dL_law_668 : decode cL_law 668 = .ok (.iadd, 1) := by decide +kernel
theorem dL_law_669 : decode cL_law 669 = .ok (.iaload, 1) := by decide +kernel
theorem dL_law_670 : decode cL_law 670 = .ok (.invokevirtual 87, 3) := by decide +kernel
theorem dL_law_673 : decode cL_law 673 = .ok (.if_icmp .eq 811, 3) := by decide +kernel
theorem dL_law_678 : decode cL_law 678 = .ok (.aload_n 1, 1) := by decide +kernel
theorem dL_law_679 : decode cL_law 679 = .ok (.aload_n 0, 1) := by decide +kernel
theorem dL_law_680 : decode cL_law 680 = .ok (.iload 4, 2) := by decide +kernel
theorem dL_law_682 : decode cL_law 682 = .ok (.iconst 1, 1) := by decide +kernel
theorem dL_law_683 : decode cL_law 683 = .ok (.iadd, 1) := by decide +kernel
theorem dL_law_684 : decode cL_law 684 = .ok (.iaload, 1) := by decide +kernel
theorem dL_law_685 : decode cL_law 685 = .ok (.invokevirtual 88, 3) := by decide +kernel
theorem dL_law_688 : decode cL_law 688 = .ok (.aload_n 2, 1) := by decide +kernel
theorem dL_law_689 : decode cL_law 689 = .ok (.aload_n 0, 1) := by decide +kernel
theorem dL_law_690 : decode cL_law 690 = .ok (.iload 4, 2) := by decide +kernel
theorem dL_law_692 : decode cL_law 692 = .ok (.iconst 1, 1) := by decide +kernel
theorem dL_law_693 : decode cL_law 693 = .ok (.iadd, 1) := by decide +kernel
theorem dL_law_694 : decode cL_law 694 = .ok (.iaload, 1) := by decide +kernel
theorem dL_law_695 : decode cL_law 695 = .ok (.invokevirtual 91, 3) := by decide +kernel
theorem dL_law_698 : decode cL_law 698 = .ok (.if_icmp .eq 786, 3) := by decide +kernel
theorem dL_law_703 : decode cL_law 703 = .ok (.aload_n 1, 1) := by decide +kernel
theorem dL_law_704 : decode cL_law 704 = .ok (.aload_n 0, 1) := by decide +kernel
theorem dL_law_705 : decode cL_law 705 = .ok (.iload 4, 2) := by decide +kernel
theorem dL_law_707 : decode cL_law 707 = .ok (.iconst 1, 1) := by decide +kernel
theorem dL_law_708 : decode cL_law 708 = .ok (.iadd, 1) := by decide +kernel
theorem dL_law_709 : decode cL_law 709 = .ok (.iaload, 1) := by decide +kernel
theorem dL_law_710 : decode cL_law 710 = .ok (.invokevirtual 92, 3) := by decide +kernel
theorem dL_law_713 : decode cL_law 713 = .ok (.aload_n 2, 1) := by decide +kernel
theorem dL_law_714 : decode cL_law 714 = .ok (.aload_n 0, 1) := by decide +kernel
theorem dL_law_715 : decode cL_law 715 = .ok (.iload 4, 2) := by decide +kernel
theorem dL_law_717 : decode cL_law 717 = .ok (.iconst 1, 1) := by decide +kernel
theorem dL_law_718 : decode cL_law 718 = .ok (.iadd, 1) := by decide +kernel
theorem dL_law_719 : decode cL_law 719 = .ok (.iaload, 1) := by decide +kernel
theorem dL_law_720 : decode cL_law 720 = .ok (.invokevirtual 95, 3) := by decide +kernel
theorem dL_law_723 : decode cL_law 723 = .ok (.if_icmp .eq 761, 3) := by decide +kernel
theorem dL_law_728 : decode cL_law 728 = .ok (.aload_n 1, 1) := by decide +kernel
theorem dL_law_729 : decode cL_law 729 = .ok (.invokevirtual 96, 3) := by decide +kernel
theorem dL_law_732 : decode cL_law 732 = .ok (.aload_n 2, 1) := by decide +kernel
theorem dL_law_733 : decode cL_law 733 = .ok (.invokevirtual 99, 3) := by decide +kernel
theorem dL_law_736 : decode cL_law 736 = .ok (.if_icmp .eq 748, 3) := by decide +kernel
theorem dL_law_741 : decode cL_law 741 = .ok (.aload_n 1, 1) := by decide +kernel
theorem dL_law_742 : decode cL_law 742 = .ok (.invokevirtual 100, 3) := by decide +kernel
theorem dL_law_745 : decode cL_law 745 = .ok (.aload_n 2, 1) := by decide +kernel
theorem dL_law_746 : decode cL_law 746 = .ok (.invokevirtual 103, 3) := by decide +kernel
theorem dL_law_749 : decode cL_law 749 = .ok (.if_icmp .eq 735, 3) := by decide +kernel
theorem dL_law_754 : decode cL_law 754 = .ok (.aload_n 1, 1) := by decide +kernel
theorem dL_law_755 : decode cL_law 755 = .ok (.aload_n 0, 1) := by decide +kernel
theorem dL_law_756 : decode cL_law 756 = .ok (.iload 4, 2) := by decide +kernel
theorem dL_law_758 : decode cL_law 758 = .ok (.iconst 1, 1) := by decide +kernel
theorem dL_law_759 : decode cL_law 759 = .ok (.iadd, 1) := by decide +kernel
theorem dL_law_760 : decode cL_law 760 = .ok (.iaload, 1) := by decide +kernel
theorem dL_law_761 : decode cL_law 761 = .ok (.aload_n 0, 1) := by decide +kernel
theorem dL_law_762 : decode cL_law 762 = .ok (.iload 4, 2) := by decide +kernel
theorem dL_law_764 : decode cL_law 764 = .ok (.iconst 2, 1) := by decide +kernel
theorem dL_law_765 : decode cL_law 765 = .ok (.iadd, 1) := by decide +kernel
theorem dL_law_766 : decode cL_law 766 = .ok (.iaload, 1) := by decide +kernel
theorem dL_law_767 : decode cL_law 767 = .ok (.aload_n 3, 1) := by decide +kernel
theorem dL_law_768 : decode cL_law 768 = .ok (.invokestatic 104, 3) := by decide +kernel
theorem dL_law_771 : decode cL_law 771 = .ok (.istore 5, 2) := by decide +kernel
theorem dL_law_773 : decode cL_law 773 = .ok (.aload_n 2, 1) := by decide +kernel
theorem dL_law_774 : decode cL_law 774 = .ok (.aload_n 0, 1) := by decide +kernel
theorem dL_law_775 : decode cL_law 775 = .ok (.iload 4, 2) := by decide +kernel
theorem dL_law_777 : decode cL_law 777 = .ok (.iconst 1, 1) := by decide +kernel
theorem dL_law_778 : decode cL_law 778 = .ok (.iadd, 1) := by decide +kernel
theorem dL_law_779 : decode cL_law 779 = .ok (.iaload, 1) := by decide +kernel
theorem dL_law_780 : decode cL_law 780 = .ok (.aload_n 0, 1) := by decide +kernel
theorem dL_law_781 : decode cL_law 781 = .ok (.iload 4, 2) := by decide +kernel
theorem dL_law_783 : decode cL_law 783 = .ok (.iconst 2, 1) := by decide +kernel
theorem dL_law_784 : decode cL_law 784 = .ok (.iadd, 1) := by decide +kernel
theorem dL_law_785 : decode cL_law 785 = .ok (.iaload, 1) := by decide +kernel
theorem dL_law_786 : decode cL_law 786 = .ok (.invokevirtual 106, 3) := by decide +kernel
theorem dL_law_789 : decode cL_law 789 = .ok (.istore 6, 2) := by decide +kernel
theorem dL_law_791 : decode cL_law 791 = .ok (.aload_n 2, 1) := by decide +kernel
theorem dL_law_792 : decode cL_law 792 = .ok (.invokevirtual 57, 3) := by decide +kernel
theorem dL_law_795 : decode cL_law 795 = .ok (.iload 5, 2) := by decide +kernel
theorem dL_law_797 : decode cL_law 797 = .ok (.if_icmp .eq 5, 3) := by decide +kernel
theorem dL_law_802 : decode cL_law 802 = .ok (.iload 5, 2) := by decide +kernel
theorem dL_law_804 : decode cL_law 804 = .ok (.ifCond .ne 15, 3) := by decide +kernel
theorem dL_law_819 : decode cL_law 819 = .ok (.goto 665, 3) := by decide +kernel
theorem dL_law_822 : decode cL_law 822 = .ok (.aload_n 1, 1) := by decide +kernel
theorem dL_law_823 : decode cL_law 823 = .ok (.aload_n 0, 1) := by decide +kernel
end
section
theorem dL_law_824 : decode cL_law 824 = .ok (.iload 4, 2) := by decide +kernel
theorem dL_law_826 : decode cL_law 826 = .ok (.iconst 1, 1) := by decide +kernel
theorem dL_law_827 : decode cL_law 827 = .ok (.iadd, 1) := by decide +kernel
theorem dL_law_828 : decode cL_law 828 = .ok (.iaload, 1) := by decide +kernel
theorem dL_law_829 : decode cL_law 829 = .ok (.aload_n 0, 1) := by decide +kernel
theorem dL_law_830 : decode cL_law 830 = .ok (.iload 4, 2) := by decide +kernel
theorem dL_law_832 : decode cL_law 832 = .ok (.iconst 2, 1) := by decide +kernel
theorem dL_law_833 : decode cL_law 833 = .ok (.iadd, 1) := by decide +kernel
theorem dL_law_834 : decode cL_law 834 = .ok (.iaload, 1) := by decide +kernel
theorem dL_law_835 : decode cL_law 835 = .ok (.aload_n 0, 1) := by decide +kernel
theorem dL_law_836 : decode cL_law 836 = .ok (.iload 4, 2) := by decide +kernel
theorem dL_law_838 : decode cL_law 838 = .ok (.iconst 3, 1) := by decide +kernel
theorem dL_law_839 : decode cL_law 839 = .ok (.iadd, 1) := by decide +kernel
theorem dL_law_840 : decode cL_law 840 = .ok (.iaload, 1) := by decide +kernel
theorem dL_law_841 : decode cL_law 841 = .ok (.aload_n 3, 1) := by decide +kernel
theorem dL_law_842 : decode cL_law 842 = .ok (.invokestatic 107, 3) := by decide +kernel
theorem dL_law_845 : decode cL_law 845 = .ok (.istore 5, 2) := by decide +kernel
theorem dL_law_847 : decode cL_law 847 = .ok (.aload_n 2, 1) := by decide +kernel
theorem dL_law_848 : decode cL_law 848 = .ok (.aload_n 0, 1) := by decide +kernel
theorem dL_law_849 : decode cL_law 849 = .ok (.iload 4, 2) := by decide +kernel
theorem dL_law_851 : decode cL_law 851 = .ok (.iconst 1, 1) := by decide +kernel
theorem dL_law_852 : decode cL_law 852 = .ok (.iadd, 1) := by decide +kernel
theorem dL_law_853 : decode cL_law 853 = .ok (.iaload, 1) := by decide +kernel
theorem dL_law_854 : decode cL_law 854 = .ok (.aload_n 0, 1) := by decide +kernel
theorem dL_law_855 : decode cL_law 855 = .ok (.iload 4, 2) := by decide +kernel
theorem dL_law_857 : decode cL_law 857 = .ok (.iconst 2, 1) := by decide +kernel
theorem dL_law_858 : decode cL_law 858 = .ok (.iadd, 1) := by decide +kernel
theorem dL_law_859 : decode cL_law 859 = .ok (.iaload, 1) := by decide +kernel
theorem dL_law_860 : decode cL_law 860 = .ok (.aload_n 0, 1) := by decide +kernel
theorem dL_law_861 : decode cL_law 861 = .ok (.iload 4, 2) := by decide +kernel
theorem dL_law_863 : decode cL_law 863 = .ok (.iconst 3, 1) := by decide +kernel
theorem dL_law_864 : decode cL_law 864 = .ok (.iadd, 1) := by decide +kernel
theorem dL_law_865 : decode cL_law 865 = .ok (.iaload, 1) := by decide +kernel
theorem dL_law_866 : decode cL_law 866 = .ok (.invokevirtual 110, 3) := by decide +kernel
theorem dL_law_869 : decode cL_law 869 = .ok (.istore 6, 2) := by decide +kernel
theorem dL_law_871 : decode cL_law 871 = .ok (.aload_n 2, 1) := by decide +kernel
theorem dL_law_872 : decode cL_law 872 = .ok (.invokevirtual 57, 3) := by decide +kernel
theorem dL_law_875 : decode cL_law 875 = .ok (.iload 5, 2) := by decide +kernel
theorem dL_law_877 : decode cL_law 877 = .ok (.if_icmp .eq 5, 3) := by decide +kernel
theorem dL_law_882 : decode cL_law 882 = .ok (.iload 5, 2) := by decide +kernel
theorem dL_law_884 : decode cL_law 884 = .ok (.ifCond .ne 15, 3) := by decide +kernel
theorem dL_law_899 : decode cL_law 899 = .ok (.goto 585, 3) := by decide +kernel
theorem dL_law_902 : decode cL_law 902 = .ok (.aload_n 1, 1) := by decide +kernel
theorem dL_law_903 : decode cL_law 903 = .ok (.aload_n 0, 1) := by decide +kernel
theorem dL_law_904 : decode cL_law 904 = .ok (.iload 4, 2) := by decide +kernel
theorem dL_law_906 : decode cL_law 906 = .ok (.iconst 1, 1) := by decide +kernel
theorem dL_law_907 : decode cL_law 907 = .ok (.iadd, 1) := by decide +kernel
theorem dL_law_908 : decode cL_law 908 = .ok (.iaload, 1) := by decide +kernel
theorem dL_law_909 : decode cL_law 909 = .ok (.invokevirtual 111, 3) := by decide +kernel
theorem dL_law_912 : decode cL_law 912 = .ok (.aload_n 2, 1) := by decide +kernel
theorem dL_law_913 : decode cL_law 913 = .ok (.aload_n 0, 1) := by decide +kernel
theorem dL_law_914 : decode cL_law 914 = .ok (.iload 4, 2) := by decide +kernel
theorem dL_law_916 : decode cL_law 916 = .ok (.iconst 1, 1) := by decide +kernel
theorem dL_law_917 : decode cL_law 917 = .ok (.iadd, 1) := by decide +kernel
theorem dL_law_918 : decode cL_law 918 = .ok (.iaload, 1) := by decide +kernel
theorem dL_law_919 : decode cL_law 919 = .ok (.invokevirtual 114, 3) := by decide +kernel
theorem dL_law_922 : decode cL_law 922 = .ok (.if_icmp .eq 562, 3) := by decide +kernel
theorem dL_law_927 : decode cL_law 927 = .ok (.aload_n 1, 1) := by decide +kernel
theorem dL_law_928 : decode cL_law 928 = .ok (.aload_n 0, 1) := by decide +kernel
theorem dL_law_929 : decode cL_law 929 = .ok (.iload 4, 2) := by decide +kernel
theorem dL_law_931 : decode cL_law 931 = .ok (.iconst 1, 1) := by decide +kernel
theorem dL_law_932 : decode cL_law 932 = .ok (.iadd, 1) := by decide +kernel
theorem dL_law_933 : decode cL_law 933 = .ok (.iaload, 1) := by decide +kernel
theorem dL_law_934 : decode cL_law 934 = .ok (.invokevirtual 115, 3) := by decide +kernel
theorem dL_law_937 : decode cL_law 937 = .ok (.aload_n 2, 1) := by decide +kernel
theorem dL_law_938 : decode cL_law 938 = .ok (.aload_n 0, 1) := by decide +kernel
theorem dL_law_939 : decode cL_law 939 = .ok (.iload 4, 2) := by decide +kernel
theorem dL_law_941 : decode cL_law 941 = .ok (.iconst 1, 1) := by decide +kernel
theorem dL_law_942 : decode cL_law 942 = .ok (.iadd, 1) := by decide +kernel
theorem dL_law_943 : decode cL_law 943 = .ok (.iaload, 1) := by decide +kernel
theorem dL_law_944 : decode cL_law 944 = .ok (.invokevirtual 118, 3) := by decide +kernel
theorem dL_law_947 : decode cL_law 947 = .ok (.if_icmp .eq 537, 3) := by decide +kernel
theorem dL_law_952 : decode cL_law 952 = .ok (.aload_n 1, 1) := by decide +kernel
theorem dL_law_953 : decode cL_law 953 = .ok (.aload_n 0, 1) := by decide +kernel
theorem dL_law_954 : decode cL_law 954 = .ok (.iload 4, 2) := by decide +kernel
theorem dL_law_956 : decode cL_law 956 = .ok (.iconst 1, 1) := by decide +kernel
theorem dL_law_957 : decode cL_law 957 = .ok (.iadd, 1) := by decide +kernel
theorem dL_law_958 : decode cL_law 958 = .ok (.iaload, 1) := by decide +kernel
theorem dL_law_959 : decode cL_law 959 = .ok (.invokevirtual 119, 3) := by decide +kernel
theorem dL_law_962 : decode cL_law 962 = .ok (.aload_n 2, 1) := by decide +kernel
theorem dL_law_963 : decode cL_law 963 = .ok (.aload_n 0, 1) := by decide +kernel
theorem dL_law_964 : decode cL_law 964 = .ok (.iload 4, 2) := by decide +kernel
theorem dL_law_966 : decode cL_law 966 = .ok (.iconst 1, 1) := by decide +kernel
theorem dL_law_967 : decode cL_law 967 = .ok (.iadd, 1) := by decide +kernel
theorem dL_law_968 : decode cL_law 968 = .ok (.iaload, 1) := by decide +kernel
theorem dL_law_969 : decode cL_law 969 = .ok (.invokevirtual 122, 3) := by decide +kernel
theorem dL_law_972 : decode cL_law 972 = .ok (.if_icmp .eq 512, 3) := by decide +kernel
theorem dL_law_977 : decode cL_law 977 = .ok (.aload_n 1, 1) := by decide +kernel
theorem dL_law_978 : decode cL_law 978 = .ok (.aload_n 3, 1) := by decide +kernel
theorem dL_law_979 : decode cL_law 979 = .ok (.invokestatic 123, 3) := by decide +kernel
theorem dL_law_982 : decode cL_law 982 = .ok (.istore 5, 2) := by decide +kernel
theorem dL_law_984 : decode cL_law 984 = .ok (.aload_n 2, 1) := by decide +kernel
theorem dL_law_985 : decode cL_law 985 = .ok (.invokevirtual 126, 3) := by decide +kernel
theorem dL_law_988 : decode cL_law 988 = .ok (.istore 6, 2) := by decide +kernel
theorem dL_law_990 : decode cL_law 990 = .ok (.aload_n 2, 1) := by decide +kernel
theorem dL_law_991 : decode cL_law 991 = .ok (.invokevirtual 57, 3) := by decide +kernel
theorem dL_law_994 : decode cL_law 994 = .ok (.iload 5, 2) := by decide +kernel
theorem dL_law_996 : decode cL_law 996 = .ok (.if_icmp .eq 5, 3) := by decide +kernel
theorem dL_law_1001 : decode cL_law 1001 = .ok (.iload 5, 2) := by decide +kernel
theorem dL_law_1003 : decode cL_law 1003 = .ok (.ifCond .ne 15, 3) := by decide +kernel
theorem dL_law_1018 : decode cL_law 1018 = .ok (.goto 466, 3) := by decide +kernel
theorem dL_law_1021 : decode cL_law 1021 = .ok (.aload_n 1, 1) := by decide +kernel
theorem dL_law_1022 : decode cL_law 1022 = .ok (.invokevirtual 127, 3) := by decide +kernel
theorem dL_law_1025 : decode cL_law 1025 = .ok (.aload_n 2, 1) := by decide +kernel
theorem dL_law_1026 : decode cL_law 1026 = .ok (.invokevirtual 130, 3) := by decide +kernel
theorem dL_law_1029 : decode cL_law 1029 = .ok (.if_icmp .eq 455, 3) := by decide +kernel
theorem dL_law_1034 : decode cL_law 1034 = .ok (.aload_n 1, 1) := by decide +kernel
theorem dL_law_1035 : decode cL_law 1035 = .ok (.aload_n 0, 1) := by decide +kernel
theorem dL_law_1036 : decode cL_law 1036 = .ok (.iload 4, 2) := by decide +kernel
theorem dL_law_1038 : decode cL_law 1038 = .ok (.iconst 1, 1) := by decide +kernel
theorem dL_law_1039 : decode cL_law 1039 = .ok (.iadd, 1) := by decide +kernel
theorem dL_law_1040 : decode cL_law 1040 = .ok (.iaload, 1) := by decide +kernel
theorem dL_law_1041 : decode cL_law 1041 = .ok (.invokevirtual 131, 3) := by decide +kernel
theorem dL_law_1044 : decode cL_law 1044 = .ok (.aload_n 2, 1) := by decide +kernel
theorem dL_law_1045 : decode cL_law 1045 = .ok (.aload_n 0, 1) := by decide +kernel
theorem dL_law_1046 : decode cL_law 1046 = .ok (.iload 4, 2) := by decide +kernel
theorem dL_law_1048 : decode cL_law 1048 = .ok (.iconst 1, 1) := by decide +kernel
theorem dL_law_1049 : decode cL_law 1049 = .ok (.iadd, 1) := by decide +kernel
theorem dL_law_1050 : decode cL_law 1050 = .ok (.iaload, 1) := by decide +kernel
theorem dL_law_1051 : decode cL_law 1051 = .ok (.invokevirtual 134, 3) := by decide +kernel
theorem dL_law_1054 : decode cL_law 1054 = .ok (.if_icmp .eq 430, 3) := by decide +kernel
theorem dL_law_1059 : decode cL_law 1059 = .ok (.aload_n 1, 1) := by decide +kernel
theorem dL_law_1060 : decode cL_law 1060 = .ok (.invokevirtual 135, 3) := by decide +kernel
theorem dL_law_1063 : decode cL_law 1063 = .ok (.aload_n 2, 1) := by decide +kernel
theorem dL_law_1064 : decode cL_law 1064 = .ok (.invokevirtual 138, 3) := by decide +kernel
theorem dL_law_1067 : decode cL_law 1067 = .ok (.if_icmp .eq 417, 3) := by decide +kernel
theorem dL_law_1072 : decode cL_law 1072 = .ok (.aload_n 1, 1) := by decide +kernel
theorem dL_law_1073 : decode cL_law 1073 = .ok (.aload_n 0, 1) := by decide +kernel
theorem dL_law_1074 : decode cL_law 1074 = .ok (.iload 4, 2) := by decide +kernel
theorem dL_law_1076 : decode cL_law 1076 = .ok (.iconst 1, 1) := by decide +kernel
theorem dL_law_1077 : decode cL_law 1077 = .ok (.iadd, 1) := by decide +kernel
theorem dL_law_1078 : decode cL_law 1078 = .ok (.iaload, 1) := by decide +kernel
theorem dL_law_1079 : decode cL_law 1079 = .ok (.invokevirtual 139, 3) := by decide +kernel
theorem dL_law_1082 : decode cL_law 1082 = .ok (.aload_n 2, 1) := by decide +kernel
theorem dL_law_1083 : decode cL_law 1083 = .ok (.aload_n 0, 1) := by decide +kernel
theorem dL_law_1084 : decode cL_law 1084 = .ok (.iload 4, 2) := by decide +kernel
theorem dL_law_1086 : decode cL_law 1086 = .ok (.iconst 1, 1) := by decide +kernel
theorem dL_law_1087 : decode cL_law 1087 = .ok (.iadd, 1) := by decide +kernel
theorem dL_law_1088 : decode cL_law 1088 = .ok (.iaload, 1) := by decide +kernel
theorem dL_law_1089 : decode cL_law 1089 = .ok (.invokevirtual 142, 3) := by decide +kernel
theorem dL_law_1092 : decode cL_law 1092 = .ok (.if_icmp .eq 392, 3) := by decide +kernel
theorem dL_law_1097 : decode cL_law 1097 = .ok (.aload_n 1, 1) := by decide +kernel
theorem dL_law_1098 : decode cL_law 1098 = .ok (.invokevirtual 143, 3) := by decide +kernel
theorem dL_law_1101 : decode cL_law 1101 = .ok (.aload_n 2, 1) := by decide +kernel
theorem dL_law_1102 : decode cL_law 1102 = .ok (.invokevirtual 146, 3) := by decide +kernel
theorem dL_law_1105 : decode cL_law 1105 = .ok (.if_icmp .eq 379, 3) := by decide +kernel
theorem dL_law_1110 : decode cL_law 1110 = .ok (.aload_n 1, 1) := by decide +kernel
theorem dL_law_1111 : decode cL_law 1111 = .ok (.aload_n 0, 1) := by decide +kernel
theorem dL_law_1112 : decode cL_law 1112 = .ok (.iload 4, 2) := by decide +kernel
theorem dL_law_1114 : decode cL_law 1114 = .ok (.iconst 1, 1) := by decide +kernel
theorem dL_law_1115 : decode cL_law 1115 = .ok (.iadd, 1) := by decide +kernel
theorem dL_law_1116 : decode cL_law 1116 = .ok (.iaload, 1) := by decide +kernel
theorem dL_law_1117 : decode cL_law 1117 = .ok (.invokevirtual 147, 3) := by decide +kernel
theorem dL_law_1120 : decode cL_law 1120 = .ok (.aload_n 2, 1) := by decide +kernel
theorem dL_law_1121 : decode cL_law 1121 = .ok (.aload_n 0, 1) := by decide +kernel
theorem dL_law_1122 : decode cL_law 1122 = .ok (.iload 4, 2) := by decide +kernel
theorem dL_law_1124 : decode cL_law 1124 = .ok (.iconst 1, 1) := by decide +kernel
theorem dL_law_1125 : decode cL_law 1125 = .ok (.iadd, 1) := by decide +kernel
theorem dL_law_1126 : decode cL_law 1126 = .ok (.iaload, 1) := by decide +kernel
theorem dL_law_1127 : decode cL_law 1127 = .ok (.invokevirtual 150, 3) := by decide +kernel
theorem dL_law_1130 : decode cL_law 1130 = .ok (.if_icmp .eq 354, 3) := by decide +kernel
theorem dL_law_1135 : decode cL_law 1135 = .ok (.aload_n 1, 1) := by decide +kernel
theorem dL_law_1136 : decode cL_law 1136 = .ok (.aload_n 0, 1) := by decide +kernel
theorem dL_law_1137 : decode cL_law 1137 = .ok (.iload 4, 2) := by decide +kernel
theorem dL_law_1139 : decode cL_law 1139 = .ok (.iconst 1, 1) := by decide +kernel
theorem dL_law_1140 : decode cL_law 1140 = .ok (.iadd, 1) := by decide +kernel
theorem dL_law_1141 : decode cL_law 1141 = .ok (.iaload, 1) := by decide +kernel
theorem dL_law_1142 : decode cL_law 1142 = .ok (.invokevirtual 151, 3) := by decide +kernel
theorem dL_law_1145 : decode cL_law 1145 = .ok (.aload_n 2, 1) := by decide +kernel
theorem dL_law_1146 : decode cL_law 1146 = .ok (.aload_n 0, 1) := by decide +kernel
theorem dL_law_1147 : decode cL_law 1147 = .ok (.iload 4, 2) := by decide +kernel
theorem dL_law_1149 : decode cL_law 1149 = .ok (.iconst 1, 1) := by decide +kernel
theorem dL_law_1150 : decode cL_law 1150 = .ok (.iadd, 1) := by decide +kernel
theorem dL_law_1151 : decode cL_law 1151 = .ok (.iaload, 1) := by decide +kernel
theorem dL_law_1152 : decode cL_law 1152 = .ok (.invokevirtual 154, 3) := by decide +kernel
theorem dL_law_1155 : decode cL_law 1155 = .ok (.if_icmp .eq 329, 3) := by decide +kernel
theorem dL_law_1160 : decode cL_law 1160 = .ok (.aload_n 1, 1) := by decide +kernel
theorem dL_law_1161 : decode cL_law 1161 = .ok (.aload_n 0, 1) := by decide +kernel
theorem dL_law_1162 : decode cL_law 1162 = .ok (.iload 4, 2) := by decide +kernel
theorem dL_law_1164 : decode cL_law 1164 = .ok (.iconst 1, 1) := by decide +kernel
theorem dL_law_1165 : decode cL_law 1165 = .ok (.iadd, 1) := by decide +kernel
theorem dL_law_1166 : decode cL_law 1166 = .ok (.iaload, 1) := by decide +kernel
theorem dL_law_1167 : decode cL_law 1167 = .ok (.invokevirtual 155, 3) := by decide +kernel
theorem dL_law_1170 : decode cL_law 1170 = .ok (.aload_n 2, 1) := by decide +kernel
theorem dL_law_1171 : decode cL_law 1171 = .ok (.aload_n 0, 1) := by decide +kernel
theorem dL_law_1172 : decode cL_law 1172 = .ok (.iload 4, 2) := by decide +kernel
theorem dL_law_1174 : decode cL_law 1174 = .ok (.iconst 1, 1) := by decide +kernel
theorem dL_law_1175 : decode cL_law 1175 = .ok (.iadd, 1) := by decide +kernel
theorem dL_law_1176 : decode cL_law 1176 = .ok (.iaload, 1) := by decide +kernel
theorem dL_law_1177 : decode cL_law 1177 = .ok (.invokevirtual 158, 3) := by decide +kernel
theorem dL_law_1180 : decode cL_law 1180 = .ok (.if_icmp .eq 304, 3) := by decide +kernel
theorem dL_law_1185 : decode cL_law 1185 = .ok (.aload_n 1, 1) := by decide +kernel
theorem dL_law_1186 : decode cL_law 1186 = .ok (.aload_n 0, 1) := by decide +kernel
theorem dL_law_1187 : decode cL_law 1187 = .ok (.iload 4, 2) := by decide +kernel
theorem dL_law_1189 : decode cL_law 1189 = .ok (.iconst 1, 1) := by decide +kernel
theorem dL_law_1190 : decode cL_law 1190 = .ok (.iadd, 1) := by decide +kernel
theorem dL_law_1191 : decode cL_law 1191 = .ok (.iaload, 1) := by decide +kernel
theorem dL_law_1192 : decode cL_law 1192 = .ok (.invokevirtual 159, 3) := by decide +kernel
theorem dL_law_1195 : decode cL_law 1195 = .ok (.aload_n 2, 1) := by decide +kernel
theorem dL_law_1196 : decode cL_law 1196 = .ok (.aload_n 0, 1) := by decide +kernel
theorem dL_law_1197 : decode cL_law 1197 = .ok (.iload 4, 2) := by decide +kernel
theorem dL_law_1199 : decode cL_law 1199 = .ok (.iconst 1, 1) := by decide +kernel
theorem dL_law_1200 : decode cL_law 1200 = .ok (.iadd, 1) := by decide +kernel
theorem dL_law_1201 : decode cL_law 1201 = .ok (.iaload, 1) := by decide +kernel
theorem dL_law_1202 : decode cL_law 1202 = .ok (.invokevirtual 162, 3) := by decide +kernel
theorem dL_law_1205 : decode cL_law 1205 = .ok (.if_icmp .eq 279, 3) := by decide +kernel
theorem dL_law_1210 : decode cL_law 1210 = .ok (.aload_n 1, 1) := by decide +kernel
theorem dL_law_1211 : decode cL_law 1211 = .ok (.aload_n 0, 1) := by decide +kernel
theorem dL_law_1212 : decode cL_law 1212 = .ok (.iload 4, 2) := by decide +kernel
theorem dL_law_1214 : decode cL_law 1214 = .ok (.iconst 1, 1) := by decide +kernel
theorem dL_law_1215 : decode cL_law 1215 = .ok (.iadd, 1) := by decide +kernel
theorem dL_law_1216 : decode cL_law 1216 = .ok (.iaload, 1) := by decide +kernel
theorem dL_law_1217 : decode cL_law 1217 = .ok (.invokevirtual 163, 3) := by decide +kernel
theorem dL_law_1220 : decode cL_law 1220 = .ok (.aload_n 2, 1) := by decide +kernel
theorem dL_law_1221 : decode cL_law 1221 = .ok (.aload_n 0, 1) := by decide +kernel
theorem dL_law_1222 : decode cL_law 1222 = .ok (.iload 4, 2) := by decide +kernel
theorem dL_law_1224 : decode cL_law 1224 = .ok (.iconst 1, 1) := by decide +kernel
theorem dL_law_1225 : decode cL_law 1225 = .ok (.iadd, 1) := by decide +kernel
theorem dL_law_1226 : decode cL_law 1226 = .ok (.iaload, 1) := by decide +kernel
theorem dL_law_1227 : decode cL_law 1227 = .ok (.invokevirtual 166, 3) := by decide +kernel
theorem dL_law_1230 : decode cL_law 1230 = .ok (.if_icmp .eq 254, 3) := by decide +kernel
theorem dL_law_1235 : decode cL_law 1235 = .ok (.aload_n 1, 1) := by decide +kernel
theorem dL_law_1236 : decode cL_law 1236 = .ok (.aload_n 0, 1) := by decide +kernel
theorem dL_law_1237 : decode cL_law 1237 = .ok (.iload 4, 2) := by decide +kernel
theorem dL_law_1239 : decode cL_law 1239 = .ok (.iconst 1, 1) := by decide +kernel
theorem dL_law_1240 : decode cL_law 1240 = .ok (.iadd, 1) := by decide +kernel
theorem dL_law_1241 : decode cL_law 1241 = .ok (.iaload, 1) := by decide +kernel
theorem dL_law_1242 : decode cL_law 1242 = .ok (.aload_n 0, 1) := by decide +kernel
theorem dL_law_1243 : decode cL_law 1243 = .ok (.iload 4, 2) := by decide +kernel
theorem dL_law_1245 : decode cL_law 1245 = .ok (.iconst 2, 1) := by decide +kernel
theorem dL_law_1246 : decode cL_law 1246 = .ok (.iadd, 1) := by decide +kernel
theorem dL_law_1247 : decode cL_law 1247 = .ok (.iaload, 1) := by decide +kernel
theorem dL_law_1248 : decode cL_law 1248 = .ok (.invokevirtual 167, 3) := by decide +kernel
theorem dL_law_1251 : decode cL_law 1251 = .ok (.aload_n 2, 1) := by decide +kernel
theorem dL_law_1252 : decode cL_law 1252 = .ok (.aload_n 0, 1) := by decide +kernel
theorem dL_law_1253 : decode cL_law 1253 = .ok (.iload 4, 2) := by decide +kernel
theorem dL_law_1255 : decode cL_law 1255 = .ok (.iconst 1, 1) := by decide +kernel
theorem dL_law_1256 : decode cL_law 1256 = .ok (.iadd, 1) := by decide +kernel
theorem dL_law_1257 : decode cL_law 1257 = .ok (.iaload, 1) := by decide +kernel
theorem dL_law_1258 : decode cL_law 1258 = .ok (.aload_n 0, 1) := by decide +kernel
theorem dL_law_1259 : decode cL_law 1259 = .ok (.iload 4, 2) := by decide +kernel
theorem dL_law_1261 : decode cL_law 1261 = .ok (.iconst 2, 1) := by decide +kernel
theorem dL_law_1262 : decode cL_law 1262 = .ok (.iadd, 1) := by decide +kernel
theorem dL_law_1263 : decode cL_law 1263 = .ok (.iaload, 1) := by decide +kernel
theorem dL_law_1264 : decode cL_law 1264 = .ok (.invokevirtual 170, 3) := by decide +kernel
theorem dL_law_1267 : decode cL_law 1267 = .ok (.if_icmp .eq 217, 3) := by decide +kernel
theorem dL_law_1272 : decode cL_law 1272 = .ok (.aload_n 1, 1) := by decide +kernel
theorem dL_law_1273 : decode cL_law 1273 = .ok (.aload_n 0, 1) := by decide +kernel
theorem dL_law_1274 : decode cL_law 1274 = .ok (.iload 4, 2) := by decide +kernel
theorem dL_law_1276 : decode cL_law 1276 = .ok (.iconst 1, 1) := by decide +kernel
theorem dL_law_1277 : decode cL_law 1277 = .ok (.iadd, 1) := by decide +kernel
theorem dL_law_1278 : decode cL_law 1278 = .ok (.iaload, 1) := by decide +kernel
theorem dL_law_1279 : decode cL_law 1279 = .ok (.aload_n 0, 1) := by decide +kernel
theorem dL_law_1280 : decode cL_law 1280 = .ok (.iload 4, 2) := by decide +kernel
theorem dL_law_1282 : decode cL_law 1282 = .ok (.iconst 2, 1) := by decide +kernel
theorem dL_law_1283 : decode cL_law 1283 = .ok (.iadd, 1) := by decide +kernel
theorem dL_law_1284 : decode cL_law 1284 = .ok (.iaload, 1) := by decide +kernel
theorem dL_law_1285 : decode cL_law 1285 = .ok (.aload_n 0, 1) := by decide +kernel
theorem dL_law_1286 : decode cL_law 1286 = .ok (.iload 4, 2) := by decide +kernel
theorem dL_law_1288 : decode cL_law 1288 = .ok (.iconst 3, 1) := by decide +kernel
theorem dL_law_1289 : decode cL_law 1289 = .ok (.iadd, 1) := by decide +kernel
theorem dL_law_1290 : decode cL_law 1290 = .ok (.iaload, 1) := by decide +kernel
theorem dL_law_1291 : decode cL_law 1291 = .ok (.invokevirtual 171, 3) := by decide +kernel
theorem dL_law_1294 : decode cL_law 1294 = .ok (.aload_n 2, 1) := by decide +kernel
theorem dL_law_1295 : decode cL_law 1295 = .ok (.aload_n 0, 1) := by decide +kernel
theorem dL_law_1296 : decode cL_law 1296 = .ok (.iload 4, 2) := by decide +kernel
theorem dL_law_1298 : decode cL_law 1298 = .ok (.iconst 1, 1) := by decide +kernel
theorem dL_law_1299 : decode cL_law 1299 = .ok (.iadd, 1) := by decide +kernel
theorem dL_law_1300 : decode cL_law 1300 = .ok (.iaload, 1) := by decide +kernel
theorem dL_law_1301 : decode cL_law 1301 = .ok (.aload_n 0, 1) := by decide +kernel
theorem dL_law_1302 : decode cL_law 1302 = .ok (.iload 4, 2) := by decide +kernel
theorem dL_law_1304 : decode cL_law 1304 = .ok (.iconst 2, 1) := by decide +kernel
theorem dL_law_1305 : decode cL_law 1305 = .ok (.iadd, 1) := by decide +kernel
theorem dL_law_1306 : decode cL_law 1306 = .ok (.iaload, 1) := by decide +kernel
theorem dL_law_1307 : decode cL_law 1307 = .ok (.aload_n 0, 1) := by decide +kernel
theorem dL_law_1308 : decode cL_law 1308 = .ok (.iload 4, 2) := by decide +kernel
theorem dL_law_1310 : decode cL_law 1310 = .ok (.iconst 3, 1) := by decide +kernel
theorem dL_law_1311 : decode cL_law 1311 = .ok (.iadd, 1) := by decide +kernel
theorem dL_law_1312 : decode cL_law 1312 = .ok (.iaload, 1) := by decide +kernel
theorem dL_law_1313 : decode cL_law 1313 = .ok (.invokevirtual 174, 3) := by decide +kernel
theorem dL_law_1316 : decode cL_law 1316 = .ok (.if_icmp .eq 168, 3) := by decide +kernel
theorem dL_law_1321 : decode cL_law 1321 = .ok (.aload_n 1, 1) := by decide +kernel
theorem dL_law_1322 : decode cL_law 1322 = .ok (.aload_n 0, 1) := by decide +kernel
theorem dL_law_1323 : decode cL_law 1323 = .ok (.iload 4, 2) := by decide +kernel
theorem dL_law_1325 : decode cL_law 1325 = .ok (.iconst 1, 1) := by decide +kernel
theorem dL_law_1326 : decode cL_law 1326 = .ok (.iadd, 1) := by decide +kernel
theorem dL_law_1327 : decode cL_law 1327 = .ok (.iaload, 1) := by decide +kernel
theorem dL_law_1328 : decode cL_law 1328 = .ok (.invokevirtual 175, 3) := by decide +kernel
theorem dL_law_1331 : decode cL_law 1331 = .ok (.aload_n 2, 1) := by decide +kernel
theorem dL_law_1332 : decode cL_law 1332 = .ok (.aload_n 0, 1) := by decide +kernel
theorem dL_law_1333 : decode cL_law 1333 = .ok (.iload 4, 2) := by decide +kernel
theorem dL_law_1335 : decode cL_law 1335 = .ok (.iconst 1, 1) := by decide +kernel
theorem dL_law_1336 : decode cL_law 1336 = .ok (.iadd, 1) := by decide +kernel
theorem dL_law_1337 : decode cL_law 1337 = .ok (.iaload, 1) := by decide +kernel
theorem dL_law_1338 : decode cL_law 1338 = .ok (.invokevirtual 178, 3) := by decide +kernel
theorem dL_law_1341 : decode cL_law 1341 = .ok (.if_icmp .eq 143, 3) := by decide +kernel
theorem dL_law_1346 : decode cL_law 1346 = .ok (.aload_n 1, 1) := by decide +kernel
theorem dL_law_1347 : decode cL_law 1347 = .ok (.aload_n 0, 1) := by decide +kernel
theorem dL_law_1348 : decode cL_law 1348 = .ok (.iload 4, 2) := by decide +kernel
theorem dL_law_1350 : decode cL_law 1350 = .ok (.iconst 1, 1) := by decide +kernel
theorem dL_law_1351 : decode cL_law 1351 = .ok (.iadd, 1) := by decide +kernel
theorem dL_law_1352 : decode cL_law 1352 = .ok (.iaload, 1) := by decide +kernel
theorem dL_law_1353 : decode cL_law 1353 = .ok (.invokevirtual 179, 3) := by decide +kernel
theorem dL_law_1356 : decode cL_law 1356 = .ok (.aload_n 2, 1) := by decide +kernel
theorem dL_law_1357 : decode cL_law 1357 = .ok (.aload_n 0, 1) := by decide +kernel
theorem dL_law_1358 : decode cL_law 1358 = .ok (.iload 4, 2) := by decide +kernel
theorem dL_law_1360 : decode cL_law 1360 = .ok (.iconst 1, 1) := by decide +kernel
theorem dL_law_1361 : decode cL_law 1361 = .ok (.iadd, 1) := by decide +kernel
theorem dL_law_1362 : decode cL_law 1362 = .ok (.iaload, 1) := by decide +kernel
theorem dL_law_1363 : decode cL_law 1363 = .ok (.invokevirtual 182, 3) := by decide +kernel
theorem dL_law_1366 : decode cL_law 1366 = .ok (.if_icmp .eq 118, 3) := by decide +kernel
theorem dL_law_1371 : decode cL_law 1371 = .ok (.aload_n 1, 1) := by decide +kernel
theorem dL_law_1372 : decode cL_law 1372 = .ok (.invokevirtual 183, 3) := by decide +kernel
theorem dL_law_1375 : decode cL_law 1375 = .ok (.aload_n 2, 1) := by decide +kernel
theorem dL_law_1376 : decode cL_law 1376 = .ok (.invokevirtual 186, 3) := by decide +kernel
theorem dL_law_1379 : decode cL_law 1379 = .ok (.if_icmp .eq 105, 3) := by decide +kernel
theorem dL_law_1384 : decode cL_law 1384 = .ok (.aload_n 1, 1) := by decide +kernel
theorem dL_law_1385 : decode cL_law 1385 = .ok (.aload_n 0, 1) := by decide +kernel
theorem dL_law_1386 : decode cL_law 1386 = .ok (.iload 4, 2) := by decide +kernel
theorem dL_law_1388 : decode cL_law 1388 = .ok (.iconst 1, 1) := by decide +kernel
theorem dL_law_1389 : decode cL_law 1389 = .ok (.iadd, 1) := by decide +kernel
theorem dL_law_1390 : decode cL_law 1390 = .ok (.iaload, 1) := by decide +kernel
theorem dL_law_1391 : decode cL_law 1391 = .ok (.invokevirtual 187, 3) := by decide +kernel
theorem dL_law_1394 : decode cL_law 1394 = .ok (.aload_n 2, 1) := by decide +kernel
theorem dL_law_1395 : decode cL_law 1395 = .ok (.aload_n 0, 1) := by decide +kernel
theorem dL_law_1396 : decode cL_law 1396 = .ok (.iload 4, 2) := by decide +kernel
theorem dL_law_1398 : decode cL_law 1398 = .ok (.iconst 1, 1) := by decide +kernel
theorem dL_law_1399 : decode cL_law 1399 = .ok (.iadd, 1) := by decide +kernel
theorem dL_law_1400 : decode cL_law 1400 = .ok (.iaload, 1) := by decide +kernel
theorem dL_law_1401 : decode cL_law 1401 = .ok (.invokevirtual 190, 3) := by decide +kernel
theorem dL_law_1404 : decode cL_law 1404 = .ok (.if_icmp .eq 80, 3) := by decide +kernel
theorem dL_law_1409 : decode cL_law 1409 = .ok (.aload_n 1, 1) := by decide +kernel
theorem dL_law_1410 : decode cL_law 1410 = .ok (.aload_n 0, 1) := by decide +kernel
theorem dL_law_1411 : decode cL_law 1411 = .ok (.iload 4, 2) := by decide +kernel
theorem dL_law_1413 : decode cL_law 1413 = .ok (.iconst 1, 1) := by decide +kernel
theorem dL_law_1414 : decode cL_law 1414 = .ok (.iadd, 1) := by decide +kernel
theorem dL_law_1415 : decode cL_law 1415 = .ok (.iaload, 1) := by decide +kernel
theorem dL_law_1416 : decode cL_law 1416 = .ok (.invokevirtual 191, 3) := by decide +kernel
theorem dL_law_1419 : decode cL_law 1419 = .ok (.aload_n 2, 1) := by decide +kernel
theorem dL_law_1420 : decode cL_law 1420 = .ok (.aload_n 0, 1) := by decide +kernel
theorem dL_law_1421 : decode cL_law 1421 = .ok (.iload 4, 2) := by decide +kernel
theorem dL_law_1423 : decode cL_law 1423 = .ok (.iconst 1, 1) := by decide +kernel
theorem dL_law_1424 : decode cL_law 1424 = .ok (.iadd, 1) := by decide +kernel
theorem dL_law_1425 : decode cL_law 1425 = .ok (.iaload, 1) := by decide +kernel
theorem dL_law_1426 : decode cL_law 1426 = .ok (.invokevirtual 194, 3) := by decide +kernel
theorem dL_law_1429 : decode cL_law 1429 = .ok (.if_icmp .eq 55, 3) := by decide +kernel
theorem dL_law_1434 : decode cL_law 1434 = .ok (.aload_n 1, 1) := by decide +kernel
theorem dL_law_1435 : decode cL_law 1435 = .ok (.aload_n 0, 1) := by decide +kernel
theorem dL_law_1436 : decode cL_law 1436 = .ok (.iload 4, 2) := by decide +kernel
theorem dL_law_1438 : decode cL_law 1438 = .ok (.iconst 1, 1) := by decide +kernel
theorem dL_law_1439 : decode cL_law 1439 = .ok (.iadd, 1) := by decide +kernel
theorem dL_law_1440 : decode cL_law 1440 = .ok (.iaload, 1) := by decide +kernel
theorem dL_law_1441 : decode cL_law 1441 = .ok (.invokevirtual 195, 3) := by decide +kernel
theorem dL_law_1444 : decode cL_law 1444 = .ok (.aload_n 2, 1) := by decide +kernel
theorem dL_law_1445 : decode cL_law 1445 = .ok (.aload_n 0, 1) := by decide +kernel
theorem dL_law_1446 : decode cL_law 1446 = .ok (.iload 4, 2) := by decide +kernel
theorem dL_law_1448 : decode cL_law 1448 = .ok (.iconst 1, 1) := by decide +kernel
theorem dL_law_1449 : decode cL_law 1449 = .ok (.iadd, 1) := by decide +kernel
theorem dL_law_1450 : decode cL_law 1450 = .ok (.iaload, 1) := by decide +kernel
theorem dL_law_1451 : decode cL_law 1451 = .ok (.invokevirtual 198, 3) := by decide +kernel
theorem dL_law_1454 : decode cL_law 1454 = .ok (.if_icmp .eq 30, 3) := by decide +kernel
theorem dL_law_1459 : decode cL_law 1459 = .ok (.aload_n 1, 1) := by decide +kernel
theorem dL_law_1460 : decode cL_law 1460 = .ok (.aload_n 0, 1) := by decide +kernel
theorem dL_law_1461 : decode cL_law 1461 = .ok (.iload 4, 2) := by decide +kernel
theorem dL_law_1463 : decode cL_law 1463 = .ok (.iconst 1, 1) := by decide +kernel
theorem dL_law_1464 : decode cL_law 1464 = .ok (.iadd, 1) := by decide +kernel
theorem dL_law_1465 : decode cL_law 1465 = .ok (.iaload, 1) := by decide +kernel
theorem dL_law_1466 : decode cL_law 1466 = .ok (.invokevirtual 199, 3) := by decide +kernel
theorem dL_law_1469 : decode cL_law 1469 = .ok (.aload_n 2, 1) := by decide +kernel
theorem dL_law_1470 : decode cL_law 1470 = .ok (.aload_n 0, 1) := by decide +kernel
theorem dL_law_1471 : decode cL_law 1471 = .ok (.iload 4, 2) := by decide +kernel
theorem dL_law_1473 : decode cL_law 1473 = .ok (.iconst 1, 1) := by decide +kernel
theorem dL_law_1474 : decode cL_law 1474 = .ok (.iadd, 1) := by decide +kernel
theorem dL_law_1475 : decode cL_law 1475 = .ok (.iaload, 1) := by decide +kernel
theorem dL_law_1476 : decode cL_law 1476 = .ok (.invokevirtual 202, 3) := by decide +kernel
theorem dL_law_1479 : decode cL_law 1479 = .ok (.if_icmp .eq 5, 3) := by decide +kernel
theorem dL_law_1484 : decode cL_law 1484 = .ok (.iinc 4 6, 3) := by decide +kernel
theorem dL_law_1487 : decode cL_law 1487 = .ok (.goto (-1464), 3) := by decide +kernel
theorem dL_law_1490 : decode cL_law 1490 = .ok (.iconst 1, 1) := by decide +kernel
theorem dL_law_1491 : decode cL_law 1491 = .ok (.ireturn, 1) := by decide +kernel
end
section
/-! ===== BEGIN words of one list among another's, by their places ===== -/
theorem goodIn_r {big : List Cond} (ws : List Cond) (ps : List Nat) (hp : ws = ps.filterMap (fun i => big[i]?)) (h : ws.all goodWord = true) : GoodIn big ws := by
  intro w hw
  have h1 := List.all_eq_true.mp h w hw
  rw [hp] at hw
  obtain ⟨i, -, hi⟩ := List.mem_filterMap.mp hw
  have hm : w ∈ big := by first | exact List.mem_of_getElem? hi | exact List.getElem?_mem hi
  exact ⟨hm, good_of_word h1⟩
theorem goodIn_app {big a b : List Cond} (ha : GoodIn big a) (hb : GoodIn big b) : GoodIn big (a ++ b) := fun w h => (List.mem_append.mp h).elim (ha w) (hb w)
theorem goodIn_ca {big a b : List Cond} {c : Cond} (ha : GoodIn big (c :: a)) (hb : GoodIn big b) : GoodIn big (c :: (a ++ b)) := fun w h => (List.mem_cons.mp h).elim (fun e => ha w (List.mem_cons.mpr (Or.inl e))) (fun h => (List.mem_append.mp h).elim (fun h => ha w (List.mem_cons.mpr (Or.inr h))) (hb w))
theorem goodIn_sub {big ws : List Cond} (hm : ∀ w ∈ ws, w ∈ big) (h : ws.all goodWord = true) : GoodIn big ws := fun w hw => ⟨hm w hw, good_of_word (List.all_eq_true.mp h w hw)⟩
/-! ===== END ===== -/

/-! ===== BEGIN exceptions that leave a method, and their catching by the caller (launches without stack traces) ===== -/
section VXA
/-! The laws vx_back, vx_callV, vx_callS, vx_callSW, vx_throw0, vx_throwS follow proofs of the library, with one case more: JvmDerived/Free/Laws.lean (Back.of_free), Shelf42/LK1.lean (callV, callS), Shelf/KitTraced.lean (throwNew0V, throwNewS). -/

/-- where a method has thrown q: the class by its name, the cell, what was written, the world -/
def vx_T (XC : String → State → State → Prop) (st : State) (q : Addr) (t : State) (mc ms : Nat) (free : Addr → Prop) : Prop :=
  ∃ (E : String) (ce : Cell) (L : List Loc), XC E st t ∧ t.heap[q]? = some ce ∧ ce.vm = .none ∧ st.vm.findClass E = some ce.cls ∧ st.WarmedH t.vm ∧ st.sameButNew ({ t with vm := st.vm } : State) L mc ms ∧ ∀ z ∈ L, free z.base
def vx_Q (Qc : Array Value → State → Outcome → State → Prop) (XC : String → State → State → Prop) (mc ms : Nat) (free : Addr → Prop) : Array Value → State → Outcome → State → Prop := fun a st o t =>
  (Qc a st o t ∧ ∃ L, FrameEnd st o t L mc ms ∧ ∀ q ∈ L, free q.base) ∨ ∃ q, o = .threw q ∧ vx_T XC st q t mc ms free
/-- a callee that returns or throws -/
def vx_Met (l : Launch) (y : MethodName) (ws : List Cond) (rm : Room) (Pc : Array Value → State → Prop) (Qc : Array Value → State → Outcome → State → Prop) (XC : String → State → State → Prop) (mc ms : Nat) (free : Addr → Prop) : Prop :=
  MetFree l y (headSpec ws rm) Pc (fun _ _ _ _ _ => True) (vx_Q Qc XC mc ms free)
def vx_Post (XC : String → State → State → Prop) (mc ms : Nat) (free : Addr → Prop) : Pt → Array Value → Addr → Pt → Prop := fun A a q B =>
  ∃ (g : JFrame) (mk : MethodId) (t : State) (L : List Loc) (E : String) (ce : Cell), B.U.heap = t.heap ∧ B.U.vm = t.vm ∧ XC E (A.U.calling g mk a) t ∧ t.heap[q]? = some ce ∧ ce.vm = .none ∧ A.U.vm.findClass E = some ce.cls ∧ B.locs = A.locs ++ L ∧ (∀ z ∈ L, free z.base) ∧ B.cells = A.cells + mc ∧ B.slots = A.slots + ms
def vx_Back (l : Launch) (R : Room) (p : Program) (e : Env) (below : List Frame) (s : State) (sargs : Array Value) (y : MethodName) (len W9 : Nat)
    (Pre : Pt → Array Value → Prop) (Post : Pt → Array Value → Option Value → Pt → Prop) (PostX : Pt → Array Value → Addr → Pt → Prop) : Prop :=
  ∀ (m : MethodId) (meth : Method) (c : Code) (A : Pt) (g : JFrame) (ig : Instr) (mk : MethodId) (a : Array Value),
    Stand p l e R s m sargs below meth c A.U A.locs A.cells A.slots → g.method = m → g.locals.size = c.maxLocals → decode c.code g.pc = .ok (ig, len) →
    2 * g.monitorRoom + (g.stack.map fun v => v.category).sum ≤ W9 → A.U.methodNamed? y = some mk → Pre A a →
    (∃ (v : Option Value) (B : Pt), Stand p l e R s m sargs below meth c B.U B.locs B.cells B.slots ∧ Post A a v B ∧
      Steps p.tables e below (doInvoke e (A.U.setTop g) [] mk a).1 (B.U.setTop { g with pc := g.pc + len, stack := v.toList ++ g.stack })) ∨
    (∃ (q : Addr) (B : Pt), Stand p l e R s m sargs below meth c B.U B.locs B.cells B.slots ∧ PostX A a q B ∧
      Steps p.tables e below (doInvoke e (A.U.setTop g) [] mk a).1 ((B.U.setTop g).pushFrame (.throwing q)))
section Payer
variable {l : Launch} {R : Room} {p : Program} {e : Env} {below : List Frame} {s : State} {sargs : Array Value} {y : MethodName} {len W9 : Nat}
theorem vx_back {ws : List Cond} {rm : Room} {Pc : Array Value → State → Prop} {Qc : Array Value → State → Outcome → State → Prop} {XC : String → State → State → Prop} {mc ms : Nat} {free : Addr → Prop} {bytes : ByteArray} {maxL : Nat} {ret : Option FieldType}
    (hM : vx_Met l y ws rm Pc Qc XC mc ms free) (hblind : FrameBlind Pc) (hrc : rm.cells = mc) (hrs : rm.slots = ms)
    (hframes : rm.frames + 1 ≤ R.frames) (hlocals : W9 + (maxL + 11) + rm.locals ≤ R.locals)
    (hws : ∀ w ∈ ws, ∀ a' U, s.WarmedH U.vm → w.before a' U = true) (hcode : Cond.code y bytes maxL ret ∈ ws) (hinit : ∀ a' U, s.WarmedH U.vm → (Cond.initialized y.cls).before a' U = true) :
    vx_Back l R p e below s sargs y len W9 (PreOf R mc ms Pc) (PostOf Qc mc ms free) (vx_Post XC mc ms free) := by
  intro m meth c A g ig mk a X hg hsize hdg hW hn hp
  have h1 : (headSpec ws rm).pre.before a A.U = true := atoms_intro fun w hw => hws w hw _ _ X.warmed
  have h2 : (Cond.code y bytes maxL ret).before a A.U = true := hws _ hcode _ _ X.warmed
  have h3 : (Cond.initialized y.cls).before a A.U = true := hinit _ _ X.warmed
  have h4 : A.cells + (headSpec ws rm).room.cells ≤ R.cells := by rw [show (headSpec ws rm).room.cells = mc from hrc]; exact hp.1
  have h5 : A.slots + (headSpec ws rm).room.slots ≤ R.slots := by rw [show (headSpec ws rm).room.slots = ms from hrs]; exact hp.2.1
  have hPc : Pc a (A.U.calling g mk a) := hblind _ _ _ _ hp.2.2
  obtain ⟨U, Ls, c0, s0⟩ := A
  dsimp only [Pt.U, Pt.locs, Pt.cells, Pt.slots] at h1 h2 h3 h4 h5 X hn hPc ⊢
  obtain ⟨methY, cY, hmY, hcY, -, hlY, -, -, -, -⟩ := Cond.code_spec hn h2
  obtain ⟨kY, hkY, -⟩ := className_of_methodNamed hn
  have hinitY : kY.init = .initialized := Cond.initialized_spec (findClass_of_methodNamed hn) hkY h3
  have h : At U g.method c below := by rw [hg]; exact X.here
  have hlocals9 : W9 + (maxL + 11) + (headSpec ws rm).room.locals ≤ R.locals := hlocals
  have happ : (headSpec ws rm).appliesLoose y e.platform (U.calling g mk a) = true :=
    Spec.appliesLoose_calling (g := g) h hdg hn hkY hinitY
      (X.room_calling (g := g) (R' := (headSpec ws rm).room) hsize hmY hcY hframes (by rw [hlY]; omega) h4 h5) h1
  obtain ⟨mid, hmid⟩ := h.above
  have hfr : (U.setTop g).frames = (.java g :: mid) ++ below := by rw [State.frames_setTop' g h.top, hmid]; rfl
  obtain ⟨o, s₂, hsteps, -, hend, hq⟩ := Steps.callFree hM p X.admits X.cas X.clock (acts := []) hfr happ hPc trivial
  have hq' : vx_Q Qc XC mc ms free a (U.calling g mk a) o s₂ := hq
  rw [State.frames_setTop' g h.top] at hend
  obtain ⟨g₀, hg0⟩ := Option.isSome_iff_exists.mp h.top
  obtain ⟨r, hr⟩ := State.topJava?_eq_some.mp hg0
  have hr' : (({ U with heap := s₂.heap, slotsUsed := s₂.slotsUsed } : State).setVm s₂.vm).frames = .java g₀ :: r := hr
  rcases hq' with ⟨hqc, L, hfe, hL⟩ | ⟨q, rfl, E, ce, L, hx, hce, hcv, hcl, hW₂, hsm, hL⟩
  · obtain ⟨⟨v, rfl⟩, hW₂, e2, q2, q3, q4, q5, q6⟩ := id hfe
    have e3 : s₂ = ({ (U.calling g mk a).setFrames s₂.frames with heap := s₂.heap, slotsUsed := s₂.slotsUsed } : State).setVm s₂.vm := by
      have : s₂ = ({ s₂ with vm := (U.calling g mk a).vm } : State).setVm s₂.vm := rfl
      rw [e2] at this
      exact this
    obtain ⟨c₂, i₂, len₂, hc₂, hd₂, hf₂⟩ := hend
    have hW' : U.WarmedH s₂.vm := hW₂
    have hcc : c₂ = c := by
      have h1 : s₂.code? g.method = U.code? g.method := by
        rw [State.code?_eq, State.code?_eq, hW'.alike.method?]
      exact Option.some.inj (hc₂.symm.trans (h1.trans h.code))
    subst hcc
    have hlen : len₂ = len := by rw [hdg] at hd₂; cases hd₂; rfl
    subst hlen
    have hs₂ : s₂ = (({ U with heap := s₂.heap, slotsUsed := s₂.slotsUsed } : State).setVm s₂.vm).setTop { g with pc := g.pc + len₂, stack := v.toList ++ g.stack } := by
      refine e3.trans ?_
      rw [hf₂, State.calling_eq h.top, State.setFrames_setFrames, State.setTop_of_frames _ hr', hr]
      rfl
    have hsame : U.sameButNew ({ U with heap := s₂.heap, slotsUsed := s₂.slotsUsed } : State) L mc ms := by
      refine ⟨?_, q2, q3, q4, q5, q6⟩
      obtain ⟨t, ht, -⟩ := State.frames_cons hr
      show ({ U with heap := s₂.heap, slotsUsed := s₂.slotsUsed } : State) = { U.setFrames U.frames with heap := s₂.heap, slotsUsed := s₂.slotsUsed }
      rw [State.setFrames_self ht]
    subst hg
    refine Or.inl ⟨v, ⟨(({ U with heap := s₂.heap, slotsUsed := s₂.slotsUsed } : State).setVm s₂.vm), Ls ++ L, c0 + mc, s0 + ms⟩,
      ⟨X.admits, X.cas, X.clock, X.frames, X.room, X.hears, X.method, X.code, (X.here.setHeapUsed s₂.heap s₂.slotsUsed).setVm hW'.alike, X.tail, State.WarmedH.trans X.warmed hW', X.limits, X.bytes, X.same.trans (hsame.setVm s.vm)⟩,
      ⟨g, mk, s₂, L, rfl, rfl, hqc, rfl, hL, rfl, rfl⟩, ?_⟩
    show Steps p.tables e below _ ((({ U with heap := s₂.heap, slotsUsed := s₂.slotsUsed } : State).setVm s₂.vm).setTop { g with pc := g.pc + len₂, stack := v.toList ++ g.stack })
    rw [← hs₂]
    exact hsteps
  · obtain ⟨e2, q2, q3, q4, q5, q6⟩ := id hsm
    have e3 : s₂ = ({ (U.calling g mk a).setFrames s₂.frames with heap := s₂.heap, slotsUsed := s₂.slotsUsed } : State).setVm s₂.vm := by
      have : s₂ = ({ s₂ with vm := (U.calling g mk a).vm } : State).setVm s₂.vm := rfl
      rw [e2] at this
      exact this
    have hf₂ : s₂.frames = .throwing q :: .java g :: U.frames.tail := hend
    have hW' : U.WarmedH s₂.vm := hW₂
    have hs₂ : s₂ = ((({ U with heap := s₂.heap, slotsUsed := s₂.slotsUsed } : State).setVm s₂.vm).setTop g).pushFrame (.throwing q) := by
      refine e3.trans ?_
      rw [hf₂, State.calling_eq h.top, State.setFrames_setFrames, State.pushFrame, State.frames_setTop _ hr', State.setTop_of_frames _ hr', State.setFrames_setFrames, hr]
      rfl
    have hsame : U.sameButNew ({ U with heap := s₂.heap, slotsUsed := s₂.slotsUsed } : State) L mc ms := by
      refine ⟨?_, q2, q3, q4, q5, q6⟩
      obtain ⟨t, ht, -⟩ := State.frames_cons hr
      show ({ U with heap := s₂.heap, slotsUsed := s₂.slotsUsed } : State) = { U.setFrames U.frames with heap := s₂.heap, slotsUsed := s₂.slotsUsed }
      rw [State.setFrames_self ht]
    subst hg
    refine Or.inr ⟨q, ⟨(({ U with heap := s₂.heap, slotsUsed := s₂.slotsUsed } : State).setVm s₂.vm), Ls ++ L, c0 + mc, s0 + ms⟩,
      ⟨X.admits, X.cas, X.clock, X.frames, X.room, X.hears, X.method, X.code, (X.here.setHeapUsed s₂.heap s₂.slotsUsed).setVm hW'.alike, X.tail, State.WarmedH.trans X.warmed hW', X.limits, X.bytes, X.same.trans (hsame.setVm s.vm)⟩,
      ⟨g, mk, s₂, L, E, ce, rfl, rfl, hx, hce, hcv, hcl, rfl, hL, rfl, rfl⟩, ?_⟩
    show Steps p.tables e below _ (((({ U with heap := s₂.heap, slotsUsed := s₂.slotsUsed } : State).setVm s₂.vm).setTop g).pushFrame (.throwing q))
    rw [← hs₂]
    exact hsteps
end Payer
section Calls
variable {p : Program} {l : Launch} {e : Env} {R : Room} {s : State} {m : MethodId} {args : Array Value} {below : List Frame} {meth : Method} {c : Code} {T : State} {locs : List Loc} {cells slots : Nat}
theorem vx_callV (X : Stand p l e R s m args below meth c T locs cells slots) (hexec : p.tables.exec = Jvm.exec) {own C : String} {index : Nat} {y : MethodName} {bytes : ByteArray} {maxL : Nat} {ret : Option FieldType}
    (hown : s.vm.findClass own = some m.cls) (hlink : (Cond.methodLink own index y).before args s = true) (hinst : (Cond.instanceMethod y).before args s = true) (hsel : (Cond.selects C y y).before args s = true)
    (hcode : (Cond.code y bytes maxL ret).before args s = true) (hy : y.cls ≠ "java/lang/invoke/MethodHandle" ∧ y.cls ≠ "java/lang/invoke/VarHandle")
    {W9 : Nat} {Pre : Pt → Array Value → Prop} {Post : Pt → Array Value → Option Value → Pt → Prop} {PostX : Pt → Array Value → Addr → Pt → Prop} (hK : vx_Back l R p e below s args y 3 W9 Pre Post PostX)
    {b : Addr} {cellB : Cell} (hcell : T.heap[b]? = some cellB) (hobj : cellB.vm.isStatics = false) (hcls : s.vm.findClass C = some cellB.cls)
    {g : JFrame} (hg : g.method = m) (hsize : g.locals.size = c.maxLocals) {argsL rest : List Value} (hlen : ∀ sig, parseMethodDescriptor y.desc = some sig → argsL.length = sig.parameters.length)
    (hstack : g.stack = argsL.reverse ++ .ref b :: rest) (hW : 2 * g.monitorRoom + (rest.map fun v => v.category).sum ≤ W9) (hdg : decode c.code g.pc = .ok (.invokevirtual index, 3))
    (hpre : ∀ vm₁, s.WarmedH vm₁ → Pre ⟨T.setVm vm₁, locs, cells, slots⟩ (Value.ref b :: argsL).toArray) :
    (∃ (v : Option Value) (vm₁ : Vm) (B : Pt), s.WarmedH vm₁ ∧ Stand p l e R s m args below meth c B.U B.locs B.cells B.slots ∧ Post ⟨T.setVm vm₁, locs, cells, slots⟩ (Value.ref b :: argsL).toArray v B ∧
      ∀ target, Steps p.tables e below (B.U.setTop { g with pc := g.pc + 3, stack := v.toList ++ rest }) target → Steps p.tables e below (T.setTop g) target) ∨
    (∃ (q : Addr) (vm₁ : Vm) (B : Pt), s.WarmedH vm₁ ∧ Stand p l e R s m args below meth c B.U B.locs B.cells B.slots ∧ PostX ⟨T.setVm vm₁, locs, cells, slots⟩ (Value.ref b :: argsL).toArray q B ∧
      Steps p.tables e below (T.setTop g) ((B.U.setTop { g with stack := rest }).pushFrame (.throwing q))) := by
  obtain ⟨mk, methM, hnamed, hmethM, hstM, habM⟩ := Cond.instanceMethod_spec hinst
  obtain ⟨methM', cM, hmethM', -, -, -, -, -, -, hsigM⟩ := Cond.code_spec hnamed hcode
  cases hmethM.symm.trans hmethM'
  obtain ⟨c2, r2, m2, q1, q2, q3, q4, kP, hkP, hkPi⟩ := Cond.selects_spec hsel
  cases hcls.symm.trans q1
  cases (State.methodFound?_of_named hnamed hy).symm.trans q2
  cases hnamed.symm.trans q3
  have hselP : selectMethod e.platform s.vm cellB.cls mk = .method mk := by rw [Launch.admits_selectMethod X.admits]; exact q4
  obtain ⟨vm₁, X₁, hstep₁⟩ := X.invokevirtual hexec hown hlink hnamed hmethM hstM hkP hkPi hy (a := b) (cell := cellB) hcell
    (fun z h => by rw [h] at hobj; cases hobj) hselP hmethM habM hkP hkPi (g := g) hg (argsL := argsL) (rest := rest) (hlen _ hsigM) hstack hdg
  rcases hK m meth c ⟨T.setVm vm₁, locs, cells, slots⟩ { g with stack := rest } (.invokevirtual index) mk (Value.ref b :: argsL).toArray X₁ hg hsize hdg hW (X₁.named hnamed) (hpre vm₁ X₁.warmed) with ⟨v, B, X', hpost, hsteps⟩ | ⟨q, B, X', hpost, hsteps⟩
  · exact Or.inl ⟨v, vm₁, B, X₁.warmed, X', hpost, fun target h => hstep₁ _ fun acts => by rw [doInvoke_state]; exact hsteps.trans h⟩
  · exact Or.inr ⟨q, vm₁, B, X₁.warmed, X', hpost, hstep₁ _ fun acts => by rw [doInvoke_state]; exact hsteps⟩
theorem vx_callS (X : Stand p l e R s m args below meth c T locs cells slots) (hexec : p.tables.exec = Jvm.exec) {own : String} {index : Nat} {y : MethodName} {bytes : ByteArray} {maxL : Nat} {ret : Option FieldType}
    (hown : s.vm.findClass own = some m.cls) (hlink : (Cond.methodLink own index y).before args s = true) (hstat : (Cond.static y).before args s = true) (hinit : (Cond.initialized y.cls).before args s = true)
    (hcode : (Cond.code y bytes maxL ret).before args s = true) (hy : y.cls ≠ "java/lang/invoke/MethodHandle" ∧ y.cls ≠ "java/lang/invoke/VarHandle")
    {W9 : Nat} {Pre : Pt → Array Value → Prop} {Post : Pt → Array Value → Option Value → Pt → Prop} {PostX : Pt → Array Value → Addr → Pt → Prop} (hK : vx_Back l R p e below s args y 3 W9 Pre Post PostX)
    {g : JFrame} (hg : g.method = m) (hsize : g.locals.size = c.maxLocals) {argsL rest : List Value} (hlen : ∀ sig, parseMethodDescriptor y.desc = some sig → argsL.length = sig.parameters.length)
    (hstack : g.stack = argsL.reverse ++ rest) (hW : 2 * g.monitorRoom + (rest.map fun v => v.category).sum ≤ W9) (hdg : decode c.code g.pc = .ok (.invokestatic index, 3))
    (hpre : ∀ vm₁, s.WarmedH vm₁ → Pre ⟨T.setVm vm₁, locs, cells, slots⟩ argsL.toArray) :
    (∃ (v : Option Value) (vm₁ : Vm) (B : Pt), s.WarmedH vm₁ ∧ Stand p l e R s m args below meth c B.U B.locs B.cells B.slots ∧ Post ⟨T.setVm vm₁, locs, cells, slots⟩ argsL.toArray v B ∧
      ∀ target, Steps p.tables e below (B.U.setTop { g with pc := g.pc + 3, stack := v.toList ++ rest }) target → Steps p.tables e below (T.setTop g) target) ∨
    (∃ (q : Addr) (vm₁ : Vm) (B : Pt), s.WarmedH vm₁ ∧ Stand p l e R s m args below meth c B.U B.locs B.cells B.slots ∧ PostX ⟨T.setVm vm₁, locs, cells, slots⟩ argsL.toArray q B ∧
      Steps p.tables e below (T.setTop g) ((B.U.setTop { g with stack := rest }).pushFrame (.throwing q))) := by
  obtain ⟨mk, hnamed⟩ := Cond.code_named hcode
  obtain ⟨methM, cM, hmethM, -, -, -, -, -, -, hsigM⟩ := Cond.code_spec hnamed hcode
  have hstatic : methM.isStatic = true := Cond.static_spec hnamed hmethM hstat
  obtain ⟨kP, hkP, -⟩ := className_of_methodNamed hnamed
  have hinitP : kP.init = .initialized := Cond.initialized_spec (findClass_of_methodNamed hnamed) hkP hinit
  obtain ⟨vm₁, X₁, hstep₁⟩ := X.invokestatic hexec hown hlink hnamed hmethM hstatic hkP hinitP hy (g := g) hg (argsL := argsL) (rest := rest) (hlen _ hsigM) hstack hdg
  rcases hK m meth c ⟨T.setVm vm₁, locs, cells, slots⟩ { g with stack := rest } (.invokestatic index) mk argsL.toArray X₁ hg hsize hdg hW (X₁.named hnamed) (hpre vm₁ X₁.warmed) with ⟨v, B, X', hpost, hsteps⟩ | ⟨q, B, X', hpost, hsteps⟩
  · exact Or.inl ⟨v, vm₁, B, X₁.warmed, X', hpost, fun target h => hstep₁ _ fun acts => by rw [doInvoke_state]; exact hsteps.trans h⟩
  · exact Or.inr ⟨q, vm₁, B, X₁.warmed, X', hpost, hstep₁ _ fun acts => by rw [doInvoke_state]; exact hsteps⟩
end Calls
theorem vx_cls {s : State} {T : State} {vm₁ : Vm} {E : String} {k : ClassId} (hW : s.WarmedH vm₁) (h : (T.setVm vm₁).vm.findClass E = some k) : s.vm.findClass E = some k := by
  have h1 : vm₁.findClass E = some k := h
  rw [hW.alike.findClass] at h1
  exact h1
/-- the method's frame g, with q thrown over it -/
def vx_W (p : Program) (l : Launch) (e : Env) (R : Room) (s : State) (m : MethodId) (args : Array Value) (below : List Frame) (meth : Method) (c : Code) (H : Heap) (locs : List Loc) (cells slots : Nat) (Q : State → Prop) (g : JFrame) (q : Addr) : Prop :=
  ∀ T : State, T.heap = H → Stand p l e R s m args below meth c T locs cells slots → ∃ t, Steps p.tables e below ((T.setTop g).pushFrame (.throwing q)) t ∧ Q t
def vx_Run (p : Program) (l : Launch) (e : Env) (R : Room) (s : State) (m : MethodId) (args : Array Value) (below : List Frame) (meth : Method) (c : Code) (H : Heap) (locs : List Loc) (cells slots mc ms : Nat) (g : JFrame) (rest : List Value) (Qa : State → Outcome → State → Prop) (XC : String → State → State → Prop) (free : Addr → Prop) : Prop :=
  ∀ T : State, T.heap = H → Stand p l e R s m args below meth c T locs cells slots →
    (∃ (v : Option Value) (st₀ t T' : State) (L : List Loc), st₀.heap = H ∧ Stand p l e R s m args below meth c T' (locs ++ L) (cells + mc) (slots + ms) ∧ (∀ q ∈ L, free q.base) ∧ T'.heap = t.heap ∧ T'.vm = t.vm ∧ Qa st₀ (.returned v) t ∧
      Goes p e below T g T' { g with pc := g.pc + 3, stack := v.toList ++ rest }) ∨
    (∃ (q : Addr) (st₀ t T' : State) (L : List Loc) (E : String) (ce : Cell), st₀.heap = H ∧ Stand p l e R s m args below meth c T' (locs ++ L) (cells + mc) (slots + ms) ∧ (∀ z ∈ L, free z.base) ∧ T'.heap = t.heap ∧ T'.vm = t.vm ∧ XC E st₀ t ∧ t.heap[q]? = some ce ∧ ce.vm = .none ∧ s.vm.findClass E = some ce.cls ∧
      Steps p.tables e below (T.setTop g) ((T'.setTop { g with stack := rest }).pushFrame (.throwing q)))
def vx_X {S : Type} (px : S → Prop) (B : String → S → State → Prop) (A : Nat → Prop) : String → State → State → Prop := fun E st t => ∃ u : S, px u ∧ B E u t ∧ va_F A st t
section Runs
variable {p : Program} {l : Launch} {e : Env} {R : Room} {s : State} {m : MethodId} {args : Array Value} {below : List Frame} {meth : Method} {c : Code} {H : Heap} {locs : List Loc} {cells slots : Nat}
variable {y : MethodName} {bytes cc : ByteArray} {maxL nL mc ms n index : Nat} {ret : Option FieldType} {ws : List Cond} {rm : Room} {Pc : Array Value → State → Prop} {Qc : Array Value → State → Outcome → State → Prop} {XC : String → State → State → Prop} {free : Addr → Prop} {Ts : List Cond} {own C : String} {b : Addr} {As rest : List Value} {g : JFrame}
theorem vx_callBack (cb : CallB R s args own index y bytes maxL ret ws rm mc ms n) (hM : vx_Met l y ws rm Pc Qc XC mc ms free) (hbl : FrameBlind Pc) : vx_Back l R p e below s args y 3 8 (PreOf R mc ms Pc) (PostOf Qc mc ms free) (vx_Post XC mc ms free) := by
  obtain ⟨hrc, hrs, hfr, hlo, hws, hcw, -, hini, -⟩ := cb
  exact vx_back (bytes := bytes) (maxL := maxL) (ret := ret) hM hbl hrc hrs hfr hlo hws hcw (fun a' U hW => word_at hW (Or.inl (by first | rfl | simp [Cond.onTables, Cond.keeps, Cond.steady])) hini)
theorem vx_runV (S : CallFix p m c cc nL s args Ts own) (hM : vx_Met l y ws rm Pc Qc XC mc ms free) (cw : CallW R s args own C index y bytes maxL ret ws rm mc ms n) (hp : PreV s H C b Pc As)
    (hg : g.method = m) (hn : As.length = n) (hsize : g.locals.size = nL) (hstack : g.stack = As.reverse ++ .ref b :: rest) (hW : 2 * g.monitorRoom + (rest.map fun v => v.category).sum ≤ 8) (hdg : decode cc g.pc = .ok (.invokevirtual index, 3)) (hf : cells + mc ≤ R.cells ∧ slots + ms ≤ R.slots) :
    vx_Run p l e R s m args below meth c H locs cells slots mc ms g rest (Qc (Value.ref b :: As).toArray) XC free := by
  have hK : vx_Back l R p e below s args y 3 8 (PreOf R mc ms Pc) (PostOf Qc mc ms free) (vx_Post XC mc ms free) := vx_callBack cw.1 hM hp.1
  obtain ⟨⟨-, -, -, -, -, -, hcode, -, hy, hlen, hl⟩, hin, hse⟩ := cw
  obtain ⟨hx, hb, hml, ho, -⟩ := S
  obtain ⟨-, ⟨cellB, hcB, hoB, hclB⟩, hPc⟩ := hp
  intro T hT X
  rcases vx_callV X hx (C := C) (bytes := bytes) (maxL := maxL) (ret := ret) ho hl hin hse hcode hy hK (by rw [hT]; exact hcB) hoB hclB hg (hsize.trans hml.symm) (argsL := As) (rest := rest) (fun sig h => hn.trans (hlen sig h)) hstack hW (by rw [hb]; exact hdg)
    (fun vm₁ hW₁ => ⟨hf.1, hf.2, hPc (T.setVm vm₁) hT hW₁⟩) with ⟨v, vm₁, ⟨U', l2, c2, s2⟩, hW₁, X', ⟨g', mk, t, L, e1, e2, hq, h1, hL, h2, h3⟩, st⟩ | ⟨q, vm₁, ⟨U', l2, c2, s2⟩, hW₁, X', ⟨g', mk, t, L, E, ce, e1, e2, hq, hce, hcv, hcl, h1, hL, h2, h3⟩, st⟩
  · dsimp only [Pt.U, Pt.locs, Pt.cells, Pt.slots] at X' e1 e2 h1 h2 h3 st
    subst h1; subst h2; subst h3
    exact Or.inl ⟨v, (T.setVm vm₁).calling g' mk (Value.ref b :: As).toArray, t, U', L, hT, X', hL, e1, e2, hq, st⟩
  · dsimp only [Pt.U, Pt.locs, Pt.cells, Pt.slots] at X' e1 e2 h1 h2 h3 st hcl
    subst h1; subst h2; subst h3
    exact Or.inr ⟨q, (T.setVm vm₁).calling g' mk (Value.ref b :: As).toArray, t, U', L, E, ce, hT, X', hL, e1, e2, hq, hce, hcv, vx_cls hW₁ hcl, st⟩
theorem vx_runS (S : CallFix p m c cc nL s args Ts own) (hM : vx_Met l y ws rm Pc Qc XC mc ms free) (cw : CallB R s args own index y bytes maxL ret ws rm mc ms n ∧ (Cond.static y).before args s = true) (hp : PreS s H Pc As)
    (hg : g.method = m) (hn : As.length = n) (hsize : g.locals.size = nL) (hstack : g.stack = As.reverse ++ rest) (hW : 2 * g.monitorRoom + (rest.map fun v => v.category).sum ≤ 8) (hdg : decode cc g.pc = .ok (.invokestatic index, 3)) (hf : cells + mc ≤ R.cells ∧ slots + ms ≤ R.slots) :
    vx_Run p l e R s m args below meth c H locs cells slots mc ms g rest (Qc As.toArray) XC free := by
  have hK : vx_Back l R p e below s args y 3 8 (PreOf R mc ms Pc) (PostOf Qc mc ms free) (vx_Post XC mc ms free) := vx_callBack cw.1 hM hp.1
  obtain ⟨⟨-, -, -, -, -, -, hcode, hini, hy, hlen, hl⟩, hstt⟩ := cw
  obtain ⟨hx, hb, hml, ho, -⟩ := S
  intro T hT X
  rcases vx_callS X hx (bytes := bytes) (maxL := maxL) (ret := ret) ho hl hstt hini hcode hy hK hg (hsize.trans hml.symm) (argsL := As) (rest := rest) (fun sig h => hn.trans (hlen sig h)) hstack hW (by rw [hb]; exact hdg)
    (fun vm₁ hW₁ => ⟨hf.1, hf.2, hp.2 (T.setVm vm₁) hT hW₁⟩) with ⟨v, vm₁, ⟨U', l2, c2, s2⟩, hW₁, X', ⟨g', mk, t, L, e1, e2, hq, h1, hL, h2, h3⟩, st⟩ | ⟨q, vm₁, ⟨U', l2, c2, s2⟩, hW₁, X', ⟨g', mk, t, L, E, ce, e1, e2, hq, hce, hcv, hcl, h1, hL, h2, h3⟩, st⟩
  · dsimp only [Pt.U, Pt.locs, Pt.cells, Pt.slots] at X' e1 e2 h1 h2 h3 st
    subst h1; subst h2; subst h3
    exact Or.inl ⟨v, (T.setVm vm₁).calling g' mk As.toArray, t, U', L, hT, X', hL, e1, e2, hq, st⟩
  · dsimp only [Pt.U, Pt.locs, Pt.cells, Pt.slots] at X' e1 e2 h1 h2 h3 st hcl
    subst h1; subst h2; subst h3
    exact Or.inr ⟨q, (T.setVm vm₁).calling g' mk As.toArray, t, U', L, E, ce, hT, X', hL, e1, e2, hq, hce, hcv, vx_cls hW₁ hcl, st⟩
end Runs
section Rows
variable {p : Program} {l : Launch} {e : Env} {R : Room} {s : State} {m : MethodId} {args : Array Value} {below : List Frame} {meth : Method} {c : Code} {H : Heap} {locs : List Loc} {cells slots : Nat} {Q : State → Prop}
variable {mc ms : Nat} {free : Addr → Prop} {A0 A1 : Nat → Prop} {H0 : Heap} {a : Array Value} {pc : Nat} {ls : Array Slot} {st0 rest : List Value}
theorem vx_keep {st₀ t T' : State} {L : List Loc} (h0 : st₀.heap = H) (e1 : T'.heap = t.heap) (hS : va_S A0 H0 H locs) (hA : ∀ q, q < H.size → A1 q → A0 q) (hf : ∀ q, free q → A0 q) (hL : ∀ q ∈ L, free q.base) (hF : va_F A1 st₀ t) :
    H.size ≤ T'.heap.size ∧ (∀ q : Nat, q < H.size → ¬ A1 q → T'.heap[q]? = H[q]?) ∧ va_S A0 H0 T'.heap (locs ++ L) := by
  obtain ⟨hz, hk⟩ := hF
  rw [h0] at hz hk
  exact ⟨by rw [e1]; exact hz, fun q h1 h2 => by rw [e1]; exact hk q h1 h2,
    ⟨Nat.le_trans hS.1 (by rw [e1]; exact hz), fun q h1 h2 => by rw [e1, hk q (Nat.lt_of_lt_of_le h1 hS.1) (fun z => h2 (hA q (Nat.lt_of_lt_of_le h1 hS.1) z))]; exact hS.2.1 q h1 h2, fun q hq => by
      rcases List.mem_append.mp hq with h | h
      · exact hS.2.2 q h
      · exact hf _ (hL q h)⟩⟩
theorem vx_calli {S SX : Type} {post : Int32 → S → Prop} {px : SX → Prop} {B : S → State → Prop} {BX : String → SX → State → Prop} {AX : Nat → Prop} (hr : vx_Run p l e R s m args below meth c H locs cells slots mc ms (F0 m pc ls st0) rest (va_Qi post B A1 a) (vx_X px BX AX) free) (hS : va_S A0 H0 H locs) (hA : ∀ q, q < H.size → A1 q → A0 q) (hf : ∀ q, free q → A0 q) (hAX : ∀ q, q < H.size → AX q → A0 q)
    (kx : ∀ (E : String) (ce : Cell) (q9 : Addr) (u : SX) (t : State) (H1 : Heap) (locs1 : List Loc), t.heap = H1 → s.vm.Alike t.vm → px u → BX E u t → H.size ≤ H1.size → (∀ q : Nat, q < H.size → ¬ AX q → H1[q]? = H[q]?) → va_S A0 H0 H1 locs1 → H1[q9]? = some ce → ce.vm = .none → s.vm.findClass E = some ce.cls → vx_W p l e R s m args below meth c H1 locs1 (cells + mc) (slots + ms) Q (F0 m pc ls rest) q9)
    (kk : ∀ (r : Int32) (u : S) (t : State) (H1 : Heap) (locs1 : List Loc), t.heap = H1 → s.vm.Alike t.vm → post r u → B u t → H.size ≤ H1.size → (∀ q : Nat, q < H.size → ¬ A1 q → H1[q]? = H[q]?) → va_S A0 H0 H1 locs1 → W p l e R s m args below meth c H1 locs1 (cells + mc) (slots + ms) Q (F0 m (pc + 3) ls (.int r :: rest))) : W p l e R s m args below meth c H locs cells slots Q (F0 m pc ls st0) := by
  intro T hT X
  rcases hr T hT X with ⟨v, st₀, t, T', L, h0, X', hL, e1, e2, ⟨⟨r, u, hv, hp, hb⟩, hF⟩, st⟩ | ⟨q, st₀, t, T', L, E, ce, h0, X', hL, e1, e2, ⟨u, hp, hb, hF⟩, hce, hcv, hcl, st⟩
  · cases hv
    obtain ⟨k1, k2, k3⟩ := vx_keep h0 e1 hS hA hf hL hF
    obtain ⟨t2, a1, b1⟩ := kk r u t T'.heap (locs ++ L) e1.symm (by rw [← e2]; exact X'.warmed.alike) hp hb k1 k2 k3 T' rfl X'
    exact ⟨t2, st t2 a1, b1⟩
  · obtain ⟨k1, k2, k3⟩ := vx_keep h0 e1 hS hAX hf hL hF
    obtain ⟨t2, a1, b1⟩ := kx E ce q u t T'.heap (locs ++ L) e1.symm (by rw [← e2]; exact X'.warmed.alike) hp hb k1 k2 k3 (by rw [e1]; exact hce) hcv hcl T' rfl X'
    exact ⟨t2, st.trans a1, b1⟩
theorem vx_calll {S SX : Type} {post : Int64 → S → Prop} {px : SX → Prop} {B : S → State → Prop} {BX : String → SX → State → Prop} {AX : Nat → Prop} (hr : vx_Run p l e R s m args below meth c H locs cells slots mc ms (F0 m pc ls st0) rest (va_Ql post B A1 a) (vx_X px BX AX) free) (hS : va_S A0 H0 H locs) (hA : ∀ q, q < H.size → A1 q → A0 q) (hf : ∀ q, free q → A0 q) (hAX : ∀ q, q < H.size → AX q → A0 q)
    (kx : ∀ (E : String) (ce : Cell) (q9 : Addr) (u : SX) (t : State) (H1 : Heap) (locs1 : List Loc), t.heap = H1 → s.vm.Alike t.vm → px u → BX E u t → H.size ≤ H1.size → (∀ q : Nat, q < H.size → ¬ AX q → H1[q]? = H[q]?) → va_S A0 H0 H1 locs1 → H1[q9]? = some ce → ce.vm = .none → s.vm.findClass E = some ce.cls → vx_W p l e R s m args below meth c H1 locs1 (cells + mc) (slots + ms) Q (F0 m pc ls rest) q9)
    (kk : ∀ (r : Int64) (u : S) (t : State) (H1 : Heap) (locs1 : List Loc), t.heap = H1 → s.vm.Alike t.vm → post r u → B u t → H.size ≤ H1.size → (∀ q : Nat, q < H.size → ¬ A1 q → H1[q]? = H[q]?) → va_S A0 H0 H1 locs1 → W p l e R s m args below meth c H1 locs1 (cells + mc) (slots + ms) Q (F0 m (pc + 3) ls (.long r :: rest))) : W p l e R s m args below meth c H locs cells slots Q (F0 m pc ls st0) := by
  intro T hT X
  rcases hr T hT X with ⟨v, st₀, t, T', L, h0, X', hL, e1, e2, ⟨⟨r, u, hv, hp, hb⟩, hF⟩, st⟩ | ⟨q, st₀, t, T', L, E, ce, h0, X', hL, e1, e2, ⟨u, hp, hb, hF⟩, hce, hcv, hcl, st⟩
  · cases hv
    obtain ⟨k1, k2, k3⟩ := vx_keep h0 e1 hS hA hf hL hF
    obtain ⟨t2, a1, b1⟩ := kk r u t T'.heap (locs ++ L) e1.symm (by rw [← e2]; exact X'.warmed.alike) hp hb k1 k2 k3 T' rfl X'
    exact ⟨t2, st t2 a1, b1⟩
  · obtain ⟨k1, k2, k3⟩ := vx_keep h0 e1 hS hAX hf hL hF
    obtain ⟨t2, a1, b1⟩ := kx E ce q u t T'.heap (locs ++ L) e1.symm (by rw [← e2]; exact X'.warmed.alike) hp hb k1 k2 k3 (by rw [e1]; exact hce) hcv hcl T' rfl X'
    exact ⟨t2, st.trans a1, b1⟩
theorem vx_callf {S SX : Type} {post : UInt32 → S → Prop} {px : SX → Prop} {B : S → State → Prop} {BX : String → SX → State → Prop} {AX : Nat → Prop} (hr : vx_Run p l e R s m args below meth c H locs cells slots mc ms (F0 m pc ls st0) rest (va_Qf post B A1 a) (vx_X px BX AX) free) (hS : va_S A0 H0 H locs) (hA : ∀ q, q < H.size → A1 q → A0 q) (hf : ∀ q, free q → A0 q) (hAX : ∀ q, q < H.size → AX q → A0 q)
    (kx : ∀ (E : String) (ce : Cell) (q9 : Addr) (u : SX) (t : State) (H1 : Heap) (locs1 : List Loc), t.heap = H1 → s.vm.Alike t.vm → px u → BX E u t → H.size ≤ H1.size → (∀ q : Nat, q < H.size → ¬ AX q → H1[q]? = H[q]?) → va_S A0 H0 H1 locs1 → H1[q9]? = some ce → ce.vm = .none → s.vm.findClass E = some ce.cls → vx_W p l e R s m args below meth c H1 locs1 (cells + mc) (slots + ms) Q (F0 m pc ls rest) q9)
    (kk : ∀ (r : UInt32) (u : S) (t : State) (H1 : Heap) (locs1 : List Loc), t.heap = H1 → s.vm.Alike t.vm → post r u → B u t → H.size ≤ H1.size → (∀ q : Nat, q < H.size → ¬ A1 q → H1[q]? = H[q]?) → va_S A0 H0 H1 locs1 → W p l e R s m args below meth c H1 locs1 (cells + mc) (slots + ms) Q (F0 m (pc + 3) ls (.float r :: rest))) : W p l e R s m args below meth c H locs cells slots Q (F0 m pc ls st0) := by
  intro T hT X
  rcases hr T hT X with ⟨v, st₀, t, T', L, h0, X', hL, e1, e2, ⟨⟨r, u, hv, hp, hb⟩, hF⟩, st⟩ | ⟨q, st₀, t, T', L, E, ce, h0, X', hL, e1, e2, ⟨u, hp, hb, hF⟩, hce, hcv, hcl, st⟩
  · cases hv
    obtain ⟨k1, k2, k3⟩ := vx_keep h0 e1 hS hA hf hL hF
    obtain ⟨t2, a1, b1⟩ := kk r u t T'.heap (locs ++ L) e1.symm (by rw [← e2]; exact X'.warmed.alike) hp hb k1 k2 k3 T' rfl X'
    exact ⟨t2, st t2 a1, b1⟩
  · obtain ⟨k1, k2, k3⟩ := vx_keep h0 e1 hS hAX hf hL hF
    obtain ⟨t2, a1, b1⟩ := kx E ce q u t T'.heap (locs ++ L) e1.symm (by rw [← e2]; exact X'.warmed.alike) hp hb k1 k2 k3 (by rw [e1]; exact hce) hcv hcl T' rfl X'
    exact ⟨t2, st.trans a1, b1⟩
theorem vx_calld {S SX : Type} {post : UInt64 → S → Prop} {px : SX → Prop} {B : S → State → Prop} {BX : String → SX → State → Prop} {AX : Nat → Prop} (hr : vx_Run p l e R s m args below meth c H locs cells slots mc ms (F0 m pc ls st0) rest (va_Qd post B A1 a) (vx_X px BX AX) free) (hS : va_S A0 H0 H locs) (hA : ∀ q, q < H.size → A1 q → A0 q) (hf : ∀ q, free q → A0 q) (hAX : ∀ q, q < H.size → AX q → A0 q)
    (kx : ∀ (E : String) (ce : Cell) (q9 : Addr) (u : SX) (t : State) (H1 : Heap) (locs1 : List Loc), t.heap = H1 → s.vm.Alike t.vm → px u → BX E u t → H.size ≤ H1.size → (∀ q : Nat, q < H.size → ¬ AX q → H1[q]? = H[q]?) → va_S A0 H0 H1 locs1 → H1[q9]? = some ce → ce.vm = .none → s.vm.findClass E = some ce.cls → vx_W p l e R s m args below meth c H1 locs1 (cells + mc) (slots + ms) Q (F0 m pc ls rest) q9)
    (kk : ∀ (r : UInt64) (u : S) (t : State) (H1 : Heap) (locs1 : List Loc), t.heap = H1 → s.vm.Alike t.vm → post r u → B u t → H.size ≤ H1.size → (∀ q : Nat, q < H.size → ¬ A1 q → H1[q]? = H[q]?) → va_S A0 H0 H1 locs1 → W p l e R s m args below meth c H1 locs1 (cells + mc) (slots + ms) Q (F0 m (pc + 3) ls (.double r :: rest))) : W p l e R s m args below meth c H locs cells slots Q (F0 m pc ls st0) := by
  intro T hT X
  rcases hr T hT X with ⟨v, st₀, t, T', L, h0, X', hL, e1, e2, ⟨⟨r, u, hv, hp, hb⟩, hF⟩, st⟩ | ⟨q, st₀, t, T', L, E, ce, h0, X', hL, e1, e2, ⟨u, hp, hb, hF⟩, hce, hcv, hcl, st⟩
  · cases hv
    obtain ⟨k1, k2, k3⟩ := vx_keep h0 e1 hS hA hf hL hF
    obtain ⟨t2, a1, b1⟩ := kk r u t T'.heap (locs ++ L) e1.symm (by rw [← e2]; exact X'.warmed.alike) hp hb k1 k2 k3 T' rfl X'
    exact ⟨t2, st t2 a1, b1⟩
  · obtain ⟨k1, k2, k3⟩ := vx_keep h0 e1 hS hAX hf hL hF
    obtain ⟨t2, a1, b1⟩ := kx E ce q u t T'.heap (locs ++ L) e1.symm (by rw [← e2]; exact X'.warmed.alike) hp hb k1 k2 k3 (by rw [e1]; exact hce) hcv hcl T' rfl X'
    exact ⟨t2, st.trans a1, b1⟩
theorem vx_callv {S SX : Type} {post : S → Prop} {px : SX → Prop} {B : S → State → Prop} {BX : String → SX → State → Prop} {AX : Nat → Prop} (hr : vx_Run p l e R s m args below meth c H locs cells slots mc ms (F0 m pc ls st0) rest (va_Qv post B A1 a) (vx_X px BX AX) free) (hS : va_S A0 H0 H locs) (hA : ∀ q, q < H.size → A1 q → A0 q) (hf : ∀ q, free q → A0 q) (hAX : ∀ q, q < H.size → AX q → A0 q)
    (kx : ∀ (E : String) (ce : Cell) (q9 : Addr) (u : SX) (t : State) (H1 : Heap) (locs1 : List Loc), t.heap = H1 → s.vm.Alike t.vm → px u → BX E u t → H.size ≤ H1.size → (∀ q : Nat, q < H.size → ¬ AX q → H1[q]? = H[q]?) → va_S A0 H0 H1 locs1 → H1[q9]? = some ce → ce.vm = .none → s.vm.findClass E = some ce.cls → vx_W p l e R s m args below meth c H1 locs1 (cells + mc) (slots + ms) Q (F0 m pc ls rest) q9)
    (kk : ∀ (u : S) (t : State) (H1 : Heap) (locs1 : List Loc), t.heap = H1 → s.vm.Alike t.vm → post u → B u t → H.size ≤ H1.size → (∀ q : Nat, q < H.size → ¬ A1 q → H1[q]? = H[q]?) → va_S A0 H0 H1 locs1 → W p l e R s m args below meth c H1 locs1 (cells + mc) (slots + ms) Q (F0 m (pc + 3) ls (rest))) : W p l e R s m args below meth c H locs cells slots Q (F0 m pc ls st0) := by
  intro T hT X
  rcases hr T hT X with ⟨v, st₀, t, T', L, h0, X', hL, e1, e2, ⟨⟨u, hv, hp, hb⟩, hF⟩, st⟩ | ⟨q, st₀, t, T', L, E, ce, h0, X', hL, e1, e2, ⟨u, hp, hb, hF⟩, hce, hcv, hcl, st⟩
  · cases hv
    obtain ⟨k1, k2, k3⟩ := vx_keep h0 e1 hS hA hf hL hF
    obtain ⟨t2, a1, b1⟩ := kk u t T'.heap (locs ++ L) e1.symm (by rw [← e2]; exact X'.warmed.alike) hp hb k1 k2 k3 T' rfl X'
    exact ⟨t2, st t2 a1, b1⟩
  · obtain ⟨k1, k2, k3⟩ := vx_keep h0 e1 hS hAX hf hL hF
    obtain ⟨t2, a1, b1⟩ := kx E ce q u t T'.heap (locs ++ L) e1.symm (by rw [← e2]; exact X'.warmed.alike) hp hb k1 k2 k3 (by rw [e1]; exact hce) hcv hcl T' rfl X'
    exact ⟨t2, st.trans a1, b1⟩
end Rows
section Ends
variable {p : Program} {l : Launch} {e : Env} {R : Room} {s : State} {m : MethodId} {args : Array Value} {below : List Frame} {meth : Method} {c : Code} {H : Heap} {locs : List Loc} {cells slots : Nat} {Q : State → Prop}
variable {mc ms : Nat} {free : Addr → Prop} {A0 A1 : Nat → Prop} {H0 : Heap} {a : Array Value} {ls : Array Slot} {st0 rest : List Value}
variable {Qc : Array Value → State → Outcome → State → Prop} {XC : String → State → State → Prop}
/-- what a body that may throw owes at its end -/
def vx_MQ (below : List Frame) (Qc : Array Value → State → Outcome → State → Prop) (XC : String → State → State → Prop) (a : Array Value) (s : State) (mc ms : Nat) (free : Addr → Prop) : State → Prop := fun t =>
  ∃ o, t.status = .running ∧ Ended t below o ∧ vx_Q Qc XC mc ms free a s o t
theorem vx_ret {g : JFrame} {mc ms : Nat} (k : W p l e R s m args below meth c H locs cells slots (MQ below Qc args s mc ms free) g) : W p l e R s m args below meth c H locs cells slots (vx_MQ below Qc XC args s mc ms free) g := by
  intro T hT X
  obtain ⟨t, a1, o, b1, b2, b3, b4⟩ := k T hT X
  exact ⟨t, a1, o, b1, b2, Or.inl ⟨b3, b4⟩⟩
/-- not caught here: it goes on to the caller -/
theorem vx_widen {g : JFrame} {q : Addr} {k n : Nat} (h1 : cells ≤ k) (h2 : slots ≤ n) (kk : vx_W p l e R s m args below meth c H locs k n Q g q) : vx_W p l e R s m args below meth c H locs cells slots Q g q := fun T hT X => kk T hT (stand_widen X h1 h2)
theorem vx_out {pc : Nat} {E : String} {ce : Cell} {q : Addr} {mc ms : Nat} (hout : ∀ x ∈ c.exceptionTable.toList, covers x pc = false) (hlocks : meth.locks = false) (hcell : H[q]? = some ce) (hv : ce.vm = .none) (hcl : s.vm.findClass E = some ce.cls)
    (hx : ∀ t : State, t.heap = H → s.vm.Alike t.vm → XC E s t) (hf : ∀ z ∈ locs, free z.base) (hc : cells ≤ mc) (hs : slots ≤ ms) :
    vx_W p l e R s m args below meth c H locs cells slots (vx_MQ below Qc XC args s mc ms free) (F0 m pc ls rest) q := by
  intro T hT X
  obtain ⟨st1, hrun, hend, hW, hsm⟩ := X.leaveThrown q (g := F0 m pc ls rest) rfl rfl rfl hout hlocks
  have hcell9 : (T.setFrames (.throwing q :: below)).heap[q]? = some ce := by
    show T.heap[q]? = some ce
    rw [hT]; exact hcell
  exact ⟨_, st1, .threw q, hrun, hend, Or.inr ⟨q, rfl, E, ce, locs, hx _ hT hW.alike, hcell9, hv, hcl, hW, hsm.mono hc hs, hf⟩⟩
theorem vx_frame {U : State} {k n : Nat} (h : s.sameButNew ({ U with vm := s.vm } : State) locs k n) : s.heap.size ≤ U.heap.size ∧ ∀ q : Nat, q < s.heap.size → (∀ z ∈ locs, z.base ≠ q) → U.heap[q]? = s.heap[q]? := by
  obtain ⟨-, h2, -, -, -, h6⟩ := h
  refine ⟨h2, fun q hq hz => ?_⟩
  obtain ⟨c9, e1, e2, e3, e4⟩ := h6 q _ (Array.getElem?_eq_getElem hq)
  have hs : c9.slots = (s.heap[q]).slots := Array.ext_getElem? fun i => e4 i fun hm => hz _ hm rfl
  have h9 : c9 = s.heap[q] := by
    rw [hs] at e2
    exact e2
  have e5 : U.heap[q]? = some c9 := e1
  rw [e5, h9, Array.getElem?_eq_getElem hq]
/-- the words of a throw but the four that speak of the heap -/
def vx_no (w : Cond) : Bool := decide (w ≠ .isRef (.static Bundle.tN "UNASSIGNED_STACK" Bundle.steD)) && decide (w ≠ .isRef (.static Bundle.tN "SUPPRESSED_SENTINEL" Bundle.listD)) && decide (w ≠ .laysStatic Bundle.tN "UNASSIGNED_STACK" Bundle.steD) && decide (w ≠ .laysStatic Bundle.tN "SUPPRESSED_SENTINEL" Bundle.listD)
def vx_at0 (own : String) (ic : Nat) (X : String) (names : List String) : List Cond := (Bundle.ownAtoms0 own ic X names).filter vx_no
def vx_atS (own : String) (ic : Nat) (X : String) (names : List String) : List Cond := (Bundle.ownAtoms own ic X names).filter vx_no
/-- a word that the tables alone decide, or a good one -/
def vx_ot (w : Cond) : Bool := w.onTables || goodWord w
theorem vx_ot_at {args a' : Array Value} {s U : State} {w : Cond} (hW : s.WarmedH U.vm) (hvm : s.vm = U.vm) (hg : vx_ot w = true) (h : w.before args s = true) : w.before a' U = true := by
  simp only [vx_ot, Bool.or_eq_true] at hg
  rcases hg with hg | hg
  · exact va_tabs hg hvm h
  · exact word_at hW (good_of_word hg) h
/-- a list's words: the good ones out of the method's own list, the others by premises of their own -/
theorem vx_hat {args : Array Value} {s : State} {L B : List Cond} (h1 : ∀ w ∈ L.filter goodWord, w.before args s = true) (h2 : ∀ w ∈ L.filter (fun w => !goodWord w), w ∈ B) (h3 : ∀ w ∈ B, w.before args s = true) : ∀ w ∈ L, w.before args s = true := by
  intro w hw
  by_cases g : goodWord w = true
  · exact h1 w (List.mem_filter.mpr ⟨hw, g⟩)
  · refine h3 w (h2 w (List.mem_filter.mpr ⟨hw, ?_⟩))
    show (!goodWord w) = true
    cases hgw : goodWord w
    · rfl
    · exact absurd hgw g
theorem vx_c {args : Array Value} {s : State} {w : Cond} {B : List Cond} (h : w.before args s = true) (t : ∀ w ∈ B, w.before args s = true) : ∀ w' ∈ w :: B, w'.before args s = true := fun w' h' => (List.mem_cons.mp h').elim (fun e => by rw [e]; exact h) (t w')
theorem vx_n {args : Array Value} {s : State} : ∀ w ∈ ([] : List Cond), w.before args s = true := fun _ h => nomatch h
theorem vx_own {args : Array Value} {s : State} {L : List Cond} (h1 : ∀ w ∈ L.filter vx_no, w.before args s = true)
    (hU : (Cond.isRef (.static Bundle.tN "UNASSIGNED_STACK" Bundle.steD)).before args s = true) (hN : (Cond.isRef (.static Bundle.tN "SUPPRESSED_SENTINEL" Bundle.listD)).before args s = true)
    (lU : (Cond.laysStatic Bundle.tN "UNASSIGNED_STACK" Bundle.steD).before args s = true) (lN : (Cond.laysStatic Bundle.tN "SUPPRESSED_SENTINEL" Bundle.listD).before args s = true) : ∀ w ∈ L, w.before args s = true := by
  intro w hw
  by_cases e1 : w = .isRef (.static Bundle.tN "UNASSIGNED_STACK" Bundle.steD)
  · rw [e1]; exact hU
  · by_cases e2 : w = .isRef (.static Bundle.tN "SUPPRESSED_SENTINEL" Bundle.listD)
    · rw [e2]; exact hN
    · by_cases e3 : w = .laysStatic Bundle.tN "UNASSIGNED_STACK" Bundle.steD
      · rw [e3]; exact lU
      · by_cases e4 : w = .laysStatic Bundle.tN "SUPPRESSED_SENTINEL" Bundle.listD
        · rw [e4]; exact lN
        · exact h1 w (List.mem_filter.mpr ⟨hw, by unfold vx_no; rw [decide_eq_true e1, decide_eq_true e2, decide_eq_true e3, decide_eq_true e4]; rfl⟩)
/-- where a static field lies, its class's statics cell in H -/
def vx_L (C n d : String) (A : Nat → Prop) (U : State) (H : Heap) : Prop := ∃ (c : ClassId) (k : Class) (i : Nat) (f : Field) (a : Nat) (cell : Cell), U.vm.findClass C = some c ∧ U.fieldFound? C n d = some (c, k, i, f) ∧ f.isStatic = true ∧ k.statics = some a ∧ H[a]? = some cell ∧ cell.vm.isStatics = true ∧ cell.cls = c ∧ f.slot < cell.slots.size ∧ k.staticTypes[f.slot]? = some f.type ∧ ¬ A a
theorem vx_L.moved {C n d : String} {A : Nat → Prop} {u U : State} {H : Heap} (hvm : u.vm.Alike U.vm) (h : vx_L C n d A u H) : vx_L C n d A U H := by
  obtain ⟨c, k, i, f, a, cell, h1, h2, h3, h4, h5, h6, h7, h8, h9, h10⟩ := h
  obtain ⟨k', hi', he⟩ := State.fieldFound?_setVm hvm h2
  exact ⟨c, k', i, f, a, cell, by rw [hvm.findClass]; exact h1, hi', h3, by rw [he]; exact h4, h5, h6, h7, h8, by rw [he]; exact h9, h10⟩
theorem vx_L.kept {C n d : String} {A : Nat → Prop} {U : State} {H H1 : Heap} (h : vx_L C n d A U H) (hq : ∀ a : Nat, a < H.size → ¬ A a → H1[a]? = H[a]?) : vx_L C n d A U H1 := by
  obtain ⟨c, k, i, f, a, cell, h1, h2, h3, h4, h5, h6, h7, h8, h9, h10⟩ := h
  exact ⟨c, k, i, f, a, cell, h1, h2, h3, h4, by rw [hq a (Array.getElem?_eq_some_iff.mp h5).1 h10]; exact h5, h6, h7, h8, h9, h10⟩
theorem vx_L.narrow {C n d : String} {A B : Nat → Prop} {U : State} {H : Heap} (h : vx_L C n d A U H) (hAB : ∀ q, B q → A q) : vx_L C n d B U H := by
  obtain ⟨c, k, i, f, a, cell, h1, h2, h3, h4, h5, h6, h7, h8, h9, h10⟩ := h
  exact ⟨c, k, i, f, a, cell, h1, h2, h3, h4, h5, h6, h7, h8, h9, fun z => h10 (hAB _ z)⟩
theorem vx_L.word {C n d : String} {A : Nat → Prop} {s : State} {args : Array Value} (h : vx_L C n d A s s.heap) : (Cond.laysStatic C n d).before args s = true := by
  obtain ⟨c, k, i, f, a, cell, h1, h2, h3, h4, h5, h6, h7, h8, h9, -⟩ := h
  show (Cond.laysStatic C n d).holds args s none s [] = true
  exact Cond.laysStatic_of h1 h2 h3 h4 h5 h6 h7 h8 h9
/-- .. and what it holds: null or some reference -/
def vx_Zq (C n d : String) (A : Nat → Prop) (U : State) (H : Heap) : Prop := va_Zq C n d A U H ∧ vx_L C n d A U H
theorem vx_Zq.moved {C n d : String} {A : Nat → Prop} {u U : State} {H : Heap} (hvm : u.vm.Alike U.vm) (h : vx_Zq C n d A u H) : vx_Zq C n d A U H := ⟨va_Zq.moved hvm h.1, vx_L.moved hvm h.2⟩
theorem vx_Zq.kept {C n d : String} {A : Nat → Prop} {U : State} {H H1 : Heap} (h : vx_Zq C n d A U H) (hq : ∀ a : Nat, a < H.size → ¬ A a → H1[a]? = H[a]?) : vx_Zq C n d A U H1 := ⟨va_Zq.kept h.1 hq, vx_L.kept h.2 hq⟩
theorem vx_Zq.narrow {C n d : String} {A B : Nat → Prop} {U : State} {H : Heap} (h : vx_Zq C n d A U H) (hAB : ∀ q, B q → A q) : vx_Zq C n d B U H := ⟨va_Zq.narrow h.1 hAB, vx_L.narrow h.2 hAB⟩
theorem vx_Zqof {args : Array Value} {s : State} {C n d : String} {A : Nat → Prop} (hl : (Cond.laysStatic C n d).before args s = true) (hini : (Cond.initialized C).before args s = true) (h : (Cond.isRef (.static C n d)).before args s = true) (hA : ∀ a : Nat, a < s.heap.size → ¬ A a) : vx_Zq C n d A s s.heap := by
  refine ⟨va_Zqof hl hini h hA, ?_⟩
  obtain ⟨c, k, i, f, a, cell, h1, h2, h3, h4, h5, h6, h7, h8, h9⟩ := Cond.laysStatic_spec hl
  exact ⟨c, k, i, f, a, cell, h1, h2, h3, h4, h5, h6, h7, h8, h9, hA a (Array.getElem?_eq_some_iff.mp h5).1⟩
theorem vx_isRef {C n d : String} {v : Value} {A : Nat → Prop} {s : State} {args : Array Value} (h : va_Z C n d v A s s.heap) (hv : v.isRef = true) : (Cond.isRef (.static C n d)).before args s = true := by
  obtain ⟨cf, kf, fi, f, a, cell, h1, h2, h3, h4, h5, h6, h7, -⟩ := h
  have he : (Term.static C n d).eval args s none [] s = some v := by
    simp [Term.eval, State.fieldNamed?, h1, h2, h4, h5, h6, h7]
  simp only [Cond.before, Cond.holds, Cond.value, he]
  cases v <;> simp_all [Value.isRef]
theorem vx_isRefq {C n d : String} {A : Nat → Prop} {s : State} {args : Array Value} (h : va_Zq C n d A s s.heap) : (Cond.isRef (.static C n d)).before args s = true := by
  rcases h with h | ⟨t, h⟩
  · exact vx_isRef h rfl
  · exact vx_isRef h rfl
/-- the same frame, seen from here: as if the method were called anew in this heap -/
theorem vx_rebase {T : State} (X : Stand p l e R s m args below meth c T locs cells slots) {R' : Room} (hf : R'.frames ≤ R.frames) (hl : R'.locals ≤ R.locals) (hc : cells + R'.cells ≤ R.cells) (hs : slots + R'.slots ≤ R.slots) :
    Stand p l e R' ((T.setVm s.vm).setFrames (.invoking m args :: below)) m args below meth c T [] 0 0 := by
  have htop : (T.setVm s.vm).topJava?.isSome := X.here.top
  have hF : ((T.setVm s.vm).setFrames (.invoking m args :: below)).frames = .invoking m args :: below := State.frames_setFrames _ (State.cur_lt_of_top htop)
  obtain ⟨g₀, hg0⟩ := Option.isSome_iff_exists.mp htop
  obtain ⟨r, hr⟩ := State.topJava?_eq_some.mp hg0
  have hl9 : e.platform.stackLimits (T.setVm s.vm).me = e.platform.stackLimits s.me := X.limits
  have hb9 : (T.setVm s.vm).me.stackBytes = s.me.stackBytes := X.bytes
  refine ⟨X.admits, X.cas, X.clock, hF, ?_, X.hears, X.method, X.code, X.here, X.tail, X.warmed, ?_, ?_, ?_⟩
  · have h := X.room
    have hU : ((T.setVm s.vm).setFrames (.invoking m args :: below)).localsInUse = s.localsInUse := by
      rw [State.localsInUse_invoking hF (meth := meth) (c := c) X.method X.code, State.localsInUse_invoking X.frames X.method X.code]
    simp only [State.hasRoom, Bool.and_eq_true, decide_eq_true_eq] at h ⊢
    obtain ⟨⟨⟨⟨h1, h2, h3, h4, h5, h6⟩, h7⟩, h8⟩, h9⟩ := h
    rw [X.frames, List.length_cons] at h2 h3
    have q1 := X.heapSize
    have q2 := X.used
    simp only [hF, hU, List.length_cons, State.stackLimits_setFrames, State.stackBytes_setFrames, hl9, hb9]
    refine ⟨⟨⟨⟨by omega, by omega, by omega, by omega, by omega, h6⟩, ?_⟩, ?_⟩, X.book⟩
    · show T.heap.size + R'.cells ≤ e.platform.maxCells
      omega
    · show T.slotsUsed + R'.slots ≤ e.platform.maxSlots
      omega
  · rw [State.stackLimits_setFrames]; rfl
  · rw [State.stackBytes_setFrames]; rfl
  · refine ⟨?_, Nat.le_refl _, Nat.le_refl _, ?_, ?_, fun a c9 h9 => ⟨c9, h9, rfl, rfl, fun _ _ => rfl⟩⟩
    · obtain ⟨t, ht, -⟩ := State.frames_cons hr
      show T.setVm s.vm = { ((T.setVm s.vm).setFrames (.invoking m args :: below)).setFrames (T.setVm s.vm).frames with heap := T.heap, slotsUsed := T.slotsUsed }
      rw [State.setFrames_setFrames, State.setFrames_self ht]
      rfl
    · show T.slotsUsed = T.slotsUsed + ((T.heap.toList.drop T.heap.size).map (·.slots.size)).sum
      rw [List.drop_eq_nil_of_le (Nat.le_of_eq Array.length_toList)]
      rfl
    · show ((T.heap.toList.drop T.heap.size).map (·.slots.size)).sum ≤ 0
      rw [List.drop_eq_nil_of_le (Nat.le_of_eq Array.length_toList)]
      exact Nat.le_refl _
/-- 'throw new E()': new; dup; invokespecial; athrow -/
theorem vx_throw0 {cc : ByteArray} {pc : Nat} (hexec : p.tables.exec = Jvm.exec) (hb : c.code = cc) (hl : l.stackTraces = false) {own cls : String} {names : List String} {ik ic mc ms : Nat} {A : Nat → Prop}
    (hown : s.vm.findClass own = some m.cls) (hcls : Bundle.fit cls = true) (hnames : ∀ n ∈ names, Bundle.fit n = true)
    (hk : (Cond.classLink own ik cls).before args s = true) (hini : (Cond.initialized cls).before args s = true) (hat : ∀ w ∈ vx_at0 own ic cls names, w.before args s = true)
    (hgood : ∀ w ∈ Cond.classLink own ik cls :: Cond.initialized cls :: vx_at0 own ic cls names, vx_ot w = true)
    (hU : vx_Zq Bundle.tN "UNASSIGNED_STACK" Bundle.steD A s s.heap) (hN : vx_Zq Bundle.tN "SUPPRESSED_SENTINEL" Bundle.listD A s s.heap) (hS : va_S A s.heap H locs) (hsize : ls.size = c.maxLocals)
    (d0 : decode cc pc = .ok (.new ik, 3)) (d3 : decode cc (pc + 3) = .ok (.dup, 1)) (d4 : decode cc (pc + 4) = .ok (.invokespecial ic, 3)) (d7 : decode cc (pc + 7) = .ok (.athrow, 1))
    (hout : ∀ x ∈ c.exceptionTable.toList, covers x (pc + 7) = false)
    (hRframes : names.length + 3 < R.frames) (hRlocals : (rest.map fun v => v.category).sum + (13 * (names.length + 1) + 42) ≤ R.locals) (hRcells : cells + 1 ≤ R.cells) (hRslots : slots + 6 ≤ R.slots) (hlocks : meth.locks = false)
    (hx : ∀ t : State, s.vm.Alike t.vm → H.size ≤ t.heap.size → (∀ q : Nat, q < H.size → t.heap[q]? = H[q]?) → XC cls s t)
    (hf : ∀ z ∈ locs, free z.base) (hc : cells + 1 ≤ mc) (hs : slots + 6 ≤ ms) :
    W p l e R s m args below meth c H locs cells slots (vx_MQ below Qc XC args s mc ms free) (F0 m pc ls rest) := by
  intro T hT X
  have htr : e.platform.stackTraces = false := (show e.platform.stackTraces = l.stackTraces by rw [X.admits.platform]).trans hl
  have Y := vx_rebase X (R' := { frames := R.frames, locals := R.locals, cells := 1, slots := 6 }) (Nat.le_refl _) (Nat.le_refl _) hRcells hRslots
  obtain ⟨s', hA⟩ : ∃ z, z = (T.setVm s.vm).setFrames (.invoking m args :: below) := ⟨_, rfl⟩
  rw [← hA] at Y
  have hvm : s'.vm = s.vm := by rw [hA]; rfl
  have hhp : s'.heap = H := by rw [hA]; exact hT
  have hW0 : s.WarmedH s'.vm := by rw [hvm]; exact State.WarmedH.refl s
  have hat' : ∀ w ∈ vx_at0 own ic cls names, w.before args s' = true := fun w hw => vx_ot_at hW0 hvm.symm (hgood w (List.mem_cons_of_mem _ (List.mem_cons_of_mem _ hw))) (hat w hw)
  have hk' : (Cond.classLink own ik cls).before args s' = true := vx_ot_at hW0 hvm.symm (hgood _ List.mem_cons_self) hk
  have hini' : (Cond.initialized cls).before args s' = true := vx_ot_at hW0 hvm.symm (hgood _ (List.mem_cons_of_mem _ List.mem_cons_self)) hini
  have hU' : vx_Zq Bundle.tN "UNASSIGNED_STACK" Bundle.steD A s' s'.heap := by rw [hhp]; exact vx_Zq.moved hW0.alike (hU.kept hS.2.1)
  have hN' : vx_Zq Bundle.tN "SUPPRESSED_SENTINEL" Bundle.listD A s' s'.heap := by rw [hhp]; exact vx_Zq.moved hW0.alike (hN.kept hS.2.1)
  have h : ∀ w ∈ Bundle.ownAtoms0 own ic cls names, w.before args s' = true := vx_own hat' (vx_isRefq hU'.1) (vx_isRefq hN'.1) hU'.2.word hN'.2.word
  have hown' : s'.vm.findClass own = some m.cls := by rw [hvm]; exact hown
  have hins : (Cond.instantiable cls 6).before args s' = true := h _ (by simp [Bundle.ownAtoms0])
  obtain ⟨vm₁, cX, kX, hfX, hkX, -, -, X₁, st1⟩ := Y.newCold hexec (own := own) (C := cls) (index := ik) (n := 6) hown' hk' hins hini'
    (g := F0 m pc ls rest) rfl (by rw [hb]; exact d0) (Nat.le_refl _) (Nat.le_refl _)
  generalize hT1 : (T.setVm vm₁).pushCell { cls := cX, slots := kX.instanceTypes.map defaultValue, vm := .none } = T1 at X₁ st1
  have hcat : (Value.ref T.heap.size).category = 1 := rfl
  have hcellA : T1.heap[T.heap.size]? = some (freshCell cX kX) := by rw [← hT1]; exact State.heap_pushCell_size _ _
  have d3' : decode c.code (pc + 3) = .ok (.dup, 1) := by rw [hb]; exact d3
  obtain ⟨U, hsteps, hrun, hend, hW, hsame, ce, hce, hO⟩ := X₁.ctorThrow0 hexec htr (own := own) (cls := cls) (names := names) (ic := ic) hown' hcls hnames h (fun x hx => nomatch hx) hfX hkX hcellA (by rw [hhp, hT]; exact Nat.le_refl _)
    (g := { method := m, pc := pc + 4, locals := ls, stack := .ref T.heap.size :: .ref T.heap.size :: rest, locked := none }) rfl hsize rfl rfl (rest := rest) rfl
    (by rw [hb]; exact d4) (by rw [hb]; exact d7) hout hRframes (by simp only [List.map_cons, List.sum_cons, hcat]; omega) hlocks
  obtain ⟨f1, f2⟩ := vx_frame hsame
  rw [hhp] at f1 f2
  have hWs : s.WarmedH U.vm := State.WarmedH.trans hW0 hW
  have hcl : s.vm.findClass cls = some ce.cls := by
    have h9 := hO.cls
    rw [hvm] at h9
    exact h9
  have hall : s.sameButNew ({ U with vm := s.vm } : State) locs mc ms := by
    subst hA
    obtain ⟨e1, e2⟩ := hsame
    rw [State.setFrames_setFrames] at e1
    have h2 : (T.setVm s.vm).sameButNew ({ U with vm := s.vm } : State) [] (0 + 1) (0 + 6) := ⟨e1, e2⟩
    have h3 := X.same.trans h2
    rw [List.append_nil] at h3
    exact h3.mono hc hs
  refine ⟨U, ?_, .threw T.heap.size, hrun, hend, Or.inr ⟨T.heap.size, rfl, cls, ce, locs, hx U hWs.alike f1 (fun q hq => f2 q hq (fun z hz => nomatch hz)), hce, hO.vm, hcl, hWs, hall, hf⟩⟩
  refine st1 _ ?_
  show Steps p.tables e below (T1.setTop { method := m, pc := pc + 3, locals := ls, stack := .ref T.heap.size :: rest, locked := none }) _
  jvm_step X₁.here [X₁.here.top, hexec, d3', Value.category]
  exact hsteps
/-- 'throw new E("text")': new; dup; ldc; invokespecial; athrow -/
theorem vx_throwS {cc : ByteArray} {pc : Nat} (hexec : p.tables.exec = Jvm.exec) (hb : c.code = cc) (hl : l.stackTraces = false) {own cls text : String} {names : List String} {ik is ic mc ms sa : Nat} {A : Nat → Prop}
    (hown : s.vm.findClass own = some m.cls) (hcls : Bundle.fit cls = true) (hnames : ∀ n ∈ names, Bundle.fit n = true)
    (hk : (Cond.classLink own ik cls).before args s = true) (hini : (Cond.initialized cls).before args s = true) (hstr : vk_R own is text sa s) (hat : ∀ w ∈ vx_atS own ic cls names, w.before args s = true)
    (hgood : ∀ w ∈ Cond.classLink own ik cls :: Cond.initialized cls :: vx_atS own ic cls names, vx_ot w = true)
    (hU : vx_Zq Bundle.tN "UNASSIGNED_STACK" Bundle.steD A s s.heap) (hN : vx_Zq Bundle.tN "SUPPRESSED_SENTINEL" Bundle.listD A s s.heap) (hS : va_S A s.heap H locs) (hsize : ls.size = c.maxLocals)
    (d0 : decode cc pc = .ok (.new ik, 3)) (d3 : decode cc (pc + 3) = .ok (.dup, 1)) (d4 : decode cc (pc + 4) = .ok (.ldc is, 2)) (d6 : decode cc (pc + 6) = .ok (.invokespecial ic, 3)) (d9 : decode cc (pc + 9) = .ok (.athrow, 1))
    (hout : ∀ x ∈ c.exceptionTable.toList, covers x (pc + 9) = false)
    (hRframes : names.length + 3 < R.frames) (hRlocals : (rest.map fun v => v.category).sum + (13 * (names.length + 1) + 43) ≤ R.locals) (hRcells : cells + 1 ≤ R.cells) (hRslots : slots + 6 ≤ R.slots) (hlocks : meth.locks = false)
    (hx : ∀ t : State, s.vm.Alike t.vm → H.size ≤ t.heap.size → (∀ q : Nat, q < H.size → t.heap[q]? = H[q]?) → XC cls s t)
    (hf : ∀ z ∈ locs, free z.base) (hc : cells + 1 ≤ mc) (hs : slots + 6 ≤ ms) :
    W p l e R s m args below meth c H locs cells slots (vx_MQ below Qc XC args s mc ms free) (F0 m pc ls rest) := by
  intro T hT X
  have htr : e.platform.stackTraces = false := (show e.platform.stackTraces = l.stackTraces by rw [X.admits.platform]).trans hl
  have Y := vx_rebase X (R' := { frames := R.frames, locals := R.locals, cells := 1, slots := 6 }) (Nat.le_refl _) (Nat.le_refl _) hRcells hRslots
  obtain ⟨s', hA⟩ : ∃ z, z = (T.setVm s.vm).setFrames (.invoking m args :: below) := ⟨_, rfl⟩
  rw [← hA] at Y
  have hvm : s'.vm = s.vm := by rw [hA]; rfl
  have hhp : s'.heap = H := by rw [hA]; exact hT
  have hW0 : s.WarmedH s'.vm := by rw [hvm]; exact State.WarmedH.refl s
  have hat' : ∀ w ∈ vx_atS own ic cls names, w.before args s' = true := fun w hw => vx_ot_at hW0 hvm.symm (hgood w (List.mem_cons_of_mem _ (List.mem_cons_of_mem _ hw))) (hat w hw)
  have hk' : (Cond.classLink own ik cls).before args s' = true := vx_ot_at hW0 hvm.symm (hgood _ List.mem_cons_self) hk
  have hini' : (Cond.initialized cls).before args s' = true := vx_ot_at hW0 hvm.symm (hgood _ (List.mem_cons_of_mem _ List.mem_cons_self)) hini
  have hU' : vx_Zq Bundle.tN "UNASSIGNED_STACK" Bundle.steD A s' s'.heap := by rw [hhp]; exact vx_Zq.moved hW0.alike (hU.kept hS.2.1)
  have hN' : vx_Zq Bundle.tN "SUPPRESSED_SENTINEL" Bundle.listD A s' s'.heap := by rw [hhp]; exact vx_Zq.moved hW0.alike (hN.kept hS.2.1)
  have h : ∀ w ∈ Bundle.ownAtoms own ic cls names, w.before args s' = true := vx_own hat' (vx_isRefq hU'.1) (vx_isRefq hN'.1) hU'.2.word hN'.2.word
  have hown' : s'.vm.findClass own = some m.cls := by rw [hvm]; exact hown
  have hins : (Cond.instantiable cls 6).before args s' = true := h _ (by simp [Bundle.ownAtoms])
  obtain ⟨vm₁, cX, kX, hfX, hkX, -, -, X₁, st1⟩ := Y.newCold hexec (own := own) (C := cls) (index := ik) (n := 6) hown' hk' hins hini'
    (g := F0 m pc ls rest) rfl (by rw [hb]; exact d0) (Nat.le_refl _) (Nat.le_refl _)
  generalize hT1 : (T.setVm vm₁).pushCell { cls := cX, slots := kX.instanceTypes.map defaultValue, vm := .none } = T1 at X₁ st1
  have hcat : (Value.ref T.heap.size).category = 1 := rfl
  have hcellA : T1.heap[T.heap.size]? = some (freshCell cX kX) := by rw [← hT1]; exact State.heap_pushCell_size _ _
  have d3' : decode c.code (pc + 3) = .ok (.dup, 1) := by rw [hb]; exact d3
  have d4' : decode c.code (pc + 4) = .ok (.ldc is, 2) := by rw [hb]; exact d4
  have hstr' : vk_R own is text sa s' := vk_R.warm hW0 hstr
  obtain ⟨U, hsteps, hrun, hend, hW, hsame, ce, hce, hO⟩ := X₁.ctorThrowS hexec htr (own := own) (cls := cls) (names := names) (ic := ic) hown' hcls hnames h (fun x hx => nomatch hx) hfX hkX hcellA (by rw [hhp, hT]; exact Nat.le_refl _) (msg := .ref sa) rfl
    (g := { method := m, pc := pc + 6, locals := ls, stack := .ref sa :: .ref T.heap.size :: .ref T.heap.size :: rest, locked := none }) rfl hsize rfl rfl (rest := rest) rfl
    (by rw [hb]; exact d6) (by rw [hb]; exact d9) hout hRframes (by simp only [List.map_cons, List.sum_cons, hcat]; omega) hlocks
  obtain ⟨f1, f2⟩ := vx_frame hsame
  rw [hhp] at f1 f2
  have hWs : s.WarmedH U.vm := State.WarmedH.trans hW0 hW
  have hcl : s.vm.findClass cls = some ce.cls := by
    have h9 := hO.cls
    rw [hvm] at h9
    exact h9
  have hall : s.sameButNew ({ U with vm := s.vm } : State) locs mc ms := by
    subst hA
    obtain ⟨e1, e2⟩ := hsame
    rw [State.setFrames_setFrames] at e1
    have h2 : (T.setVm s.vm).sameButNew ({ U with vm := s.vm } : State) [] (0 + 1) (0 + 6) := ⟨e1, e2⟩
    have h3 := X.same.trans h2
    rw [List.append_nil] at h3
    exact h3.mono hc hs
  refine ⟨U, ?_, .threw T.heap.size, hrun, hend, Or.inr ⟨T.heap.size, rfl, cls, ce, locs, hx U hWs.alike f1 (fun q hq => f2 q hq (fun z hz => nomatch hz)), hce, hO.vm, hcl, hWs, hall, hf⟩⟩
  refine st1 _ ?_
  show Steps p.tables e below (T1.setTop { method := m, pc := pc + 3, locals := ls, stack := .ref T.heap.size :: rest, locked := none }) _
  jvm_step X₁.here [X₁.here.top, hexec, d3', Value.category]
  exact X₁.ldcString hexec (own := own) (text := text) (index := is) (a := sa) hown' hstr'.1 hstr'.2
    (g := { method := m, pc := pc + 4, locals := ls, stack := .ref T.heap.size :: .ref T.heap.size :: rest, locked := none }) rfl d4' _ hsteps
/-- 'throw new E("text")', the text by a wide index -/
theorem vx_throwSW {cc : ByteArray} {pc : Nat} (hexec : p.tables.exec = Jvm.exec) (hb : c.code = cc) (hl : l.stackTraces = false) {own cls text : String} {names : List String} {ik is ic mc ms sa : Nat} {A : Nat → Prop}
    (hown : s.vm.findClass own = some m.cls) (hcls : Bundle.fit cls = true) (hnames : ∀ n ∈ names, Bundle.fit n = true)
    (hk : (Cond.classLink own ik cls).before args s = true) (hini : (Cond.initialized cls).before args s = true) (hstr : vk_R own is text sa s) (hat : ∀ w ∈ vx_atS own ic cls names, w.before args s = true)
    (hgood : ∀ w ∈ Cond.classLink own ik cls :: Cond.initialized cls :: vx_atS own ic cls names, vx_ot w = true)
    (hU : vx_Zq Bundle.tN "UNASSIGNED_STACK" Bundle.steD A s s.heap) (hN : vx_Zq Bundle.tN "SUPPRESSED_SENTINEL" Bundle.listD A s s.heap) (hS : va_S A s.heap H locs) (hsize : ls.size = c.maxLocals)
    (d0 : decode cc pc = .ok (.new ik, 3)) (d3 : decode cc (pc + 3) = .ok (.dup, 1)) (d4 : decode cc (pc + 4) = .ok (.ldc_w is, 3)) (d7 : decode cc (pc + 7) = .ok (.invokespecial ic, 3)) (d10 : decode cc (pc + 10) = .ok (.athrow, 1))
    (hout : ∀ x ∈ c.exceptionTable.toList, covers x (pc + 10) = false)
    (hRframes : names.length + 3 < R.frames) (hRlocals : (rest.map fun v => v.category).sum + (13 * (names.length + 1) + 43) ≤ R.locals) (hRcells : cells + 1 ≤ R.cells) (hRslots : slots + 6 ≤ R.slots) (hlocks : meth.locks = false)
    (hx : ∀ t : State, s.vm.Alike t.vm → H.size ≤ t.heap.size → (∀ q : Nat, q < H.size → t.heap[q]? = H[q]?) → XC cls s t)
    (hf : ∀ z ∈ locs, free z.base) (hc : cells + 1 ≤ mc) (hs : slots + 6 ≤ ms) :
    W p l e R s m args below meth c H locs cells slots (vx_MQ below Qc XC args s mc ms free) (F0 m pc ls rest) := by
  intro T hT X
  have htr : e.platform.stackTraces = false := (show e.platform.stackTraces = l.stackTraces by rw [X.admits.platform]).trans hl
  have Y := vx_rebase X (R' := { frames := R.frames, locals := R.locals, cells := 1, slots := 6 }) (Nat.le_refl _) (Nat.le_refl _) hRcells hRslots
  obtain ⟨s', hA⟩ : ∃ z, z = (T.setVm s.vm).setFrames (.invoking m args :: below) := ⟨_, rfl⟩
  rw [← hA] at Y
  have hvm : s'.vm = s.vm := by rw [hA]; rfl
  have hhp : s'.heap = H := by rw [hA]; exact hT
  have hW0 : s.WarmedH s'.vm := by rw [hvm]; exact State.WarmedH.refl s
  have hat' : ∀ w ∈ vx_atS own ic cls names, w.before args s' = true := fun w hw => vx_ot_at hW0 hvm.symm (hgood w (List.mem_cons_of_mem _ (List.mem_cons_of_mem _ hw))) (hat w hw)
  have hk' : (Cond.classLink own ik cls).before args s' = true := vx_ot_at hW0 hvm.symm (hgood _ List.mem_cons_self) hk
  have hini' : (Cond.initialized cls).before args s' = true := vx_ot_at hW0 hvm.symm (hgood _ (List.mem_cons_of_mem _ List.mem_cons_self)) hini
  have hU' : vx_Zq Bundle.tN "UNASSIGNED_STACK" Bundle.steD A s' s'.heap := by rw [hhp]; exact vx_Zq.moved hW0.alike (hU.kept hS.2.1)
  have hN' : vx_Zq Bundle.tN "SUPPRESSED_SENTINEL" Bundle.listD A s' s'.heap := by rw [hhp]; exact vx_Zq.moved hW0.alike (hN.kept hS.2.1)
  have h : ∀ w ∈ Bundle.ownAtoms own ic cls names, w.before args s' = true := vx_own hat' (vx_isRefq hU'.1) (vx_isRefq hN'.1) hU'.2.word hN'.2.word
  have hown' : s'.vm.findClass own = some m.cls := by rw [hvm]; exact hown
  have hins : (Cond.instantiable cls 6).before args s' = true := h _ (by simp [Bundle.ownAtoms])
  obtain ⟨vm₁, cX, kX, hfX, hkX, -, -, X₁, st1⟩ := Y.newCold hexec (own := own) (C := cls) (index := ik) (n := 6) hown' hk' hins hini'
    (g := F0 m pc ls rest) rfl (by rw [hb]; exact d0) (Nat.le_refl _) (Nat.le_refl _)
  generalize hT1 : (T.setVm vm₁).pushCell { cls := cX, slots := kX.instanceTypes.map defaultValue, vm := .none } = T1 at X₁ st1
  have hcat : (Value.ref T.heap.size).category = 1 := rfl
  have hcellA : T1.heap[T.heap.size]? = some (freshCell cX kX) := by rw [← hT1]; exact State.heap_pushCell_size _ _
  have d3' : decode c.code (pc + 3) = .ok (.dup, 1) := by rw [hb]; exact d3
  have d4' : decode c.code (pc + 4) = .ok (.ldc_w is, 3) := by rw [hb]; exact d4
  have hstr' : vk_R own is text sa s' := vk_R.warm hW0 hstr
  obtain ⟨U, hsteps, hrun, hend, hW, hsame, ce, hce, hO⟩ := X₁.ctorThrowS hexec htr (own := own) (cls := cls) (names := names) (ic := ic) hown' hcls hnames h (fun x hx => nomatch hx) hfX hkX hcellA (by rw [hhp, hT]; exact Nat.le_refl _) (msg := .ref sa) rfl
    (g := { method := m, pc := pc + 7, locals := ls, stack := .ref sa :: .ref T.heap.size :: .ref T.heap.size :: rest, locked := none }) rfl hsize rfl rfl (rest := rest) rfl
    (by rw [hb]; exact d7) (by rw [hb]; exact d10) hout hRframes (by simp only [List.map_cons, List.sum_cons, hcat]; omega) hlocks
  obtain ⟨f1, f2⟩ := vx_frame hsame
  rw [hhp] at f1 f2
  have hWs : s.WarmedH U.vm := State.WarmedH.trans hW0 hW
  have hcl : s.vm.findClass cls = some ce.cls := by
    have h9 := hO.cls
    rw [hvm] at h9
    exact h9
  have hall : s.sameButNew ({ U with vm := s.vm } : State) locs mc ms := by
    subst hA
    obtain ⟨e1, e2⟩ := hsame
    rw [State.setFrames_setFrames] at e1
    have h2 : (T.setVm s.vm).sameButNew ({ U with vm := s.vm } : State) [] (0 + 1) (0 + 6) := ⟨e1, e2⟩
    have h3 := X.same.trans h2
    rw [List.append_nil] at h3
    exact h3.mono hc hs
  refine ⟨U, ?_, .threw T.heap.size, hrun, hend, Or.inr ⟨T.heap.size, rfl, cls, ce, locs, hx U hWs.alike f1 (fun q hq => f2 q hq (fun z hz => nomatch hz)), hce, hO.vm, hcl, hWs, hall, hf⟩⟩
  refine st1 _ ?_
  show Steps p.tables e below (T1.setTop { method := m, pc := pc + 3, locals := ls, stack := .ref T.heap.size :: rest, locked := none }) _
  jvm_step X₁.here [X₁.here.top, hexec, d3', Value.category]
  exact X₁.ldcStringW hexec (own := own) (text := text) (index := is) (a := sa) hown' hstr'.1 hstr'.2
    (g := { method := m, pc := pc + 4, locals := ls, stack := .ref T.heap.size :: .ref T.heap.size :: rest, locked := none }) rfl d4' _ hsteps
end Ends
section Bodies
variable {l : Launch}
theorem vx_ofW {y : MethodName} {ws ws' : List Cond} {rm : Room} {Pc : Array Value → State → Prop} {Qc : Array Value → State → Outcome → State → Prop} {XC : String → State → State → Prop} {mc ms : Nat} {free : Addr → Prop} {cc : ByteArray} {maxL : Nat} {ret : Option FieldType}
    (hy : plainName y.cls = true) (hw : ws = Cond.code y cc maxL ret :: ws')
    (body : ∀ p e s m args below meth c s₁, BodyLoose p l y (headSpec ws rm) cc maxL ret e s m args below meth c s₁ → c.maxLocals = maxL → (∀ x ∈ c.exceptionTable.toList, False) → Pc args s →
      W p l e (headSpec ws rm).room s m args below meth c s.heap [] 0 0 (vx_MQ below Qc XC args s mc ms free) (entryFrame m args maxL)) : vx_Met l y ws rm Pc Qc XC mc ms free := by
  refine MetFree.of_bodyS (code := cc) (maxLocals := maxL) (ret := ret) hy ?_ ?_
  · intro args s m h hn
    obtain ⟨meth, c, h1, h2, h3, h4, h5, h6, -, -⟩ := Cond.code_spec hn (atoms_spec (ws := ws) h _ (by rw [hw]; exact List.mem_cons_self))
    exact ⟨meth, c, h1, h2, h3, h4, h5, h6⟩
  · intro p e s m args below meth c s₁ B hml hP _
    have hh0 : s₁.heap = s.heap := by rw [B.state]; rfl
    have ht : ∀ x ∈ c.exceptionTable.toList, False := by
      obtain ⟨meth9, c9, h1, h2, -, -, -, -, h7, -⟩ := Cond.code_spec B.named (atoms_spec (ws := ws) B.pre _ (by rw [hw]; exact List.mem_cons_self))
      cases Option.some.inj (h1.symm.trans B.method)
      cases Option.some.inj (h2.symm.trans (Stand.of_body B).code)
      intro x hx
      rw [Array.isEmpty_iff.mp h7] at hx
      cases hx
    obtain ⟨t, a1, o, b1, b2, b3⟩ := body p e s m args below meth c s₁ B hml ht hP s₁ hh0 (Stand.of_body B)
    exact ⟨t, o, a1, b1, b2, b3⟩
/-- the table of a body with handlers -/
theorem vx_table {p : Program} {x y : MethodName} {S : Spec} {cc bytes : ByteArray} {maxL maxL' : Nat} {ret ret' : Option FieldType} {e : Env} {s s₁ : State} {m : MethodId} {args : Array Value} {below : List Frame} {meth : Method} {c : Code} {hh : List (Nat × Nat × Nat × Nat)}
    (B : BodyLoose p l y S cc maxL ret e s m args below meth c s₁) (h : (Cond.codeWith y bytes maxL' ret' hh).before args s = true) : c.exceptionTable.toList = tableOf hh := by
  obtain ⟨m9, meth9, c9, hn9, h1, h2, -, -, h6, -⟩ := Cond.codeWith_spec h
  cases Option.some.inj (hn9.symm.trans B.named)
  cases Option.some.inj (h1.symm.trans B.method)
  cases Option.some.inj (h2.symm.trans (Stand.of_body B).code)
  rw [← h6, table_eq]
end Bodies
end VXA
/-! ===== END ===== -/
/-! ===== BEGIN a static call of a method with an exception table ===== -/
section VXS
variable {p : Program} {l : Launch} {e : Env} {R : Room} {s : State} {m : MethodId} {args : Array Value} {below : List Frame} {meth : Method} {c : Code} {T : State} {H : Heap} {locs : List Loc} {cells slots : Nat}
abbrev vx_CSW (R : Room) (s : State) (args : Array Value) (own : String) (index : Nat) (y : MethodName) (bytes : ByteArray) (maxL : Nat) (ret : Option FieldType) (hh : List (Nat × Nat × Nat × Nat)) (ws : List Cond) (rm : Room) (mc ms n : Nat) : Prop :=
  (rm.cells = mc ∧ rm.slots = ms ∧ rm.frames + 1 ≤ R.frames ∧ 8 + (maxL + 11) + rm.locals ≤ R.locals ∧ (∀ w ∈ ws, ∀ (a' : Array Value) (U : State), s.WarmedH U.vm → w.before a' U = true) ∧ Cond.codeWith y bytes maxL ret hh ∈ ws) ∧
  (Cond.codeWith y bytes maxL ret hh).before args s = true ∧ (Cond.initialized y.cls).before args s = true ∧ (y.cls ≠ "java/lang/invoke/MethodHandle" ∧ y.cls ≠ "java/lang/invoke/VarHandle") ∧
  (∀ sig, parseMethodDescriptor y.desc = some sig → n = sig.parameters.length) ∧ (Cond.methodLink own index y).before args s = true ∧ (Cond.static y).before args s = true
theorem vx_cwSW {own : String} {index maxL mc ms : Nat} {y : MethodName} {bytes : ByteArray} {ret : Option FieldType} {hh : List (Nat × Nat × Nat × Nat)} {Ts ws ws' : List Cond} {rm : Room} (n : Nat) (ht : ∀ w ∈ Ts, w.before args s = true) (hT : GoodIn Ts (va_wsS own index y ws)) (hw : ws = Cond.codeWith y bytes maxL ret hh :: ws') (hrc : rm.cells = mc) (hrs : rm.slots = ms)
    (hd : y.cls ≠ "java/lang/invoke/MethodHandle" ∧ y.cls ≠ "java/lang/invoke/VarHandle" ∧ (parseMethodDescriptor y.desc).map (fun d => d.parameters.length) = some n) (hR : rm.frames + 1 ≤ R.frames ∧ 8 + (maxL + 11) + rm.locals ≤ R.locals) :
    vx_CSW R s args own index y bytes maxL ret hh ws rm mc ms n := by
  have ok : ∀ w ∈ va_wsS own index y ws, w.before args s = true := fun w h => ht w (hT w h).1
  have hG : GoodIn Ts ws := fun w h => hT w (by unfold va_wsS; exact List.mem_append_right _ h)
  have hc : Cond.codeWith y bytes maxL ret hh ∈ ws := by rw [hw]; exact List.mem_cons_self
  refine ⟨⟨hrc, hrs, hR.1, hR.2, pay_in ht hG, hc⟩, ht _ (hG _ hc).1, ok _ (by simp [va_wsS]), ⟨hd.1, hd.2.1⟩, fun sig h => ?_, ok _ (by simp [va_wsS]), ok _ (by simp [va_wsS])⟩
  have h2 := hd.2.2
  rw [h] at h2
  exact (Option.some.inj h2).symm
theorem vx_callSW (X : Stand p l e R s m args below meth c T locs cells slots) (hexec : p.tables.exec = Jvm.exec) {own : String} {index : Nat} {y : MethodName} {bytes : ByteArray} {maxL : Nat} {ret : Option FieldType} {hh : List (Nat × Nat × Nat × Nat)}
    (hown : s.vm.findClass own = some m.cls) (hlink : (Cond.methodLink own index y).before args s = true) (hstat : (Cond.static y).before args s = true) (hinit : (Cond.initialized y.cls).before args s = true)
    (hcode : (Cond.codeWith y bytes maxL ret hh).before args s = true) (hy : y.cls ≠ "java/lang/invoke/MethodHandle" ∧ y.cls ≠ "java/lang/invoke/VarHandle")
    {W9 : Nat} {Pre : Pt → Array Value → Prop} {Post : Pt → Array Value → Option Value → Pt → Prop} (hK : Back l R p e below s args y 3 W9 Pre Post)
    {g : JFrame} (hg : g.method = m) (hsize : g.locals.size = c.maxLocals) {argsL rest : List Value} (hlen : ∀ sig, parseMethodDescriptor y.desc = some sig → argsL.length = sig.parameters.length)
    (hstack : g.stack = argsL.reverse ++ rest) (hW : 2 * g.monitorRoom + (rest.map fun v => v.category).sum ≤ W9) (hdg : decode c.code g.pc = .ok (.invokestatic index, 3))
    (hpre : ∀ vm₁, s.WarmedH vm₁ → Pre ⟨T.setVm vm₁, locs, cells, slots⟩ argsL.toArray) :
    ∃ (v : Option Value) (vm₁ : Vm) (B : Pt), s.WarmedH vm₁ ∧ Stand p l e R s m args below meth c B.U B.locs B.cells B.slots ∧ Post ⟨T.setVm vm₁, locs, cells, slots⟩ argsL.toArray v B ∧
      ∀ target, Steps p.tables e below (B.U.setTop { g with pc := g.pc + 3, stack := v.toList ++ rest }) target → Steps p.tables e below (T.setTop g) target := by
  obtain ⟨mk, methM, cM, hnamed, hmethM, -, -, -, -, -, -, hsigM⟩ := Cond.codeWith_spec hcode
  have hstatic : methM.isStatic = true := Cond.static_spec hnamed hmethM hstat
  obtain ⟨kP, hkP, -⟩ := className_of_methodNamed hnamed
  have hinitP : kP.init = .initialized := Cond.initialized_spec (findClass_of_methodNamed hnamed) hkP hinit
  obtain ⟨vm₁, X₁, hstep₁⟩ := X.invokestatic hexec hown hlink hnamed hmethM hstatic hkP hinitP hy (g := g) hg (argsL := argsL) (rest := rest) (hlen _ hsigM) hstack hdg
  obtain ⟨v, B, X', hpost, hsteps⟩ := hK m meth c ⟨T.setVm vm₁, locs, cells, slots⟩ { g with stack := rest } (.invokestatic index) mk argsL.toArray X₁ hg hsize hdg hW (X₁.named hnamed) (hpre vm₁ X₁.warmed)
  exact ⟨v, vm₁, B, X₁.warmed, X', hpost, fun target h => hstep₁ _ fun acts => by rw [doInvoke_state]; exact hsteps.trans h⟩
theorem vx_runSW {y : MethodName} {bytes cc : ByteArray} {maxL nL mc ms n index : Nat} {ret : Option FieldType} {hh : List (Nat × Nat × Nat × Nat)} {ws : List Cond} {rm : Room} {Pc : Array Value → State → Prop} {Qc : Array Value → State → Outcome → State → Prop} {free : Addr → Prop} {Ts : List Cond} {own : String} {As rest : List Value} {g : JFrame}
    (S : CallFix p m c cc nL s args Ts own) (hM : Met l y ws rm Pc Qc mc ms free) (cw : vx_CSW R s args own index y bytes maxL ret hh ws rm mc ms n) (hp : PreS s H Pc As)
    (hg : g.method = m) (hn : As.length = n) (hsize : g.locals.size = nL) (hstack : g.stack = As.reverse ++ rest) (hW : 2 * g.monitorRoom + (rest.map fun v => v.category).sum ≤ 8) (hdg : decode cc g.pc = .ok (.invokestatic index, 3)) (hf : cells + mc ≤ R.cells ∧ slots + ms ≤ R.slots) :
    va_Run p l e R s m args below meth c H locs cells slots mc ms g rest (Qc As.toArray) (free) := by
  obtain ⟨⟨hrc, hrs, hfr, hlo, hws, hcw⟩, hcode, hini, hy, hlen, hl, hstt⟩ := cw
  have hK : Back l R p e below s args y 3 8 (PreOf R mc ms Pc) (PostOf Qc mc ms free) := va_backW (hh := hh) (bytes := bytes) (maxL := maxL) (ret := ret) hM hp.1 hrc hrs hfr hlo hws hcw (fun a' U hW => word_at hW (Or.inl (by first | rfl | simp [Cond.onTables, Cond.keeps, Cond.steady])) hini)
  obtain ⟨hx, hb, hml, ho, -⟩ := S
  intro T hT X
  obtain ⟨v, vm₁, ⟨U', l2, c2, s2⟩, hW₁, X', ⟨g', mk, t, L, e1, e2, hq, h1, hL, h2, h3⟩, st⟩ := vx_callSW X hx (hh := hh) (bytes := bytes) (maxL := maxL) (ret := ret) ho hl hstt hini hcode hy hK hg (hsize.trans hml.symm) (argsL := As) (rest := rest) (fun sig h => hn.trans (hlen sig h)) hstack hW (by rw [hb]; exact hdg)
    (fun vm₁ hW₁ => ⟨hf.1, hf.2, hp.2 (T.setVm vm₁) hT hW₁⟩)
  dsimp only [Pt.U, Pt.locs, Pt.cells, Pt.slots] at X' e1 e2 h1 h2 h3 st
  subst h1; subst h2; subst h3
  exact ⟨v, (T.setVm vm₁).calling g' mk As.toArray, t, U', L, hT, X', hL, e1, e2, hq, st⟩
/-- a thing of a world lies in the heap -/
theorem vx_lt {D : va_G} {cl : List vw_C} {ws : va_W} {H1 : Heap} (h : va_P D cl ws H1) {k : Nat} {q : Nat × va_E} (hk : ws[k]? = some q) : q.1 < H1.size := (h k q hk).lt
end VXS
/-! ===== END ===== -/
end
section
/-! A machine over signs: ints are a sign and a number beside it, each sign has its bounds, cells hold signs; what it does is what the machine does (own work). -/
section SA0
abbrev sa_v : Type := (Nat × Int) ⊕ (Option Nat ⊕ Nat)
abbrev sa_x : Type := Int × Int64 × (Nat → Int64) × Nat
abbrev sa_V : Type := Nat → sa_x
def sa_i (V : sa_V) (q : Nat × Int) : Int32 := Int32.ofInt ((V q.1).1 + q.2)
def sa_ad (V : sa_V) (k : Nat) : Nat := (V k).2.2.2
def sa_val (V : sa_V) : sa_v → Value
  | .inl q => .int (sa_i V q)
  | .inr (.inl none) => .null
  | .inr (.inl (some k)) => .ref (sa_ad V k)
  | .inr (.inr j) => .long (V j).2.1
def sa_f (V : sa_V) (l : List (Nat × Int)) (j : Nat) : Int32 := match l[j]? with
  | some q => sa_i V q
  | none => 0
def sa_g (V : sa_V) (l : List (Option Nat)) (j : Nat) : Option Nat := (l.getD j none).map (sa_ad V)
abbrev sa_a : Type := List (Nat × Int) ⊕ ((Nat × Nat) ⊕ List (Option Nat))
def sa_arr (V : sa_V) : sa_a → vp_A
  | .inl l => (l.length, .inl (sa_f V l))
  | .inr (.inl q) => (q.1, .inr (.inl (V q.2).2.2.1))
  | .inr (.inr l) => (l.length, .inr (.inr (.inr (.inr (sa_g V l)))))
abbrev sa_c : Type := Nat × ((Nat × List sa_v) ⊕ (Nat × sa_a))
def sa_el (V : sa_V) (dA : Nat → ClassId) : ((Nat × List sa_v) ⊕ (Nat × sa_a)) → va_E
  | .inl o => .inr (o.1, o.2.map (sa_val V))
  | .inr a => .inl (dA a.1, sa_arr V a.2)
def sa_e (V : sa_V) (dA : Nat → ClassId) (q : sa_c) : Nat × va_E := (sa_ad V q.1, sa_el V dA q.2)
abbrev sa_L : Type := List (Nat × sa_v)
abbrev sa_B : Type := List (Int × Int)
/-- pc, locals, stack, cells, bounds, cells made, slots made -/
abbrev sa_S : Type := Nat × sa_L × List sa_v × List sa_c × sa_B × Nat × Nat
def sa_lv (V : sa_V) (lo : sa_L) : List (Nat × Value) := lo.map (fun q => (q.1, sa_val V q.2))
def sa_I (V : sa_V) (G : sa_B) : Prop := (∀ (i : Nat) (b : Int × Int), G[i]? = some b → b.1 ≤ (V i).1 ∧ (V i).1 ≤ b.2) ∧ (V 0).1 = 0
/-- and the first n0 signs mean what they meant at the start -/
def sa_J (n0 : Nat) (V0 V : sa_V) (G : sa_B) : Prop := sa_I V G ∧ n0 ≤ G.length ∧ ∀ k, k < n0 → V k = V0 k
def sa_G (D : va_G) (dA : Nat → ClassId) (A : Nat → Prop) (nL : Nat) (cl : List vw_C) (n0 : Nat) (V0 : sa_V) (H0 : Heap) (V : sa_V) (lo : sa_L) (cs : List sa_c) (G : sa_B) (H : Heap) (locs : List Loc) (ls : Array Slot) : Prop :=
  sa_J n0 V0 V G ∧ lv_has ls nL (sa_lv V lo) ∧ va_P D cl (cs.map (sa_e V dA)) H ∧ va_D A (cs.map (sa_e V dA)) ∧ va_S A H0 H locs
def sa_W (p : Program) (l : Launch) (e : Env) (R : Room) (s : State) (m : MethodId) (args : Array Value) (below : List Frame) (meth : Method) (c : Code) (Q : State → Prop) (D : va_G) (dA : Nat → ClassId) (A : Nat → Prop) (nL : Nat) (cl : List vw_C) (n0 : Nat) (V0 : sa_V) (S : sa_S) : Prop :=
  ∀ (V : sa_V) (H : Heap) (locs : List Loc) (ls : Array Slot), sa_G D dA A nL cl n0 V0 s.heap V S.2.1 S.2.2.2.1 S.2.2.2.2.1 H locs ls → W p l e R s m args below meth c H locs S.2.2.2.2.2.1 S.2.2.2.2.2.2 Q (F0 m S.1 ls (S.2.2.1.map (sa_val V)))
abbrev sa_op : Type := sa_S → Option (List sa_S)
def sa_snd (p : Program) (l : Launch) (e : Env) (R : Room) (s : State) (m : MethodId) (args : Array Value) (below : List Frame) (meth : Method) (c : Code) (Q : State → Prop) (D : va_G) (dA : Nat → ClassId) (A : Nat → Prop) (nL : Nat) (cl : List vw_C) (n0 : Nat) (V0 : sa_V) (pc : Nat) (op : sa_op) : Prop :=
  ∀ (S : sa_S) (sts : List sa_S), S.1 = pc → op S = some sts → (∀ S' ∈ sts, sa_W p l e R s m args below meth c Q D dA A nL cl n0 V0 S') → sa_W p l e R s m args below meth c Q D dA A nL cl n0 V0 S
def sa_tys (dA : Nat → ClassId) : List (ClassId × FieldType) := [(dA 0, .int), (dA 1, .byte), (dA 2, .long), (dA 3, .boolean), (dA 4, .object "OffThenOn$World"), (dA 5, .object "OffThenOn$State")]
/-- what every row needs of its method -/
def sa_C (p : Program) (s : State) (m : MethodId) (args : Array Value) (c : Code) (D : va_G) (dA : Nat → ClassId) (A : Nat → Prop) (nL : Nat) (cl : List vw_C) (Ts : List Cond) (cc : ByteArray) (own : String) : Prop :=
  p.tables.exec = Jvm.exec ∧ c.code = cc ∧ (∀ w ∈ Ts, w.before args s = true) ∧ s.vm.findClass own = some m.cls ∧ c.maxLocals = nL ∧ va_K D cl (sa_tys dA) s ∧ (∀ q, s.heap.size ≤ q → A q)
def sa_run (find : Nat → Option sa_op) (fin : sa_S → Bool) : Nat → sa_S → Bool
  | 0, _ => false
  | n + 1, S => match find S.1 with
    | none => fin S
    | some op => match op S with
      | none => false
      | some sts => match sts with
        | [S'] => sa_run find fin n S'
        | _ => sts.all (sa_run find fin n)
theorem sa_run_ok {p : Program} {l : Launch} {e : Env} {R : Room} {s : State} {m : MethodId} {args : Array Value} {below : List Frame} {meth : Method} {c : Code} {Q : State → Prop} {D : va_G} {dA : Nat → ClassId} {A : Nat → Prop} {nL : Nat} {cl : List vw_C} {n0 : Nat} {V0 : sa_V} {find : Nat → Option sa_op} {fin : sa_S → Bool}
    (hf : ∀ pc op, find pc = some op → sa_snd p l e R s m args below meth c Q D dA A nL cl n0 V0 pc op) (he : ∀ S, find S.1 = none → fin S = true → sa_W p l e R s m args below meth c Q D dA A nL cl n0 V0 S) : ∀ (n : Nat) (S : sa_S), sa_run find fin n S = true → sa_W p l e R s m args below meth c Q D dA A nL cl n0 V0 S := by
  intro n
  induction n with
  | zero => intro S h; cases h
  | succ n ih =>
    intro S h
    unfold sa_run at h
    split at h
    · rename_i h1
      exact he S h1 h
    · rename_i op h1
      split at h
      · cases h
      · rename_i sts h2
        refine hf _ op h1 S sts rfl h2 (fun S' h' => ?_)
        split at h
        · rename_i S9
          have e9 : S' = S9 := by simpa using h'
          rw [e9]
          exact ih S9 h
        · exact ih S' (List.all_eq_true.mp h S' h')
/-! values -/
def sa_look (i : Nat) : sa_L → Option sa_v
  | [] => none
  | q :: l => if q.1 = i then some q.2 else sa_look i l
theorem sa_look_mem {i : Nat} {v : sa_v} : ∀ {lo : sa_L}, sa_look i lo = some v → (i, v) ∈ lo
  | [], h => by cases h
  | q :: l, h => by
    unfold sa_look at h
    split at h
    · rename_i h1
      cases h
      rw [← h1]
      exact List.mem_cons_self
    · exact List.mem_cons_of_mem _ (sa_look_mem h)
theorem sa_look_at {V : sa_V} {ls : Array Slot} {nL i : Nat} {v : sa_v} {lo : sa_L} (hl : lv_has ls nL (sa_lv V lo)) (h : sa_look i lo = some v) : ls[i]? = some (.val (sa_val V v)) :=
  hl.2.2 (i, sa_val V v) (List.mem_map.mpr ⟨(i, v), sa_look_mem h, rfl⟩)
def sa_cat : sa_v → Nat
  | .inr (.inr _) => 2
  | _ => 1
theorem sa_cat_val (V : sa_V) (v : sa_v) : (sa_val V v).category = sa_cat v := by
  rcases v with q | (_ | k) | j <;> rfl
def sa_set1 (i : Nat) (v : sa_v) (lo : sa_L) : sa_L := (i, v) :: lo.filter (fun q => !(q.1 == i) && !(q.1 + 1 == i && sa_cat q.2 == 2))
def sa_set2 (i : Nat) (v : sa_v) (lo : sa_L) : sa_L := (i, v) :: lo.filter (fun q => !(q.1 == i) && (!(q.1 == i + 1) && !(q.1 + 1 == i && sa_cat q.2 == 2)))
theorem sa_set1_lv (V : sa_V) (i : Nat) (v : sa_v) (lo : sa_L) : (i, sa_val V v) :: (sa_lv V lo).filter (fun q => !(q.1 == i) && !(q.1 + 1 == i && q.2.category == 2)) = sa_lv V (sa_set1 i v lo) := by
  unfold sa_lv sa_set1
  rw [List.filter_map, List.map_cons]
  congr 2
  apply List.filter_congr
  intro q _
  simp only [Function.comp, sa_cat_val]
theorem sa_set2_lv (V : sa_V) (i : Nat) (v : sa_v) (lo : sa_L) : (i, sa_val V v) :: (sa_lv V lo).filter (fun q => !(q.1 == i) && (!(q.1 == i + 1) && !(q.1 + 1 == i && q.2.category == 2))) = sa_lv V (sa_set2 i v lo) := by
  unfold sa_lv sa_set2
  rw [List.filter_map, List.map_cons]
  congr 2
  apply List.filter_congr
  intro q _
  simp only [Function.comp, sa_cat_val]
/-! new signs -/
def sa_upd (V : sa_V) (n : Nat) (x : sa_x) : sa_V := fun k => if k = n then x else V k
def sa_wfv (n : Nat) : sa_v → Bool
  | .inl q => decide (q.1 < n)
  | .inr (.inl none) => true
  | .inr (.inl (some k)) => decide (k < n)
  | .inr (.inr j) => decide (j < n)
def sa_wfa (n : Nat) : sa_a → Bool
  | .inl l => l.all (fun q => decide (q.1 < n))
  | .inr (.inl q) => decide (q.2 < n)
  | .inr (.inr l) => l.all (fun o => match o with | none => true | some k => decide (k < n))
def sa_wfc (n : Nat) (q : sa_c) : Bool := decide (q.1 < n) && match q.2 with
  | .inl o => o.2.all (sa_wfv n)
  | .inr a => sa_wfa n a.2
def sa_wf (n : Nat) (lo : sa_L) (st : List sa_v) (cs : List sa_c) : Bool := decide (0 < n) && lo.all (fun q => sa_wfv n q.2) && st.all (sa_wfv n) && cs.all (sa_wfc n)
theorem sa_upd_ne {V : sa_V} {n k : Nat} {x : sa_x} (h : k < n) : sa_upd V n x k = V k := by
  unfold sa_upd; rw [if_neg (by omega)]
theorem sa_upd_eq {V : sa_V} {n : Nat} {x : sa_x} : sa_upd V n x n = x := by
  unfold sa_upd; rw [if_pos rfl]
theorem sa_val_upd {V : sa_V} {n : Nat} {x : sa_x} {v : sa_v} (h : sa_wfv n v = true) : sa_val (sa_upd V n x) v = sa_val V v := by
  rcases v with q | (_ | k) | j
  · have h : q.1 < n := of_decide_eq_true h
    show Value.int (sa_i _ _) = Value.int (sa_i _ _)
    unfold sa_i; rw [sa_upd_ne h]
  · rfl
  · have h : k < n := of_decide_eq_true h
    show Value.ref (sa_ad _ _) = Value.ref (sa_ad _ _)
    unfold sa_ad; rw [sa_upd_ne h]
  · have h : j < n := of_decide_eq_true h
    show Value.long _ = Value.long _
    rw [sa_upd_ne h]
theorem sa_arr_upd {V : sa_V} {n : Nat} {x : sa_x} {a : sa_a} (h : sa_wfa n a = true) : sa_arr (sa_upd V n x) a = sa_arr V a := by
  rcases a with l | q | l
  · have h : ∀ q ∈ l, q.1 < n := fun q hq => of_decide_eq_true (List.all_eq_true.mp h q hq)
    show (l.length, _) = (l.length, _)
    congr 2
    funext j
    unfold sa_f
    split
    · rename_i q hq
      unfold sa_i; rw [sa_upd_ne (h q (List.mem_of_getElem? hq))]
    · rfl
  · have h : q.2 < n := of_decide_eq_true h
    show (q.1, _) = (q.1, _)
    rw [sa_upd_ne h]
  · have h : ∀ o ∈ l, _ := List.all_eq_true.mp h
    show (l.length, _) = (l.length, _)
    congr 5
    funext j
    unfold sa_g
    rw [List.getD_eq_getElem?_getD]
    cases hj : l[j]? with
    | none => rfl
    | some o =>
      cases o with
      | none => rfl
      | some k =>
        have hk : k < n := of_decide_eq_true (h _ (List.mem_of_getElem? hj))
        show some (sa_ad _ _) = some (sa_ad _ _)
        unfold sa_ad; rw [sa_upd_ne hk]
theorem sa_e_upd {V : sa_V} {dA : Nat → ClassId} {n : Nat} {x : sa_x} {q : sa_c} (h : sa_wfc n q = true) : sa_e (sa_upd V n x) dA q = sa_e V dA q := by
  obtain ⟨k, o | a⟩ := q
  · simp only [sa_wfc, Bool.and_eq_true, decide_eq_true_eq, List.all_eq_true] at h
    unfold sa_e sa_el sa_ad
    rw [sa_upd_ne h.1]
    dsimp only
    congr 3
    exact List.map_congr_left (fun v hv => sa_val_upd (h.2 v hv))
  · simp only [sa_wfc, Bool.and_eq_true, decide_eq_true_eq] at h
    unfold sa_e sa_el sa_ad
    rw [sa_upd_ne h.1]
    dsimp only
    rw [sa_arr_upd h.2]
theorem sa_cs_upd {V : sa_V} {dA : Nat → ClassId} {n : Nat} {x : sa_x} {cs : List sa_c} (h : cs.all (sa_wfc n) = true) : cs.map (sa_e (sa_upd V n x) dA) = cs.map (sa_e V dA) :=
  List.map_congr_left (fun q hq => sa_e_upd (List.all_eq_true.mp h q hq))
theorem sa_lv_upd {V : sa_V} {n : Nat} {x : sa_x} {lo : sa_L} (h : lo.all (fun q => sa_wfv n q.2) = true) : sa_lv (sa_upd V n x) lo = sa_lv V lo :=
  List.map_congr_left (fun q hq => by rw [sa_val_upd (List.all_eq_true.mp h q hq)])
theorem sa_st_upd {V : sa_V} {n : Nat} {x : sa_x} {st : List sa_v} (h : st.all (sa_wfv n) = true) : st.map (sa_val (sa_upd V n x)) = st.map (sa_val V) :=
  List.map_congr_left (fun q hq => sa_val_upd (List.all_eq_true.mp h q hq))
theorem sa_I_upd {V : sa_V} {G : sa_B} {x : sa_x} {b : Int × Int} (h : sa_I V G) (h0 : 0 < G.length) (hb : b.1 ≤ x.1 ∧ x.1 ≤ b.2) : sa_I (sa_upd V G.length x) (G ++ [b]) := by
  refine ⟨fun i b' hi => ?_, ?_⟩
  · by_cases hl : i < G.length
    · rw [List.getElem?_append_left hl] at hi
      rw [sa_upd_ne hl]
      exact h.1 i b' hi
    · rw [List.getElem?_append_right (by omega)] at hi
      have hz : i - G.length < 1 := (List.getElem?_eq_some_iff.mp hi).1
      have hi0 : i = G.length := by omega
      subst hi0
      rw [Nat.sub_self] at hi
      cases hi
      rw [sa_upd_eq]
      exact hb
  · rw [sa_upd_ne h0]; exact h.2
theorem sa_J_upd {n0 : Nat} {V0 V : sa_V} {G : sa_B} {x : sa_x} {b : Int × Int} (h : sa_J n0 V0 V G) (h0 : 0 < G.length) (hb : b.1 ≤ x.1 ∧ x.1 ≤ b.2) : sa_J n0 V0 (sa_upd V G.length x) (G ++ [b]) :=
  ⟨sa_I_upd h.1 h0 hb, by rw [List.length_append]; exact Nat.le_trans h.2.1 (Nat.le_add_right _ _), fun k hk => by rw [sa_upd_ne (Nat.lt_of_lt_of_le hk h.2.1)]; exact h.2.2 k hk⟩
theorem sa_G_upd {D : va_G} {dA : Nat → ClassId} {A : Nat → Prop} {nL : Nat} {cl : List vw_C} {n0 : Nat} {V0 : sa_V} {H0 : Heap} {V : sa_V} {lo : sa_L} {st : List sa_v} {cs : List sa_c} {G : sa_B} {H : Heap} {locs : List Loc} {ls : Array Slot} {x : sa_x} {b : Int × Int}
    (h : sa_G D dA A nL cl n0 V0 H0 V lo cs G H locs ls) (hw : sa_wf G.length lo st cs = true) (hb : b.1 ≤ x.1 ∧ x.1 ≤ b.2) : sa_G D dA A nL cl n0 V0 H0 (sa_upd V G.length x) lo cs (G ++ [b]) H locs ls ∧ st.map (sa_val (sa_upd V G.length x)) = st.map (sa_val V) := by
  simp only [sa_wf, Bool.and_eq_true, decide_eq_true_eq] at hw
  obtain ⟨⟨⟨h0, h1⟩, h2⟩, h3⟩ := hw
  obtain ⟨g1, g2, g3, g4, g5⟩ := h
  exact ⟨⟨sa_J_upd g1 h0 hb, by rw [sa_lv_upd h1]; exact g2, by rw [sa_cs_upd h3]; exact g3, by rw [sa_cs_upd h3]; exact g4, g5⟩, sa_st_upd h2⟩
/-- an answer of a row: an int by its sign, or a new sign with bounds -/
abbrev sa_r : Type := (Nat × Int) ⊕ (Int × Int)
def sa_is (V : sa_V) (r : sa_r) (x : Int32) : Prop := match r with
  | .inl q => sa_i V q = x
  | .inr b => b.1 ≤ x.toInt ∧ x.toInt ≤ b.2
def sa_push (pc : Nat) (lo : sa_L) (rest : List sa_v) (cs : List sa_c) (G : sa_B) (kc ks : Nat) (r : sa_r) : Option (List sa_S) := match r with
  | .inl q => some [(pc, lo, .inl q :: rest, cs, G, kc, ks)]
  | .inr b => if sa_wf G.length lo rest cs = true then some [(pc, lo, .inl (G.length, 0) :: rest, cs, G ++ [b], kc, ks)] else none
theorem sa_i_new {V : sa_V} {n : Nat} {x : Int32} {y : sa_x} (h : y.1 = x.toInt) : sa_i (sa_upd V n y) (n, 0) = x := by
  show Int32.ofInt ((sa_upd V n y n).1 + 0) = x
  rw [sa_upd_eq, h, Int.add_zero, Int32.ofInt_toInt]
theorem sa_push_ok {p : Program} {l : Launch} {e : Env} {R : Room} {s : State} {m : MethodId} {args : Array Value} {below : List Frame} {meth : Method} {c : Code} {Q : State → Prop} {D : va_G} {dA : Nat → ClassId} {A : Nat → Prop} {nL : Nat} {cl : List vw_C} {n0 : Nat} {V0 : sa_V}
    {pc : Nat} {lo : sa_L} {rest : List sa_v} {cs : List sa_c} {G : sa_B} {kc ks : Nat} {r : sa_r} {sts : List sa_S} {V : sa_V} {H : Heap} {locs : List Loc} {ls : Array Slot} {x : Int32}
    (hG : sa_G D dA A nL cl n0 V0 s.heap V lo cs G H locs ls) (hr : sa_is V r x) (h : sa_push pc lo rest cs G kc ks r = some sts) (k : ∀ S' ∈ sts, sa_W p l e R s m args below meth c Q D dA A nL cl n0 V0 S') : W p l e R s m args below meth c H locs kc ks Q (F0 m pc ls (.int x :: rest.map (sa_val V))) := by
  cases r with
  | inl q =>
    cases h
    have h1 := k _ List.mem_cons_self V H locs ls hG
    have h2 : sa_i V q = x := hr
    rw [← h2]
    exact h1
  | inr b =>
    unfold sa_push at h
    dsimp only at h
    split at h
    · rename_i hw
      cases h
      obtain ⟨g1, g2⟩ := sa_G_upd (x := (x.toInt, 0, fun _ => 0, 0)) hG hw hr
      have h1 := k _ List.mem_cons_self _ H locs ls g1
      have h3 : (List.map (sa_val (sa_upd V G.length (x.toInt, 0, fun _ => 0, 0))) (.inl (G.length, 0) :: rest)) = Value.int x :: rest.map (sa_val V) := by
        rw [List.map_cons, g2]
        congr 1
        show Value.int (sa_i _ _) = _
        rw [sa_i_new rfl]
      dsimp only at h1
      rw [h3] at h1
      exact h1
    · cases h
/-- bounds of an int -/
def sa_iv (G : sa_B) (q : Nat × Int) : Option (Int × Int) := match G[q.1]? with
  | some b => if -2147483648 ≤ b.1 + q.2 ∧ b.2 + q.2 ≤ 2147483647 then some (b.1 + q.2, b.2 + q.2) else none
  | none => none
theorem sa_ofInt_toInt {z : Int} (h1 : -2147483648 ≤ z) (h2 : z ≤ 2147483647) : (Int32.ofInt z).toInt = z := Int32.toInt_ofInt_of_le (by simpa using h1) (by simp; omega)
theorem sa_iv_ok {V : sa_V} {G : sa_B} {q : Nat × Int} {b : Int × Int} (h : sa_I V G) (hb : sa_iv G q = some b) : (sa_i V q).toInt = (V q.1).1 + q.2 ∧ b.1 ≤ (sa_i V q).toInt ∧ (sa_i V q).toInt ≤ b.2 := by
  unfold sa_iv at hb
  split at hb
  · rename_i b' hb'
    split at hb
    · rename_i h2
      cases hb
      obtain ⟨h3, h4⟩ := h.1 _ _ hb'
      have h5 : (sa_i V q).toInt = (V q.1).1 + q.2 := sa_ofInt_toInt (by omega) (by omega)
      exact ⟨h5, by rw [h5]; omega, by rw [h5]; omega⟩
    · cases hb
  · cases hb
end SA0
end
section
section SA1
def so_iload (i len : Nat) : sa_op := fun S => match sa_look i S.2.1 with
  | some (.inl q) => some [(S.1 + len, S.2.1, .inl q :: S.2.2.1, S.2.2.2)]
  | _ => none
theorem sn_iload_n {p : Program} {l : Launch} {e : Env} {R : Room} {s : State} {m : MethodId} {args : Array Value} {below : List Frame} {meth : Method} {c : Code} {Q : State → Prop} {D : va_G} {dA : Nat → ClassId} {A : Nat → Prop} {nL : Nat} {cl : List vw_C} {n0 : Nat} {V0 : sa_V} {Ts : List Cond} {cc : ByteArray} {own : String} (C0 : sa_C p s m args c D dA A nL cl Ts cc own) {pc : Nat} {n : Fin 4} (hd : decode cc pc = .ok (.iload_n n, 1)) : sa_snd p l e R s m args below meth c Q D dA A nL cl n0 V0 pc (so_iload n 1) := by
  obtain ⟨hx, hb, hts, hown, hml, hK, hA⟩ := C0
  rintro ⟨pc, lo, st, cs, G, kc, ks⟩ sts rfl h k V H locs ls hG
  unfold so_iload at h
  dsimp only at h
  split at h
  · rename_i q hq
    cases h
    exact lv_iload_n hx hb hd rfl (sa_look_at hG.2.1 hq) (k _ List.mem_cons_self V H locs ls hG)
  · cases h
theorem sn_iload {p : Program} {l : Launch} {e : Env} {R : Room} {s : State} {m : MethodId} {args : Array Value} {below : List Frame} {meth : Method} {c : Code} {Q : State → Prop} {D : va_G} {dA : Nat → ClassId} {A : Nat → Prop} {nL : Nat} {cl : List vw_C} {n0 : Nat} {V0 : sa_V} {Ts : List Cond} {cc : ByteArray} {own : String} (C0 : sa_C p s m args c D dA A nL cl Ts cc own) {pc : Nat} {i : Nat} (hd : decode cc pc = .ok (.iload i, 2)) : sa_snd p l e R s m args below meth c Q D dA A nL cl n0 V0 pc (so_iload i 2) := by
  obtain ⟨hx, hb, hts, hown, hml, hK, hA⟩ := C0
  rintro ⟨pc, lo, st, cs, G, kc, ks⟩ sts rfl h k V H locs ls hG
  unfold so_iload at h
  dsimp only at h
  split at h
  · rename_i q hq
    cases h
    exact lv_iload hx hb hd (sa_look_at hG.2.1 hq) (k _ List.mem_cons_self V H locs ls hG)
  · cases h
def so_aload (i len : Nat) : sa_op := fun S => match sa_look i S.2.1 with
  | some (.inr (.inl (some q))) => some [(S.1 + len, S.2.1, .inr (.inl (some q)) :: S.2.2.1, S.2.2.2)]
  | _ => none
theorem sn_aload_n {p : Program} {l : Launch} {e : Env} {R : Room} {s : State} {m : MethodId} {args : Array Value} {below : List Frame} {meth : Method} {c : Code} {Q : State → Prop} {D : va_G} {dA : Nat → ClassId} {A : Nat → Prop} {nL : Nat} {cl : List vw_C} {n0 : Nat} {V0 : sa_V} {Ts : List Cond} {cc : ByteArray} {own : String} (C0 : sa_C p s m args c D dA A nL cl Ts cc own) {pc : Nat} {n : Fin 4} (hd : decode cc pc = .ok (.aload_n n, 1)) : sa_snd p l e R s m args below meth c Q D dA A nL cl n0 V0 pc (so_aload n 1) := by
  obtain ⟨hx, hb, hts, hown, hml, hK, hA⟩ := C0
  rintro ⟨pc, lo, st, cs, G, kc, ks⟩ sts rfl h k V H locs ls hG
  unfold so_aload at h
  dsimp only at h
  split at h
  · rename_i q hq
    cases h
    exact lv_aload_n hx hb hd rfl (sa_look_at hG.2.1 hq) (k _ List.mem_cons_self V H locs ls hG)
  · cases h
theorem sn_aload {p : Program} {l : Launch} {e : Env} {R : Room} {s : State} {m : MethodId} {args : Array Value} {below : List Frame} {meth : Method} {c : Code} {Q : State → Prop} {D : va_G} {dA : Nat → ClassId} {A : Nat → Prop} {nL : Nat} {cl : List vw_C} {n0 : Nat} {V0 : sa_V} {Ts : List Cond} {cc : ByteArray} {own : String} (C0 : sa_C p s m args c D dA A nL cl Ts cc own) {pc : Nat} {i : Nat} (hd : decode cc pc = .ok (.aload i, 2)) : sa_snd p l e R s m args below meth c Q D dA A nL cl n0 V0 pc (so_aload i 2) := by
  obtain ⟨hx, hb, hts, hown, hml, hK, hA⟩ := C0
  rintro ⟨pc, lo, st, cs, G, kc, ks⟩ sts rfl h k V H locs ls hG
  unfold so_aload at h
  dsimp only at h
  split at h
  · rename_i q hq
    cases h
    exact lv_aload hx hb hd (sa_look_at hG.2.1 hq) (k _ List.mem_cons_self V H locs ls hG)
  · cases h
def so_lload (i len : Nat) : sa_op := fun S => match sa_look i S.2.1 with
  | some (.inr (.inr q)) => some [(S.1 + len, S.2.1, .inr (.inr q) :: S.2.2.1, S.2.2.2)]
  | _ => none
theorem sn_lload_n {p : Program} {l : Launch} {e : Env} {R : Room} {s : State} {m : MethodId} {args : Array Value} {below : List Frame} {meth : Method} {c : Code} {Q : State → Prop} {D : va_G} {dA : Nat → ClassId} {A : Nat → Prop} {nL : Nat} {cl : List vw_C} {n0 : Nat} {V0 : sa_V} {Ts : List Cond} {cc : ByteArray} {own : String} (C0 : sa_C p s m args c D dA A nL cl Ts cc own) {pc : Nat} {n : Fin 4} (hd : decode cc pc = .ok (.lload_n n, 1)) : sa_snd p l e R s m args below meth c Q D dA A nL cl n0 V0 pc (so_lload n 1) := by
  obtain ⟨hx, hb, hts, hown, hml, hK, hA⟩ := C0
  rintro ⟨pc, lo, st, cs, G, kc, ks⟩ sts rfl h k V H locs ls hG
  unfold so_lload at h
  dsimp only at h
  split at h
  · rename_i q hq
    cases h
    exact lv_lload_n hx hb hd rfl (sa_look_at hG.2.1 hq) (k _ List.mem_cons_self V H locs ls hG)
  · cases h
theorem sn_lload {p : Program} {l : Launch} {e : Env} {R : Room} {s : State} {m : MethodId} {args : Array Value} {below : List Frame} {meth : Method} {c : Code} {Q : State → Prop} {D : va_G} {dA : Nat → ClassId} {A : Nat → Prop} {nL : Nat} {cl : List vw_C} {n0 : Nat} {V0 : sa_V} {Ts : List Cond} {cc : ByteArray} {own : String} (C0 : sa_C p s m args c D dA A nL cl Ts cc own) {pc : Nat} {i : Nat} (hd : decode cc pc = .ok (.lload i, 2)) : sa_snd p l e R s m args below meth c Q D dA A nL cl n0 V0 pc (so_lload i 2) := by
  obtain ⟨hx, hb, hts, hown, hml, hK, hA⟩ := C0
  rintro ⟨pc, lo, st, cs, G, kc, ks⟩ sts rfl h k V H locs ls hG
  unfold so_lload at h
  dsimp only at h
  split at h
  · rename_i q hq
    cases h
    exact lv_lload hx hb hd (sa_look_at hG.2.1 hq) (k _ List.mem_cons_self V H locs ls hG)
  · cases h
def so_istore (nL i len : Nat) : sa_op := fun S => match S.2.2.1 with
  | .inl q :: rest => if i < nL then some [(S.1 + len, sa_set1 i (.inl q) S.2.1, rest, S.2.2.2)] else none
  | _ => none
theorem sn_istore_n {p : Program} {l : Launch} {e : Env} {R : Room} {s : State} {m : MethodId} {args : Array Value} {below : List Frame} {meth : Method} {c : Code} {Q : State → Prop} {D : va_G} {dA : Nat → ClassId} {A : Nat → Prop} {nL : Nat} {cl : List vw_C} {n0 : Nat} {V0 : sa_V} {Ts : List Cond} {cc : ByteArray} {own : String} (C0 : sa_C p s m args c D dA A nL cl Ts cc own) {pc : Nat} {n : Fin 4} (hd : decode cc pc = .ok (.istore_n n, 1)) : sa_snd p l e R s m args below meth c Q D dA A nL cl n0 V0 pc (so_istore nL n 1) := by
  obtain ⟨hx, hb, hts, hown, hml, hK, hA⟩ := C0
  rintro ⟨pc, lo, st, cs, G, kc, ks⟩ sts rfl h k V H locs ls hG
  unfold so_istore at h
  dsimp only at h
  split at h
  · rename_i q rest
    split at h
    · rename_i hi
      cases h
      exact lv_istore_n hx hb hd rfl hG.2.1 hi (sa_set1_lv V _ (.inl q) lo) (fun ls' hl' => k _ List.mem_cons_self V H locs ls' ⟨hG.1, hl', hG.2.2⟩)
    · cases h
  · cases h
theorem sn_istore {p : Program} {l : Launch} {e : Env} {R : Room} {s : State} {m : MethodId} {args : Array Value} {below : List Frame} {meth : Method} {c : Code} {Q : State → Prop} {D : va_G} {dA : Nat → ClassId} {A : Nat → Prop} {nL : Nat} {cl : List vw_C} {n0 : Nat} {V0 : sa_V} {Ts : List Cond} {cc : ByteArray} {own : String} (C0 : sa_C p s m args c D dA A nL cl Ts cc own) {pc : Nat} {i : Nat} (hd : decode cc pc = .ok (.istore i, 2)) : sa_snd p l e R s m args below meth c Q D dA A nL cl n0 V0 pc (so_istore nL i 2) := by
  obtain ⟨hx, hb, hts, hown, hml, hK, hA⟩ := C0
  rintro ⟨pc, lo, st, cs, G, kc, ks⟩ sts rfl h k V H locs ls hG
  unfold so_istore at h
  dsimp only at h
  split at h
  · rename_i q rest
    split at h
    · rename_i hi
      cases h
      exact lv_istore hx hb hd hG.2.1 hi (sa_set1_lv V _ (.inl q) lo) (fun ls' hl' => k _ List.mem_cons_self V H locs ls' ⟨hG.1, hl', hG.2.2⟩)
    · cases h
  · cases h
def so_astore (nL i len : Nat) : sa_op := fun S => match S.2.2.1 with
  | .inr (.inl (some q)) :: rest => if i < nL then some [(S.1 + len, sa_set1 i (.inr (.inl (some q))) S.2.1, rest, S.2.2.2)] else none
  | _ => none
theorem sn_astore_n {p : Program} {l : Launch} {e : Env} {R : Room} {s : State} {m : MethodId} {args : Array Value} {below : List Frame} {meth : Method} {c : Code} {Q : State → Prop} {D : va_G} {dA : Nat → ClassId} {A : Nat → Prop} {nL : Nat} {cl : List vw_C} {n0 : Nat} {V0 : sa_V} {Ts : List Cond} {cc : ByteArray} {own : String} (C0 : sa_C p s m args c D dA A nL cl Ts cc own) {pc : Nat} {n : Fin 4} (hd : decode cc pc = .ok (.astore_n n, 1)) : sa_snd p l e R s m args below meth c Q D dA A nL cl n0 V0 pc (so_astore nL n 1) := by
  obtain ⟨hx, hb, hts, hown, hml, hK, hA⟩ := C0
  rintro ⟨pc, lo, st, cs, G, kc, ks⟩ sts rfl h k V H locs ls hG
  unfold so_astore at h
  dsimp only at h
  split at h
  · rename_i q rest
    split at h
    · rename_i hi
      cases h
      exact lv_astore_n hx hb hd rfl hG.2.1 hi (sa_set1_lv V _ (.inr (.inl (some q))) lo) (fun ls' hl' => k _ List.mem_cons_self V H locs ls' ⟨hG.1, hl', hG.2.2⟩)
    · cases h
  · cases h
theorem sn_astore {p : Program} {l : Launch} {e : Env} {R : Room} {s : State} {m : MethodId} {args : Array Value} {below : List Frame} {meth : Method} {c : Code} {Q : State → Prop} {D : va_G} {dA : Nat → ClassId} {A : Nat → Prop} {nL : Nat} {cl : List vw_C} {n0 : Nat} {V0 : sa_V} {Ts : List Cond} {cc : ByteArray} {own : String} (C0 : sa_C p s m args c D dA A nL cl Ts cc own) {pc : Nat} {i : Nat} (hd : decode cc pc = .ok (.astore i, 2)) : sa_snd p l e R s m args below meth c Q D dA A nL cl n0 V0 pc (so_astore nL i 2) := by
  obtain ⟨hx, hb, hts, hown, hml, hK, hA⟩ := C0
  rintro ⟨pc, lo, st, cs, G, kc, ks⟩ sts rfl h k V H locs ls hG
  unfold so_astore at h
  dsimp only at h
  split at h
  · rename_i q rest
    split at h
    · rename_i hi
      cases h
      exact lv_astore hx hb hd hG.2.1 hi (sa_set1_lv V _ (.inr (.inl (some q))) lo) (fun ls' hl' => k _ List.mem_cons_self V H locs ls' ⟨hG.1, hl', hG.2.2⟩)
    · cases h
  · cases h
def so_lstore (nL i len : Nat) : sa_op := fun S => match S.2.2.1 with
  | .inr (.inr q) :: rest => if i + 1 < nL then some [(S.1 + len, sa_set2 i (.inr (.inr q)) S.2.1, rest, S.2.2.2)] else none
  | _ => none
theorem sn_lstore_n {p : Program} {l : Launch} {e : Env} {R : Room} {s : State} {m : MethodId} {args : Array Value} {below : List Frame} {meth : Method} {c : Code} {Q : State → Prop} {D : va_G} {dA : Nat → ClassId} {A : Nat → Prop} {nL : Nat} {cl : List vw_C} {n0 : Nat} {V0 : sa_V} {Ts : List Cond} {cc : ByteArray} {own : String} (C0 : sa_C p s m args c D dA A nL cl Ts cc own) {pc : Nat} {n : Fin 4} (hd : decode cc pc = .ok (.lstore_n n, 1)) : sa_snd p l e R s m args below meth c Q D dA A nL cl n0 V0 pc (so_lstore nL n 1) := by
  obtain ⟨hx, hb, hts, hown, hml, hK, hA⟩ := C0
  rintro ⟨pc, lo, st, cs, G, kc, ks⟩ sts rfl h k V H locs ls hG
  unfold so_lstore at h
  dsimp only at h
  split at h
  · rename_i q rest
    split at h
    · rename_i hi
      cases h
      exact lv_lstore_n hx hb hd rfl hG.2.1 hi (sa_set2_lv V _ (.inr (.inr q)) lo) (fun ls' hl' => k _ List.mem_cons_self V H locs ls' ⟨hG.1, hl', hG.2.2⟩)
    · cases h
  · cases h
theorem sn_lstore {p : Program} {l : Launch} {e : Env} {R : Room} {s : State} {m : MethodId} {args : Array Value} {below : List Frame} {meth : Method} {c : Code} {Q : State → Prop} {D : va_G} {dA : Nat → ClassId} {A : Nat → Prop} {nL : Nat} {cl : List vw_C} {n0 : Nat} {V0 : sa_V} {Ts : List Cond} {cc : ByteArray} {own : String} (C0 : sa_C p s m args c D dA A nL cl Ts cc own) {pc : Nat} {i : Nat} (hd : decode cc pc = .ok (.lstore i, 2)) : sa_snd p l e R s m args below meth c Q D dA A nL cl n0 V0 pc (so_lstore nL i 2) := by
  obtain ⟨hx, hb, hts, hown, hml, hK, hA⟩ := C0
  rintro ⟨pc, lo, st, cs, G, kc, ks⟩ sts rfl h k V H locs ls hG
  unfold so_lstore at h
  dsimp only at h
  split at h
  · rename_i q rest
    split at h
    · rename_i hi
      cases h
      exact lv_lstore hx hb hd hG.2.1 hi (sa_set2_lv V _ (.inr (.inr q)) lo) (fun ls' hl' => k _ List.mem_cons_self V H locs ls' ⟨hG.1, hl', hG.2.2⟩)
    · cases h
  · cases h
theorem sa_i_add (V : sa_V) (q : Nat × Int) (n : Int) : sa_i V q + Int32.ofInt n = sa_i V (q.1, q.2 + n) := by
  unfold sa_i
  rw [← Int32.ofInt_add, Int.add_assoc]
def so_iinc (nL i : Nat) (n : Int) : sa_op := fun S => match sa_look i S.2.1 with
  | some (.inl q) => if i < nL then some [(S.1 + 3, sa_set1 i (.inl (q.1, q.2 + n)) S.2.1, S.2.2)] else none
  | _ => none
theorem sn_iinc {p : Program} {l : Launch} {e : Env} {R : Room} {s : State} {m : MethodId} {args : Array Value} {below : List Frame} {meth : Method} {c : Code} {Q : State → Prop} {D : va_G} {dA : Nat → ClassId} {A : Nat → Prop} {nL : Nat} {cl : List vw_C} {n0 : Nat} {V0 : sa_V} {Ts : List Cond} {cc : ByteArray} {own : String} (C0 : sa_C p s m args c D dA A nL cl Ts cc own) {pc : Nat} {i : Nat} {n : Int} (hd : decode cc pc = .ok (.iinc i n, 3)) : sa_snd p l e R s m args below meth c Q D dA A nL cl n0 V0 pc (so_iinc nL i n) := by
  obtain ⟨hx, hb, hts, hown, hml, hK, hA⟩ := C0
  rintro ⟨pc, lo, st, cs, G, kc, ks⟩ sts rfl h k V H locs ls hG
  unfold so_iinc at h
  dsimp only at h
  split at h
  · rename_i q hq
    split at h
    · rename_i hi
      cases h
      obtain ⟨kk, hk⟩ := List.getElem?_of_mem (show (i, Value.int (sa_i V q)) ∈ sa_lv V lo from List.mem_map.mpr ⟨(i, .inl q), sa_look_mem hq, rfl⟩)
      exact lv_iinc hx hb hd hG.2.1 hk (sa_i_add V q n) hi (sa_set1_lv V _ (.inl (q.1, q.2 + n)) lo) (fun ls' hl' => k _ List.mem_cons_self V H locs ls' ⟨hG.1, hl', hG.2.2⟩)
    · cases h
  · cases h
theorem sa_i_0 {V : sa_V} {G : sa_B} (h : sa_I V G) (n : Int) : sa_i V (0, n) = Int32.ofInt n := by
  unfold sa_i
  rw [h.2, Int.zero_add]
def so_int (n : Int) (len : Nat) : sa_op := fun S => some [(S.1 + len, S.2.1, .inl (0, n) :: S.2.2.1, S.2.2.2)]
theorem sa_k_int {p : Program} {l : Launch} {e : Env} {R : Room} {s : State} {m : MethodId} {args : Array Value} {below : List Frame} {meth : Method} {c : Code} {Q : State → Prop} {D : va_G} {dA : Nat → ClassId} {A : Nat → Prop} {nL : Nat} {cl : List vw_C} {n0 : Nat} {V0 : sa_V} {V : sa_V} {H : Heap} {locs : List Loc} {ls : Array Slot} {pc : Nat} {lo : sa_L} {st : List sa_v} {cs : List sa_c} {G : sa_B} {kc ks : Nat} {n : Int} (hG : sa_G D dA A nL cl n0 V0 s.heap V lo cs G H locs ls) (k : sa_W p l e R s m args below meth c Q D dA A nL cl n0 V0 (pc, lo, .inl (0, n) :: st, cs, G, kc, ks)) : W p l e R s m args below meth c H locs kc ks Q (F0 m pc ls (.int (Int32.ofInt n) :: st.map (sa_val V))) := by
  have h := k V H locs ls hG
  rw [← sa_i_0 hG.1.1 n]
  exact h
theorem sn_iconst {p : Program} {l : Launch} {e : Env} {R : Room} {s : State} {m : MethodId} {args : Array Value} {below : List Frame} {meth : Method} {c : Code} {Q : State → Prop} {D : va_G} {dA : Nat → ClassId} {A : Nat → Prop} {nL : Nat} {cl : List vw_C} {n0 : Nat} {V0 : sa_V} {Ts : List Cond} {cc : ByteArray} {own : String} (C0 : sa_C p s m args c D dA A nL cl Ts cc own) {pc : Nat} {n : Int} (hd : decode cc pc = .ok (.iconst n, 1)) : sa_snd p l e R s m args below meth c Q D dA A nL cl n0 V0 pc (so_int n 1) := by
  obtain ⟨hx, hb, hts, hown, hml, hK, hA⟩ := C0
  rintro ⟨pc, lo, st, cs, G, kc, ks⟩ sts rfl h k V H locs ls hG
  cases h
  exact lv_iconst hx hb hd rfl (sa_k_int hG (k _ List.mem_cons_self))
theorem sn_bipush {p : Program} {l : Launch} {e : Env} {R : Room} {s : State} {m : MethodId} {args : Array Value} {below : List Frame} {meth : Method} {c : Code} {Q : State → Prop} {D : va_G} {dA : Nat → ClassId} {A : Nat → Prop} {nL : Nat} {cl : List vw_C} {n0 : Nat} {V0 : sa_V} {Ts : List Cond} {cc : ByteArray} {own : String} (C0 : sa_C p s m args c D dA A nL cl Ts cc own) {pc : Nat} {n : Int} (hd : decode cc pc = .ok (.bipush n, 2)) (hv : (Int8.ofInt n).toInt32 = Int32.ofInt n) : sa_snd p l e R s m args below meth c Q D dA A nL cl n0 V0 pc (so_int n 2) := by
  obtain ⟨hx, hb, hts, hown, hml, hK, hA⟩ := C0
  rintro ⟨pc, lo, st, cs, G, kc, ks⟩ sts rfl h k V H locs ls hG
  cases h
  exact lv_bipush hx hb hd hv (sa_k_int hG (k _ List.mem_cons_self))
theorem sn_sipush {p : Program} {l : Launch} {e : Env} {R : Room} {s : State} {m : MethodId} {args : Array Value} {below : List Frame} {meth : Method} {c : Code} {Q : State → Prop} {D : va_G} {dA : Nat → ClassId} {A : Nat → Prop} {nL : Nat} {cl : List vw_C} {n0 : Nat} {V0 : sa_V} {Ts : List Cond} {cc : ByteArray} {own : String} (C0 : sa_C p s m args c D dA A nL cl Ts cc own) {pc : Nat} {n : Int} (hd : decode cc pc = .ok (.sipush n, 3)) (hv : (Int16.ofInt n).toInt32 = Int32.ofInt n) : sa_snd p l e R s m args below meth c Q D dA A nL cl n0 V0 pc (so_int n 3) := by
  obtain ⟨hx, hb, hts, hown, hml, hK, hA⟩ := C0
  rintro ⟨pc, lo, st, cs, G, kc, ks⟩ sts rfl h k V H locs ls hG
  cases h
  exact lv_sipush hx hb hd hv (sa_k_int hG (k _ List.mem_cons_self))
theorem sn_ldc {p : Program} {l : Launch} {e : Env} {R : Room} {s : State} {m : MethodId} {args : Array Value} {below : List Frame} {meth : Method} {c : Code} {Q : State → Prop} {D : va_G} {dA : Nat → ClassId} {A : Nat → Prop} {nL : Nat} {cl : List vw_C} {n0 : Nat} {V0 : sa_V} {Ts : List Cond} {cc : ByteArray} {own : String} (C0 : sa_C p s m args c D dA A nL cl Ts cc own) {pc : Nat} {n : Int} {idx : Nat} (hd : decode cc pc = .ok (.ldc idx, 2)) (hc : Cond.constant own idx (Int32.ofInt n) ∈ Ts) : sa_snd p l e R s m args below meth c Q D dA A nL cl n0 V0 pc (so_int n 2) := by
  obtain ⟨hx, hb, hts, hown, hml, hK, hA⟩ := C0
  rintro ⟨pc, lo, st, cs, G, kc, ks⟩ sts rfl h k V H locs ls hG
  cases h
  exact lv_ldc hx hb hown (hts _ hc) hd (sa_k_int hG (k _ List.mem_cons_self))
def so_dup : sa_op := fun S => match S.2.2.1 with
  | v :: rest => if sa_cat v = 1 then some [(S.1 + 1, S.2.1, v :: v :: rest, S.2.2.2)] else none
  | _ => none
theorem sn_dup {p : Program} {l : Launch} {e : Env} {R : Room} {s : State} {m : MethodId} {args : Array Value} {below : List Frame} {meth : Method} {c : Code} {Q : State → Prop} {D : va_G} {dA : Nat → ClassId} {A : Nat → Prop} {nL : Nat} {cl : List vw_C} {n0 : Nat} {V0 : sa_V} {Ts : List Cond} {cc : ByteArray} {own : String} (C0 : sa_C p s m args c D dA A nL cl Ts cc own) {pc : Nat}  (hd : decode cc pc = .ok (.dup, 1)) : sa_snd p l e R s m args below meth c Q D dA A nL cl n0 V0 pc so_dup := by
  obtain ⟨hx, hb, hts, hown, hml, hK, hA⟩ := C0
  rintro ⟨pc, lo, st, cs, G, kc, ks⟩ sts rfl h k V H locs ls hG
  unfold so_dup at h
  dsimp only at h
  split at h
  · rename_i v rest
    split at h
    · rename_i hv
      cases h
      exact lv_dup hx hb hd (by rw [sa_cat_val]; exact hv) (k _ List.mem_cons_self V H locs ls hG)
    · cases h
  · cases h
def so_pop : sa_op := fun S => match S.2.2.1 with
  | v :: rest => if sa_cat v = 1 then some [(S.1 + 1, S.2.1, rest, S.2.2.2)] else none
  | _ => none
theorem sn_pop {p : Program} {l : Launch} {e : Env} {R : Room} {s : State} {m : MethodId} {args : Array Value} {below : List Frame} {meth : Method} {c : Code} {Q : State → Prop} {D : va_G} {dA : Nat → ClassId} {A : Nat → Prop} {nL : Nat} {cl : List vw_C} {n0 : Nat} {V0 : sa_V} {Ts : List Cond} {cc : ByteArray} {own : String} (C0 : sa_C p s m args c D dA A nL cl Ts cc own) {pc : Nat}  (hd : decode cc pc = .ok (.pop, 1)) : sa_snd p l e R s m args below meth c Q D dA A nL cl n0 V0 pc so_pop := by
  obtain ⟨hx, hb, hts, hown, hml, hK, hA⟩ := C0
  rintro ⟨pc, lo, st, cs, G, kc, ks⟩ sts rfl h k V H locs ls hG
  unfold so_pop at h
  dsimp only at h
  split at h
  · rename_i v rest
    split at h
    · rename_i hv
      cases h
      exact lv_pop hx hb hd (by rw [sa_cat_val]; exact hv) (k _ List.mem_cons_self V H locs ls hG)
    · cases h
  · cases h
def so_dup2 : sa_op := fun S => match S.2.2.1 with
  | v :: u :: rest => if sa_cat v = 1 ∧ sa_cat u = 1 then some [(S.1 + 1, S.2.1, v :: u :: v :: u :: rest, S.2.2.2)] else none
  | _ => none
theorem sn_dup2 {p : Program} {l : Launch} {e : Env} {R : Room} {s : State} {m : MethodId} {args : Array Value} {below : List Frame} {meth : Method} {c : Code} {Q : State → Prop} {D : va_G} {dA : Nat → ClassId} {A : Nat → Prop} {nL : Nat} {cl : List vw_C} {n0 : Nat} {V0 : sa_V} {Ts : List Cond} {cc : ByteArray} {own : String} (C0 : sa_C p s m args c D dA A nL cl Ts cc own) {pc : Nat}  (hd : decode cc pc = .ok (.dup2, 1)) : sa_snd p l e R s m args below meth c Q D dA A nL cl n0 V0 pc so_dup2 := by
  obtain ⟨hx, hb, hts, hown, hml, hK, hA⟩ := C0
  rintro ⟨pc, lo, st, cs, G, kc, ks⟩ sts rfl h k V H locs ls hG
  unfold so_dup2 at h
  dsimp only at h
  split at h
  · rename_i v u rest
    split at h
    · rename_i hv
      cases h
      exact lv_dup2_11 hx hb hd (by rw [sa_cat_val]; exact hv.1) (by rw [sa_cat_val]; exact hv.2) (k _ List.mem_cons_self V H locs ls hG)
    · cases h
  · cases h
def so_goto (tgt : Nat) : sa_op := fun S => some [(tgt, S.2)]
theorem sn_goto {p : Program} {l : Launch} {e : Env} {R : Room} {s : State} {m : MethodId} {args : Array Value} {below : List Frame} {meth : Method} {c : Code} {Q : State → Prop} {D : va_G} {dA : Nat → ClassId} {A : Nat → Prop} {nL : Nat} {cl : List vw_C} {n0 : Nat} {V0 : sa_V} {Ts : List Cond} {cc : ByteArray} {own : String} (C0 : sa_C p s m args c D dA A nL cl Ts cc own) {pc : Nat} {off : Int} {tgt : Nat} (hd : decode cc pc = .ok (.goto off, 3)) (ht : (pc : Int) + off = (tgt : Int)) : sa_snd p l e R s m args below meth c Q D dA A nL cl n0 V0 pc (so_goto tgt) := by
  obtain ⟨hx, hb, hts, hown, hml, hK, hA⟩ := C0
  rintro ⟨pc, lo, st, cs, G, kc, ks⟩ sts rfl h k V H locs ls hG
  cases h
  exact lv_goto hx hb hd ht (k _ List.mem_cons_self V H locs ls hG)
def so_bin (f : sa_B → Nat × Int → Nat × Int → Option sa_r) : sa_op := fun S => match S.2.2.1 with
  | .inl y :: .inl x :: rest => match f S.2.2.2.2.1 x y with
    | some r => sa_push (S.1 + 1) S.2.1 rest S.2.2.2.1 S.2.2.2.2.1 S.2.2.2.2.2.1 S.2.2.2.2.2.2 r
    | none => none
  | _ => none
/-- what such a function must keep -/
def sa_bok (f : sa_B → Nat × Int → Nat × Int → Option sa_r) (g : Int32 → Int32 → Int32) : Prop := ∀ (V : sa_V) (G : sa_B) (x y : Nat × Int) (r : sa_r), sa_I V G → f G x y = some r → sa_is V r (g (sa_i V x) (sa_i V y))
theorem sn_iadd {p : Program} {l : Launch} {e : Env} {R : Room} {s : State} {m : MethodId} {args : Array Value} {below : List Frame} {meth : Method} {c : Code} {Q : State → Prop} {D : va_G} {dA : Nat → ClassId} {A : Nat → Prop} {nL : Nat} {cl : List vw_C} {n0 : Nat} {V0 : sa_V} {Ts : List Cond} {cc : ByteArray} {own : String} (C0 : sa_C p s m args c D dA A nL cl Ts cc own) {pc : Nat} {f : sa_B → Nat × Int → Nat × Int → Option sa_r} (hf : sa_bok f (fun x y => x + y)) (hd : decode cc pc = .ok (.iadd, 1)) : sa_snd p l e R s m args below meth c Q D dA A nL cl n0 V0 pc (so_bin f) := by
  obtain ⟨hx, hb, hts, hown, hml, hK, hA⟩ := C0
  rintro ⟨pc, lo, st, cs, G, kc, ks⟩ sts rfl h k V H locs ls hG
  unfold so_bin at h
  dsimp only at h
  split at h
  · rename_i y x rest
    split at h
    · rename_i r hr
      exact lv_iadd hx hb hd (sa_push_ok hG (hf V G x y r hG.1.1 hr) h k)
    · cases h
  · cases h
theorem sn_isub {p : Program} {l : Launch} {e : Env} {R : Room} {s : State} {m : MethodId} {args : Array Value} {below : List Frame} {meth : Method} {c : Code} {Q : State → Prop} {D : va_G} {dA : Nat → ClassId} {A : Nat → Prop} {nL : Nat} {cl : List vw_C} {n0 : Nat} {V0 : sa_V} {Ts : List Cond} {cc : ByteArray} {own : String} (C0 : sa_C p s m args c D dA A nL cl Ts cc own) {pc : Nat} {f : sa_B → Nat × Int → Nat × Int → Option sa_r} (hf : sa_bok f (fun x y => x - y)) (hd : decode cc pc = .ok (.isub, 1)) : sa_snd p l e R s m args below meth c Q D dA A nL cl n0 V0 pc (so_bin f) := by
  obtain ⟨hx, hb, hts, hown, hml, hK, hA⟩ := C0
  rintro ⟨pc, lo, st, cs, G, kc, ks⟩ sts rfl h k V H locs ls hG
  unfold so_bin at h
  dsimp only at h
  split at h
  · rename_i y x rest
    split at h
    · rename_i r hr
      exact lv_isub hx hb hd (sa_push_ok hG (hf V G x y r hG.1.1 hr) h k)
    · cases h
  · cases h
theorem sn_imul {p : Program} {l : Launch} {e : Env} {R : Room} {s : State} {m : MethodId} {args : Array Value} {below : List Frame} {meth : Method} {c : Code} {Q : State → Prop} {D : va_G} {dA : Nat → ClassId} {A : Nat → Prop} {nL : Nat} {cl : List vw_C} {n0 : Nat} {V0 : sa_V} {Ts : List Cond} {cc : ByteArray} {own : String} (C0 : sa_C p s m args c D dA A nL cl Ts cc own) {pc : Nat} {f : sa_B → Nat × Int → Nat × Int → Option sa_r} (hf : sa_bok f (fun x y => x * y)) (hd : decode cc pc = .ok (.imul, 1)) : sa_snd p l e R s m args below meth c Q D dA A nL cl n0 V0 pc (so_bin f) := by
  obtain ⟨hx, hb, hts, hown, hml, hK, hA⟩ := C0
  rintro ⟨pc, lo, st, cs, G, kc, ks⟩ sts rfl h k V H locs ls hG
  unfold so_bin at h
  dsimp only at h
  split at h
  · rename_i y x rest
    split at h
    · rename_i r hr
      exact lv_imul hx hb hd (sa_push_ok hG (hf V G x y r hG.1.1 hr) h k)
    · cases h
  · cases h
theorem sn_iand {p : Program} {l : Launch} {e : Env} {R : Room} {s : State} {m : MethodId} {args : Array Value} {below : List Frame} {meth : Method} {c : Code} {Q : State → Prop} {D : va_G} {dA : Nat → ClassId} {A : Nat → Prop} {nL : Nat} {cl : List vw_C} {n0 : Nat} {V0 : sa_V} {Ts : List Cond} {cc : ByteArray} {own : String} (C0 : sa_C p s m args c D dA A nL cl Ts cc own) {pc : Nat} {f : sa_B → Nat × Int → Nat × Int → Option sa_r} (hf : sa_bok f (fun x y => x &&& y)) (hd : decode cc pc = .ok (.iand, 1)) : sa_snd p l e R s m args below meth c Q D dA A nL cl n0 V0 pc (so_bin f) := by
  obtain ⟨hx, hb, hts, hown, hml, hK, hA⟩ := C0
  rintro ⟨pc, lo, st, cs, G, kc, ks⟩ sts rfl h k V H locs ls hG
  unfold so_bin at h
  dsimp only at h
  split at h
  · rename_i y x rest
    split at h
    · rename_i r hr
      exact lv_iand hx hb hd (sa_push_ok hG (hf V G x y r hG.1.1 hr) h k)
    · cases h
  · cases h
theorem sn_ior {p : Program} {l : Launch} {e : Env} {R : Room} {s : State} {m : MethodId} {args : Array Value} {below : List Frame} {meth : Method} {c : Code} {Q : State → Prop} {D : va_G} {dA : Nat → ClassId} {A : Nat → Prop} {nL : Nat} {cl : List vw_C} {n0 : Nat} {V0 : sa_V} {Ts : List Cond} {cc : ByteArray} {own : String} (C0 : sa_C p s m args c D dA A nL cl Ts cc own) {pc : Nat} {f : sa_B → Nat × Int → Nat × Int → Option sa_r} (hf : sa_bok f (fun x y => x ||| y)) (hd : decode cc pc = .ok (.ior, 1)) : sa_snd p l e R s m args below meth c Q D dA A nL cl n0 V0 pc (so_bin f) := by
  obtain ⟨hx, hb, hts, hown, hml, hK, hA⟩ := C0
  rintro ⟨pc, lo, st, cs, G, kc, ks⟩ sts rfl h k V H locs ls hG
  unfold so_bin at h
  dsimp only at h
  split at h
  · rename_i y x rest
    split at h
    · rename_i r hr
      exact lv_ior hx hb hd (sa_push_ok hG (hf V G x y r hG.1.1 hr) h k)
    · cases h
  · cases h
theorem sn_ixor {p : Program} {l : Launch} {e : Env} {R : Room} {s : State} {m : MethodId} {args : Array Value} {below : List Frame} {meth : Method} {c : Code} {Q : State → Prop} {D : va_G} {dA : Nat → ClassId} {A : Nat → Prop} {nL : Nat} {cl : List vw_C} {n0 : Nat} {V0 : sa_V} {Ts : List Cond} {cc : ByteArray} {own : String} (C0 : sa_C p s m args c D dA A nL cl Ts cc own) {pc : Nat} {f : sa_B → Nat × Int → Nat × Int → Option sa_r} (hf : sa_bok f (fun x y => x ^^^ y)) (hd : decode cc pc = .ok (.ixor, 1)) : sa_snd p l e R s m args below meth c Q D dA A nL cl n0 V0 pc (so_bin f) := by
  obtain ⟨hx, hb, hts, hown, hml, hK, hA⟩ := C0
  rintro ⟨pc, lo, st, cs, G, kc, ks⟩ sts rfl h k V H locs ls hG
  unfold so_bin at h
  dsimp only at h
  split at h
  · rename_i y x rest
    split at h
    · rename_i r hr
      exact lv_ixor hx hb hd (sa_push_ok hG (hf V G x y r hG.1.1 hr) h k)
    · cases h
  · cases h
theorem sn_ishl {p : Program} {l : Launch} {e : Env} {R : Room} {s : State} {m : MethodId} {args : Array Value} {below : List Frame} {meth : Method} {c : Code} {Q : State → Prop} {D : va_G} {dA : Nat → ClassId} {A : Nat → Prop} {nL : Nat} {cl : List vw_C} {n0 : Nat} {V0 : sa_V} {Ts : List Cond} {cc : ByteArray} {own : String} (C0 : sa_C p s m args c D dA A nL cl Ts cc own) {pc : Nat} {f : sa_B → Nat × Int → Nat × Int → Option sa_r} (hf : sa_bok f (fun x y => x <<< (y &&& 31))) (hd : decode cc pc = .ok (.ishl, 1)) : sa_snd p l e R s m args below meth c Q D dA A nL cl n0 V0 pc (so_bin f) := by
  obtain ⟨hx, hb, hts, hown, hml, hK, hA⟩ := C0
  rintro ⟨pc, lo, st, cs, G, kc, ks⟩ sts rfl h k V H locs ls hG
  unfold so_bin at h
  dsimp only at h
  split at h
  · rename_i y x rest
    split at h
    · rename_i r hr
      exact lv_ishl hx hb hd (sa_push_ok hG (hf V G x y r hG.1.1 hr) h k)
    · cases h
  · cases h
theorem sn_ishr {p : Program} {l : Launch} {e : Env} {R : Room} {s : State} {m : MethodId} {args : Array Value} {below : List Frame} {meth : Method} {c : Code} {Q : State → Prop} {D : va_G} {dA : Nat → ClassId} {A : Nat → Prop} {nL : Nat} {cl : List vw_C} {n0 : Nat} {V0 : sa_V} {Ts : List Cond} {cc : ByteArray} {own : String} (C0 : sa_C p s m args c D dA A nL cl Ts cc own) {pc : Nat} {f : sa_B → Nat × Int → Nat × Int → Option sa_r} (hf : sa_bok f (fun x y => x >>> (y &&& 31))) (hd : decode cc pc = .ok (.ishr, 1)) : sa_snd p l e R s m args below meth c Q D dA A nL cl n0 V0 pc (so_bin f) := by
  obtain ⟨hx, hb, hts, hown, hml, hK, hA⟩ := C0
  rintro ⟨pc, lo, st, cs, G, kc, ks⟩ sts rfl h k V H locs ls hG
  unfold so_bin at h
  dsimp only at h
  split at h
  · rename_i y x rest
    split at h
    · rename_i r hr
      exact lv_ishr hx hb hd (sa_push_ok hG (hf V G x y r hG.1.1 hr) h k)
    · cases h
  · cases h
theorem sn_iushr {p : Program} {l : Launch} {e : Env} {R : Room} {s : State} {m : MethodId} {args : Array Value} {below : List Frame} {meth : Method} {c : Code} {Q : State → Prop} {D : va_G} {dA : Nat → ClassId} {A : Nat → Prop} {nL : Nat} {cl : List vw_C} {n0 : Nat} {V0 : sa_V} {Ts : List Cond} {cc : ByteArray} {own : String} (C0 : sa_C p s m args c D dA A nL cl Ts cc own) {pc : Nat} {f : sa_B → Nat × Int → Nat × Int → Option sa_r} (hf : sa_bok f (fun x y => (x.toUInt32 >>> (y.toUInt32 &&& Int32.toUInt32 31)).toInt32)) (hd : decode cc pc = .ok (.iushr, 1)) : sa_snd p l e R s m args below meth c Q D dA A nL cl n0 V0 pc (so_bin f) := by
  obtain ⟨hx, hb, hts, hown, hml, hK, hA⟩ := C0
  rintro ⟨pc, lo, st, cs, G, kc, ks⟩ sts rfl h k V H locs ls hG
  unfold so_bin at h
  dsimp only at h
  split at h
  · rename_i y x rest
    split at h
    · rename_i r hr
      exact lv_iushr hx hb hd rfl (sa_push_ok hG (hf V G x y r hG.1.1 hr) h k)
    · cases h
  · cases h
def sa_bok0 (f : sa_B → Nat × Int → Nat × Int → Option sa_r) (g : Int32 → Int32 → Int32) : Prop := ∀ (V : sa_V) (G : sa_B) (x y : Nat × Int) (r : sa_r), sa_I V G → f G x y = some r → ¬ sa_i V y = 0 ∧ sa_is V r (g (sa_i V x) (sa_i V y))
theorem sn_idiv {p : Program} {l : Launch} {e : Env} {R : Room} {s : State} {m : MethodId} {args : Array Value} {below : List Frame} {meth : Method} {c : Code} {Q : State → Prop} {D : va_G} {dA : Nat → ClassId} {A : Nat → Prop} {nL : Nat} {cl : List vw_C} {n0 : Nat} {V0 : sa_V} {Ts : List Cond} {cc : ByteArray} {own : String} (C0 : sa_C p s m args c D dA A nL cl Ts cc own) {pc : Nat} {f : sa_B → Nat × Int → Nat × Int → Option sa_r} (hf : sa_bok0 f (fun x y => x / y)) (hd : decode cc pc = .ok (.idiv, 1)) : sa_snd p l e R s m args below meth c Q D dA A nL cl n0 V0 pc (so_bin f) := by
  obtain ⟨hx, hb, hts, hown, hml, hK, hA⟩ := C0
  rintro ⟨pc, lo, st, cs, G, kc, ks⟩ sts rfl h k V H locs ls hG
  unfold so_bin at h
  dsimp only at h
  split at h
  · rename_i y x rest
    split at h
    · rename_i r hr
      have hq := hf V G x y r hG.1.1 hr
      exact lv_idiv hx hb hd hq.1 (sa_push_ok hG hq.2 h k)
    · cases h
  · cases h
theorem sn_irem {p : Program} {l : Launch} {e : Env} {R : Room} {s : State} {m : MethodId} {args : Array Value} {below : List Frame} {meth : Method} {c : Code} {Q : State → Prop} {D : va_G} {dA : Nat → ClassId} {A : Nat → Prop} {nL : Nat} {cl : List vw_C} {n0 : Nat} {V0 : sa_V} {Ts : List Cond} {cc : ByteArray} {own : String} (C0 : sa_C p s m args c D dA A nL cl Ts cc own) {pc : Nat} {f : sa_B → Nat × Int → Nat × Int → Option sa_r} (hf : sa_bok0 f (fun x y => x - x / y * y)) (hd : decode cc pc = .ok (.irem, 1)) : sa_snd p l e R s m args below meth c Q D dA A nL cl n0 V0 pc (so_bin f) := by
  obtain ⟨hx, hb, hts, hown, hml, hK, hA⟩ := C0
  rintro ⟨pc, lo, st, cs, G, kc, ks⟩ sts rfl h k V H locs ls hG
  unfold so_bin at h
  dsimp only at h
  split at h
  · rename_i y x rest
    split at h
    · rename_i r hr
      have hq := hf V G x y r hG.1.1 hr
      exact lv_irem hx hb hd hq.1 (sa_push_ok hG hq.2 h k)
    · cases h
  · cases h
theorem sa_k0 {V : sa_V} {G : sa_B} (h : sa_I V G) {q : Nat × Int} (hq : q.1 = 0) : sa_i V q = Int32.ofInt q.2 := by
  obtain ⟨s, n⟩ := q
  subst hq
  exact sa_i_0 h n
theorem sa_is_c {V : sa_V} {G : sa_B} (h : sa_I V G) (x : Int32) : sa_is V (.inl (0, x.toInt)) x := by
  show sa_i V (0, x.toInt) = x
  rw [sa_i_0 h, Int32.ofInt_toInt]
def sa_top : sa_r := .inr (-2147483648, 2147483647)
theorem sa_is_top (V : sa_V) (x : Int32) : sa_is V sa_top x := ⟨by have := Int32.le_toInt x; simpa using this, by have := Int32.toInt_lt x; simp at this; show x.toInt ≤ 2147483647; omega⟩
def sf_add (G : sa_B) (x y : Nat × Int) : Option sa_r :=
  if x.1 = 0 then some (.inl (y.1, y.2 + x.2)) else if y.1 = 0 then some (.inl (x.1, x.2 + y.2)) else match sa_iv G x, sa_iv G y with
  | some a, some b => if -2147483648 ≤ a.1 + b.1 ∧ a.2 + b.2 ≤ 2147483647 then some (.inr (a.1 + b.1, a.2 + b.2)) else some sa_top
  | _, _ => some sa_top
theorem sf_add_ok : sa_bok sf_add (fun x y => x + y) := by
  intro V G x y r hI h
  unfold sf_add at h
  split at h
  · rename_i h1
    cases h
    show sa_i V _ = _ + _
    rw [sa_k0 hI h1, Int32.add_comm, sa_i_add]
  · split at h
    · rename_i h1
      cases h
      show sa_i V _ = _ + _
      rw [sa_k0 hI h1, sa_i_add]
    · split at h
      · rename_i a b ha hb
        split at h
        · rename_i h2
          cases h
          obtain ⟨e1, l1, u1⟩ := sa_iv_ok hI ha
          obtain ⟨e2, l2, u2⟩ := sa_iv_ok hI hb
          have e3 : (sa_i V x + sa_i V y).toInt = (sa_i V x).toInt + (sa_i V y).toInt := by
            conv => lhs; rw [← Int32.ofInt_toInt (sa_i V x), ← Int32.ofInt_toInt (sa_i V y), ← Int32.ofInt_add]
            exact sa_ofInt_toInt (by omega) (by omega)
          show _ ≤ (sa_i V x + sa_i V y).toInt ∧ (sa_i V x + sa_i V y).toInt ≤ _
          rw [e3]
          exact ⟨by show a.1 + b.1 ≤ _; omega, by show _ ≤ a.2 + b.2; omega⟩
        · cases h; exact sa_is_top V _
      · cases h; exact sa_is_top V _
def sf_sub (G : sa_B) (x y : Nat × Int) : Option sa_r :=
  if y.1 = 0 then some (.inl (x.1, x.2 + (-y.2))) else match sa_iv G x, sa_iv G y with
  | some a, some b => if -2147483648 ≤ a.1 - b.2 ∧ a.2 - b.1 ≤ 2147483647 then some (.inr (a.1 - b.2, a.2 - b.1)) else some sa_top
  | _, _ => some sa_top
theorem sf_sub_ok : sa_bok sf_sub (fun x y => x - y) := by
  intro V G x y r hI h
  unfold sf_sub at h
  split at h
  · rename_i h1
    cases h
    show sa_i V _ = _ - _
    rw [← sa_i_add V x (-y.2), sa_k0 hI h1, Int32.ofInt_neg, Int32.sub_eq_add_neg]
  · split at h
    · rename_i a b ha hb
      split at h
      · rename_i h2
        cases h
        obtain ⟨e1, l1, u1⟩ := sa_iv_ok hI ha
        obtain ⟨e2, l2, u2⟩ := sa_iv_ok hI hb
        have e3 : (sa_i V x - sa_i V y).toInt = (sa_i V x).toInt - (sa_i V y).toInt := by
          conv => lhs; rw [← Int32.ofInt_toInt (sa_i V x), ← Int32.ofInt_toInt (sa_i V y), ← Int32.ofInt_sub]
          exact sa_ofInt_toInt (by omega) (by omega)
        show _ ≤ (sa_i V x - sa_i V y).toInt ∧ (sa_i V x - sa_i V y).toInt ≤ _
        rw [e3]
        exact ⟨by show a.1 - b.2 ≤ _; omega, by show _ ≤ a.2 - b.1; omega⟩
      · cases h; exact sa_is_top V _
    · cases h; exact sa_is_top V _
/-- a number that is known -/
def sa_kv (G : sa_B) (x : Nat × Int) : Option Int := match sa_iv G x with
  | some b => if b.1 = b.2 then some b.1 else none
  | none => none
theorem sa_kv_ok {V : sa_V} {G : sa_B} {x : Nat × Int} {a : Int} (hI : sa_I V G) (h : sa_kv G x = some a) : sa_i V x = Int32.ofInt a := by
  unfold sa_kv at h
  split at h
  · rename_i b hb
    split at h
    · rename_i h1
      cases h
      obtain ⟨e1, l1, u1⟩ := sa_iv_ok hI hb
      rw [show b.1 = (sa_i V x).toInt by omega, Int32.ofInt_toInt]
    · cases h
  · cases h
/-- two known numbers: the answer itself; else any number -/
def sf_cc (g : Int32 → Int32 → Int32) (G : sa_B) (x y : Nat × Int) : Option sa_r := match sa_kv G x, sa_kv G y with
  | some a, some b => some (.inl (0, (g (Int32.ofInt a) (Int32.ofInt b)).toInt))
  | _, _ => some sa_top
theorem sf_cc_ok (g : Int32 → Int32 → Int32) : sa_bok (sf_cc g) g := by
  intro V G x y r hI h
  unfold sf_cc at h
  split at h
  · rename_i a b ha hb
    cases h
    rw [sa_kv_ok hI ha, sa_kv_ok hI hb]
    exact sa_is_c hI _
  · cases h; exact sa_is_top V _
/-- nothing shifted is nothing -/
theorem sa_shr0 (y : Int32) : (0 : Int32) >>> (y &&& 31) = 0 := by
  apply Int32.toBitVec_inj.mp
  rw [Int32.toBitVec_shiftRight]
  simp
def sf_shr (_ : sa_B) (x y : Nat × Int) : Option sa_r :=
  if x.1 = 0 ∧ x.2 = 0 then some (.inl (0, 0)) else if x.1 = 0 ∧ y.1 = 0 then some (.inl (0, (Int32.ofInt x.2 >>> (Int32.ofInt y.2 &&& 31)).toInt)) else some sa_top
theorem sf_shr_ok : sa_bok sf_shr (fun x y => x >>> (y &&& 31)) := by
  intro V G x y r hI h
  unfold sf_shr at h
  split at h
  · rename_i h1
    cases h
    show sa_i V (0, 0) = sa_i V x >>> (sa_i V y &&& 31)
    rw [sa_k0 hI h1.1, h1.2, sa_i_0 hI]
    exact (sa_shr0 _).symm
  · split at h
    · rename_i h1
      cases h
      rw [sa_k0 hI h1.1, sa_k0 hI h1.2]
      exact sa_is_c hI _
    · cases h; exact sa_is_top V _
/-- with a mask: from 0 to the mask -/
def sf_and (_ : sa_B) (x y : Nat × Int) : Option sa_r :=
  if x.1 = 0 ∧ y.1 = 0 then some (.inl (0, (Int32.ofInt x.2 &&& Int32.ofInt y.2).toInt)) else if y.1 = 0 ∧ y.2 = -1 then some (.inl x) else if y.1 = 0 ∧ 0 ≤ y.2 ∧ y.2 ≤ 2147483647 then some (.inr (0, y.2)) else some sa_top
theorem sa_and_mask (x : Int32) {n : Int} (h0 : 0 ≤ n) (h1 : n ≤ 2147483647) : 0 ≤ (x &&& Int32.ofInt n).toInt ∧ (x &&& Int32.ofInt n).toInt ≤ n := by
  obtain ⟨k, rfl⟩ := Int.eq_ofNat_of_zero_le h0
  have hk : k < 2147483648 := by omega
  have hb : (Int32.ofInt (k : Int)).toBitVec = BitVec.ofNat 32 k := by
    show BitVec.ofInt 32 (k : Int) = BitVec.ofNat 32 k
    exact BitVec.ofInt_natCast 32 k
  have ht : (x &&& Int32.ofInt (k : Int)).toBitVec.toNat ≤ k := by
    rw [Int32.toBitVec_and, hb, BitVec.toNat_and, BitVec.toNat_ofNat, Nat.mod_eq_of_lt (by omega)]
    exact Nat.and_le_right
  have hi : (x &&& Int32.ofInt (k : Int)).toInt = ((x &&& Int32.ofInt (k : Int)).toBitVec.toNat : Int) := by
    show (x &&& Int32.ofInt (k : Int)).toBitVec.toInt = _
    rw [BitVec.toInt_eq_toNat_of_lt]
    omega
  rw [hi]
  omega
theorem sf_and_ok : sa_bok sf_and (fun x y => x &&& y) := by
  intro V G x y r hI h
  unfold sf_and at h
  split at h
  · rename_i h1
    cases h
    rw [sa_k0 hI h1.1, sa_k0 hI h1.2]
    exact sa_is_c hI _
  · split at h
    · rename_i h1
      cases h
      rw [sa_k0 hI h1.1, h1.2]
      show sa_i V x = sa_i V x &&& Int32.ofInt (-1)
      apply Int32.toBitVec_inj.mp
      rw [Int32.toBitVec_and, show (Int32.ofInt (-1)).toBitVec = BitVec.allOnes 32 from rfl, BitVec.and_allOnes]
    · split at h
      · rename_i h1
        cases h
        rw [sa_k0 hI h1.1]
        exact sa_and_mask _ h1.2.1 h1.2.2
      · cases h; exact sa_is_top V _
/-- a divisor that is a constant, not 0 -/
def sf_dd (g : Int32 → Int32 → Int32) (_ : sa_B) (x y : Nat × Int) : Option sa_r :=
  if y.1 = 0 ∧ ¬ Int32.ofInt y.2 = 0 then (if x.1 = 0 then some (.inl (0, (g (Int32.ofInt x.2) (Int32.ofInt y.2)).toInt)) else some sa_top) else none
theorem sf_dd_ok (g : Int32 → Int32 → Int32) : sa_bok0 (sf_dd g) g := by
  intro V G x y r hI h
  unfold sf_dd at h
  split at h
  · rename_i h1
    rw [sa_k0 hI h1.1]
    refine ⟨h1.2, ?_⟩
    split at h
    · rename_i h2
      cases h
      rw [sa_k0 hI h2]
      exact sa_is_c hI _
    · cases h; exact sa_is_top V _
  · cases h
end SA1
end
section
section SA2
def sa_hi (G : sa_B) (s : Nat) (z : Int) : sa_B := match G[s]? with
  | some b => G.set s (b.1, if b.2 ≤ z then b.2 else z)
  | none => G
def sa_lw (G : sa_B) (s : Nat) (z : Int) : sa_B := match G[s]? with
  | some b => G.set s (if z ≤ b.1 then b.1 else z, b.2)
  | none => G
theorem sa_I_hi {V : sa_V} {G : sa_B} {s : Nat} {z : Int} (h : sa_I V G) (hz : (V s).1 ≤ z) : sa_I V (sa_hi G s z) := by
  unfold sa_hi
  split
  · rename_i b hb
    refine ⟨fun i b' hi => ?_, h.2⟩
    by_cases hs : s = i
    · subst hs
      have hl := (List.getElem?_eq_some_iff.mp hb).1
      rw [List.getElem?_set_self hl] at hi
      cases hi
      obtain ⟨h1, h2⟩ := h.1 _ _ hb
      refine ⟨h1, ?_⟩
      show _ ≤ (if b.2 ≤ z then b.2 else z)
      split <;> omega
    · rw [List.getElem?_set_ne hs] at hi
      exact h.1 i b' hi
  · exact h
theorem sa_I_lw {V : sa_V} {G : sa_B} {s : Nat} {z : Int} (h : sa_I V G) (hz : z ≤ (V s).1) : sa_I V (sa_lw G s z) := by
  unfold sa_lw
  split
  · rename_i b hb
    refine ⟨fun i b' hi => ?_, h.2⟩
    by_cases hs : s = i
    · subst hs
      have hl := (List.getElem?_eq_some_iff.mp hb).1
      rw [List.getElem?_set_self hl] at hi
      cases hi
      obtain ⟨h1, h2⟩ := h.1 _ _ hb
      refine ⟨?_, h2⟩
      show (if z ≤ b.1 then b.1 else z) ≤ _
      split <;> omega
    · rw [List.getElem?_set_ne hs] at hi
      exact h.1 i b' hi
  · exact h
theorem sa_hi_len (G : sa_B) (s : Nat) (z : Int) : (sa_hi G s z).length = G.length := by
  unfold sa_hi
  split
  · exact List.length_set
  · rfl
theorem sa_lw_len (G : sa_B) (s : Nat) (z : Int) : (sa_lw G s z).length = G.length := by
  unfold sa_lw
  split
  · exact List.length_set
  · rfl
abbrev sa_R : Type := sa_B → Nat × Int → Nat × Int → List sa_B
def sa_rok (r : sa_R) (P : Int32 → Int32 → Prop) : Prop := ∀ (V : sa_V) (G : sa_B) (x y : Nat × Int), sa_I V G → P (sa_i V x) (sa_i V y) → ∃ G', G' ∈ r G x y ∧ sa_I V G' ∧ G'.length = G.length
def sr_lt : sa_R := fun G x y => match sa_iv G x, sa_iv G y with
  | some a, some b => if a.1 < b.2 then [sa_lw (sa_hi G x.1 (b.2 - 1 - x.2)) y.1 (a.1 + 1 - y.2)] else []
  | _, _ => [G]
theorem sr_lt_ok : sa_rok sr_lt (fun x y => x < y) := by
  intro V G x y hI h
  rw [Int32.lt_iff_toInt_lt] at h
  unfold sr_lt
  split
  · rename_i a b ha hb
    obtain ⟨e1, l1, u1⟩ := sa_iv_ok hI ha
    obtain ⟨e2, l2, u2⟩ := sa_iv_ok hI hb
    rw [if_pos (by omega)]
    exact ⟨_, List.mem_cons_self, sa_I_lw (sa_I_hi hI (by omega)) (by omega), by rw [sa_lw_len, sa_hi_len]⟩
  · exact ⟨_, List.mem_cons_self, hI, rfl⟩
def sr_le : sa_R := fun G x y => match sa_iv G x, sa_iv G y with
  | some a, some b => if a.1 ≤ b.2 then [sa_lw (sa_hi G x.1 (b.2 - x.2)) y.1 (a.1 - y.2)] else []
  | _, _ => [G]
theorem sr_le_ok : sa_rok sr_le (fun x y => x ≤ y) := by
  intro V G x y hI h
  rw [Int32.le_iff_toInt_le] at h
  unfold sr_le
  split
  · rename_i a b ha hb
    obtain ⟨e1, l1, u1⟩ := sa_iv_ok hI ha
    obtain ⟨e2, l2, u2⟩ := sa_iv_ok hI hb
    rw [if_pos (by omega)]
    exact ⟨_, List.mem_cons_self, sa_I_lw (sa_I_hi hI (by omega)) (by omega), by rw [sa_lw_len, sa_hi_len]⟩
  · exact ⟨_, List.mem_cons_self, hI, rfl⟩
def sr_eq : sa_R := fun G x y => match sa_iv G x, sa_iv G y with
  | some a, some b => if a.1 ≤ b.2 ∧ b.1 ≤ a.2 then [sa_lw (sa_hi (sa_lw (sa_hi G x.1 (b.2 - x.2)) x.1 (b.1 - x.2)) y.1 (a.2 - y.2)) y.1 (a.1 - y.2)] else []
  | _, _ => [G]
theorem sr_eq_ok : sa_rok sr_eq (fun x y => x = y) := by
  intro V G x y hI h
  unfold sr_eq
  split
  · rename_i a b ha hb
    obtain ⟨e1, l1, u1⟩ := sa_iv_ok hI ha
    obtain ⟨e2, l2, u2⟩ := sa_iv_ok hI hb
    have h : sa_i V x = sa_i V y := h
    rw [h] at e1 l1 u1
    rw [if_pos (by omega)]
    exact ⟨_, List.mem_cons_self, sa_I_lw (sa_I_hi (sa_I_lw (sa_I_hi hI (by omega)) (by omega)) (by omega)) (by omega), by rw [sa_lw_len, sa_hi_len, sa_lw_len, sa_hi_len]⟩
  · exact ⟨_, List.mem_cons_self, hI, rfl⟩
def sr_ne : sa_R := fun G x y => match sa_iv G x, sa_iv G y with
  | some a, some b => if b.1 = b.2 then (if a.1 < b.1 then [sa_hi G x.1 (b.1 - 1 - x.2)] else []) ++ (if b.1 < a.2 then [sa_lw G x.1 (b.1 + 1 - x.2)] else []) else [G]
  | _, _ => [G]
theorem sr_ne_ok : sa_rok sr_ne (fun x y => ¬ x = y) := by
  intro V G x y hI h
  unfold sr_ne
  split
  · rename_i a b ha hb
    obtain ⟨e1, l1, u1⟩ := sa_iv_ok hI ha
    obtain ⟨e2, l2, u2⟩ := sa_iv_ok hI hb
    have h3 : ¬ (sa_i V x).toInt = (sa_i V y).toInt := fun q => h (Int32.toInt_inj.mp q)
    split
    · by_cases hlt : (sa_i V x).toInt < (sa_i V y).toInt
      · exact ⟨_, List.mem_append_left _ (by rw [if_pos (by omega)]; exact List.mem_cons_self), sa_I_hi hI (by omega), sa_hi_len _ _ _⟩
      · exact ⟨_, List.mem_append_right _ (by rw [if_pos (by omega)]; exact List.mem_cons_self), sa_I_lw hI (by omega), sa_lw_len _ _ _⟩
    · exact ⟨_, List.mem_cons_self, hI, rfl⟩
  · exact ⟨_, List.mem_cons_self, hI, rfl⟩
def sr_flip (r : sa_R) : sa_R := fun G x y => r G y x
theorem sr_flip_ok {r : sa_R} {P : Int32 → Int32 → Prop} (h : sa_rok r P) : sa_rok (sr_flip r) (fun x y => P y x) := fun V G x y hI hp => h V G y x hI hp
theorem sr_nlt_ok : sa_rok (sr_flip sr_le) (fun x y => ¬ x < y) := fun V G x y hI hp => sr_le_ok V G y x hI (Int32.not_lt.mp hp)
theorem sr_nle_ok : sa_rok (sr_flip sr_lt) (fun x y => ¬ x ≤ y) := fun V G x y hI hp => sr_lt_ok V G y x hI (Int32.not_le.mp hp)
theorem sr_nle'_ok : sa_rok sr_lt (fun x y => ¬ y ≤ x) := fun V G x y hI hp => sr_lt_ok V G x y hI (Int32.not_le.mp hp)
theorem sr_nlt'_ok : sa_rok sr_le (fun x y => ¬ y < x) := fun V G x y hI hp => sr_le_ok V G x y hI (Int32.not_lt.mp hp)
def sa_br (r : sa_R) (S : sa_S) (x y : Nat × Int) (pc : Nat) (rest : List sa_v) : List sa_S := (r S.2.2.2.2.1 x y).map (fun G' => (pc, S.2.1, rest, S.2.2.2.1, G', S.2.2.2.2.2))
theorem sa_br_ok {p : Program} {l : Launch} {e : Env} {R : Room} {s : State} {m : MethodId} {args : Array Value} {below : List Frame} {meth : Method} {c : Code} {Q : State → Prop} {D : va_G} {dA : Nat → ClassId} {A : Nat → Prop} {nL : Nat} {cl : List vw_C} {n0 : Nat} {V0 : sa_V} {r : sa_R} {P : Int32 → Int32 → Prop} (hr : sa_rok r P) {lo : sa_L} {st : List sa_v} {cs : List sa_c} {G : sa_B} {kc ks pc0 pc : Nat} {x y : Nat × Int} {rest : List sa_v} {V : sa_V} {H : Heap} {locs : List Loc} {ls : Array Slot} (hG : sa_G D dA A nL cl n0 V0 s.heap V lo cs G H locs ls) (hp : P (sa_i V x) (sa_i V y))
    (k : ∀ S' ∈ sa_br r (pc0, lo, st, cs, G, kc, ks) x y pc rest, sa_W p l e R s m args below meth c Q D dA A nL cl n0 V0 S') : W p l e R s m args below meth c H locs kc ks Q (F0 m pc ls (rest.map (sa_val V))) := by
  obtain ⟨G', h1, h2⟩ := hr V G x y hG.1.1 hp
  exact k (pc, lo, rest, cs, G', kc, ks) (List.mem_map.mpr ⟨G', h1, rfl⟩) V H locs ls ⟨⟨h2.1, by rw [h2.2]; exact hG.1.2.1, hG.1.2.2⟩, hG.2⟩
def so_icmp (rt rf : sa_R) (tgt : Nat) : sa_op := fun S => match S.2.2.1 with
  | .inl y :: .inl x :: rest => some (sa_br rt S x y tgt rest ++ sa_br rf S x y (S.1 + 3) rest)
  | _ => none
def so_if (rt rf : sa_R) (tgt : Nat) : sa_op := fun S => match S.2.2.1 with
  | .inl x :: rest => some (sa_br rt S x (0, 0) tgt rest ++ sa_br rf S x (0, 0) (S.1 + 3) rest)
  | _ => none
theorem sn_icmp_eq {p : Program} {l : Launch} {e : Env} {R : Room} {s : State} {m : MethodId} {args : Array Value} {below : List Frame} {meth : Method} {c : Code} {Q : State → Prop} {D : va_G} {dA : Nat → ClassId} {A : Nat → Prop} {nL : Nat} {cl : List vw_C} {n0 : Nat} {V0 : sa_V} {Ts : List Cond} {cc : ByteArray} {own : String} (C0 : sa_C p s m args c D dA A nL cl Ts cc own) {pc : Nat} {off : Int} {tgt : Nat} (hd : decode cc pc = .ok (.if_icmp .eq off, 3)) (ht : (pc : Int) + off = (tgt : Int)) : sa_snd p l e R s m args below meth c Q D dA A nL cl n0 V0 pc (so_icmp sr_eq sr_ne tgt) := by
  obtain ⟨hx, hb, hts, hown, hml, hK, hA⟩ := C0
  rintro ⟨pc, lo, st, cs, G, kc, ks⟩ sts rfl h k V H locs ls hG
  unfold so_icmp at h
  dsimp only at h
  split at h
  · rename_i y x rest
    cases h
    exact lv_icmp_eq hx hb hd ht (fun hp => sa_br_ok sr_eq_ok hG hp (fun S' hS => k S' (List.mem_append_left _ hS))) (fun hp => sa_br_ok sr_ne_ok hG hp (fun S' hS => k S' (List.mem_append_right _ hS)))
  · cases h
theorem sn_if_eq {p : Program} {l : Launch} {e : Env} {R : Room} {s : State} {m : MethodId} {args : Array Value} {below : List Frame} {meth : Method} {c : Code} {Q : State → Prop} {D : va_G} {dA : Nat → ClassId} {A : Nat → Prop} {nL : Nat} {cl : List vw_C} {n0 : Nat} {V0 : sa_V} {Ts : List Cond} {cc : ByteArray} {own : String} (C0 : sa_C p s m args c D dA A nL cl Ts cc own) {pc : Nat} {off : Int} {tgt : Nat} (hd : decode cc pc = .ok (.ifCond .eq off, 3)) (ht : (pc : Int) + off = (tgt : Int)) : sa_snd p l e R s m args below meth c Q D dA A nL cl n0 V0 pc (so_if sr_eq sr_ne tgt) := by
  obtain ⟨hx, hb, hts, hown, hml, hK, hA⟩ := C0
  rintro ⟨pc, lo, st, cs, G, kc, ks⟩ sts rfl h k V H locs ls hG
  unfold so_if at h
  dsimp only at h
  split at h
  · rename_i x rest
    cases h
    have e0 : sa_i V (0, 0) = 0 := (sa_i_0 hG.1.1 0).trans rfl
    exact lv_if_eq hx hb hd ht (fun hp => sa_br_ok sr_eq_ok hG (by rw [e0]; exact hp) (fun S' hS => k S' (List.mem_append_left _ hS))) (fun hp => sa_br_ok sr_ne_ok hG (by rw [e0]; exact hp) (fun S' hS => k S' (List.mem_append_right _ hS)))
  · cases h
theorem sn_icmp_ne {p : Program} {l : Launch} {e : Env} {R : Room} {s : State} {m : MethodId} {args : Array Value} {below : List Frame} {meth : Method} {c : Code} {Q : State → Prop} {D : va_G} {dA : Nat → ClassId} {A : Nat → Prop} {nL : Nat} {cl : List vw_C} {n0 : Nat} {V0 : sa_V} {Ts : List Cond} {cc : ByteArray} {own : String} (C0 : sa_C p s m args c D dA A nL cl Ts cc own) {pc : Nat} {off : Int} {tgt : Nat} (hd : decode cc pc = .ok (.if_icmp .ne off, 3)) (ht : (pc : Int) + off = (tgt : Int)) : sa_snd p l e R s m args below meth c Q D dA A nL cl n0 V0 pc (so_icmp sr_ne sr_eq tgt) := by
  obtain ⟨hx, hb, hts, hown, hml, hK, hA⟩ := C0
  rintro ⟨pc, lo, st, cs, G, kc, ks⟩ sts rfl h k V H locs ls hG
  unfold so_icmp at h
  dsimp only at h
  split at h
  · rename_i y x rest
    cases h
    exact lv_icmp_ne hx hb hd ht (fun hp => sa_br_ok sr_ne_ok hG hp (fun S' hS => k S' (List.mem_append_left _ hS))) (fun hp => sa_br_ok sr_eq_ok hG hp (fun S' hS => k S' (List.mem_append_right _ hS)))
  · cases h
theorem sn_if_ne {p : Program} {l : Launch} {e : Env} {R : Room} {s : State} {m : MethodId} {args : Array Value} {below : List Frame} {meth : Method} {c : Code} {Q : State → Prop} {D : va_G} {dA : Nat → ClassId} {A : Nat → Prop} {nL : Nat} {cl : List vw_C} {n0 : Nat} {V0 : sa_V} {Ts : List Cond} {cc : ByteArray} {own : String} (C0 : sa_C p s m args c D dA A nL cl Ts cc own) {pc : Nat} {off : Int} {tgt : Nat} (hd : decode cc pc = .ok (.ifCond .ne off, 3)) (ht : (pc : Int) + off = (tgt : Int)) : sa_snd p l e R s m args below meth c Q D dA A nL cl n0 V0 pc (so_if sr_ne sr_eq tgt) := by
  obtain ⟨hx, hb, hts, hown, hml, hK, hA⟩ := C0
  rintro ⟨pc, lo, st, cs, G, kc, ks⟩ sts rfl h k V H locs ls hG
  unfold so_if at h
  dsimp only at h
  split at h
  · rename_i x rest
    cases h
    have e0 : sa_i V (0, 0) = 0 := (sa_i_0 hG.1.1 0).trans rfl
    exact lv_if_ne hx hb hd ht (fun hp => sa_br_ok sr_ne_ok hG (by rw [e0]; exact hp) (fun S' hS => k S' (List.mem_append_left _ hS))) (fun hp => sa_br_ok sr_eq_ok hG (by rw [e0]; exact hp) (fun S' hS => k S' (List.mem_append_right _ hS)))
  · cases h
theorem sn_icmp_lt {p : Program} {l : Launch} {e : Env} {R : Room} {s : State} {m : MethodId} {args : Array Value} {below : List Frame} {meth : Method} {c : Code} {Q : State → Prop} {D : va_G} {dA : Nat → ClassId} {A : Nat → Prop} {nL : Nat} {cl : List vw_C} {n0 : Nat} {V0 : sa_V} {Ts : List Cond} {cc : ByteArray} {own : String} (C0 : sa_C p s m args c D dA A nL cl Ts cc own) {pc : Nat} {off : Int} {tgt : Nat} (hd : decode cc pc = .ok (.if_icmp .lt off, 3)) (ht : (pc : Int) + off = (tgt : Int)) : sa_snd p l e R s m args below meth c Q D dA A nL cl n0 V0 pc (so_icmp sr_lt (sr_flip sr_le) tgt) := by
  obtain ⟨hx, hb, hts, hown, hml, hK, hA⟩ := C0
  rintro ⟨pc, lo, st, cs, G, kc, ks⟩ sts rfl h k V H locs ls hG
  unfold so_icmp at h
  dsimp only at h
  split at h
  · rename_i y x rest
    cases h
    exact lv_icmp_lt hx hb hd ht (fun hp => sa_br_ok sr_lt_ok hG hp (fun S' hS => k S' (List.mem_append_left _ hS))) (fun hp => sa_br_ok sr_nlt_ok hG hp (fun S' hS => k S' (List.mem_append_right _ hS)))
  · cases h
theorem sn_if_lt {p : Program} {l : Launch} {e : Env} {R : Room} {s : State} {m : MethodId} {args : Array Value} {below : List Frame} {meth : Method} {c : Code} {Q : State → Prop} {D : va_G} {dA : Nat → ClassId} {A : Nat → Prop} {nL : Nat} {cl : List vw_C} {n0 : Nat} {V0 : sa_V} {Ts : List Cond} {cc : ByteArray} {own : String} (C0 : sa_C p s m args c D dA A nL cl Ts cc own) {pc : Nat} {off : Int} {tgt : Nat} (hd : decode cc pc = .ok (.ifCond .lt off, 3)) (ht : (pc : Int) + off = (tgt : Int)) : sa_snd p l e R s m args below meth c Q D dA A nL cl n0 V0 pc (so_if sr_lt (sr_flip sr_le) tgt) := by
  obtain ⟨hx, hb, hts, hown, hml, hK, hA⟩ := C0
  rintro ⟨pc, lo, st, cs, G, kc, ks⟩ sts rfl h k V H locs ls hG
  unfold so_if at h
  dsimp only at h
  split at h
  · rename_i x rest
    cases h
    have e0 : sa_i V (0, 0) = 0 := (sa_i_0 hG.1.1 0).trans rfl
    exact lv_if_lt hx hb hd ht (fun hp => sa_br_ok sr_lt_ok hG (by rw [e0]; exact hp) (fun S' hS => k S' (List.mem_append_left _ hS))) (fun hp => sa_br_ok sr_nlt_ok hG (by rw [e0]; exact hp) (fun S' hS => k S' (List.mem_append_right _ hS)))
  · cases h
theorem sn_icmp_ge {p : Program} {l : Launch} {e : Env} {R : Room} {s : State} {m : MethodId} {args : Array Value} {below : List Frame} {meth : Method} {c : Code} {Q : State → Prop} {D : va_G} {dA : Nat → ClassId} {A : Nat → Prop} {nL : Nat} {cl : List vw_C} {n0 : Nat} {V0 : sa_V} {Ts : List Cond} {cc : ByteArray} {own : String} (C0 : sa_C p s m args c D dA A nL cl Ts cc own) {pc : Nat} {off : Int} {tgt : Nat} (hd : decode cc pc = .ok (.if_icmp .ge off, 3)) (ht : (pc : Int) + off = (tgt : Int)) : sa_snd p l e R s m args below meth c Q D dA A nL cl n0 V0 pc (so_icmp (sr_flip sr_le) sr_lt tgt) := by
  obtain ⟨hx, hb, hts, hown, hml, hK, hA⟩ := C0
  rintro ⟨pc, lo, st, cs, G, kc, ks⟩ sts rfl h k V H locs ls hG
  unfold so_icmp at h
  dsimp only at h
  split at h
  · rename_i y x rest
    cases h
    exact lv_icmp_ge hx hb hd ht (fun hp => sa_br_ok (sr_flip_ok sr_le_ok) hG hp (fun S' hS => k S' (List.mem_append_left _ hS))) (fun hp => sa_br_ok sr_nle'_ok hG hp (fun S' hS => k S' (List.mem_append_right _ hS)))
  · cases h
theorem sn_if_ge {p : Program} {l : Launch} {e : Env} {R : Room} {s : State} {m : MethodId} {args : Array Value} {below : List Frame} {meth : Method} {c : Code} {Q : State → Prop} {D : va_G} {dA : Nat → ClassId} {A : Nat → Prop} {nL : Nat} {cl : List vw_C} {n0 : Nat} {V0 : sa_V} {Ts : List Cond} {cc : ByteArray} {own : String} (C0 : sa_C p s m args c D dA A nL cl Ts cc own) {pc : Nat} {off : Int} {tgt : Nat} (hd : decode cc pc = .ok (.ifCond .ge off, 3)) (ht : (pc : Int) + off = (tgt : Int)) : sa_snd p l e R s m args below meth c Q D dA A nL cl n0 V0 pc (so_if (sr_flip sr_le) sr_lt tgt) := by
  obtain ⟨hx, hb, hts, hown, hml, hK, hA⟩ := C0
  rintro ⟨pc, lo, st, cs, G, kc, ks⟩ sts rfl h k V H locs ls hG
  unfold so_if at h
  dsimp only at h
  split at h
  · rename_i x rest
    cases h
    have e0 : sa_i V (0, 0) = 0 := (sa_i_0 hG.1.1 0).trans rfl
    exact lv_if_ge hx hb hd ht (fun hp => sa_br_ok (sr_flip_ok sr_le_ok) hG (by rw [e0]; exact hp) (fun S' hS => k S' (List.mem_append_left _ hS))) (fun hp => sa_br_ok sr_nle'_ok hG (by rw [e0]; exact hp) (fun S' hS => k S' (List.mem_append_right _ hS)))
  · cases h
theorem sn_icmp_gt {p : Program} {l : Launch} {e : Env} {R : Room} {s : State} {m : MethodId} {args : Array Value} {below : List Frame} {meth : Method} {c : Code} {Q : State → Prop} {D : va_G} {dA : Nat → ClassId} {A : Nat → Prop} {nL : Nat} {cl : List vw_C} {n0 : Nat} {V0 : sa_V} {Ts : List Cond} {cc : ByteArray} {own : String} (C0 : sa_C p s m args c D dA A nL cl Ts cc own) {pc : Nat} {off : Int} {tgt : Nat} (hd : decode cc pc = .ok (.if_icmp .gt off, 3)) (ht : (pc : Int) + off = (tgt : Int)) : sa_snd p l e R s m args below meth c Q D dA A nL cl n0 V0 pc (so_icmp (sr_flip sr_lt) sr_le tgt) := by
  obtain ⟨hx, hb, hts, hown, hml, hK, hA⟩ := C0
  rintro ⟨pc, lo, st, cs, G, kc, ks⟩ sts rfl h k V H locs ls hG
  unfold so_icmp at h
  dsimp only at h
  split at h
  · rename_i y x rest
    cases h
    exact lv_icmp_gt hx hb hd ht (fun hp => sa_br_ok (sr_flip_ok sr_lt_ok) hG hp (fun S' hS => k S' (List.mem_append_left _ hS))) (fun hp => sa_br_ok sr_nlt'_ok hG hp (fun S' hS => k S' (List.mem_append_right _ hS)))
  · cases h
theorem sn_if_gt {p : Program} {l : Launch} {e : Env} {R : Room} {s : State} {m : MethodId} {args : Array Value} {below : List Frame} {meth : Method} {c : Code} {Q : State → Prop} {D : va_G} {dA : Nat → ClassId} {A : Nat → Prop} {nL : Nat} {cl : List vw_C} {n0 : Nat} {V0 : sa_V} {Ts : List Cond} {cc : ByteArray} {own : String} (C0 : sa_C p s m args c D dA A nL cl Ts cc own) {pc : Nat} {off : Int} {tgt : Nat} (hd : decode cc pc = .ok (.ifCond .gt off, 3)) (ht : (pc : Int) + off = (tgt : Int)) : sa_snd p l e R s m args below meth c Q D dA A nL cl n0 V0 pc (so_if (sr_flip sr_lt) sr_le tgt) := by
  obtain ⟨hx, hb, hts, hown, hml, hK, hA⟩ := C0
  rintro ⟨pc, lo, st, cs, G, kc, ks⟩ sts rfl h k V H locs ls hG
  unfold so_if at h
  dsimp only at h
  split at h
  · rename_i x rest
    cases h
    have e0 : sa_i V (0, 0) = 0 := (sa_i_0 hG.1.1 0).trans rfl
    exact lv_if_gt hx hb hd ht (fun hp => sa_br_ok (sr_flip_ok sr_lt_ok) hG (by rw [e0]; exact hp) (fun S' hS => k S' (List.mem_append_left _ hS))) (fun hp => sa_br_ok sr_nlt'_ok hG (by rw [e0]; exact hp) (fun S' hS => k S' (List.mem_append_right _ hS)))
  · cases h
theorem sn_icmp_le {p : Program} {l : Launch} {e : Env} {R : Room} {s : State} {m : MethodId} {args : Array Value} {below : List Frame} {meth : Method} {c : Code} {Q : State → Prop} {D : va_G} {dA : Nat → ClassId} {A : Nat → Prop} {nL : Nat} {cl : List vw_C} {n0 : Nat} {V0 : sa_V} {Ts : List Cond} {cc : ByteArray} {own : String} (C0 : sa_C p s m args c D dA A nL cl Ts cc own) {pc : Nat} {off : Int} {tgt : Nat} (hd : decode cc pc = .ok (.if_icmp .le off, 3)) (ht : (pc : Int) + off = (tgt : Int)) : sa_snd p l e R s m args below meth c Q D dA A nL cl n0 V0 pc (so_icmp sr_le (sr_flip sr_lt) tgt) := by
  obtain ⟨hx, hb, hts, hown, hml, hK, hA⟩ := C0
  rintro ⟨pc, lo, st, cs, G, kc, ks⟩ sts rfl h k V H locs ls hG
  unfold so_icmp at h
  dsimp only at h
  split at h
  · rename_i y x rest
    cases h
    exact lv_icmp_le hx hb hd ht (fun hp => sa_br_ok sr_le_ok hG hp (fun S' hS => k S' (List.mem_append_left _ hS))) (fun hp => sa_br_ok sr_nle_ok hG hp (fun S' hS => k S' (List.mem_append_right _ hS)))
  · cases h
theorem sn_if_le {p : Program} {l : Launch} {e : Env} {R : Room} {s : State} {m : MethodId} {args : Array Value} {below : List Frame} {meth : Method} {c : Code} {Q : State → Prop} {D : va_G} {dA : Nat → ClassId} {A : Nat → Prop} {nL : Nat} {cl : List vw_C} {n0 : Nat} {V0 : sa_V} {Ts : List Cond} {cc : ByteArray} {own : String} (C0 : sa_C p s m args c D dA A nL cl Ts cc own) {pc : Nat} {off : Int} {tgt : Nat} (hd : decode cc pc = .ok (.ifCond .le off, 3)) (ht : (pc : Int) + off = (tgt : Int)) : sa_snd p l e R s m args below meth c Q D dA A nL cl n0 V0 pc (so_if sr_le (sr_flip sr_lt) tgt) := by
  obtain ⟨hx, hb, hts, hown, hml, hK, hA⟩ := C0
  rintro ⟨pc, lo, st, cs, G, kc, ks⟩ sts rfl h k V H locs ls hG
  unfold so_if at h
  dsimp only at h
  split at h
  · rename_i x rest
    cases h
    have e0 : sa_i V (0, 0) = 0 := (sa_i_0 hG.1.1 0).trans rfl
    exact lv_if_le hx hb hd ht (fun hp => sa_br_ok sr_le_ok hG (by rw [e0]; exact hp) (fun S' hS => k S' (List.mem_append_left _ hS))) (fun hp => sa_br_ok sr_nle_ok hG (by rw [e0]; exact hp) (fun S' hS => k S' (List.mem_append_right _ hS)))
  · cases h
def sa_tsw (S : sa_S) (x : Nat × Int) (rest : List sa_v) : Int → List Nat → List sa_S
  | _, [] => []
  | a, t :: l => sa_br sr_eq S x (0, a) t rest ++ sa_tsw S x rest (a + 1) l
theorem sa_tsw_in {S : sa_S} {x : Nat × Int} {rest : List sa_v} : ∀ (l : List Nat) (a : Int) (j t : Nat), l[j]? = some t → ∀ S' ∈ sa_br sr_eq S x (0, a + j) t rest, S' ∈ sa_tsw S x rest a l
  | [], _, _, _, h => by simp at h
  | t0 :: l, a, 0, t, h => by
    cases h
    intro S' hS
    rw [show a + ((0 : Nat) : Int) = a by omega] at hS
    exact List.mem_append_left _ hS
  | t0 :: l, a, j + 1, t, h => by
    intro S' hS
    rw [show a + ((j + 1 : Nat) : Int) = (a + 1) + (j : Int) by omega] at hS
    exact List.mem_append_right _ (sa_tsw_in l (a + 1) j t (by simpa using h) S' hS)
def so_tsw (a : Int) (tg : List Nat) (df : Nat) : sa_op := fun S => match S.2.2.1 with
  | .inl x :: rest => match sa_iv S.2.2.2.2.1 x with
    | some b => some (sa_tsw S x rest a tg ++ (if a ≤ b.1 ∧ b.2 < a + tg.length then [] else [(df, S.2.1, rest, S.2.2.2)]))
    | none => none
  | _ => none
theorem sn_tsw {p : Program} {l : Launch} {e : Env} {R : Room} {s : State} {m : MethodId} {args : Array Value} {below : List Frame} {meth : Method} {c : Code} {Q : State → Prop} {D : va_G} {dA : Nat → ClassId} {A : Nat → Prop} {nL : Nat} {cl : List vw_C} {n0 : Nat} {V0 : sa_V} {Ts : List Cond} {cc : ByteArray} {own : String} (C0 : sa_C p s m args c D dA A nL cl Ts cc own) {pc : Nat} {dflt a b : Int} {offs : Array Int} {len df : Nat} {tg : List Nat} (hd : decode cc pc = .ok (.tableswitch dflt a b offs, len)) (hb0 : b = a + tg.length - 1) (ha1 : -2147483648 ≤ a) (ha2 : a + tg.length ≤ 2147483647) (ho : offs.toList.map (fun o => (pc : Int) + o) = tg.map Int.ofNat) (ht : (pc : Int) + dflt = (df : Int)) : sa_snd p l e R s m args below meth c Q D dA A nL cl n0 V0 pc (so_tsw a tg df) := by
  obtain ⟨hx, hb, hts, hown, hml, hK, hA⟩ := C0
  rintro ⟨pc, lo, st, cs, G, kc, ks⟩ sts rfl h k V H locs ls hG
  unfold so_tsw at h
  dsimp only at h
  split at h
  · rename_i x rest
    split at h
    · rename_i bb hbb
      cases h
      obtain ⟨e1, l1, u1⟩ := sa_iv_ok hG.1.1 hbb
      by_cases hin : (sa_i V x).toInt < a ∨ b < (sa_i V x).toInt
      · refine lv_tableOut hx hb hd hin ht ?_
        refine k (df, lo, rest, cs, G, kc, ks) (List.mem_append_right _ ?_) V H locs ls hG
        rw [if_neg (by omega)]
        exact List.mem_cons_self
      · have hj : ((sa_i V x).toInt - a).toNat < offs.toList.length := by
          have hlen : offs.toList.length = tg.length := by rw [← List.length_map (f := fun o => (pc : Int) + o), ho, List.length_map]
          rw [hlen]
          omega
        obtain ⟨off, hoff⟩ : ∃ off, offs.toList[((sa_i V x).toInt - a).toNat]? = some off := ⟨_, List.getElem?_eq_getElem hj⟩
        have h5 : (offs.toList.map (fun o => (pc : Int) + o))[((sa_i V x).toInt - a).toNat]? = some ((pc : Int) + off) := by rw [List.getElem?_map, hoff]; rfl
        rw [ho, List.getElem?_map] at h5
        cases h6 : tg[((sa_i V x).toInt - a).toNat]? with
        | none => rw [h6] at h5; cases h5
        | some t =>
          rw [h6] at h5
          have h7 : (pc : Int) + off = (t : Int) := (Option.some.inj h5).symm
          refine lv_tableIn hx hb hd (fun q => hin (Or.inl q)) (fun q => hin (Or.inr q)) (by rw [← Array.getElem?_toList]; exact hoff) h7 ?_
          refine sa_br_ok (st := .inl x :: rest) (pc0 := pc) (y := (0, a + (((sa_i V x).toInt - a).toNat : Int))) sr_eq_ok hG ?_ (fun S' hS => k S' (List.mem_append_left _ (sa_tsw_in tg a _ t h6 S' hS)))
          show sa_i V x = sa_i V _
          rw [sa_i_0 hG.1.1, show a + (((sa_i V x).toInt - a).toNat : Int) = (sa_i V x).toInt by omega, Int32.ofInt_toInt]
    · cases h
  · cases h
def so_lsw (ps : List (Int × Int)) (dflt : Int) : sa_op := fun S => match S.2.2.1 with
  | .inl x :: rest => if x.1 = 0 ∧ -2147483648 ≤ x.2 ∧ x.2 ≤ 2147483647 ∧ 0 ≤ (S.1 : Int) + Op.lookupswitch.offset ps dflt x.2 then some [(((S.1 : Int) + Op.lookupswitch.offset ps dflt x.2).toNat, S.2.1, rest, S.2.2.2)] else none
  | _ => none
theorem sn_lsw {p : Program} {l : Launch} {e : Env} {R : Room} {s : State} {m : MethodId} {args : Array Value} {below : List Frame} {meth : Method} {c : Code} {Q : State → Prop} {D : va_G} {dA : Nat → ClassId} {A : Nat → Prop} {nL : Nat} {cl : List vw_C} {n0 : Nat} {V0 : sa_V} {Ts : List Cond} {cc : ByteArray} {own : String} (C0 : sa_C p s m args c D dA A nL cl Ts cc own) {pc : Nat} {dflt : Int} {ps : Array (Int × Int)} {len : Nat} (hd : decode cc pc = .ok (.lookupswitch dflt ps, len)) (hp : (ps.toList.zip (ps.toList.drop 1)).all (fun (a, next) => a.1 < next.1) = true) : sa_snd p l e R s m args below meth c Q D dA A nL cl n0 V0 pc (so_lsw ps.toList dflt) := by
  obtain ⟨hx, hb, hts, hown, hml, hK, hA⟩ := C0
  rintro ⟨pc, lo, st, cs, G, kc, ks⟩ sts rfl h k V H locs ls hG
  unfold so_lsw at h
  dsimp only at h
  split at h
  · rename_i x rest
    split at h
    · rename_i h1
      cases h
      refine lv_lookup (x := sa_i V x) hx hb hd hp rfl ?_ (k _ List.mem_cons_self V H locs ls hG)
      rw [sa_k0 hG.1.1 h1.1, sa_ofInt_toInt h1.2.1 h1.2.2.1]
      dsimp only
      omega
    · cases h
  · cases h
end SA2
end
section
section SA3
def sa_find (a : Nat) : List sa_c → Nat → Option (Nat × ((Nat × List sa_v) ⊕ (Nat × sa_a)))
  | [], _ => none
  | q :: l, i => if q.1 = a then some (i, q.2) else sa_find a l (i + 1)
theorem sa_find_at {a : Nat} {x : (Nat × List sa_v) ⊕ (Nat × sa_a)} : ∀ {cs : List sa_c} {i j : Nat}, sa_find a cs i = some (j, x) → ∃ d, j = i + d ∧ cs[d]? = some (a, x)
  | [], _, _, h => by cases h
  | q :: l, i, j, h => by
    unfold sa_find at h
    split at h
    · rename_i h1
      cases h
      exact ⟨0, rfl, by rw [← h1]; rfl⟩
    · obtain ⟨d, h1, h2⟩ := sa_find_at h
      exact ⟨d + 1, by omega, by simpa using h2⟩
theorem sa_find_0 {V : sa_V} {dA : Nat → ClassId} {a j : Nat} {x : (Nat × List sa_v) ⊕ (Nat × sa_a)} {cs : List sa_c} (h : sa_find a cs 0 = some (j, x)) : (cs.map (sa_e V dA))[j]? = some (sa_ad V a, sa_el V dA x) := by
  obtain ⟨d, h1, h2⟩ := sa_find_at h
  rw [Nat.zero_add] at h1
  subst h1
  rw [List.getElem?_map, h2]
  rfl
/-- what the rows need of a class -/
def sa_cls (cl : List vw_C) (Ts : List Cond) (ci : Nat) (C : String) (T : u_T) (N : Nat) (ty : Nat → FieldType) : Prop := cl[ci]? = some (C, T, N) ∧ (∀ w ∈ u_ws C T N, w ∈ Ts) ∧ (∀ k, k < N → parseFieldDescriptor (T k).2.2.1 = some (ty k)) ∧ ∀ a, a < N → ∀ b, b < N → a ≠ b → (T a).2.1 ≠ (T b).2.1
def so_get (ci f : Nat) : sa_op := fun S => match S.2.2.1 with
  | .inr (.inl (some a)) :: rest => match sa_find a S.2.2.2.1 0 with
    | some (_, .inl (cj, fs)) => if cj = ci then match fs[f]? with
      | some v => some [(S.1 + 3, S.2.1, v :: rest, S.2.2.2)]
      | none => none
      else none
    | _ => none
  | _ => none
theorem sn_get {p : Program} {l : Launch} {e : Env} {R : Room} {s : State} {m : MethodId} {args : Array Value} {below : List Frame} {meth : Method} {c : Code} {Q : State → Prop} {D : va_G} {dA : Nat → ClassId} {A : Nat → Prop} {nL : Nat} {cl : List vw_C} {n0 : Nat} {V0 : sa_V} {Ts : List Cond} {cc : ByteArray} {own : String} (C0 : sa_C p s m args c D dA A nL cl Ts cc own) {pc : Nat} {ci f N idx : Nat} {C : String} {T : u_T} {ty : Nat → FieldType} (hc : sa_cls cl Ts ci C T N ty) (hd : decode cc pc = .ok (.getfield idx, 3)) (hf : f < N) (hl : Cond.fieldLink own idx (T f).1 (T f).2.1 (T f).2.2.1 ∈ Ts) : sa_snd p l e R s m args below meth c Q D dA A nL cl n0 V0 pc (so_get ci f) := by
  obtain ⟨hx, hb, hts, hown, hml, hK, hA⟩ := C0
  rintro ⟨pc, lo, st, cs, G, kc, ks⟩ sts rfl h k V H locs ls hG
  unfold so_get at h
  dsimp only at h
  split at h
  · rename_i a rest
    split at h
    · rename_i j cj fs hj
      split at h
      · rename_i hcj
        subst hcj
        split at h
        · rename_i v hv
          cases h
          exact va_get (D := D) (v := sa_val V v) hx hb hts hc.2.1 hown hK hG.2.2.1 j (sa_find_0 hj) hc.1 f hf (hts _ hl) (fun _ h9 => h9) (by rw [List.getElem?_map, hv]; rfl) hd (k _ List.mem_cons_self V H locs ls hG)
        · cases h
      · cases h
    · cases h
  · cases h
/-- may this value stand in a field of this type -/
def sa_fit (G : sa_B) (t : FieldType) (v : sa_v) : Bool := match t, v with
  | .int, .inl _ => true
  | .boolean, .inl q => match sa_iv G q with
    | some b => decide (0 ≤ b.1 ∧ b.2 ≤ 1)
    | none => false
  | .long, .inr (.inr _) => true
  | .object _, .inr (.inl _) => true
  | .array _, .inr (.inl _) => true
  | _, _ => false
theorem sa_01 {x : Int32} (h0 : 0 ≤ x.toInt) (h1 : x.toInt ≤ 1) : x = 0 ∨ x = 1 := by
  have h : x.toInt = 0 ∨ x.toInt = 1 := by omega
  rcases h with h | h
  · exact Or.inl (Int32.toInt_inj.mp (by rw [h]; rfl))
  · exact Or.inr (Int32.toInt_inj.mp (by rw [h]; rfl))
theorem sa_fit_ok {V : sa_V} {G : sa_B} {t : FieldType} {v : sa_v} (hI : sa_I V G) (h : sa_fit G t v = true) : narrow t (sa_val V v) = sa_val V v ∧ fits t (sa_val V v) = true := by
  rcases v with q | (_ | r) | j <;> cases t <;> first | (cases h; done) | exact ⟨rfl, rfl⟩ | skip
  · unfold sa_fit at h
    dsimp only at h
    split at h
    · rename_i b hb
      obtain ⟨e1, l1, u1⟩ := sa_iv_ok hI hb
      have h := of_decide_eq_true h
      show narrow .boolean (.int (sa_i V q)) = .int (sa_i V q) ∧ fits .boolean (.int (sa_i V q)) = true
      rcases sa_01 (x := sa_i V q) (by omega) (by omega) with h2 | h2 <;> rw [h2] <;> exact ⟨rfl, rfl⟩
    · cases h
def so_put (ci f : Nat) (t : FieldType) : sa_op := fun S => match S.2.2.1 with
  | v :: .inr (.inl (some a)) :: rest => match sa_find a S.2.2.2.1 0 with
    | some (j, .inl (cj, fs)) => if cj = ci ∧ f < fs.length ∧ sa_fit S.2.2.2.2.1 t v = true then some [(S.1 + 3, S.2.1, rest, S.2.2.2.1.set j (a, .inl (cj, fs.set f v)), S.2.2.2.2)] else none
    | _ => none
  | _ => none
theorem sa_set_map {V : sa_V} {dA : Nat → ClassId} {cs : List sa_c} {j a ci f : Nat} {fs : List sa_v} {v : sa_v} : (cs.map (sa_e V dA)).set j (sa_ad V a, .inr (ci, (fs.map (sa_val V)).set f (sa_val V v))) = (cs.set j (a, .inl (ci, fs.set f v))).map (sa_e V dA) := by
  rw [List.map_set]
  congr 1
  show _ = (sa_ad V a, Sum.inr (ci, (fs.set f v).map (sa_val V)))
  rw [List.map_set]
theorem sn_put {p : Program} {l : Launch} {e : Env} {R : Room} {s : State} {m : MethodId} {args : Array Value} {below : List Frame} {meth : Method} {c : Code} {Q : State → Prop} {D : va_G} {dA : Nat → ClassId} {A : Nat → Prop} {nL : Nat} {cl : List vw_C} {n0 : Nat} {V0 : sa_V} {Ts : List Cond} {cc : ByteArray} {own : String} (C0 : sa_C p s m args c D dA A nL cl Ts cc own) {pc : Nat} {ci f N idx : Nat} {C : String} {T : u_T} {ty : Nat → FieldType} {t : FieldType} (hc : sa_cls cl Ts ci C T N ty) (hd : decode cc pc = .ok (.putfield idx, 3)) (hf : f < N) (hl : Cond.fieldLink own idx (T f).1 (T f).2.1 (T f).2.2.1 ∈ Ts) (hfin : (T f).2.2.2 = false) (hty : ty f = t) : sa_snd p l e R s m args below meth c Q D dA A nL cl n0 V0 pc (so_put ci f t) := by
  obtain ⟨hx, hb, hts, hown, hml, hK, hA⟩ := C0
  rintro ⟨pc, lo, st, cs, G, kc, ks⟩ sts rfl h k V H locs ls hG
  unfold so_put at h
  dsimp only at h
  split at h
  · rename_i v a rest
    split at h
    · rename_i j cj fs hj
      split at h
      · rename_i hh
        obtain ⟨h1, h2, h3⟩ := hh
        subst h1
        cases h
        have hfit := sa_fit_ok hG.1.1 h3
        refine va_put (D := D) (v := sa_val V v) (ty := t) hx hb hts hc.2.1 ty hc.2.2.1 hc.2.2.2 hown hK hG.2.2.1 hG.2.2.2.1 hG.2.2.2.2 j (sa_find_0 hj) hc.1 f hf (hts _ hl) (fun _ h9 => h9) hfin (by rw [← hty]; exact hc.2.2.1 f hf) hfit.1 hfit.2 (by rw [List.length_map]; exact h2) hd (fun H1 locs1 hP hD hS => ?_)
        rw [sa_set_map] at hP hD
        exact k _ List.mem_cons_self V H1 locs1 ls ⟨hG.1, hG.2.1, hP, hD, hS⟩
      · cases h
    · cases h
  · cases h
theorem sn_putF {p : Program} {l : Launch} {e : Env} {R : Room} {s : State} {m : MethodId} {args : Array Value} {below : List Frame} {meth : Method} {c : Code} {Q : State → Prop} {D : va_G} {dA : Nat → ClassId} {A : Nat → Prop} {nL : Nat} {cl : List vw_C} {n0 : Nat} {V0 : sa_V} {Ts : List Cond} {cc : ByteArray} {own : String} (C0 : sa_C p s m args c D dA A nL cl Ts cc own) {pc : Nat} {ci f N idx : Nat} {C : String} {T : u_T} {ty : Nat → FieldType} {t : FieldType} (hc : sa_cls cl Ts ci C T N ty) (hd : decode cc pc = .ok (.putfield idx, 3)) (hf : f < N) (hl : Cond.fieldLink own idx (T f).1 (T f).2.1 (T f).2.2.1 ∈ Ts) (hfin : (T f).2.2.2 = true) (hin2 : meth.name = "<init>") (hdecl : (T f).1 = own) (hty : ty f = t) : sa_snd p l e R s m args below meth c Q D dA A nL cl n0 V0 pc (so_put ci f t) := by
  obtain ⟨hx, hb, hts, hown, hml, hK, hA⟩ := C0
  rintro ⟨pc, lo, st, cs, G, kc, ks⟩ sts rfl h k V H locs ls hG
  unfold so_put at h
  dsimp only at h
  split at h
  · rename_i v a rest
    split at h
    · rename_i j cj fs hj
      split at h
      · rename_i hh
        obtain ⟨h1, h2, h3⟩ := hh
        subst h1
        cases h
        have hfit := sa_fit_ok hG.1.1 h3
        refine va_putF (D := D) (v := sa_val V v) (ty := t) hx hb hts hc.2.1 ty hc.2.2.1 hc.2.2.2 hown hK hG.2.2.1 hG.2.2.2.1 hG.2.2.2.2 j (sa_find_0 hj) hc.1 f hf (hts _ hl) (fun _ h9 => h9) hfin hin2 hdecl (by rw [← hty]; exact hc.2.2.1 f hf) hfit.1 hfit.2 (by rw [List.length_map]; exact h2) hd (fun H1 locs1 hP hD hS => ?_)
        rw [sa_set_map] at hP hD
        exact k _ List.mem_cons_self V H1 locs1 ls ⟨hG.1, hG.2.1, hP, hD, hS⟩
      · cases h
    · cases h
  · cases h
theorem sa_ix {V : sa_V} {G : sa_B} (hI : sa_I V G) {x : Nat × Int} {n : Nat} (h : x.1 = 0 ∧ 0 ≤ x.2 ∧ x.2 ≤ 2147483647) (hn : x.2.toNat < n) : (sa_i V x).toNatClampNeg = x.2.toNat ∧ vp_in (sa_i V x) n := by
  have e1 : (sa_i V x).toInt = x.2 := by rw [sa_k0 hI h.1]; exact sa_ofInt_toInt (by omega) h.2.2
  have e2 : (sa_i V x).toNatClampNeg = x.2.toNat := by rw [← e1]; rfl
  refine ⟨e2, fun q => ?_⟩
  rcases q with q | q
  · rw [Int32.lt_iff_toInt_lt, e1] at q
    have : x.2 < 0 := q
    omega
  · rw [e2] at q
    omega
def sa_ok_ix (x : Nat × Int) : Bool := decide (x.1 = 0 ∧ 0 ≤ x.2 ∧ x.2 ≤ 2147483647)
/-- a place in a row, where it is known -/
def sa_ixn (G : sa_B) (x : Nat × Int) : Option Nat := match sa_iv G x with
  | some b => if b.1 = b.2 ∧ 0 ≤ b.1 then some b.1.toNat else none
  | none => none
theorem sa_ixk {V : sa_V} {G : sa_B} (hI : sa_I V G) {x : Nat × Int} {j : Nat} (h : sa_ixn G x = some j) : (sa_i V x).toNatClampNeg = j ∧ ∀ n, j < n → vp_in (sa_i V x) n := by
  unfold sa_ixn at h
  split at h
  · rename_i b hb
    split at h
    · rename_i h1
      cases h
      obtain ⟨e1, l1, u1⟩ := sa_iv_ok hI hb
      have e0 : (sa_i V x).toInt = b.1 := by omega
      have e2 : (sa_i V x).toNatClampNeg = b.1.toNat := by rw [← e0]; rfl
      refine ⟨e2, fun n hn q => ?_⟩
      rcases q with q | q
      · rw [Int32.lt_iff_toInt_lt, e0] at q
        have : b.1 < 0 := q
        omega
      · rw [e2] at q
        omega
    · cases h
  · cases h
def so_iald (t : Nat) : sa_op := fun S => match S.2.2.1 with
  | .inl x :: .inr (.inl (some a)) :: rest => match sa_find a S.2.2.2.1 0 with
    | some (_, .inr (tt, .inl l)) => if tt = t then match sa_ixn S.2.2.2.2.1 x with
      | some j => match l[j]? with
        | some q => some [(S.1 + 1, S.2.1, .inl q :: rest, S.2.2.2)]
        | none => none
      | none => none
      else none
    | _ => none
  | _ => none
theorem sn_iald {p : Program} {l : Launch} {e : Env} {R : Room} {s : State} {m : MethodId} {args : Array Value} {below : List Frame} {meth : Method} {c : Code} {Q : State → Prop} {D : va_G} {dA : Nat → ClassId} {A : Nat → Prop} {nL : Nat} {cl : List vw_C} {n0 : Nat} {V0 : sa_V} {Ts : List Cond} {cc : ByteArray} {own : String} (C0 : sa_C p s m args c D dA A nL cl Ts cc own) {pc : Nat}  (hd : decode cc pc = .ok (.iaload, 1)) : sa_snd p l e R s m args below meth c Q D dA A nL cl n0 V0 pc (so_iald 0) := by
  obtain ⟨hx, hb, hts, hown, hml, hK, hA⟩ := C0
  rintro ⟨pc, lo, st, cs, G, kc, ks⟩ sts rfl h k V H locs ls hG
  unfold so_iald at h
  dsimp only at h
  split at h
  · rename_i x a rest
    split at h
    · rename_i j tt l9 hj
      split at h
      · rename_i h1
        subst h1
        split at h
        · rename_i jx hjx
          split at h
          · rename_i q hq
            cases h
            have hlt := (List.getElem?_eq_some_iff.mp hq).1
            obtain ⟨i1, i2⟩ := sa_ixk hG.1.1 hjx
            refine va_iald (D := D) hx hb hK hG.2.2.1 j 0 (sa_find_0 hj) rfl (i2 _ hlt) hd ?_
            rw [i1, show sa_f V l9 jx = sa_i V q by unfold sa_f; rw [hq]]
            exact k _ List.mem_cons_self V H locs ls hG
          · cases h
        · cases h
      · cases h
    · cases h
  · cases h
theorem sn_bald {p : Program} {l : Launch} {e : Env} {R : Room} {s : State} {m : MethodId} {args : Array Value} {below : List Frame} {meth : Method} {c : Code} {Q : State → Prop} {D : va_G} {dA : Nat → ClassId} {A : Nat → Prop} {nL : Nat} {cl : List vw_C} {n0 : Nat} {V0 : sa_V} {Ts : List Cond} {cc : ByteArray} {own : String} (C0 : sa_C p s m args c D dA A nL cl Ts cc own) {pc : Nat}  (hd : decode cc pc = .ok (.baload, 1)) : sa_snd p l e R s m args below meth c Q D dA A nL cl n0 V0 pc (so_iald 1) := by
  obtain ⟨hx, hb, hts, hown, hml, hK, hA⟩ := C0
  rintro ⟨pc, lo, st, cs, G, kc, ks⟩ sts rfl h k V H locs ls hG
  unfold so_iald at h
  dsimp only at h
  split at h
  · rename_i x a rest
    split at h
    · rename_i j tt l9 hj
      split at h
      · rename_i h1
        subst h1
        split at h
        · rename_i jx hjx
          split at h
          · rename_i q hq
            cases h
            have hlt := (List.getElem?_eq_some_iff.mp hq).1
            obtain ⟨i1, i2⟩ := sa_ixk hG.1.1 hjx
            refine va_bald (D := D) hx hb hK hG.2.2.1 j 1 (sa_find_0 hj) rfl (i2 _ hlt) hd ?_
            rw [i1, show sa_f V l9 jx = sa_i V q by unfold sa_f; rw [hq]]
            exact k _ List.mem_cons_self V H locs ls hG
          · cases h
        · cases h
      · cases h
    · cases h
  · cases h
theorem sn_zald {p : Program} {l : Launch} {e : Env} {R : Room} {s : State} {m : MethodId} {args : Array Value} {below : List Frame} {meth : Method} {c : Code} {Q : State → Prop} {D : va_G} {dA : Nat → ClassId} {A : Nat → Prop} {nL : Nat} {cl : List vw_C} {n0 : Nat} {V0 : sa_V} {Ts : List Cond} {cc : ByteArray} {own : String} (C0 : sa_C p s m args c D dA A nL cl Ts cc own) {pc : Nat}  (hd : decode cc pc = .ok (.baload, 1)) : sa_snd p l e R s m args below meth c Q D dA A nL cl n0 V0 pc (so_iald 3) := by
  obtain ⟨hx, hb, hts, hown, hml, hK, hA⟩ := C0
  rintro ⟨pc, lo, st, cs, G, kc, ks⟩ sts rfl h k V H locs ls hG
  unfold so_iald at h
  dsimp only at h
  split at h
  · rename_i x a rest
    split at h
    · rename_i j tt l9 hj
      split at h
      · rename_i h1
        subst h1
        split at h
        · rename_i jx hjx
          split at h
          · rename_i q hq
            cases h
            have hlt := (List.getElem?_eq_some_iff.mp hq).1
            obtain ⟨i1, i2⟩ := sa_ixk hG.1.1 hjx
            refine va_zald (D := D) hx hb hK hG.2.2.1 j 3 (sa_find_0 hj) rfl (i2 _ hlt) hd ?_
            rw [i1, show sa_f V l9 jx = sa_i V q by unfold sa_f; rw [hq]]
            exact k _ List.mem_cons_self V H locs ls hG
          · cases h
        · cases h
      · cases h
    · cases h
  · cases h
theorem sa_f_set {V : sa_V} {l : List (Nat × Int)} {j : Nat} {q : Nat × Int} (h : j < l.length) : upd (sa_f V l) j (sa_i V q) = sa_f V (l.set j q) := by
  funext i
  by_cases hi : i = j
  · subst hi
    rw [pk_us]
    unfold sa_f
    rw [List.getElem?_set_self h]
  · rw [pk_un hi]
    unfold sa_f
    rw [List.getElem?_set_ne (Ne.symm hi)]
theorem sa_set_arr {V : sa_V} {dA : Nat → ClassId} {cs : List sa_c} {i a t j : Nat} {l : List (Nat × Int)} {q : Nat × Int} (h : j < l.length) : (cs.map (sa_e V dA)).set i (sa_ad V a, .inl (dA t, l.length, .inl (upd (sa_f V l) j (sa_i V q)))) = (cs.set i (a, .inr (t, .inl (l.set j q)))).map (sa_e V dA) := by
  rw [List.map_set, sa_f_set h]
  congr 1
  show _ = (sa_ad V a, Sum.inl (dA t, (l.set j q).length, Sum.inl (sa_f V (l.set j q))))
  rw [List.length_set]
def so_iast (t : Nat) (bl bh : Int) : sa_op := fun S => match S.2.2.1 with
  | .inl v :: .inl x :: .inr (.inl (some a)) :: rest => match sa_find a S.2.2.2.1 0, sa_iv S.2.2.2.2.1 v, sa_ixn S.2.2.2.2.1 x with
    | some (i, .inr (tt, .inl l)), some b, some j => if tt = t ∧ j < l.length ∧ bl ≤ b.1 ∧ b.2 ≤ bh then some [(S.1 + 1, S.2.1, rest, S.2.2.2.1.set i (a, .inr (tt, .inl (l.set j v))), S.2.2.2.2)] else none
    | _, _, _ => none
  | _ => none
theorem sa_nar_b {x : Int32} (h0 : -128 ≤ x.toInt) (h1 : x.toInt ≤ 127) : vp_nar .byte x = x := by
  rw [vp_nar_byte]
  apply Int32.toInt_inj.mp
  rw [Int8.toInt_toInt32]
  show (x.toInt8).toInt = x.toInt
  rw [Int32.toInt_toInt8]
  exact Int.bmod_eq_of_le (by omega) (by omega)
theorem sa_nar_z {x : Int32} (h0 : 0 ≤ x.toInt) (h1 : x.toInt ≤ 1) : vp_nar .boolean x = x := by
  rcases sa_01 h0 h1 with h | h <;> rw [h] <;> rfl
theorem sn_iast {p : Program} {l : Launch} {e : Env} {R : Room} {s : State} {m : MethodId} {args : Array Value} {below : List Frame} {meth : Method} {c : Code} {Q : State → Prop} {D : va_G} {dA : Nat → ClassId} {A : Nat → Prop} {nL : Nat} {cl : List vw_C} {n0 : Nat} {V0 : sa_V} {Ts : List Cond} {cc : ByteArray} {own : String} (C0 : sa_C p s m args c D dA A nL cl Ts cc own) {pc : Nat}  (hd : decode cc pc = .ok (.iastore, 1)) : sa_snd p l e R s m args below meth c Q D dA A nL cl n0 V0 pc (so_iast 0 (-2147483648) 2147483647) := by
  obtain ⟨hx, hb, hts, hown, hml, hK, hA⟩ := C0
  rintro ⟨pc, lo, st, cs, G, kc, ks⟩ sts rfl h k V H locs ls hG
  unfold so_iast at h
  dsimp only at h
  split at h
  · rename_i v x a rest
    split at h
    · rename_i i tt l9 b jx hj hbv hjx
      split at h
      · rename_i hh
        obtain ⟨h1, h3, h4, h5⟩ := hh
        subst h1
        cases h
        obtain ⟨e1, l1, u1⟩ := sa_iv_ok hG.1.1 hbv
        obtain ⟨i1, i2⟩ := sa_ixk hG.1.1 hjx
        have i2 := i2 _ h3
        refine va_iast (D := D) (x := sa_i V v) hx hb hK hG.2.2.1 hG.2.2.2.1 hG.2.2.2.2 i 0 (sa_find_0 hj) rfl i2 hd (fun H1 locs1 hP hD hS => ?_)
        rw [i1, sa_set_arr h3] at hP hD
        exact k _ List.mem_cons_self V H1 locs1 ls ⟨hG.1, hG.2.1, hP, hD, hS⟩
      · cases h
    · cases h
  · cases h
theorem sn_bast {p : Program} {l : Launch} {e : Env} {R : Room} {s : State} {m : MethodId} {args : Array Value} {below : List Frame} {meth : Method} {c : Code} {Q : State → Prop} {D : va_G} {dA : Nat → ClassId} {A : Nat → Prop} {nL : Nat} {cl : List vw_C} {n0 : Nat} {V0 : sa_V} {Ts : List Cond} {cc : ByteArray} {own : String} (C0 : sa_C p s m args c D dA A nL cl Ts cc own) {pc : Nat}  (hd : decode cc pc = .ok (.bastore, 1)) : sa_snd p l e R s m args below meth c Q D dA A nL cl n0 V0 pc (so_iast 1 (-128) 127) := by
  obtain ⟨hx, hb, hts, hown, hml, hK, hA⟩ := C0
  rintro ⟨pc, lo, st, cs, G, kc, ks⟩ sts rfl h k V H locs ls hG
  unfold so_iast at h
  dsimp only at h
  split at h
  · rename_i v x a rest
    split at h
    · rename_i i tt l9 b jx hj hbv hjx
      split at h
      · rename_i hh
        obtain ⟨h1, h3, h4, h5⟩ := hh
        subst h1
        cases h
        obtain ⟨e1, l1, u1⟩ := sa_iv_ok hG.1.1 hbv
        obtain ⟨i1, i2⟩ := sa_ixk hG.1.1 hjx
        have i2 := i2 _ h3
        refine va_bast (D := D) (x := sa_i V v) hx hb hK hG.2.2.1 hG.2.2.2.1 hG.2.2.2.2 i 1 (sa_find_0 hj) rfl i2 hd (fun H1 locs1 hP hD hS => ?_)
        rw [i1, sa_nar_b (by omega) (by omega), sa_set_arr h3] at hP hD
        exact k _ List.mem_cons_self V H1 locs1 ls ⟨hG.1, hG.2.1, hP, hD, hS⟩
      · cases h
    · cases h
  · cases h
theorem sn_zast {p : Program} {l : Launch} {e : Env} {R : Room} {s : State} {m : MethodId} {args : Array Value} {below : List Frame} {meth : Method} {c : Code} {Q : State → Prop} {D : va_G} {dA : Nat → ClassId} {A : Nat → Prop} {nL : Nat} {cl : List vw_C} {n0 : Nat} {V0 : sa_V} {Ts : List Cond} {cc : ByteArray} {own : String} (C0 : sa_C p s m args c D dA A nL cl Ts cc own) {pc : Nat}  (hd : decode cc pc = .ok (.bastore, 1)) : sa_snd p l e R s m args below meth c Q D dA A nL cl n0 V0 pc (so_iast 3 0 1) := by
  obtain ⟨hx, hb, hts, hown, hml, hK, hA⟩ := C0
  rintro ⟨pc, lo, st, cs, G, kc, ks⟩ sts rfl h k V H locs ls hG
  unfold so_iast at h
  dsimp only at h
  split at h
  · rename_i v x a rest
    split at h
    · rename_i i tt l9 b jx hj hbv hjx
      split at h
      · rename_i hh
        obtain ⟨h1, h3, h4, h5⟩ := hh
        subst h1
        cases h
        obtain ⟨e1, l1, u1⟩ := sa_iv_ok hG.1.1 hbv
        obtain ⟨i1, i2⟩ := sa_ixk hG.1.1 hjx
        have i2 := i2 _ h3
        refine va_zast (D := D) (x := sa_i V v) hx hb hK hG.2.2.1 hG.2.2.2.1 hG.2.2.2.2 i 3 (sa_find_0 hj) rfl i2 hd (fun H1 locs1 hP hD hS => ?_)
        rw [i1, sa_nar_z (by omega) (by omega), sa_set_arr h3] at hP hD
        exact k _ List.mem_cons_self V H1 locs1 ls ⟨hG.1, hG.2.1, hP, hD, hS⟩
      · cases h
    · cases h
  · cases h
def sa_len : sa_a → Nat
  | .inl l => l.length
  | .inr (.inl q) => q.1
  | .inr (.inr l) => l.length
theorem sa_len_ok (V : sa_V) (a : sa_a) : (sa_arr V a).1 = sa_len a := by
  rcases a with l | q | l <;> rfl
def so_alen : sa_op := fun S => match S.2.2.1 with
  | .inr (.inl (some a)) :: rest => match sa_find a S.2.2.2.1 0 with
    | some (_, .inr (tt, x)) => if tt < 6 then some [(S.1 + 1, S.2.1, .inl (0, (sa_len x : Int)) :: rest, S.2.2.2)] else none
    | _ => none
  | _ => none
theorem sa_tys_at {dA : Nat → ClassId} {t : Nat} (h : t < 6) : ∃ ty, (sa_tys dA)[t]? = some (dA t, ty) := by
  rcases (show t = 0 ∨ t = 1 ∨ t = 2 ∨ t = 3 ∨ t = 4 ∨ t = 5 by omega) with rfl | rfl | rfl | rfl | rfl | rfl <;> exact ⟨_, rfl⟩
theorem sn_alen {p : Program} {l : Launch} {e : Env} {R : Room} {s : State} {m : MethodId} {args : Array Value} {below : List Frame} {meth : Method} {c : Code} {Q : State → Prop} {D : va_G} {dA : Nat → ClassId} {A : Nat → Prop} {nL : Nat} {cl : List vw_C} {n0 : Nat} {V0 : sa_V} {Ts : List Cond} {cc : ByteArray} {own : String} (C0 : sa_C p s m args c D dA A nL cl Ts cc own) {pc : Nat}  (hd : decode cc pc = .ok (.arraylength, 1)) : sa_snd p l e R s m args below meth c Q D dA A nL cl n0 V0 pc so_alen := by
  obtain ⟨hx, hb, hts, hown, hml, hK, hA⟩ := C0
  rintro ⟨pc, lo, st, cs, G, kc, ks⟩ sts rfl h k V H locs ls hG
  unfold so_alen at h
  dsimp only at h
  split at h
  · rename_i a rest
    split at h
    · rename_i j tt x hj
      split at h
      · rename_i h1
        cases h
        obtain ⟨ty, hty⟩ := sa_tys_at (dA := dA) h1
        refine va_alen (D := D) (v := Int32.ofInt (sa_len x : Int)) hx hb hK hG.2.2.1 j tt (sa_find_0 hj) hty ?_ hd (sa_k_int hG (k _ List.mem_cons_self))
        rw [sa_len_ok]
        exact (Int32.ofInt_eq_ofNat).symm
      · cases h
    · cases h
  · cases h
/-- a place that may be one of some: one after the other -/
def sa_spl (S : sa_S) (x : Nat × Int) : Nat → Int → List sa_S
  | 0, _ => []
  | n + 1, a => (sr_eq S.2.2.2.2.1 x (0, a)).map (fun G' => (S.1, S.2.1, S.2.2.1, S.2.2.2.1, G', S.2.2.2.2.2)) ++ sa_spl S x n (a + 1)
theorem sa_spl_in {S : sa_S} {x : Nat × Int} : ∀ (n : Nat) (a : Int) (j : Nat), j < n → ∀ G' ∈ sr_eq S.2.2.2.2.1 x (0, a + j), (S.1, S.2.1, S.2.2.1, S.2.2.2.1, G', S.2.2.2.2.2) ∈ sa_spl S x n a
  | 0, _, _, h, _, _ => absurd h (Nat.not_lt_zero _)
  | n + 1, a, 0, _, G', hG => by
    rw [show a + ((0 : Nat) : Int) = a by omega] at hG
    exact List.mem_append_left _ (List.mem_map.mpr ⟨G', hG, rfl⟩)
  | n + 1, a, j + 1, h, G', hG => by
    rw [show a + ((j + 1 : Nat) : Int) = (a + 1) + (j : Int) by omega] at hG
    exact List.mem_append_right _ (sa_spl_in n (a + 1) j (by omega) G' hG)
def so_spl (d : Nat) (op : sa_op) : sa_op := fun S => match S.2.2.1[d]? with
  | some (.inl x) => match sa_iv S.2.2.2.2.1 x with
    | some b => if b.1 = b.2 then op S else if b.2 - b.1 ≤ 64 then some (sa_spl S x (b.2 - b.1 + 1).toNat b.1) else none
    | none => op S
  | _ => op S
theorem sn_spl {p : Program} {l : Launch} {e : Env} {R : Room} {s : State} {m : MethodId} {args : Array Value} {below : List Frame} {meth : Method} {c : Code} {Q : State → Prop} {D : va_G} {dA : Nat → ClassId} {A : Nat → Prop} {nL : Nat} {cl : List vw_C} {n0 : Nat} {V0 : sa_V} {pc d : Nat} {op : sa_op} (ho : sa_snd p l e R s m args below meth c Q D dA A nL cl n0 V0 pc op) : sa_snd p l e R s m args below meth c Q D dA A nL cl n0 V0 pc (so_spl d op) := by
  intro S sts h0 h k
  unfold so_spl at h
  split at h
  · rename_i x hx
    split at h
    · rename_i b hb
      split at h
      · exact ho S sts h0 h k
      · split at h
        · cases h
          intro V H locs ls hG
          obtain ⟨e1, l1, u1⟩ := sa_iv_ok hG.1.1 hb
          obtain ⟨G', g1, g2, g3⟩ := sr_eq_ok V S.2.2.2.2.1 x (0, b.1 + (((sa_i V x).toInt - b.1).toNat : Int)) hG.1.1 (by
            show sa_i V x = sa_i V _
            rw [sa_i_0 hG.1.1, show b.1 + (((sa_i V x).toInt - b.1).toNat : Int) = (sa_i V x).toInt by omega, Int32.ofInt_toInt])
          exact k _ (sa_spl_in _ b.1 _ (by omega) G' g1) V H locs ls ⟨⟨g2, by show n0 ≤ G'.length; rw [g3]; exact hG.1.2.1, hG.1.2.2⟩, hG.2⟩
        · cases h
    · exact ho S sts h0 h k
  · exact ho S sts h0 h k
end SA3
end
section
section SA4
theorem sa_G_new {D : va_G} {dA : Nat → ClassId} {A : Nat → Prop} {nL : Nat} {cl : List vw_C} {n0 : Nat} {V0 : sa_V} {H0 : Heap} {V : sa_V} {lo : sa_L} {st : List sa_v} {cs : List sa_c} {G : sa_B} {H H1 : Heap} {locs locs1 : List Loc} {ls : Array Slot} {q : Nat} {x : (Nat × List sa_v) ⊕ (Nat × sa_a)} {el : va_E}
    (h : sa_G D dA A nL cl n0 V0 H0 V lo cs G H locs ls) (hw : sa_wf G.length lo st cs = true) (he : sa_el (sa_upd V G.length (0, 0, fun _ => 0, q)) dA x = el) (hP : va_P D cl (cs.map (sa_e V dA) ++ [(q, el)]) H1) (hD : va_D A (cs.map (sa_e V dA) ++ [(q, el)])) (hS : va_S A H0 H1 locs1) :
    sa_G D dA A nL cl n0 V0 H0 (sa_upd V G.length (0, 0, fun _ => 0, q)) lo (cs ++ [(G.length, x)]) (G ++ [(0, 0)]) H1 locs1 ls ∧ st.map (sa_val (sa_upd V G.length (0, 0, fun _ => 0, q))) = st.map (sa_val V) := by
  have hw2 := hw
  simp only [sa_wf, Bool.and_eq_true, decide_eq_true_eq] at hw
  obtain ⟨⟨⟨h0, h1⟩, h2⟩, h3⟩ := hw
  obtain ⟨g1, g2, g3, g4, g5⟩ := h
  have he2 : (cs ++ [(G.length, x)]).map (sa_e (sa_upd V G.length (0, 0, fun _ => 0, q)) dA) = cs.map (sa_e V dA) ++ [(q, el)] := by
    rw [List.map_append, sa_cs_upd h3]
    congr 1
    show [(sa_ad _ _, sa_el _ _ _)] = _
    rw [he]
    unfold sa_ad
    rw [sa_upd_eq]
  exact ⟨⟨sa_J_upd g1 h0 ⟨Int.le_refl _, Int.le_refl _⟩, by rw [sa_lv_upd h1]; exact g2, by rw [he2]; exact hP, by rw [he2]; exact hD, hS⟩, sa_st_upd h2⟩
theorem sa_k_ref {p : Program} {l : Launch} {e : Env} {R : Room} {s : State} {m : MethodId} {args : Array Value} {below : List Frame} {meth : Method} {c : Code} {Q : State → Prop} {D : va_G} {dA : Nat → ClassId} {A : Nat → Prop} {nL : Nat} {cl : List vw_C} {n0 : Nat} {V0 : sa_V} {V : sa_V} {H1 : Heap} {locs1 : List Loc} {ls : Array Slot} {pc : Nat} {lo : sa_L} {rest : List sa_v} {cs1 : List sa_c} {G : sa_B} {kc ks q : Nat} (hG : sa_G D dA A nL cl n0 V0 s.heap (sa_upd V G.length (0, 0, fun _ => 0, q)) lo cs1 (G ++ [(0, 0)]) H1 locs1 ls ∧ rest.map (sa_val (sa_upd V G.length (0, 0, fun _ => 0, q))) = rest.map (sa_val V)) (k : sa_W p l e R s m args below meth c Q D dA A nL cl n0 V0 (pc, lo, .inr (.inl (some G.length)) :: rest, cs1, G ++ [(0, 0)], kc, ks)) : W p l e R s m args below meth c H1 locs1 kc ks Q (F0 m pc ls (.ref q :: rest.map (sa_val V))) := by
  have h := k _ H1 locs1 ls hG.1
  have e1 : (List.map (sa_val (sa_upd V G.length (0, 0, fun _ => 0, q))) (.inr (.inl (some G.length)) :: rest)) = Value.ref q :: rest.map (sa_val V) := by
    rw [List.map_cons, hG.2]
    congr 1
    show Value.ref (sa_ad _ _) = _
    unfold sa_ad
    rw [sa_upd_eq]
  dsimp only at h
  rw [e1] at h
  exact h
theorem sa_cA {D : va_G} {cl : List vw_C} {dA : Nat → ClassId} {s : State} {cA : ClassId} {t : Nat} {ty : FieldType} (hK : va_K D cl (sa_tys dA) s) (hK' : va_K D cl (sa_tys dA ++ [(cA, ty)]) s) (ht : (sa_tys dA)[t]? = some (dA t, ty)) : cA = dA t := by
  have h1 := (hK.2 t _ ht).2
  have h2 := (hK'.2 6 (cA, ty) rfl).2
  cases ty with
  | object C =>
    obtain ⟨_, _, _, _, _, e1⟩ := h1
    obtain ⟨_, _, _, _, _, e2⟩ := h2
    exact Option.some.inj (e2.symm.trans e1)
  | _ => exact Option.some.inj (h2.symm.trans h1)
theorem sa_f_rep {V : sa_V} (h : (V 0).1 = 0) (n : Nat) : sa_f V (List.replicate n (0, 0)) = fun _ => 0 := by
  funext j
  unfold sa_f
  split
  · rename_i q hq
    have hm := List.mem_of_getElem? hq
    rw [(List.mem_replicate.mp hm).2]
    show Int32.ofInt ((V 0).1 + 0) = 0
    rw [h]
    rfl
  · rfl
def sa_n0 (t N n : Nat) : sa_a := if t = 2 then .inr (.inl (N, n)) else .inl (List.replicate N (0, 0))
def so_newa (t maxC maxS : Nat) : sa_op := fun S => match S.2.2.1 with
  | .inl x :: rest => if sa_ok_ix x = true ∧ x.2 ≤ 1000000 ∧ S.2.2.2.2.2.1 + 1 ≤ maxC ∧ S.2.2.2.2.2.2 + x.2.toNat ≤ maxS ∧ sa_wf S.2.2.2.2.1.length S.2.1 rest S.2.2.2.1 = true then some [(S.1 + 2, S.2.1, .inr (.inl (some S.2.2.2.2.1.length)) :: rest, S.2.2.2.1 ++ [(S.2.2.2.2.1.length, .inr (t, sa_n0 t x.2.toNat S.2.2.2.2.1.length))], S.2.2.2.2.1 ++ [(0, 0)], S.2.2.2.2.2.1 + 1, S.2.2.2.2.2.2 + x.2.toNat)] else none
  | _ => none
theorem sa_nn {V : sa_V} {G : sa_B} (hI : sa_I V G) {x : Nat × Int} (h : x.1 = 0 ∧ 0 ≤ x.2 ∧ x.2 ≤ 2147483647) : ¬ sa_i V x < 0 ∧ (sa_i V x).toNatClampNeg = x.2.toNat := by
  obtain ⟨h1, h2⟩ := sa_ix hI h (Nat.lt_succ_self _)
  exact ⟨fun q => h2 (Or.inl q), h1⟩
theorem sn_newaI {p : Program} {l : Launch} {e : Env} {R : Room} {s : State} {m : MethodId} {args : Array Value} {below : List Frame} {meth : Method} {c : Code} {Q : State → Prop} {D : va_G} {dA : Nat → ClassId} {A : Nat → Prop} {nL : Nat} {cl : List vw_C} {n0 : Nat} {V0 : sa_V} {Ts : List Cond} {cc : ByteArray} {own : String} (C0 : sa_C p s m args c D dA A nL cl Ts cc own) {pc : Nat} {maxC maxS : Nat} (hd : decode cc pc = .ok (.newarray .int, 2)) (hw0 : Cond.arrayClass .int ∈ Ts) (hC : maxC ≤ R.cells) (hS0 : maxS ≤ R.slots) : sa_snd p l e R s m args below meth c Q D dA A nL cl n0 V0 pc (so_newa 0 maxC maxS) := by
  obtain ⟨hx, hb, hts, hown, hml, hK, hA⟩ := C0
  rintro ⟨pc, lo, st, cs, G, kc, ks⟩ sts rfl h k V H locs ls hG
  unfold so_newa at h
  dsimp only at h
  split at h
  · rename_i x rest
    split at h
    · rename_i hh
      obtain ⟨h1, h2, h3, h4, h5⟩ := hh
      have h1 := of_decide_eq_true h1
      cases h
      obtain ⟨n1, n2⟩ := sa_nn hG.1.1 h1
      have hbytes : x.2.toNat * componentBytes .int ≤ 536870912 := Nat.le_trans (Nat.mul_le_mul (show x.2.toNat ≤ 1000000 by omega) (show componentBytes .int ≤ 8 by decide)) (by decide)
      refine va_newa (D := D) (atype := .int) (ty := .int) (a0 := (x.2.toNat, .inl (fun _ => 0))) hx hb (hts _ hw0) rfl hK hG.2.2.1 hG.2.2.2.1 hG.2.2.2.2 hA (fun _ => rfl) n1 n2 hbytes (Nat.le_trans h3 hC) (Nat.le_trans h4 hS0) hd (fun q cA H1 hK' hP hD hS => ?_)
      have hc := sa_cA (t := 0) hK hK' rfl
      subst hc
      refine sa_k_ref (sa_G_new (q := q) (x := .inr (0, sa_n0 0 x.2.toNat G.length)) hG h5 ?_ hP hD hS) (k _ List.mem_cons_self)
      show Sum.inl (dA 0, (List.replicate x.2.toNat ((0 : Nat), (0 : Int))).length, Sum.inl (sa_f _ _)) = _
      rw [sa_f_rep, List.length_replicate]
      rw [sa_upd_ne (by simp only [sa_wf, Bool.and_eq_true, decide_eq_true_eq] at h5; exact h5.1.1.1)]
      exact hG.1.1.2
    · cases h
  · cases h
theorem sn_newaB {p : Program} {l : Launch} {e : Env} {R : Room} {s : State} {m : MethodId} {args : Array Value} {below : List Frame} {meth : Method} {c : Code} {Q : State → Prop} {D : va_G} {dA : Nat → ClassId} {A : Nat → Prop} {nL : Nat} {cl : List vw_C} {n0 : Nat} {V0 : sa_V} {Ts : List Cond} {cc : ByteArray} {own : String} (C0 : sa_C p s m args c D dA A nL cl Ts cc own) {pc : Nat} {maxC maxS : Nat} (hd : decode cc pc = .ok (.newarray .byte, 2)) (hw0 : Cond.arrayClass .byte ∈ Ts) (hC : maxC ≤ R.cells) (hS0 : maxS ≤ R.slots) : sa_snd p l e R s m args below meth c Q D dA A nL cl n0 V0 pc (so_newa 1 maxC maxS) := by
  obtain ⟨hx, hb, hts, hown, hml, hK, hA⟩ := C0
  rintro ⟨pc, lo, st, cs, G, kc, ks⟩ sts rfl h k V H locs ls hG
  unfold so_newa at h
  dsimp only at h
  split at h
  · rename_i x rest
    split at h
    · rename_i hh
      obtain ⟨h1, h2, h3, h4, h5⟩ := hh
      have h1 := of_decide_eq_true h1
      cases h
      obtain ⟨n1, n2⟩ := sa_nn hG.1.1 h1
      have hbytes : x.2.toNat * componentBytes .byte ≤ 536870912 := Nat.le_trans (Nat.mul_le_mul (show x.2.toNat ≤ 1000000 by omega) (show componentBytes .byte ≤ 8 by decide)) (by decide)
      refine va_newa (D := D) (atype := .byte) (ty := .byte) (a0 := (x.2.toNat, .inl (fun _ => 0))) hx hb (hts _ hw0) rfl hK hG.2.2.1 hG.2.2.2.1 hG.2.2.2.2 hA (fun _ => rfl) n1 n2 hbytes (Nat.le_trans h3 hC) (Nat.le_trans h4 hS0) hd (fun q cA H1 hK' hP hD hS => ?_)
      have hc := sa_cA (t := 1) hK hK' rfl
      subst hc
      refine sa_k_ref (sa_G_new (q := q) (x := .inr (1, sa_n0 1 x.2.toNat G.length)) hG h5 ?_ hP hD hS) (k _ List.mem_cons_self)
      show Sum.inl (dA 1, (List.replicate x.2.toNat ((0 : Nat), (0 : Int))).length, Sum.inl (sa_f _ _)) = _
      rw [sa_f_rep, List.length_replicate]
      rw [sa_upd_ne (by simp only [sa_wf, Bool.and_eq_true, decide_eq_true_eq] at h5; exact h5.1.1.1)]
      exact hG.1.1.2
    · cases h
  · cases h
theorem sn_newaJ {p : Program} {l : Launch} {e : Env} {R : Room} {s : State} {m : MethodId} {args : Array Value} {below : List Frame} {meth : Method} {c : Code} {Q : State → Prop} {D : va_G} {dA : Nat → ClassId} {A : Nat → Prop} {nL : Nat} {cl : List vw_C} {n0 : Nat} {V0 : sa_V} {Ts : List Cond} {cc : ByteArray} {own : String} (C0 : sa_C p s m args c D dA A nL cl Ts cc own) {pc : Nat} {maxC maxS : Nat} (hd : decode cc pc = .ok (.newarray .long, 2)) (hw0 : Cond.arrayClass .long ∈ Ts) (hC : maxC ≤ R.cells) (hS0 : maxS ≤ R.slots) : sa_snd p l e R s m args below meth c Q D dA A nL cl n0 V0 pc (so_newa 2 maxC maxS) := by
  obtain ⟨hx, hb, hts, hown, hml, hK, hA⟩ := C0
  rintro ⟨pc, lo, st, cs, G, kc, ks⟩ sts rfl h k V H locs ls hG
  unfold so_newa at h
  dsimp only at h
  split at h
  · rename_i x rest
    split at h
    · rename_i hh
      obtain ⟨h1, h2, h3, h4, h5⟩ := hh
      have h1 := of_decide_eq_true h1
      cases h
      obtain ⟨n1, n2⟩ := sa_nn hG.1.1 h1
      have hbytes : x.2.toNat * componentBytes .long ≤ 536870912 := Nat.le_trans (Nat.mul_le_mul (show x.2.toNat ≤ 1000000 by omega) (show componentBytes .long ≤ 8 by decide)) (by decide)
      refine va_newa (D := D) (atype := .long) (ty := .long) (a0 := (x.2.toNat, .inr (.inl (fun _ => 0)))) hx hb (hts _ hw0) rfl hK hG.2.2.1 hG.2.2.2.1 hG.2.2.2.2 hA (fun _ => rfl) n1 n2 hbytes (Nat.le_trans h3 hC) (Nat.le_trans h4 hS0) hd (fun q cA H1 hK' hP hD hS => ?_)
      have hc := sa_cA (t := 2) hK hK' rfl
      subst hc
      refine sa_k_ref (sa_G_new (q := q) (x := .inr (2, sa_n0 2 x.2.toNat G.length)) hG h5 ?_ hP hD hS) (k _ List.mem_cons_self)
      show Sum.inl (dA 2, x.2.toNat, Sum.inr (Sum.inl (sa_upd V G.length _ G.length).2.2.1)) = _
      rw [sa_upd_eq]
      
      
    · cases h
  · cases h
theorem sn_newaZ {p : Program} {l : Launch} {e : Env} {R : Room} {s : State} {m : MethodId} {args : Array Value} {below : List Frame} {meth : Method} {c : Code} {Q : State → Prop} {D : va_G} {dA : Nat → ClassId} {A : Nat → Prop} {nL : Nat} {cl : List vw_C} {n0 : Nat} {V0 : sa_V} {Ts : List Cond} {cc : ByteArray} {own : String} (C0 : sa_C p s m args c D dA A nL cl Ts cc own) {pc : Nat} {maxC maxS : Nat} (hd : decode cc pc = .ok (.newarray .boolean, 2)) (hw0 : Cond.arrayClass .boolean ∈ Ts) (hC : maxC ≤ R.cells) (hS0 : maxS ≤ R.slots) : sa_snd p l e R s m args below meth c Q D dA A nL cl n0 V0 pc (so_newa 3 maxC maxS) := by
  obtain ⟨hx, hb, hts, hown, hml, hK, hA⟩ := C0
  rintro ⟨pc, lo, st, cs, G, kc, ks⟩ sts rfl h k V H locs ls hG
  unfold so_newa at h
  dsimp only at h
  split at h
  · rename_i x rest
    split at h
    · rename_i hh
      obtain ⟨h1, h2, h3, h4, h5⟩ := hh
      have h1 := of_decide_eq_true h1
      cases h
      obtain ⟨n1, n2⟩ := sa_nn hG.1.1 h1
      have hbytes : x.2.toNat * componentBytes .boolean ≤ 536870912 := Nat.le_trans (Nat.mul_le_mul (show x.2.toNat ≤ 1000000 by omega) (show componentBytes .boolean ≤ 8 by decide)) (by decide)
      refine va_newa (D := D) (atype := .boolean) (ty := .boolean) (a0 := (x.2.toNat, .inl (fun _ => 0))) hx hb (hts _ hw0) rfl hK hG.2.2.1 hG.2.2.2.1 hG.2.2.2.2 hA (fun _ => rfl) n1 n2 hbytes (Nat.le_trans h3 hC) (Nat.le_trans h4 hS0) hd (fun q cA H1 hK' hP hD hS => ?_)
      have hc := sa_cA (t := 3) hK hK' rfl
      subst hc
      refine sa_k_ref (sa_G_new (q := q) (x := .inr (3, sa_n0 3 x.2.toNat G.length)) hG h5 ?_ hP hD hS) (k _ List.mem_cons_self)
      show Sum.inl (dA 3, (List.replicate x.2.toNat ((0 : Nat), (0 : Int))).length, Sum.inl (sa_f _ _)) = _
      rw [sa_f_rep, List.length_replicate]
      rw [sa_upd_ne (by simp only [sa_wf, Bool.and_eq_true, decide_eq_true_eq] at h5; exact h5.1.1.1)]
      exact hG.1.1.2
    · cases h
  · cases h
def so_newq (t maxC maxS : Nat) : sa_op := fun S => match S.2.2.1 with
  | .inl x :: rest => if sa_ok_ix x = true ∧ x.2 ≤ 1000000 ∧ S.2.2.2.2.2.1 + 1 ≤ maxC ∧ S.2.2.2.2.2.2 + x.2.toNat ≤ maxS ∧ sa_wf S.2.2.2.2.1.length S.2.1 rest S.2.2.2.1 = true then some [(S.1 + 3, S.2.1, .inr (.inl (some S.2.2.2.2.1.length)) :: rest, S.2.2.2.1 ++ [(S.2.2.2.2.1.length, .inr (t, .inr (.inr (List.replicate x.2.toNat none))))], S.2.2.2.2.1 ++ [(0, 0)], S.2.2.2.2.2.1 + 1, S.2.2.2.2.2.2 + x.2.toNat)] else none
  | _ => none
theorem sa_g_rep {V : sa_V} (n : Nat) : sa_g V (List.replicate n none) = fun _ => none := by
  funext j
  unfold sa_g
  rw [List.getD_eq_getElem?_getD, List.getElem?_replicate]
  split <;> rfl
theorem sn_newq {p : Program} {l : Launch} {e : Env} {R : Room} {s : State} {m : MethodId} {args : Array Value} {below : List Frame} {meth : Method} {c : Code} {Q : State → Prop} {D : va_G} {dA : Nat → ClassId} {A : Nat → Prop} {nL : Nat} {cl : List vw_C} {n0 : Nat} {V0 : sa_V} {Ts : List Cond} {cc : ByteArray} {own : String} (C0 : sa_C p s m args c D dA A nL cl Ts cc own) {pc : Nat} {maxC maxS t idx : Nat} {C : String} (hd : decode cc pc = .ok (.anewarray idx, 3)) (hl : Cond.classLink own idx C ∈ Ts) (hov : va_AO C s) (ht : (sa_tys dA)[t]? = some (dA t, .object C)) (hC : maxC ≤ R.cells) (hS0 : maxS ≤ R.slots) : sa_snd p l e R s m args below meth c Q D dA A nL cl n0 V0 pc (so_newq t maxC maxS) := by
  obtain ⟨hx, hb, hts, hown, hml, hK, hA⟩ := C0
  rintro ⟨pc, lo, st, cs, G, kc, ks⟩ sts rfl h k V H locs ls hG
  unfold so_newq at h
  dsimp only at h
  split at h
  · rename_i x rest
    split at h
    · rename_i hh
      obtain ⟨h1, h2, h3, h4, h5⟩ := hh
      have h1 := of_decide_eq_true h1
      cases h
      obtain ⟨n1, n2⟩ := sa_nn hG.1.1 h1
      refine va_newq (D := D) hx hb hown (hts _ hl) hov hK hG.2.2.1 hG.2.2.2.1 hG.2.2.2.2 hA n1 n2 (by omega) (Nat.le_trans h3 hC) (Nat.le_trans h4 hS0) hd (fun q cA H1 hK' hP hD hS => ?_)
      have hc := sa_cA (t := t) hK hK' ht
      subst hc
      refine sa_k_ref (sa_G_new (q := q) (x := .inr (t, .inr (.inr (List.replicate x.2.toNat none)))) hG h5 ?_ hP hD hS) (k _ List.mem_cons_self)
      show Sum.inl (dA t, (List.replicate x.2.toNat (none : Option Nat)).length, Sum.inr (Sum.inr (Sum.inr (Sum.inr (sa_g _ _))))) = _
      rw [sa_g_rep, List.length_replicate]
    · cases h
  · cases h
def sa_d0 (n : Nat) : Nat → sa_v
  | 0 => .inl (0, 0)
  | 1 => .inr (.inl none)
  | _ => .inr (.inr n)
def sa_d1 : Nat → Value
  | 0 => .int 0
  | 1 => .null
  | _ => .long 0
theorem sa_d_ok {V : sa_V} {n q : Nat} (h : (V 0).1 = 0) (h0 : 0 < n) (j : Nat) : sa_val (sa_upd V n (0, 0, fun _ => 0, q)) (sa_d0 n j) = sa_d1 j := by
  match j with
  | 0 =>
    show Value.int (Int32.ofInt ((sa_upd V n _ 0).1 + 0)) = _
    rw [sa_upd_ne h0, h]
    rfl
  | 1 => rfl
  | j + 2 =>
    show Value.long (sa_upd V n _ n).2.1 = _
    rw [sa_upd_eq]
    rfl
def so_new (ci N : Nat) (ks0 : List Nat) (maxC maxS : Nat) : sa_op := fun S =>
  if S.2.2.2.2.2.1 + 1 ≤ maxC ∧ S.2.2.2.2.2.2 + N ≤ maxS ∧ sa_wf S.2.2.2.2.1.length S.2.1 S.2.2.1 S.2.2.2.1 = true then some [(S.1 + 3, S.2.1, .inr (.inl (some S.2.2.2.2.1.length)) :: S.2.2.1, S.2.2.2.1 ++ [(S.2.2.2.2.1.length, .inl (ci, ks0.map (sa_d0 S.2.2.2.2.1.length)))], S.2.2.2.2.1 ++ [(0, 0)], S.2.2.2.2.2.1 + 1, S.2.2.2.2.2.2 + N)] else none
theorem sn_new {p : Program} {l : Launch} {e : Env} {R : Room} {s : State} {m : MethodId} {args : Array Value} {below : List Frame} {meth : Method} {c : Code} {Q : State → Prop} {D : va_G} {dA : Nat → ClassId} {A : Nat → Prop} {nL : Nat} {cl : List vw_C} {n0 : Nat} {V0 : sa_V} {Ts : List Cond} {cc : ByteArray} {own : String} (C0 : sa_C p s m args c D dA A nL cl Ts cc own) {pc : Nat} {maxC maxS ci N idx : Nat} {C : String} {T : u_T} {ty : Nat → FieldType} {ks0 : List Nat} (hc : sa_cls cl Ts ci C T N ty) (hd : decode cc pc = .ok (.new idx, 3)) (hl : Cond.classLink own idx C ∈ Ts) (hi : Cond.instantiable C N ∈ Ts) (hin : Cond.initialized C ∈ Ts) (hk0 : ∀ j, j < N → defaultValue (ty j) = vp_V (ks0.map sa_d1) j) (hC : maxC ≤ R.cells) (hS0 : maxS ≤ R.slots) : sa_snd p l e R s m args below meth c Q D dA A nL cl n0 V0 pc (so_new ci N ks0 maxC maxS) := by
  obtain ⟨hx, hb, hts, hown, hml, hK, hA⟩ := C0
  rintro ⟨pc, lo, st, cs, G, kc, ks⟩ sts rfl h k V H locs ls hG
  unfold so_new at h
  dsimp only at h
  split at h
  · rename_i hh
    obtain ⟨h3, h4, h5⟩ := hh
    cases h
    refine va_new (D := D) (fs := ks0.map sa_d1) hx hb hts hc.2.1 ty hc.2.2.1 hown (hts _ hl) (hts _ hi) (hts _ hin) hK hG.2.2.1 hG.2.2.2.1 hG.2.2.2.2 hA hc.1 hk0 (Nat.le_trans h3 hC) (Nat.le_trans h4 hS0) hd (fun q H1 hP hD hS => ?_)
    refine sa_k_ref (sa_G_new (q := q) (x := .inl (ci, ks0.map (sa_d0 G.length))) hG h5 ?_ hP hD hS) (k _ List.mem_cons_self)
    show Sum.inr (ci, (ks0.map (sa_d0 G.length)).map (sa_val _)) = _
    rw [List.map_map]
    congr 2
    apply List.map_congr_left
    intro j _
    exact sa_d_ok hG.1.1.2 (by simp only [sa_wf, Bool.and_eq_true, decide_eq_true_eq] at h5; exact h5.1.1.1) j
  · cases h
/-! rows of references -/
def so_aald (t : Nat) : sa_op := fun S => match S.2.2.1 with
  | .inl x :: .inr (.inl (some a)) :: rest => match sa_find a S.2.2.2.1 0 with
    | some (_, .inr (tt, .inr (.inr l))) => if tt = t then match sa_ixn S.2.2.2.2.1 x with
      | some j => match l[j]? with
        | some (some q) => some [(S.1 + 1, S.2.1, .inr (.inl (some q)) :: rest, S.2.2.2)]
        | _ => none
      | none => none
      else none
    | _ => none
  | _ => none
theorem sn_aald {p : Program} {l : Launch} {e : Env} {R : Room} {s : State} {m : MethodId} {args : Array Value} {below : List Frame} {meth : Method} {c : Code} {Q : State → Prop} {D : va_G} {dA : Nat → ClassId} {A : Nat → Prop} {nL : Nat} {cl : List vw_C} {n0 : Nat} {V0 : sa_V} {Ts : List Cond} {cc : ByteArray} {own : String} (C0 : sa_C p s m args c D dA A nL cl Ts cc own) {pc : Nat} {t : Nat} {C : String} (hd : decode cc pc = .ok (.aaload, 1)) (ht : (sa_tys dA)[t]? = some (dA t, .object C)) : sa_snd p l e R s m args below meth c Q D dA A nL cl n0 V0 pc (so_aald t) := by
  obtain ⟨hx, hb, hts, hown, hml, hK, hA⟩ := C0
  rintro ⟨pc, lo, st, cs, G, kc, ks⟩ sts rfl h k V H locs ls hG
  unfold so_aald at h
  dsimp only at h
  split at h
  · rename_i x a rest
    split at h
    · rename_i j tt l9 hj
      split at h
      · rename_i h1
        subst h1
        split at h
        · rename_i jx hjx
          split at h
          · rename_i q hq
            cases h
            have hlt := (List.getElem?_eq_some_iff.mp hq).1
            obtain ⟨i1, i2⟩ := sa_ixk hG.1.1 hjx
            refine va_aldq (D := D) hx hb hK hG.2.2.1 j _ (sa_find_0 hj) ht (i2 _ hlt) hd ?_
            rw [i1, show sa_g V l9 jx = some (sa_ad V q) by unfold sa_g; rw [List.getD_eq_getElem?_getD, hq]; rfl]
            exact k _ List.mem_cons_self V H locs ls hG
          · cases h
        · cases h
      · cases h
    · cases h
  · cases h
theorem sa_g_set {V : sa_V} {l : List (Option Nat)} {j q : Nat} (h : j < l.length) : va_up (sa_g V l) j (some (sa_ad V q)) = sa_g V (l.set j (some q)) := by
  funext i
  unfold va_up sa_g
  rw [List.getD_eq_getElem?_getD, List.getD_eq_getElem?_getD]
  by_cases hi : i = j
  · subst hi
    rw [if_pos rfl, List.getElem?_set_self h]
    rfl
  · rw [if_neg hi, List.getElem?_set_ne (Ne.symm hi)]
def so_aast (t ci : Nat) : sa_op := fun S => match S.2.2.1 with
  | .inr (.inl (some q)) :: .inl x :: .inr (.inl (some a)) :: rest => match sa_find a S.2.2.2.1 0, sa_find q S.2.2.2.1 0 with
    | some (i, .inr (tt, .inr (.inr l))), some (_, .inl (cj, _)) => if tt = t ∧ cj = ci ∧ sa_ok_ix x = true ∧ x.2.toNat < l.length then some [(S.1 + 1, S.2.1, rest, S.2.2.2.1.set i (a, .inr (tt, .inr (.inr (l.set x.2.toNat (some q))))), S.2.2.2.2)] else none
    | _, _ => none
  | _ => none
theorem sn_aast {p : Program} {l : Launch} {e : Env} {R : Room} {s : State} {m : MethodId} {args : Array Value} {below : List Frame} {meth : Method} {c : Code} {Q : State → Prop} {D : va_G} {dA : Nat → ClassId} {A : Nat → Prop} {nL : Nat} {cl : List vw_C} {n0 : Nat} {V0 : sa_V} {Ts : List Cond} {cc : ByteArray} {own : String} (C0 : sa_C p s m args c D dA A nL cl Ts cc own) {pc : Nat} {t ci N : Nat} {C : String} {T : u_T} {ty : Nat → FieldType} (hc : sa_cls cl Ts ci C T N ty) (hd : decode cc pc = .ok (.aastore, 1)) (ht : (sa_tys dA)[t]? = some (dA t, .object C)) : sa_snd p l e R s m args below meth c Q D dA A nL cl n0 V0 pc (so_aast t ci) := by
  obtain ⟨hx, hb, hts, hown, hml, hK, hA⟩ := C0
  rintro ⟨pc, lo, st, cs, G, kc, ks⟩ sts rfl h k V H locs ls hG
  unfold so_aast at h
  dsimp only at h
  split at h
  · rename_i q x a rest
    split at h
    · rename_i i tt l9 j9 cj fs hj hq
      split at h
      · rename_i hh
        obtain ⟨h1, h1', h2, h3⟩ := hh
        subst h1
        subst h1'
        have h2 := of_decide_eq_true h2
        cases h
        obtain ⟨i1, i2⟩ := sa_ix hG.1.1 h2 h3
        refine va_astq (D := D) (r := (C, T, N)) hx hb hK hG.2.2.1 hG.2.2.2.1 hG.2.2.2.2 i _ j9 cj (sa_find_0 hj) ht (sa_find_0 hq) hc.1 i2 hd (fun H1 locs1 hP hD hS => ?_)
        have e9 : (cs.map (sa_e V dA)).set i (sa_ad V a, .inl (dA tt, l9.length, .inr (.inr (.inr (.inr (va_up (sa_g V l9) x.2.toNat (some (sa_ad V q)))))))) = (cs.set i (a, .inr (tt, .inr (.inr (l9.set x.2.toNat (some q)))))).map (sa_e V dA) := by
          rw [List.map_set, sa_g_set h3]
          congr 1
          show _ = (sa_ad V a, Sum.inl (dA tt, (l9.set x.2.toNat (some q)).length, Sum.inr (Sum.inr (Sum.inr (Sum.inr (sa_g V (l9.set x.2.toNat (some q))))))))
          rw [List.length_set]
        rw [i1, e9] at hP hD
        exact k _ List.mem_cons_self V H1 locs1 ls ⟨hG.1, hG.2.1, hP, hD, hS⟩
      · cases h
    · cases h
  · cases h
end SA4
end
section
section SA5
def sa_ixin (G : sa_B) (x : Nat × Int) (N : Nat) : Bool := match sa_ixn G x with
  | some j => decide (j < N)
  | none => false
def so_i2b : sa_op := fun S => match S.2.2.1 with
  | .inl x :: rest => sa_push (S.1 + 1) S.2.1 rest S.2.2.2.1 S.2.2.2.2.1 S.2.2.2.2.2.1 S.2.2.2.2.2.2 (if x.1 = 0 then .inl (0, (Int32.ofInt x.2).toInt8.toInt32.toInt) else .inr (-128, 127))
  | _ => none
theorem sn_i2b {p : Program} {l : Launch} {e : Env} {R : Room} {s : State} {m : MethodId} {args : Array Value} {below : List Frame} {meth : Method} {c : Code} {Q : State → Prop} {D : va_G} {dA : Nat → ClassId} {A : Nat → Prop} {nL : Nat} {cl : List vw_C} {n0 : Nat} {V0 : sa_V} {Ts : List Cond} {cc : ByteArray} {own : String} (C0 : sa_C p s m args c D dA A nL cl Ts cc own) {pc : Nat}  (hd : decode cc pc = .ok (.i2b, 1)) : sa_snd p l e R s m args below meth c Q D dA A nL cl n0 V0 pc so_i2b := by
  obtain ⟨hx, hb, hts, hown, hml, hK, hA⟩ := C0
  rintro ⟨pc, lo, st, cs, G, kc, ks⟩ sts rfl h k V H locs ls hG
  unfold so_i2b at h
  dsimp only at h
  split at h
  · rename_i x rest
    refine lv_i2b (v := (sa_i V x).toInt8.toInt32) hx hb hd rfl (sa_push_ok hG ?_ h k)
    split
    · rename_i h1
      rw [sa_k0 hG.1.1 h1]
      exact sa_is_c hG.1.1 _
    · refine ⟨?_, ?_⟩
      · show -128 ≤ (sa_i V x).toInt8.toInt32.toInt
        rw [Int8.toInt_toInt32]
        exact Int8.le_toInt _
      · show (sa_i V x).toInt8.toInt32.toInt ≤ 127
        rw [Int8.toInt_toInt32]
        have := Int8.toInt_lt (sa_i V x).toInt8
        omega
  · cases h
theorem sa_pushl_ok {p : Program} {l : Launch} {e : Env} {R : Room} {s : State} {m : MethodId} {args : Array Value} {below : List Frame} {meth : Method} {c : Code} {Q : State → Prop} {D : va_G} {dA : Nat → ClassId} {A : Nat → Prop} {nL : Nat} {cl : List vw_C} {n0 : Nat} {V0 : sa_V} {V : sa_V} {H : Heap} {locs : List Loc} {ls : Array Slot} {pc : Nat} {lo : sa_L} {rest : List sa_v} {cs : List sa_c} {G : sa_B} {kc ks : Nat} {x : Int64} (hG : sa_G D dA A nL cl n0 V0 s.heap V lo cs G H locs ls) (hw : sa_wf G.length lo rest cs = true) (k : sa_W p l e R s m args below meth c Q D dA A nL cl n0 V0 (pc, lo, .inr (.inr G.length) :: rest, cs, G ++ [(0, 0)], kc, ks)) : W p l e R s m args below meth c H locs kc ks Q (F0 m pc ls (.long x :: rest.map (sa_val V))) := by
  obtain ⟨g1, g2⟩ := sa_G_upd (x := (0, x, fun _ => 0, 0)) (b := (0, 0)) hG hw ⟨Int.le_refl _, Int.le_refl _⟩
  have h := k _ H locs ls g1
  have e1 : (List.map (sa_val (sa_upd V G.length (0, x, fun _ => 0, 0))) (.inr (.inr G.length) :: rest)) = Value.long x :: rest.map (sa_val V) := by
    rw [List.map_cons, g2]
    congr 1
    show Value.long (sa_upd V G.length _ G.length).2.1 = _
    rw [sa_upd_eq]
  dsimp only at h
  rw [e1] at h
  exact h
def so_lald : sa_op := fun S => match S.2.2.1 with
  | .inl x :: .inr (.inl (some a)) :: rest => match sa_find a S.2.2.2.1 0 with
    | some (_, .inr (tt, .inr (.inl q))) => if tt = 2 ∧ sa_ixin S.2.2.2.2.1 x q.1 = true ∧ sa_wf S.2.2.2.2.1.length S.2.1 rest S.2.2.2.1 = true then some [(S.1 + 1, S.2.1, .inr (.inr S.2.2.2.2.1.length) :: rest, S.2.2.2.1, S.2.2.2.2.1 ++ [(0, 0)], S.2.2.2.2.2)] else none
    | _ => none
  | _ => none
theorem sn_lald {p : Program} {l : Launch} {e : Env} {R : Room} {s : State} {m : MethodId} {args : Array Value} {below : List Frame} {meth : Method} {c : Code} {Q : State → Prop} {D : va_G} {dA : Nat → ClassId} {A : Nat → Prop} {nL : Nat} {cl : List vw_C} {n0 : Nat} {V0 : sa_V} {Ts : List Cond} {cc : ByteArray} {own : String} (C0 : sa_C p s m args c D dA A nL cl Ts cc own) {pc : Nat}  (hd : decode cc pc = .ok (.laload, 1)) : sa_snd p l e R s m args below meth c Q D dA A nL cl n0 V0 pc so_lald := by
  obtain ⟨hx, hb, hts, hown, hml, hK, hA⟩ := C0
  rintro ⟨pc, lo, st, cs, G, kc, ks⟩ sts rfl h k V H locs ls hG
  unfold so_lald at h
  dsimp only at h
  split at h
  · rename_i x a rest
    split at h
    · rename_i j tt q hj
      split at h
      · rename_i hh
        obtain ⟨h1, h2, h4⟩ := hh
        subst h1
        cases h
        unfold sa_ixin at h2
        split at h2
        rotate_left
        · cases h2
        rename_i jx hjx
        obtain ⟨i1, i2⟩ := sa_ixk hG.1.1 hjx
        have i2 := i2 _ (of_decide_eq_true h2)
        exact va_lald (D := D) hx hb hK hG.2.2.1 j 2 (sa_find_0 hj) rfl i2 hd (sa_pushl_ok hG h4 (k _ List.mem_cons_self))
      · cases h
    · cases h
  · cases h
/-- a row of longs holds something new -/
theorem sa_G_lrow {D : va_G} {dA : Nat → ClassId} {A : Nat → Prop} {nL : Nat} {cl : List vw_C} {n0 : Nat} {V0 : sa_V} {H0 : Heap} {V : sa_V} {lo : sa_L} {st : List sa_v} {cs : List sa_c} {G : sa_B} {H H1 : Heap} {locs locs1 : List Loc} {ls : Array Slot} {a i N b : Nat} {f : Nat → Int64}
    (h : sa_G D dA A nL cl n0 V0 H0 V lo cs G H locs ls) (hw : sa_wf G.length lo st cs = true) (hj : sa_find a cs 0 = some (i, .inr (2, .inr (.inl (N, b))))) (hP : va_P D cl ((cs.map (sa_e V dA)).set i (sa_ad V a, .inl (dA 2, N, .inr (.inl f)))) H1) (hD : va_D A ((cs.map (sa_e V dA)).set i (sa_ad V a, .inl (dA 2, N, .inr (.inl f))))) (hS : va_S A H0 H1 locs1) :
    sa_G D dA A nL cl n0 V0 H0 (sa_upd V G.length (0, 0, f, 0)) lo (cs.set i (a, .inr (2, .inr (.inl (N, G.length))))) (G ++ [(0, 0)]) H1 locs1 ls ∧ st.map (sa_val (sa_upd V G.length (0, 0, f, 0))) = st.map (sa_val V) := by
  have hw2 := hw
  simp only [sa_wf, Bool.and_eq_true, decide_eq_true_eq] at hw
  obtain ⟨⟨⟨h0, h1⟩, h2⟩, h3⟩ := hw
  obtain ⟨g1, g2, g3, g4, g5⟩ := h
  obtain ⟨d, hd1, hd2⟩ := sa_find_at hj
  have ha : a < G.length := by
    have := List.all_eq_true.mp h3 _ (List.mem_of_getElem? hd2)
    simp only [sa_wfc, Bool.and_eq_true, decide_eq_true_eq] at this
    exact this.1
  have he2 : (cs.set i (a, .inr (2, .inr (.inl (N, G.length))))).map (sa_e (sa_upd V G.length (0, 0, f, 0)) dA) = (cs.map (sa_e V dA)).set i (sa_ad V a, .inl (dA 2, N, .inr (.inl f))) := by
    rw [List.map_set, sa_cs_upd h3]
    congr 1
    show (sa_ad _ a, Sum.inl (dA 2, N, Sum.inr (Sum.inl (sa_upd V G.length (0, 0, f, 0) G.length).2.2.1))) = _
    unfold sa_ad
    rw [sa_upd_eq, sa_upd_ne ha]
  exact ⟨⟨sa_J_upd g1 h0 ⟨Int.le_refl _, Int.le_refl _⟩, by rw [sa_lv_upd h1]; exact g2, by rw [he2]; exact hP, by rw [he2]; exact hD, hS⟩, sa_st_upd h2⟩
def so_last : sa_op := fun S => match S.2.2.1 with
  | .inr (.inr _) :: .inl x :: .inr (.inl (some a)) :: rest => match sa_find a S.2.2.2.1 0 with
    | some (i, .inr (tt, .inr (.inl (N, _)))) => if tt = 2 ∧ sa_ixin S.2.2.2.2.1 x N = true ∧ sa_wf S.2.2.2.2.1.length S.2.1 rest S.2.2.2.1 = true then some [(S.1 + 1, S.2.1, rest, S.2.2.2.1.set i (a, .inr (2, .inr (.inl (N, S.2.2.2.2.1.length)))), S.2.2.2.2.1 ++ [(0, 0)], S.2.2.2.2.2)] else none
    | _ => none
  | _ => none
theorem sn_last {p : Program} {l : Launch} {e : Env} {R : Room} {s : State} {m : MethodId} {args : Array Value} {below : List Frame} {meth : Method} {c : Code} {Q : State → Prop} {D : va_G} {dA : Nat → ClassId} {A : Nat → Prop} {nL : Nat} {cl : List vw_C} {n0 : Nat} {V0 : sa_V} {Ts : List Cond} {cc : ByteArray} {own : String} (C0 : sa_C p s m args c D dA A nL cl Ts cc own) {pc : Nat}  (hd : decode cc pc = .ok (.lastore, 1)) : sa_snd p l e R s m args below meth c Q D dA A nL cl n0 V0 pc so_last := by
  obtain ⟨hx, hb, hts, hown, hml, hK, hA⟩ := C0
  rintro ⟨pc, lo, st, cs, G, kc, ks⟩ sts rfl h k V H locs ls hG
  unfold so_last at h
  dsimp only at h
  split at h
  · rename_i jv x a rest
    split at h
    · rename_i i tt N b hj
      split at h
      · rename_i hh
        obtain ⟨h1, h2, h4⟩ := hh
        subst h1
        cases h
        unfold sa_ixin at h2
        split at h2
        rotate_left
        · cases h2
        rename_i jx hjx
        obtain ⟨i1, i2⟩ := sa_ixk hG.1.1 hjx
        have i2 := i2 _ (of_decide_eq_true h2)
        refine va_last (D := D) (x := (V jv).2.1) hx hb hK hG.2.2.1 hG.2.2.2.1 hG.2.2.2.2 i 2 (sa_find_0 hj) rfl i2 hd (fun H1 locs1 hP hD hS => ?_)
        obtain ⟨g1, g2⟩ := sa_G_lrow hG h4 hj hP hD hS
        have h9 := k _ List.mem_cons_self _ H1 locs1 ls g1
        dsimp only at h9
        rw [g2] at h9
        exact h9
      · cases h
    · cases h
  · cases h
/-- a row of ints is copied whole -/
def so_acpi : sa_op := fun S => match S.2.2.1 with
  | .inl n :: .inl dp :: .inr (.inl (some a1)) :: .inl sp :: .inr (.inl (some a0)) :: [] => match sa_find a0 S.2.2.2.1 0, sa_find a1 S.2.2.2.1 0 with
    | some (_, .inr (t0, .inl l0)), some (i1, .inr (t1, .inl l1)) => if t0 = 0 ∧ t1 = 0 ∧ dp = (0, 0) ∧ sp = (0, 0) ∧ sa_ok_ix n = true ∧ n.2.toNat = l0.length ∧ l0.length = l1.length then some [(S.1 + 3, S.2.1, [], S.2.2.2.1.set i1 (a1, .inr (0, .inl l0)), S.2.2.2.2)] else none
    | _, _ => none
  | _ => none
theorem sa_cpy {V : sa_V} {l0 l1 : List (Nat × Int)} (h : l0.length = l1.length) : va_cpy (sa_f V l0) (sa_f V l1) 0 0 l0.length = sa_f V l0 := by
  funext j
  unfold va_cpy
  split
  · rw [Nat.sub_zero, Nat.zero_add]
  · rename_i hj
    have hj : l0.length ≤ j := by omega
    unfold sa_f
    rw [List.getElem?_eq_none (by omega), List.getElem?_eq_none hj]
theorem sn_acpi {p : Program} {l : Launch} {e : Env} {R : Room} {s : State} {m : MethodId} {args : Array Value} {below : List Frame} {meth : Method} {c : Code} {Q : State → Prop} {D : va_G} {dA : Nat → ClassId} {A : Nat → Prop} {nL : Nat} {cl : List vw_C} {n0 : Nat} {V0 : sa_V} {Ts : List Cond} {cc : ByteArray} {own : String} (C0 : sa_C p s m args c D dA A nL cl Ts cc own) {pc : Nat} {idx : Nat} (hd : decode cc pc = .ok (.invokestatic idx, 3)) (hl : Cond.methodLink own idx arraycopyName ∈ Ts) (hn1 : Cond.native arraycopyName ∈ Ts) (hn2 : Cond.static arraycopyName ∈ Ts) (hn3 : Cond.initialized "java/lang/System" ∈ Ts) (hR1 : 1 ≤ R.frames) (hR2 : nativeFrameWords "java/lang/System" "arraycopy" 5 + 11 ≤ R.locals) : sa_snd p l e R s m args below meth c Q D dA A nL cl n0 V0 pc so_acpi := by
  obtain ⟨hx, hb, hts, hown, hml, hK, hA⟩ := C0
  rintro ⟨pc, lo, st, cs, G, kc, ks⟩ sts rfl h k V H locs ls hG
  unfold so_acpi at h
  dsimp only at h
  split at h
  · rename_i n dp a1 sp a0
    split at h
    · rename_i i0 t0 l0 i1 t1 l1 hj0 hj1
      split at h
      · rename_i hh
        obtain ⟨h1, h2, h3, h4, h5, h6, h7⟩ := hh
        subst h1 h2 h3 h4
        have h5 := of_decide_eq_true h5
        cases h
        obtain ⟨n1, n2⟩ := sa_nn hG.1.1 h5
        have e0 : sa_i V (0, 0) = 0 := (sa_i_0 hG.1.1 0).trans rfl
        have z1 : ¬ sa_i V (0, 0) < 0 := by rw [e0]; decide
        have z2 : (sa_i V (0, 0)).toNatClampNeg = 0 := by rw [e0]; rfl
        refine va_copyi (D := D) (ty := .int) (sp := sa_i V (0, 0)) (dp := sa_i V (0, 0)) (n := sa_i V n) hx hb (by rw [hml]; exact hG.2.1.1.symm) hown (hts _ hl) (hts _ hn1) (hts _ hn2) (hts _ hn3) hK hG.2.2.1 hG.2.2.2.1 hG.2.2.2.2 i0 i1 0 0 (sa_find_0 hj0) (sa_find_0 hj1) rfl rfl rfl z1 z1 n1 (by rw [n2, z2]; omega) (by rw [n2, z2]; omega) (fun _ _ => rfl) hR1 (by rw [List.map_nil, List.map_nil]; exact (Nat.zero_add _).symm ▸ hR2) hd (fun H1 locs1 hP hD hS => ?_)
        have e9 : (cs.map (sa_e V dA)).set i1 (sa_ad V a1, .inl (dA 0, l1.length, .inl (sa_f V l0))) = (cs.set i1 (a1, .inr (0, .inl l0))).map (sa_e V dA) := by
          rw [List.map_set, ← h7]
          rfl
        rw [n2, z2, h6, sa_cpy h7, e9] at hP hD
        exact k _ List.mem_cons_self V H1 locs1 ls ⟨hG.1, hG.2.1, hP, hD, hS⟩
      · cases h
    · cases h
  · cases h
def so_acpl : sa_op := fun S => match S.2.2.1 with
  | .inl n :: .inl dp :: .inr (.inl (some a1)) :: .inl sp :: .inr (.inl (some a0)) :: [] => match sa_find a0 S.2.2.2.1 0, sa_find a1 S.2.2.2.1 0 with
    | some (_, .inr (t0, .inr (.inl (N0, _)))), some (i1, .inr (t1, .inr (.inl (N1, _)))) => if t0 = 2 ∧ t1 = 2 ∧ dp = (0, 0) ∧ sp = (0, 0) ∧ sa_ok_ix n = true ∧ n.2.toNat ≤ N0 ∧ n.2.toNat ≤ N1 ∧ sa_wf S.2.2.2.2.1.length S.2.1 [] S.2.2.2.1 = true then some [(S.1 + 3, S.2.1, [], S.2.2.2.1.set i1 (a1, .inr (2, .inr (.inl (N1, S.2.2.2.2.1.length)))), S.2.2.2.2.1 ++ [(0, 0)], S.2.2.2.2.2)] else none
    | _, _ => none
  | _ => none
theorem sn_acpl {p : Program} {l : Launch} {e : Env} {R : Room} {s : State} {m : MethodId} {args : Array Value} {below : List Frame} {meth : Method} {c : Code} {Q : State → Prop} {D : va_G} {dA : Nat → ClassId} {A : Nat → Prop} {nL : Nat} {cl : List vw_C} {n0 : Nat} {V0 : sa_V} {Ts : List Cond} {cc : ByteArray} {own : String} (C0 : sa_C p s m args c D dA A nL cl Ts cc own) {pc : Nat} {idx : Nat} (hd : decode cc pc = .ok (.invokestatic idx, 3)) (hl : Cond.methodLink own idx arraycopyName ∈ Ts) (hn1 : Cond.native arraycopyName ∈ Ts) (hn2 : Cond.static arraycopyName ∈ Ts) (hn3 : Cond.initialized "java/lang/System" ∈ Ts) (hR1 : 1 ≤ R.frames) (hR2 : nativeFrameWords "java/lang/System" "arraycopy" 5 + 11 ≤ R.locals) : sa_snd p l e R s m args below meth c Q D dA A nL cl n0 V0 pc so_acpl := by
  obtain ⟨hx, hb, hts, hown, hml, hK, hA⟩ := C0
  rintro ⟨pc, lo, st, cs, G, kc, ks⟩ sts rfl h k V H locs ls hG
  unfold so_acpl at h
  dsimp only at h
  split at h
  · rename_i n dp a1 sp a0
    split at h
    · rename_i i0 t0 N0 b0 i1 t1 N1 b1 hj0 hj1
      split at h
      · rename_i hh
        obtain ⟨h1, h2, h3, h4, h5, h6, h7, h8⟩ := hh
        subst h1 h2 h3 h4
        have h5 := of_decide_eq_true h5
        cases h
        obtain ⟨n1, n2⟩ := sa_nn hG.1.1 h5
        have e0 : sa_i V (0, 0) = 0 := (sa_i_0 hG.1.1 0).trans rfl
        have z1 : ¬ sa_i V (0, 0) < 0 := by rw [e0]; decide
        have z2 : (sa_i V (0, 0)).toNatClampNeg = 0 := by rw [e0]; rfl
        refine va_copyl (D := D) (ty := .long) (sp := sa_i V (0, 0)) (dp := sa_i V (0, 0)) (n := sa_i V n) hx hb (by rw [hml]; exact hG.2.1.1.symm) hown (hts _ hl) (hts _ hn1) (hts _ hn2) (hts _ hn3) hK hG.2.2.1 hG.2.2.2.1 hG.2.2.2.2 i0 i1 2 2 (sa_find_0 hj0) (sa_find_0 hj1) rfl rfl rfl z1 z1 n1 (by rw [n2, z2]; omega) (by rw [n2, z2]; omega) (fun _ _ => rfl) hR1 (by rw [List.map_nil, List.map_nil]; exact (Nat.zero_add _).symm ▸ hR2) hd (fun H1 locs1 hP hD hS => ?_)
        obtain ⟨g1, g2⟩ := sa_G_lrow (st := []) hG h8 hj1 hP hD hS
        have h9 := k _ List.mem_cons_self _ H1 locs1 ls g1
        exact h9
      · cases h
    · cases h
  · cases h
end SA5
end
section
section SA6
/-! signs for signs -/
def sa_pl (V : sa_V) (g : Nat → Nat × Int) : sa_V := fun k => ((V (g k).1).1 + (g k).2, (V (g k).1).2)
def sa_sq (g : Nat → Nat × Int) (q : Nat × Int) : Nat × Int := ((g q.1).1, (g q.1).2 + q.2)
def sa_sv (g : Nat → Nat × Int) : sa_v → sa_v
  | .inl q => .inl (sa_sq g q)
  | .inr (.inl none) => .inr (.inl none)
  | .inr (.inl (some k)) => .inr (.inl (some (g k).1))
  | .inr (.inr j) => .inr (.inr (g j).1)
def sa_sa (g : Nat → Nat × Int) : sa_a → sa_a
  | .inl l => .inl (l.map (sa_sq g))
  | .inr (.inl q) => .inr (.inl (q.1, (g q.2).1))
  | .inr (.inr l) => .inr (.inr (l.map (Option.map (fun k => (g k).1))))
def sa_sx (g : Nat → Nat × Int) : ((Nat × List sa_v) ⊕ (Nat × sa_a)) → ((Nat × List sa_v) ⊕ (Nat × sa_a))
  | .inl o => .inl (o.1, o.2.map (sa_sv g))
  | .inr a => .inr (a.1, sa_sa g a.2)
def sa_sc (g : Nat → Nat × Int) (q : sa_c) : sa_c := ((g q.1).1, sa_sx g q.2)
theorem sa_i_pl (V : sa_V) (g : Nat → Nat × Int) (q : Nat × Int) : sa_i V (sa_sq g q) = sa_i (sa_pl V g) q := by
  unfold sa_i sa_pl sa_sq
  dsimp only
  rw [Int.add_assoc]
theorem sa_val_pl (V : sa_V) (g : Nat → Nat × Int) (v : sa_v) : sa_val V (sa_sv g v) = sa_val (sa_pl V g) v := by
  rcases v with q | (_ | k) | j
  · show Value.int _ = Value.int _
    rw [sa_i_pl]
  · rfl
  · rfl
  · rfl
theorem sa_arr_pl (V : sa_V) (g : Nat → Nat × Int) (a : sa_a) : sa_arr V (sa_sa g a) = sa_arr (sa_pl V g) a := by
  rcases a with l | q | l
  · show ((l.map (sa_sq g)).length, Sum.inl (sa_f V (l.map (sa_sq g)))) = (l.length, Sum.inl (sa_f (sa_pl V g) l))
    rw [List.length_map]
    congr 2
    funext j
    unfold sa_f
    rw [List.getElem?_map]
    cases l[j]? with
    | none => rfl
    | some q => exact sa_i_pl V g q
  · rfl
  · show ((l.map (Option.map (fun k => (g k).1))).length, _) = (l.length, _)
    rw [List.length_map]
    congr 5
    funext j
    unfold sa_g
    rw [List.getD_eq_getElem?_getD, List.getD_eq_getElem?_getD, List.getElem?_map]
    cases l[j]? with
    | none => rfl
    | some o => cases o <;> rfl
theorem sa_e_pl (V : sa_V) (g : Nat → Nat × Int) (dA : Nat → ClassId) (q : sa_c) : sa_e V dA (sa_sc g q) = sa_e (sa_pl V g) dA q := by
  obtain ⟨k, o | a⟩ := q
  · show (sa_ad V (g k).1, Sum.inr (o.1, (o.2.map (sa_sv g)).map (sa_val V))) = (sa_ad (sa_pl V g) k, Sum.inr (o.1, o.2.map (sa_val (sa_pl V g))))
    have e1 : (o.2.map (sa_sv g)).map (sa_val V) = o.2.map (sa_val (sa_pl V g)) := by
      rw [List.map_map]
      exact List.map_congr_left (fun v _ => sa_val_pl V g v)
    rw [e1]
    rfl
  · show (sa_ad V (g k).1, Sum.inl (dA a.1, sa_arr V (sa_sa g a.2))) = (sa_ad (sa_pl V g) k, Sum.inl (dA a.1, sa_arr (sa_pl V g) a.2))
    rw [sa_arr_pl]
    rfl
/-! what a method does: arguments, cells, bounds; its ends: answer, cells, bounds; cells and slots made -/
abbrev sa_O : Type := Option sa_v × List sa_c × sa_B
abbrev sa_K : Type := List sa_v × List sa_c × sa_B × List sa_O × Nat × Nat
/-- links to private members of nest mates -/
def sa_NL : List (String × Nat × MethodName × String) := [("OffThenOn", 20, ⟨"OffThenOn$World", "<init>", "()V"⟩, "OffThenOn"), ("OffThenOn$World", 9, ⟨"OffThenOn$House", "<init>", "()V"⟩, "OffThenOn"), ("OffThenOn$World", 18, ⟨"OffThenOn$State", "<init>", "()V"⟩, "OffThenOn"), ("OffThenOn$World", 25, ⟨"OffThenOn$Sentence", "<init>", "()V"⟩, "OffThenOn"), ("OffThenOn$History", 17, ⟨"OffThenOn$State", "<init>", "()V"⟩, "OffThenOn"), ("OffThenOn", 38, ⟨"OffThenOn$State", "<init>", "()V"⟩, "OffThenOn"), ("OffThenOn", 45, ⟨"OffThenOn$HouseReader", "<init>", "()V"⟩, "OffThenOn"), ("OffThenOn$HouseReader", 11, ⟨"OffThenOn$Reader", "<init>", "()V"⟩, "OffThenOn"), ("OffThenOn$HouseReader", 20, ⟨"OffThenOn$House", "<init>", "()V"⟩, "OffThenOn"), ("OffThenOn", 52, ⟨"OffThenOn$LogReader", "<init>", "()V"⟩, "OffThenOn"), ("OffThenOn$LogReader", 11, ⟨"OffThenOn$Reader", "<init>", "()V"⟩, "OffThenOn"), ("OffThenOn", 59, ⟨"OffThenOn$SentenceReader", "<init>", "()V"⟩, "OffThenOn"), ("OffThenOn$SentenceReader", 11, ⟨"OffThenOn$Reader", "<init>", "()V"⟩, "OffThenOn"), ("OffThenOn$SentenceReader", 20, ⟨"OffThenOn$Sentence", "<init>", "()V"⟩, "OffThenOn"), ("OffThenOn", 66, ⟨"OffThenOn$Planner", "<init>", "()V"⟩, "OffThenOn"), ("OffThenOn$House", 68, ⟨"OffThenOn", "bit", "(II)I"⟩, "OffThenOn"), ("OffThenOn$State", 63, ⟨"OffThenOn", "bit", "(II)I"⟩, "OffThenOn"), ("OffThenOn$Sentence", 59, ⟨"OffThenOn", "bit", "(II)I"⟩, "OffThenOn"), ("OffThenOn$Planner", 32, ⟨"OffThenOn", "bit", "(II)I"⟩, "OffThenOn")]
def sa_U (D : va_G) (cl : List vw_C) (dA : Nat → ClassId) (U : State) : Prop := va_K D cl (sa_tys dA) U ∧ va_AO "OffThenOn$World" U ∧ va_AO "OffThenOn$State" U ∧ ∀ q ∈ sa_NL, va_Nw (.methodLinkNest q.1 q.2.1 q.2.2.1 q.2.2.2) U
theorem sa_U.warm {D : va_G} {cl : List vw_C} {dA : Nat → ClassId} {s U : State} (hW : s.WarmedH U.vm) (h : sa_U D cl dA s) : sa_U D cl dA U := ⟨va_K.moved hW.alike h.1, va_AO.moved hW.alike h.2.1, va_AO.moved hW.alike h.2.2.1, fun q hq => va_Nw.warmM hW (h.2.2.2 q hq)⟩
theorem sa_U.same {D : va_G} {cl : List vw_C} {dA : Nat → ClassId} {u U : State} (hv : u.vm = U.vm) (h : sa_U D cl dA u) : sa_U D cl dA U := ⟨va_K.moved (by rw [hv]; exact Vm.Alike.refl _) h.1, va_AO.moved (by rw [hv]; exact Vm.Alike.refl _) h.2.1, va_AO.moved (by rw [hv]; exact Vm.Alike.refl _) h.2.2.1, fun q hq => va_Nw.same rfl hv (h.2.2.2 q hq)⟩
def sa_P (D : va_G) (dA : Nat → ClassId) (cl : List vw_C) (sz : Nat) (V : sa_V) (K : sa_K) : Array Value → State → Prop := va_Pc (K.1.map (sa_val V)) (fun U => U.heap.size = sz ∧ va_P D cl (K.2.1.map (sa_e V dA)) U.heap ∧ sa_U D cl dA U ∧ va_D (fun _ => True) (K.2.1.map (sa_e V dA)))
def sa_Q (D : va_G) (dA : Nat → ClassId) (cl : List vw_C) (sz : Nat) (V : sa_V) (K : sa_K) : Array Value → State → Outcome → State → Prop := fun _ st oc t =>
  (∃ o ∈ K.2.2.2.1, ∃ V' : sa_V, (∀ k, k < K.2.2.1.length → V' k = V k) ∧ sa_I V' o.2.2 ∧ oc = .returned (o.1.map (sa_val V')) ∧ va_P D cl (o.2.1.map (sa_e V' dA)) t.heap ∧ va_D (va_A (K.2.1.map (sa_e V dA)) sz) (o.2.1.map (sa_e V' dA))) ∧ va_F (va_A (K.2.1.map (sa_e V dA)) sz) st t
def sa_Met (l : Launch) (cl : List vw_C) (Ts : List Cond) (y : MethodName) (cc : ByteArray) (maxL : Nat) (ret : Option FieldType) (fr lc : Nat) (K : sa_K) : Prop :=
  ∀ (D : va_G) (dA : Nat → ClassId) (sz : Nat) (V : sa_V), sa_I V K.2.2.1 → Met l y (Cond.code y cc maxL ret :: Ts) { frames := fr, cells := K.2.2.2.2.1, slots := K.2.2.2.2.2, locals := lc } (sa_P D dA cl sz V K) (sa_Q D dA cl sz V K) K.2.2.2.2.1 K.2.2.2.2.2 (va_A (K.2.1.map (sa_e V dA)) sz)
/-! which sign is which -/
abbrev sa_rr : Type := List (Nat × Nat × Int)
def sa_lk (k : Nat) : sa_rr → Option (Nat × Int)
  | [] => none
  | q :: l => if q.1 = k then some q.2 else sa_lk k l
def sa_sb (r : sa_rr) (k : Nat) : Nat × Int := match sa_lk k r with
  | some x => x
  | none => (0, 0)
def sa_bd (r : sa_rr) (k : Nat) (x : Nat × Int) : sa_rr := if k = 0 then r else match sa_lk k r with
  | some _ => r
  | none => (k, x) :: r
def sa_m1 (r : sa_rr) : sa_v → sa_v → sa_rr
  | .inl q, .inl u => sa_bd r q.1 (u.1, u.2 - q.2)
  | .inr (.inl (some k)), .inr (.inl (some u)) => sa_bd r k (u, 0)
  | .inr (.inr j), .inr (.inr u) => sa_bd r j (u, 0)
  | _, _ => r
def sa_ml : List sa_v → List sa_v → sa_rr → sa_rr
  | v :: l, u :: l', r => sa_ml l l' (sa_m1 r v u)
  | _, _, r => r
def sa_mi : List (Nat × Int) → List (Nat × Int) → sa_rr → sa_rr
  | v :: l, u :: l', r => sa_mi l l' (sa_bd r v.1 (u.1, u.2 - v.2))
  | _, _, r => r
def sa_mq : List (Option Nat) → List (Option Nat) → sa_rr → sa_rr
  | some v :: l, some u :: l', r => sa_mq l l' (sa_bd r v (u, 0))
  | _ :: l, _ :: l', r => sa_mq l l' r
  | _, _, r => r
def sa_mx (r : sa_rr) : ((Nat × List sa_v) ⊕ (Nat × sa_a)) → ((Nat × List sa_v) ⊕ (Nat × sa_a)) → sa_rr
  | .inl o, .inl u => sa_ml o.2 u.2 r
  | .inr (_, .inl l), .inr (_, .inl l') => sa_mi l l' r
  | .inr (_, .inr (.inl q)), .inr (_, .inr (.inl u)) => sa_bd r q.2 (u.2, 0)
  | .inr (_, .inr (.inr l)), .inr (_, .inr (.inr l')) => sa_mq l l' r
  | _, _ => r
def sa_mcs (cs : List sa_c) : List sa_c → sa_rr → sa_rr
  | [], r => r
  | q :: l, r => match sa_find (sa_sb r q.1).1 cs 0 with
    | some y => sa_mcs cs l (sa_mx r q.2 y.2)
    | none => sa_mcs cs l r
def sa_idx (cs : List sa_c) (a : Nat) : Nat := match sa_find a cs 0 with
  | some y => y.1
  | none => cs.length
def sa_bck (r : sa_rr) (GK G : sa_B) : Bool := (List.range GK.length).all (fun k => match GK[k]?, G[(sa_sb r k).1]? with
  | some b, some b' => decide (b.1 ≤ b'.1 + (sa_sb r k).2 ∧ b'.2 + (sa_sb r k).2 ≤ b.2)
  | _, _ => false)
def sa_rf (r : sa_rr) (Go : sa_B) : List Nat → sa_B → sa_B
  | [], G => G
  | k :: l, G => match Go[k]? with
    | some b => sa_rf r Go l (sa_lw (sa_hi G (sa_sb r k).1 (b.2 - (sa_sb r k).2)) (sa_sb r k).1 (b.1 - (sa_sb r k).2))
    | none => sa_rf r Go l G
theorem sa_rf_ok {V : sa_V} {r : sa_rr} {Go : sa_B} : ∀ (l : List Nat) (G : sa_B), sa_I V G → (∀ k ∈ l, ∀ b, Go[k]? = some b → b.1 ≤ (V (sa_sb r k).1).1 + (sa_sb r k).2 ∧ (V (sa_sb r k).1).1 + (sa_sb r k).2 ≤ b.2) → sa_I V (sa_rf r Go l G) ∧ (sa_rf r Go l G).length = G.length
  | [], G, h, _ => ⟨h, rfl⟩
  | k :: l, G, h, hb => by
    unfold sa_rf
    split
    · rename_i b hk
      obtain ⟨b1, b2⟩ := hb k List.mem_cons_self b hk
      obtain ⟨r1, r2⟩ := sa_rf_ok l _ (sa_I_lw (s := (sa_sb r k).1) (z := b.1 - (sa_sb r k).2) (sa_I_hi (s := (sa_sb r k).1) (z := b.2 - (sa_sb r k).2) h (by omega)) (by omega)) (fun k' hk' => hb k' (List.mem_cons_of_mem _ hk'))
      exact ⟨r1, by rw [r2, sa_lw_len, sa_hi_len]⟩
    · exact sa_rf_ok l G h (fun k' hk' => hb k' (List.mem_cons_of_mem _ hk'))
def sa_g2 (r : sa_rr) (n0 n : Nat) (k : Nat) : Nat × Int := if k < n0 then sa_sb r k else (n + (k - n0), 0)
def sa_rest (cs : List sa_c) (isC : List Nat) : List Nat := (List.range cs.length).filter (fun i => !(isC.contains i))
def sa_end (K : sa_K) (S : sa_S) (r : sa_rr) (isC : List Nat) (rest : List sa_v) (o : sa_O) : sa_S :=
  (S.1 + 3, S.2.1, (match o.1 with | some v => sa_sv (sa_g2 r K.2.2.1.length S.2.2.2.2.1.length) v :: rest | none => rest), (sa_rest S.2.2.2.1 isC).filterMap (fun i => S.2.2.2.1[i]?) ++ o.2.1.map (sa_sc (sa_g2 r K.2.2.1.length S.2.2.2.2.1.length)), sa_rf r o.2.2 (List.range K.2.2.1.length) S.2.2.2.2.1 ++ o.2.2.drop K.2.2.1.length, S.2.2.2.2.2.1 + K.2.2.2.2.1, S.2.2.2.2.2.2 + K.2.2.2.2.2)
def sa_eqx : ((Nat × List sa_v) ⊕ (Nat × sa_a)) → ((Nat × List sa_v) ⊕ (Nat × sa_a)) → Bool
  | .inl o, .inl u => decide (o.1 = u.1 ∧ o.2 = u.2)
  | .inr (t, .inl l), .inr (t', .inl l') => decide (t = t' ∧ l = l')
  | .inr (t, .inr (.inl q)), .inr (t', .inr (.inl u)) => decide (t = t' ∧ q = u)
  | .inr (t, .inr (.inr l)), .inr (t', .inr (.inr l')) => decide (t = t' ∧ l = l')
  | _, _ => false
theorem sa_eqx_ok {x y : (Nat × List sa_v) ⊕ (Nat × sa_a)} (h : sa_eqx x y = true) : x = y := by
  unfold sa_eqx at h
  split at h
  · rename_i o u
    obtain ⟨o1, o2⟩ := o
    obtain ⟨u1, u2⟩ := u
    obtain ⟨h1, h2⟩ := of_decide_eq_true h
    dsimp only at h1 h2
    rw [h1, h2]
  · obtain ⟨h1, h2⟩ := of_decide_eq_true h
    rw [h1, h2]
  · obtain ⟨h1, h2⟩ := of_decide_eq_true h
    rw [h1, h2]
  · obtain ⟨h1, h2⟩ := of_decide_eq_true h
    rw [h1, h2]
  · cases h
def sa_eqo (o : Option sa_c) (q : sa_c) : Bool := match o with
  | some p => decide (p.1 = q.1) && sa_eqx p.2 q.2
  | none => false
theorem sa_eqo_ok {o : Option sa_c} {q : sa_c} (h : sa_eqo o q = true) : o = some q := by
  cases o with
  | none => cases h
  | some p =>
    have h : (decide (p.1 = q.1) && sa_eqx p.2 q.2) = true := h
    rw [Bool.and_eq_true] at h
    rw [show p = q from Prod.ext (of_decide_eq_true h.1) (sa_eqx_ok h.2)]
def sa_eql : List (Option sa_c) → List sa_c → Bool
  | [], [] => true
  | o :: l, q :: l' => sa_eqo o q && sa_eql l l'
  | _, _ => false
theorem sa_eql_ok : ∀ {l : List (Option sa_c)} {w : List sa_c}, sa_eql l w = true → l = w.map some
  | [], [], _ => rfl
  | [], _ :: _, h => by cases h
  | _ :: _, [], h => by cases h
  | o :: l, q :: w, h => by
    have h : (sa_eqo o q && sa_eql l w) = true := h
    rw [Bool.and_eq_true] at h
    rw [List.map_cons, ← sa_eql_ok h.2]
    rw [sa_eqo_ok h.1]
def sa_fitK (K : sa_K) (S : sa_S) (r : sa_rr) (isC : List Nat) (as rest : List sa_v) (maxC maxS : Nat) : Bool :=
  decide (K.1.map (sa_sv (sa_sb r)) = as) && sa_eql (isC.map (fun i => S.2.2.2.1[i]?)) (K.2.1.map (sa_sc (sa_sb r))) && va_nd isC && sa_bck r K.2.2.1 S.2.2.2.2.1 && decide ((rest.map sa_cat).sum ≤ 8) && decide (S.2.2.2.2.2.1 + K.2.2.2.2.1 ≤ maxC) && decide (S.2.2.2.2.2.2 + K.2.2.2.2.2 ≤ maxS) && decide (sa_sb r 0 = (0, 0)) && sa_wf S.2.2.2.2.1.length S.2.1 rest S.2.2.2.1
def sa_rof (K : sa_K) (S : sa_S) : sa_rr := sa_mcs S.2.2.2.1 K.2.1 (sa_ml K.1 (S.2.2.1.take K.1.length).reverse [])
def sa_cof (K : sa_K) (S : sa_S) (r : sa_rr) : List Nat := K.2.1.map (fun q => sa_idx S.2.2.2.1 (sa_sb r q.1).1)
def so_call (K : sa_K) (maxC maxS : Nat) : sa_op := fun S =>
  if K.1.length ≤ S.2.2.1.length ∧ sa_fitK K S (sa_rof K S) (sa_cof K S (sa_rof K S)) (S.2.2.1.take K.1.length).reverse (S.2.2.1.drop K.1.length) maxC maxS = true then some ((K.2.2.2.1.map (sa_end K S (sa_rof K S) (sa_cof K S (sa_rof K S)) (S.2.2.1.drop K.1.length))).filter (fun S' => S'.2.2.2.2.1.all (fun b => decide (b.1 ≤ b.2)))) else none
theorem sa_fm {α β : Type} {f : α → Option β} : ∀ {l : List α} {w : List β}, l.map f = w.map some → l.filterMap f = w
  | [], [], _ => rfl
  | [], _ :: _, h => by cases h
  | _ :: _, [], h => by cases h
  | a :: l, b :: w, h => by
    rw [List.map_cons, List.map_cons] at h
    obtain ⟨h1, h2⟩ := List.cons.inj h
    rw [List.filterMap_cons_some h1, sa_fm h2]
theorem sa_sum (V : sa_V) (st : List sa_v) : ((st.map (sa_val V)).map (fun v => v.category)).sum = (st.map sa_cat).sum := by
  rw [List.map_map]
  congr 1
  apply List.map_congr_left
  intro v _
  exact sa_cat_val V v
theorem sa_nd_filter : ∀ (f : Nat → Bool) (n : Nat), va_nd ((List.range n).filter f) = true := by
  intro f n
  have key : ∀ l : List Nat, l.Nodup → va_nd l = true := by
    intro l
    induction l with
    | nil => intro _; rfl
    | cons a l ih =>
      intro h
      rw [List.nodup_cons] at h
      show (decide (a ∉ l) && va_nd l) = true
      rw [ih h.2, decide_eq_true h.1]
      rfl
  exact key _ (List.Nodup.sublist (List.filter_sublist) (List.nodup_range))
/-- behind a call -/
theorem sa_call_ok {p : Program} {l : Launch} {e : Env} {R : Room} {s : State} {m : MethodId} {args : Array Value} {below : List Frame} {meth : Method} {c : Code} {Q : State → Prop} {D : va_G} {dA : Nat → ClassId} {A : Nat → Prop} {nL : Nat} {cl : List vw_C} {n0 : Nat} {V0 : sa_V} {K : sa_K} {maxC maxS pc : Nat} {lo : sa_L} {st : List sa_v} {cs : List sa_c} {G : sa_B} {kc ks : Nat} {sts : List sa_S} {V : sa_V} {H : Heap} {locs : List Loc} {ls : Array Slot} {a : Array Value}
    (hA : ∀ q, s.heap.size ≤ q → A q) (h : so_call K maxC maxS (pc, lo, st, cs, G, kc, ks) = some sts) (k : ∀ S' ∈ sts, sa_W p l e R s m args below meth c Q D dA A nL cl n0 V0 S') (hG : sa_G D dA A nL cl n0 V0 s.heap V lo cs G H locs ls)
    (vr : ∀ (As rest : List sa_v) (V1 : sa_V), st = As.reverse ++ rest → As.map (sa_val V) = K.1.map (sa_val V1) → As.length = K.1.length → sa_I V1 K.2.2.1 → ((rest.map (sa_val V)).map (fun v => v.category)).sum ≤ 8 → va_P D cl (K.2.1.map (sa_e V1 dA)) H → va_D (fun _ => True) (K.2.1.map (sa_e V1 dA)) → kc + K.2.2.2.2.1 ≤ maxC → ks + K.2.2.2.2.2 ≤ maxS →
      va_Run p l e R s m args below meth c H locs kc ks K.2.2.2.2.1 K.2.2.2.2.2 (F0 m pc ls (st.map (sa_val V))) (rest.map (sa_val V)) (sa_Q D dA cl H.size V1 K a) (va_A (K.2.1.map (sa_e V1 dA)) H.size)) :
    W p l e R s m args below meth c H locs kc ks Q (F0 m pc ls (st.map (sa_val V))) := by
  unfold so_call at h
  dsimp only at h
  split at h
  · rename_i hh
    obtain ⟨hlen, hfit⟩ := hh
    generalize hr : sa_rof K (pc, lo, st, cs, G, kc, ks) = r at h hfit
    generalize hC : sa_cof K (pc, lo, st, cs, G, kc, ks) r = isC at h hfit
    generalize has : (st.take K.1.length).reverse = As at hfit
    generalize hre : st.drop K.1.length = rest at h hfit
    simp only [sa_fitK, Bool.and_eq_true, decide_eq_true_eq] at hfit
    obtain ⟨⟨⟨⟨⟨⟨⟨⟨f1, f2⟩, f3⟩, f4⟩, f5⟩, f6⟩, f7⟩, f8⟩, f9⟩ := hfit
    cases h
    have hst : st = As.reverse ++ rest := by rw [← has, ← hre, List.reverse_reverse, List.take_append_drop]
    have hwf := f9
    simp only [sa_wf, Bool.and_eq_true, decide_eq_true_eq] at hwf
    obtain ⟨⟨⟨w0, w1⟩, w2⟩, w3⟩ := hwf
    -- the callee's start
    have b4 : ∀ j b, K.2.2.1[j]? = some b → (sa_sb r j).1 < G.length ∧ b.1 ≤ (sa_pl V (sa_sb r) j).1 ∧ (sa_pl V (sa_sb r) j).1 ≤ b.2 := by
      intro j b hj
      have hjl := (List.getElem?_eq_some_iff.mp hj).1
      have h4 := List.all_eq_true.mp f4 j (List.mem_range.mpr hjl)
      rw [hj] at h4
      split at h4
      · rename_i b1 b' e1 e2
        cases e1
        have h4 := of_decide_eq_true h4
        obtain ⟨g1, g2⟩ := hG.1.1.1 _ _ e2
        refine ⟨(List.getElem?_eq_some_iff.mp e2).1, ?_, ?_⟩
        · show b.1 ≤ (V _).1 + _
          omega
        · show (V _).1 + _ ≤ b.2
          omega
      · cases h4
    have hI1 : sa_I (sa_pl V (sa_sb r)) K.2.2.1 := by
      refine ⟨fun j b hj => (b4 j b hj).2, ?_⟩
      show (V (sa_sb r 0).1).1 + (sa_sb r 0).2 = 0
      rw [f8]
      show (V 0).1 + 0 = 0
      rw [hG.1.1.2]
      rfl
    have hCe : isC.map (fun i => (cs.map (sa_e V dA))[i]?) = (K.2.1.map (sa_e (sa_pl V (sa_sb r)) dA)).map some := by
      have := congrArg (List.map (Option.map (sa_e V dA))) (sa_eql_ok f2)
      rw [List.map_map, List.map_map, List.map_map] at this
      rw [List.map_map]
      refine Eq.trans (List.map_congr_left (fun i _ => ?_)) (this.trans (List.map_congr_left (fun q _ => ?_)))
      · show (cs.map (sa_e V dA))[i]? = Option.map (sa_e V dA) cs[i]?
        rw [List.getElem?_map]
      · show some (sa_e V dA (sa_sc (sa_sb r) q)) = some (sa_e (sa_pl V (sa_sb r)) dA q)
        rw [sa_e_pl]
    have hP1 := hG.2.2.1.sub isC (sa_fm hCe)
    have hD1 := (hG.2.2.2.1.sub isC f3 hCe)
    have hF := va_free (wc := K.2.1.map (sa_e (sa_pl V (sa_sb r)) dA)) hG.2.2.2.1 hG.2.2.2.2 hA isC hCe
    have hargs : As.map (sa_val V) = K.1.map (sa_val (sa_pl V (sa_sb r))) := by
      rw [← f1, List.map_map]
      exact List.map_congr_left (fun v _ => sa_val_pl V _ v)
    have hAl : As.length = K.1.length := by rw [← f1, List.length_map]
    have vrun := vr As rest (sa_pl V (sa_sb r)) hst hargs hAl hI1 (by rw [sa_sum]; exact f5) hP1 (hD1.weaken (fun _ _ _ _ => trivial)) f6 f7
    intro T hT X
    obtain ⟨v, st₀, t, T', L, t0, X', hL, e1, e2, ⟨⟨o, ho, V', hV', hI', hoc, hPo, hDo⟩, hz, hkk⟩, stp⟩ := vrun T hT X
    rw [t0] at hz hkk
    obtain ⟨Vn, hVn⟩ : ∃ Vn : sa_V, Vn = (fun j => if j < G.length then V j else V' (K.2.2.1.length + (j - G.length))) := ⟨_, rfl⟩
    have vlt : ∀ j, j < G.length → Vn j = V j := fun j hj => by rw [hVn]; exact if_pos hj
    have vge : ∀ j, Vn (G.length + j) = V' (K.2.2.1.length + j) := fun j => by
      rw [hVn]
      show (if G.length + j < G.length then _ else _) = _
      rw [if_neg (by omega), show G.length + j - G.length = j by omega]
    have hVV : V' = sa_pl Vn (sa_g2 r K.2.2.1.length G.length) := by
      funext j
      by_cases hj : j < K.2.2.1.length
      · have hj2 := (b4 j _ (List.getElem?_eq_getElem hj)).1
        unfold sa_pl sa_g2
        rw [if_pos hj, vlt _ hj2, hV' j hj]
        rfl
      · unfold sa_pl sa_g2
        rw [if_neg hj]
        show _ = ((Vn (G.length + (j - K.2.2.1.length))).1 + 0, (Vn (G.length + (j - K.2.2.1.length))).2)
        rw [vge, show K.2.2.1.length + (j - K.2.2.1.length) = j by omega, Int.add_zero]
    have agree : ∀ v : sa_v, sa_wfv G.length v = true → sa_val Vn v = sa_val V v := by
      intro v hv
      rcases v with q | (_ | j) | j
      · show Value.int (Int32.ofInt ((Vn q.1).1 + q.2)) = _
        rw [vlt _ (of_decide_eq_true hv)]
        rfl
      · rfl
      · show Value.ref (Vn j).2.2.2 = _
        rw [vlt _ (of_decide_eq_true hv)]
        rfl
      · show Value.long (Vn j).2.1 = _
        rw [vlt _ (of_decide_eq_true hv)]
        rfl
    have agreeC : ∀ q : sa_c, sa_wfc G.length q = true → sa_e Vn dA q = sa_e V dA q := by
      intro q hq
      obtain ⟨j, o9 | a9⟩ := q
      · simp only [sa_wfc, Bool.and_eq_true, decide_eq_true_eq, List.all_eq_true] at hq
        show (sa_ad Vn j, Sum.inr (o9.1, o9.2.map (sa_val Vn))) = (sa_ad V j, Sum.inr (o9.1, o9.2.map (sa_val V)))
        unfold sa_ad
        rw [vlt _ hq.1]
        congr 3
        exact List.map_congr_left (fun v hv => agree v (hq.2 v hv))
      · simp only [sa_wfc, Bool.and_eq_true, decide_eq_true_eq] at hq
        have ha : sa_arr Vn a9.2 = sa_arr V a9.2 := by
          obtain ⟨hq1, hq2⟩ := hq
          obtain ⟨t9, l9 | q9 | l9⟩ := a9
          · have hh : ∀ q ∈ l9, q.1 < G.length := fun q hq => of_decide_eq_true (List.all_eq_true.mp hq2 q hq)
            show (l9.length, _) = (l9.length, _)
            congr 2
            funext i
            unfold sa_f
            split
            · rename_i q hq
              unfold sa_i
              rw [vlt _ (hh q (List.mem_of_getElem? hq))]
            · rfl
          · have hh : q9.2 < G.length := of_decide_eq_true hq2
            show (q9.1, _) = (q9.1, _)
            rw [vlt _ hh]
          · have hh : ∀ o ∈ l9, _ := List.all_eq_true.mp hq2
            show (l9.length, _) = (l9.length, _)
            congr 5
            funext i
            unfold sa_g
            rw [List.getD_eq_getElem?_getD]
            cases hj : l9[i]? with
            | none => rfl
            | some o =>
              cases o with
              | none => rfl
              | some k9 =>
                have hk9 : k9 < G.length := of_decide_eq_true (hh _ (List.mem_of_getElem? hj))
                show some (sa_ad _ _) = some (sa_ad _ _)
                unfold sa_ad
                rw [vlt _ hk9]
        show (sa_ad Vn j, Sum.inl (dA a9.1, sa_arr Vn a9.2)) = (sa_ad V j, Sum.inl (dA a9.1, sa_arr V a9.2))
        rw [ha]
        unfold sa_ad
        rw [vlt _ hq.1]
    -- the cells
    have hmemR : ∀ q ∈ (sa_rest cs isC).filterMap (fun i => cs[i]?), sa_wfc G.length q = true := by
      intro q hq
      obtain ⟨i, -, hi⟩ := List.mem_filterMap.mp hq
      exact List.all_eq_true.mp w3 q (List.mem_of_getElem? hi)
    have hRe : (sa_rest cs isC).map (fun i => (cs.map (sa_e V dA))[i]?) = (((sa_rest cs isC).filterMap (fun i => cs[i]?)).map (sa_e Vn dA)).map some := by
      have key : ∀ l : List Nat, (∀ i ∈ l, i < cs.length) → l.map (fun i => cs[i]?) = (l.filterMap (fun i => cs[i]?)).map some := by
        intro l
        induction l with
        | nil => intro _; rfl
        | cons i l ih =>
          intro hl
          have hi := hl i List.mem_cons_self
          rw [List.map_cons, List.filterMap_cons_some (List.getElem?_eq_getElem hi), List.map_cons, ih (fun j hj => hl j (List.mem_cons_of_mem _ hj)), List.getElem?_eq_getElem hi]
      have h1 := key (sa_rest cs isC) (fun i hi => List.mem_range.mp (List.mem_filter.mp hi).1)
      have h2 := congrArg (List.map (Option.map (sa_e V dA))) h1
      rw [List.map_map, List.map_map] at h2
      rw [List.map_map]
      refine Eq.trans (List.map_congr_left (fun i _ => ?_)) (h2.trans (List.map_congr_left (fun q hq => ?_)))
      · show (cs.map (sa_e V dA))[i]? = Option.map (sa_e V dA) cs[i]?
        rw [List.getElem?_map]
      · show some (sa_e V dA q) = some (sa_e Vn dA q)
        rw [agreeC q (hmemR q hq)]
    obtain ⟨hPj, hDj⟩ := va_join (H1 := T'.heap) hG.2.2.1 hG.2.2.2.1 isC (sa_rest cs isC) hCe hRe (sa_nd_filter _ _) (fun i hi hi2 => by
      have := (List.mem_filter.mp hi).2
      simp at this
      exact this hi2) (fun q h1 h2 => by rw [e1]; exact hkk q h1 h2) hF (by rw [← e1] at hPo; exact hPo) hDo
    have hcells : ((sa_rest cs isC).filterMap (fun i => cs[i]?) ++ o.2.1.map (sa_sc (sa_g2 r K.2.2.1.length G.length))).map (sa_e Vn dA) = ((sa_rest cs isC).filterMap (fun i => cs[i]?)).map (sa_e Vn dA) ++ o.2.1.map (sa_e V' dA) := by
      rw [List.map_append, List.map_map]
      congr 1
      apply List.map_congr_left
      intro q _
      rw [hVV]
      exact sa_e_pl Vn _ dA q
    rw [← hcells] at hPj hDj
    -- the bounds
    have hIV : sa_I Vn G := ⟨fun i b hi => by rw [vlt i (List.getElem?_eq_some_iff.mp hi).1]; exact hG.1.1.1 i b hi, by rw [vlt 0 w0]; exact hG.1.1.2⟩
    obtain ⟨hrf1, hrf2⟩ := sa_rf_ok (V := Vn) (r := r) (Go := o.2.2) (List.range K.2.2.1.length) G hIV (fun j hj b hb => by
      have hjl := List.mem_range.mp hj
      have hj2 := (b4 j _ (List.getElem?_eq_getElem hjl)).1
      have h9 := hI'.1 j b hb
      rw [hV' j hjl] at h9
      rw [vlt _ hj2]
      exact h9)
    have hIn : sa_I Vn (sa_rf r o.2.2 (List.range K.2.2.1.length) G ++ o.2.2.drop K.2.2.1.length) := by
      refine ⟨fun i b hi => ?_, hIV.2⟩
      by_cases hl : i < G.length
      · rw [List.getElem?_append_left (by rw [hrf2]; exact hl)] at hi
        exact hrf1.1 i b hi
      · rw [List.getElem?_append_right (by rw [hrf2]; omega), hrf2, List.getElem?_drop] at hi
        have h9 := hI'.1 _ b hi
        have e9 : Vn i = V' (K.2.2.1.length + (i - G.length)) := by
          have := vge (i - G.length)
          rwa [show G.length + (i - G.length) = i by omega] at this
        rw [e9]
        exact h9
    -- the state behind it
    have hk9 := k (sa_end K (pc, lo, st, cs, G, kc, ks) r isC rest o) (List.mem_filter.mpr ⟨List.mem_map.mpr ⟨o, ho, rfl⟩, List.all_eq_true.mpr (fun b hb9 => decide_eq_true (by
      obtain ⟨i9, hi9⟩ := List.getElem?_of_mem hb9
      have h9 := hIn.1 i9 b hi9
      omega))⟩)
    have hSn : va_S A s.heap T'.heap (locs ++ L) := ⟨Nat.le_trans hG.2.2.2.2.1 (by rw [e1]; exact hz), fun q h1 h2 => by rw [e1, hkk q (Nat.lt_of_lt_of_le h1 hG.2.2.2.2.1) (fun z => h2 (hF q z))]; exact hG.2.2.2.2.2.1 q h1 h2, fun q hq => by
      rcases List.mem_append.mp hq with h | h
      · exact hG.2.2.2.2.2.2 q h
      · exact hF _ (hL q h)⟩
    have hlv : sa_lv Vn lo = sa_lv V lo := List.map_congr_left (fun q hq => by rw [agree _ (List.all_eq_true.mp w1 q hq)])
    have hrs : rest.map (sa_val Vn) = rest.map (sa_val V) := List.map_congr_left (fun q hq => agree _ (List.all_eq_true.mp w2 q hq))
    have hWn := hk9 Vn T'.heap (locs ++ L) ls ⟨⟨hIn, by show n0 ≤ (sa_rf r o.2.2 (List.range K.2.2.1.length) G ++ o.2.2.drop K.2.2.1.length).length; rw [List.length_append, hrf2]; exact Nat.le_trans hG.1.2.1 (Nat.le_add_right _ _), fun j hj => by rw [vlt j (Nat.lt_of_lt_of_le hj hG.1.2.1)]; exact hG.1.2.2 j hj⟩, by show lv_has ls nL (sa_lv Vn lo); rw [hlv]; exact hG.2.1, hPj, hDj, hSn⟩
    obtain ⟨t2, a1, b1⟩ := hWn T' rfl X'
    refine ⟨t2, stp t2 ?_, b1⟩
    have hv : v = o.1.map (sa_val V') := Outcome.returned.inj hoc
    have hstk : (match o.1 with | some v => sa_sv (sa_g2 r K.2.2.1.length G.length) v :: rest | none => rest).map (sa_val Vn) = v.toList ++ rest.map (sa_val V) := by
      rw [hv]
      cases o.1 with
      | none => exact hrs
      | some u =>
        show sa_val Vn (sa_sv _ u) :: rest.map (sa_val Vn) = sa_val V' u :: rest.map (sa_val V)
        rw [hrs, sa_val_pl, ← hVV]
    have a2 : Steps p.tables e below (T'.setTop (F0 m (pc + 3) ls ((match o.1 with | some v => sa_sv (sa_g2 r K.2.2.1.length G.length) v :: rest | none => rest).map (sa_val Vn)))) t2 := a1
    rw [hstk] at a2
    exact a2
  · cases h
end SA6
end
section
section SA7
theorem sa_blind {D : va_G} {dA : Nat → ClassId} {cl : List vw_C} {sz : Nat} {V : sa_V} {K : sa_K} : FrameBlind (sa_P D dA cl sz V K) := by
  intro a U g mk q
  obtain ⟨q0, q1, qP, qU, qD⟩ := q
  exact ⟨q0, q1, qP, sa_U.same (u := U) (U := U.calling g mk a) rfl qU, qD⟩
theorem sa_pre {D : va_G} {dA : Nat → ClassId} {cl : List vw_C} {V1 : sa_V} {K : sa_K} {s : State} {H : Heap} {vs : List Value} (hU : sa_U D cl dA s) (hv : vs = K.1.map (sa_val V1)) (hP : va_P D cl (K.2.1.map (sa_e V1 dA)) H) (hD : va_D (fun _ => True) (K.2.1.map (sa_e V1 dA))) : ∀ U : State, U.heap = H → s.WarmedH U.vm → sa_P D dA cl H.size V1 K vs.toArray U :=
  fun U hUH hW => ⟨by rw [hv], by rw [hUH], by rw [hUH]; exact hP, sa_U.warm hW hU, hD⟩
/-- the words of a method: its code's, and the list's -/
theorem sa_good {Ts : List Cond} (hg : ∀ w ∈ Ts, goodWord w = true) {w : Cond} (h : w ∈ Ts) : GoodIn Ts (w :: Ts) := by
  intro u hu
  rcases List.mem_cons.mp hu with rfl | hu
  · exact ⟨h, good_of_word (hg _ h)⟩
  · exact ⟨hu, good_of_word (hg _ hu)⟩
theorem sa_goodV {Ts : List Cond} (hg : ∀ w ∈ Ts, goodWord w = true) {w : Cond} (h : w ∈ Ts) {l : List Cond} (hl : ∀ u ∈ l, u ∈ Ts) : GoodIn Ts (l ++ (w :: Ts)) := by
  intro u hu
  rcases List.mem_append.mp hu with hu | hu
  · exact ⟨hl u hu, good_of_word (hg _ (hl u hu))⟩
  · exact sa_good hg h u hu
def sa_arg (y : MethodName) (n : Nat) : Prop := y.cls ≠ "java/lang/invoke/MethodHandle" ∧ y.cls ≠ "java/lang/invoke/VarHandle" ∧ (parseMethodDescriptor y.desc).map (fun d => d.parameters.length) = some n
theorem sa_take {st As rest : List sa_v} {n : Nat} (h : st = As.reverse ++ rest) (hl : As.length = n) : (st.take n).reverse = As := by
  rw [h, List.take_append_of_le_length (by rw [List.length_reverse]; omega), List.take_of_length_le (by rw [List.length_reverse]; omega), List.reverse_reverse]
theorem sa_stk {V : sa_V} {v : sa_v} {As rest : List sa_v} : ((v :: As).reverse ++ rest).map (sa_val V) = (As.map (sa_val V)).reverse ++ sa_val V v :: rest.map (sa_val V) := by
  rw [List.reverse_cons, List.map_append, List.map_append, List.map_reverse, List.append_assoc]
  rfl
def so_callV (ci : Nat) (K : sa_K) (maxC maxS : Nat) : sa_op := fun S => match (S.2.2.1.take K.1.length).reverse with
  | .inr (.inl (some a)) :: _ => match sa_find a S.2.2.2.1 0 with
    | some (_, .inl (cj, _)) => if cj = ci then so_call K maxC maxS S else none
    | _ => none
  | _ => none
def so_callI (K : sa_K) (maxC maxS : Nat) : sa_op := fun S => match (S.2.2.1.take K.1.length).reverse with
  | .inr (.inl (some _)) :: _ => so_call K maxC maxS S
  | _ => none
theorem sn_callV {p : Program} {l : Launch} {e : Env} {R : Room} {s : State} {m : MethodId} {args : Array Value} {below : List Frame} {meth : Method} {c : Code} {Q : State → Prop} {D : va_G} {dA : Nat → ClassId} {A : Nat → Prop} {nL : Nat} {cl : List vw_C} {n0 : Nat} {V0 : sa_V} {Ts : List Cond} {cc : ByteArray} {own : String} (C0 : sa_C p s m args c D dA A nL cl Ts cc own) {pc : Nat} {K : sa_K} {y : MethodName} {cy : ByteArray} {mL fr lc idx n maxC maxS : Nat} {ret : Option FieldType} {ci N : Nat} {T : u_T} (hU : sa_U D cl dA s) (hg : ∀ w ∈ Ts, goodWord w = true) (hM : sa_Met l cl Ts y cy mL ret fr lc K) (hcode : Cond.code y cy mL ret ∈ Ts) (hd : decode cc pc = .ok (.invokevirtual idx, 3)) (w1 : Cond.methodLink own idx y ∈ Ts) (w2 : Cond.instanceMethod y ∈ Ts) (w3 : Cond.selects y.cls y y ∈ Ts) (w4 : Cond.initialized y.cls ∈ Ts) (hcl : cl[ci]? = some (y.cls, T, N)) (hy : sa_arg y n) (hn : K.1.length = n + 1) (hR : fr + 1 ≤ R.frames ∧ 8 + (mL + 11) + lc ≤ R.locals) (hC : maxC ≤ R.cells) (hS0 : maxS ≤ R.slots) : sa_snd p l e R s m args below meth c Q D dA A nL cl n0 V0 pc (so_callV ci K maxC maxS) := by
  obtain ⟨hx, hb, hts, hown, hml, hK, hA⟩ := C0
  rintro ⟨pc, lo, st, cs, G, kc, ks⟩ sts rfl h k V H locs ls hG
  unfold so_callV at h
  dsimp only at h
  split at h
  · rename_i b As0 heq
    split at h
    · rename_i j cj fs hj
      split at h
      · rename_i hcj
        subst hcj
        refine sa_call_ok (a := #[]) hA h k hG (fun As rest V1 hst hargs hAl hI1 hsum hP1 hD1 hc1 hs1 => ?_)
        have e1 := (sa_take hst hAl).symm.trans heq
        subst e1
        have rv := va_recv (D := D) hK hG.2.2.1 hcl (sa_find_0 (V := V) (dA := dA) hj)
        exact va_runV (C := y.cls) (bytes := cy) (maxL := mL) (ret := ret) (b := sa_ad V b) (As := As0.map (sa_val V)) (n := n) ⟨hx, hb, hml, hown, hts⟩ (hM D dA H.size V1 hI1) (cwV n hts (sa_goodV hg hcode (by intro u hu; simp only [List.mem_cons, List.not_mem_nil, or_false] at hu; rcases hu with rfl | rfl | rfl | rfl <;> assumption)) rfl rfl rfl ⟨rfl, hy⟩ hR) ⟨sa_blind, rv, sa_pre hU hargs hP1 hD1⟩ rfl (by rw [List.length_map]; rw [List.length_cons] at hAl; omega) hG.2.1.1 (by show st.map (sa_val V) = _; rw [show st = _ from hst]; exact sa_stk) (lv_room hsum) hd ⟨Nat.le_trans hc1 hC, Nat.le_trans hs1 hS0⟩
      · cases h
    · cases h
  · cases h
theorem sn_callVN {p : Program} {l : Launch} {e : Env} {R : Room} {s : State} {m : MethodId} {args : Array Value} {below : List Frame} {meth : Method} {c : Code} {Q : State → Prop} {D : va_G} {dA : Nat → ClassId} {A : Nat → Prop} {nL : Nat} {cl : List vw_C} {n0 : Nat} {V0 : sa_V} {Ts : List Cond} {cc : ByteArray} {own : String} (C0 : sa_C p s m args c D dA A nL cl Ts cc own) {pc : Nat} {K : sa_K} {y : MethodName} {cy : ByteArray} {mL fr lc idx n maxC maxS : Nat} {ret : Option FieldType} {ci N : Nat} {T : u_T} {host : String} (hU : sa_U D cl dA s) (hg : ∀ w ∈ Ts, goodWord w = true) (hM : sa_Met l cl Ts y cy mL ret fr lc K) (hcode : Cond.code y cy mL ret ∈ Ts) (hd : decode cc pc = .ok (.invokevirtual idx, 3)) (w1 : (own, idx, y, host) ∈ sa_NL) (w2 : Cond.instanceMethod y ∈ Ts) (w3 : Cond.selects y.cls y y ∈ Ts) (w4 : Cond.initialized y.cls ∈ Ts) (hcl : cl[ci]? = some (y.cls, T, N)) (hy : sa_arg y n) (hn : K.1.length = n + 1) (hR : fr + 1 ≤ R.frames ∧ 8 + (mL + 11) + lc ≤ R.locals) (hC : maxC ≤ R.cells) (hS0 : maxS ≤ R.slots) : sa_snd p l e R s m args below meth c Q D dA A nL cl n0 V0 pc (so_callV ci K maxC maxS) := by
  obtain ⟨hx, hb, hts, hown, hml, hK, hA⟩ := C0
  rintro ⟨pc, lo, st, cs, G, kc, ks⟩ sts rfl h k V H locs ls hG
  unfold so_callV at h
  dsimp only at h
  split at h
  · rename_i b As0 heq
    split at h
    · rename_i j cj fs hj
      split at h
      · rename_i hcj
        subst hcj
        refine sa_call_ok (a := #[]) hA h k hG (fun As rest V1 hst hargs hAl hI1 hsum hP1 hD1 hc1 hs1 => ?_)
        have e1 := (sa_take hst hAl).symm.trans heq
        subst e1
        have rv := va_recv (D := D) hK hG.2.2.1 hcl (sa_find_0 (V := V) (dA := dA) hj)
        exact va_runVN (C := y.cls) (host := host) (bytes := cy) (maxL := mL) (ret := ret) (b := sa_ad V b) (As := As0.map (sa_val V)) (n := n) ⟨hx, hb, hml, hown, hts⟩ (hM D dA H.size V1 hI1) ⟨va_cnB n hts (sa_good hg hcode) rfl rfl rfl (hU.2.2.2 _ w1) (hts _ w4) hy hR, hts _ w2, hts _ w3⟩ ⟨sa_blind, rv, sa_pre hU hargs hP1 hD1⟩ rfl (by rw [List.length_map]; rw [List.length_cons] at hAl; omega) hG.2.1.1 (by show st.map (sa_val V) = _; rw [show st = _ from hst]; exact sa_stk) (lv_room hsum) hd ⟨Nat.le_trans hc1 hC, Nat.le_trans hs1 hS0⟩
      · cases h
    · cases h
  · cases h
theorem sn_callI {p : Program} {l : Launch} {e : Env} {R : Room} {s : State} {m : MethodId} {args : Array Value} {below : List Frame} {meth : Method} {c : Code} {Q : State → Prop} {D : va_G} {dA : Nat → ClassId} {A : Nat → Prop} {nL : Nat} {cl : List vw_C} {n0 : Nat} {V0 : sa_V} {Ts : List Cond} {cc : ByteArray} {own : String} (C0 : sa_C p s m args c D dA A nL cl Ts cc own) {pc : Nat} {K : sa_K} {y : MethodName} {cy : ByteArray} {mL fr lc idx n maxC maxS : Nat} {ret : Option FieldType}  (hU : sa_U D cl dA s) (hg : ∀ w ∈ Ts, goodWord w = true) (hM : sa_Met l cl Ts y cy mL ret fr lc K) (hcode : Cond.code y cy mL ret ∈ Ts) (hd : decode cc pc = .ok (.invokespecial idx, 3)) (w1 : Cond.methodLink own idx y ∈ Ts) (w2 : Cond.instanceMethod y ∈ Ts) (w4 : Cond.initialized y.cls ∈ Ts) (hy1 : y.name = "<init>") (hret : ret = none) (hy : sa_arg y n) (hn : K.1.length = n + 1) (hR : fr + 1 ≤ R.frames ∧ 8 + (mL + 11) + lc ≤ R.locals) (hC : maxC ≤ R.cells) (hS0 : maxS ≤ R.slots) : sa_snd p l e R s m args below meth c Q D dA A nL cl n0 V0 pc (so_callI K maxC maxS) := by
  obtain ⟨hx, hb, hts, hown, hml, hK, hA⟩ := C0
  rintro ⟨pc, lo, st, cs, G, kc, ks⟩ sts rfl h k V H locs ls hG
  unfold so_callI at h
  dsimp only at h
  split at h
  · rename_i b As0 heq
    refine sa_call_ok (a := #[]) hA h k hG (fun As rest V1 hst hargs hAl hI1 hsum hP1 hD1 hc1 hs1 => ?_)
    have e1 := (sa_take hst hAl).symm.trans heq
    subst e1
    exact va_runI (bytes := cy) (maxL := mL) (b := sa_ad V b) (As := As0.map (sa_val V)) (n := n) ⟨hx, hb, hml, hown, hts⟩ (hM D dA H.size V1 hI1) (by subst hret; exact cwI n hts (sa_good hg hcode) rfl rfl rfl (hts _ w4) (hts _ w1) (hts _ w2) hy1 hy hR) ⟨sa_blind, sa_pre hU hargs hP1 hD1⟩ rfl (by rw [List.length_map]; rw [List.length_cons] at hAl; omega) hG.2.1.1 (by show st.map (sa_val V) = _; rw [show st = _ from hst]; exact sa_stk) (lv_room hsum) hd ⟨Nat.le_trans hc1 hC, Nat.le_trans hs1 hS0⟩
  · cases h
theorem sn_callIN {p : Program} {l : Launch} {e : Env} {R : Room} {s : State} {m : MethodId} {args : Array Value} {below : List Frame} {meth : Method} {c : Code} {Q : State → Prop} {D : va_G} {dA : Nat → ClassId} {A : Nat → Prop} {nL : Nat} {cl : List vw_C} {n0 : Nat} {V0 : sa_V} {Ts : List Cond} {cc : ByteArray} {own : String} (C0 : sa_C p s m args c D dA A nL cl Ts cc own) {pc : Nat} {K : sa_K} {y : MethodName} {cy : ByteArray} {mL fr lc idx n maxC maxS : Nat} {ret : Option FieldType} {host : String} (hU : sa_U D cl dA s) (hg : ∀ w ∈ Ts, goodWord w = true) (hM : sa_Met l cl Ts y cy mL ret fr lc K) (hcode : Cond.code y cy mL ret ∈ Ts) (hd : decode cc pc = .ok (.invokespecial idx, 3)) (w1 : (own, idx, y, host) ∈ sa_NL) (w2 : Cond.instanceMethod y ∈ Ts) (w4 : Cond.initialized y.cls ∈ Ts) (hy1 : y.name = "<init>") (hret : ret = none) (hy : sa_arg y n) (hn : K.1.length = n + 1) (hR : fr + 1 ≤ R.frames ∧ 8 + (mL + 11) + lc ≤ R.locals) (hC : maxC ≤ R.cells) (hS0 : maxS ≤ R.slots) : sa_snd p l e R s m args below meth c Q D dA A nL cl n0 V0 pc (so_callI K maxC maxS) := by
  obtain ⟨hx, hb, hts, hown, hml, hK, hA⟩ := C0
  rintro ⟨pc, lo, st, cs, G, kc, ks⟩ sts rfl h k V H locs ls hG
  unfold so_callI at h
  dsimp only at h
  split at h
  · rename_i b As0 heq
    refine sa_call_ok (a := #[]) hA h k hG (fun As rest V1 hst hargs hAl hI1 hsum hP1 hD1 hc1 hs1 => ?_)
    have e1 := (sa_take hst hAl).symm.trans heq
    subst e1
    exact va_runIN (host := host) (bytes := cy) (maxL := mL) (b := sa_ad V b) (As := As0.map (sa_val V)) (n := n) ⟨hx, hb, hml, hown, hts⟩ (hM D dA H.size V1 hI1) (by subst hret; exact ⟨va_cnB n hts (sa_good hg hcode) rfl rfl rfl (hU.2.2.2 _ w1) (hts _ w4) hy hR, hy1, hts _ w2⟩) ⟨sa_blind, sa_pre hU hargs hP1 hD1⟩ rfl (by rw [List.length_map]; rw [List.length_cons] at hAl; omega) hG.2.1.1 (by show st.map (sa_val V) = _; rw [show st = _ from hst]; exact sa_stk) (lv_room hsum) hd ⟨Nat.le_trans hc1 hC, Nat.le_trans hs1 hS0⟩
  · cases h
theorem sn_callS {p : Program} {l : Launch} {e : Env} {R : Room} {s : State} {m : MethodId} {args : Array Value} {below : List Frame} {meth : Method} {c : Code} {Q : State → Prop} {D : va_G} {dA : Nat → ClassId} {A : Nat → Prop} {nL : Nat} {cl : List vw_C} {n0 : Nat} {V0 : sa_V} {Ts : List Cond} {cc : ByteArray} {own : String} (C0 : sa_C p s m args c D dA A nL cl Ts cc own) {pc : Nat} {K : sa_K} {y : MethodName} {cy : ByteArray} {mL fr lc idx n maxC maxS : Nat} {ret : Option FieldType}  (hU : sa_U D cl dA s) (hg : ∀ w ∈ Ts, goodWord w = true) (hM : sa_Met l cl Ts y cy mL ret fr lc K) (hcode : Cond.code y cy mL ret ∈ Ts) (hd : decode cc pc = .ok (.invokestatic idx, 3)) (w1 : Cond.methodLink own idx y ∈ Ts) (w2 : Cond.static y ∈ Ts) (w4 : Cond.initialized y.cls ∈ Ts) (hy : sa_arg y n) (hn : K.1.length = n) (hR : fr + 1 ≤ R.frames ∧ 8 + (mL + 11) + lc ≤ R.locals) (hC : maxC ≤ R.cells) (hS0 : maxS ≤ R.slots) : sa_snd p l e R s m args below meth c Q D dA A nL cl n0 V0 pc (so_call K maxC maxS) := by
  obtain ⟨hx, hb, hts, hown, hml, hK, hA⟩ := C0
  rintro ⟨pc, lo, st, cs, G, kc, ks⟩ sts rfl h k V H locs ls hG
  refine sa_call_ok (a := #[]) hA h k hG (fun As rest V1 hst hargs hAl hI1 hsum hP1 hD1 hc1 hs1 => ?_)
  exact va_runS (bytes := cy) (maxL := mL) (ret := ret) (As := As.map (sa_val V)) (n := n) ⟨hx, hb, hml, hown, hts⟩ (hM D dA H.size V1 hI1) (va_cwS n hts (sa_goodV hg hcode (by intro u hu; simp only [List.mem_cons, List.not_mem_nil, or_false] at hu; rcases hu with rfl | rfl | rfl <;> assumption)) rfl rfl rfl hy hR) ⟨sa_blind, sa_pre hU hargs hP1 hD1⟩ rfl (by rw [List.length_map, hAl, hn]) hG.2.1.1 (by show st.map (sa_val V) = _; rw [show st = _ from hst, List.map_append, List.map_reverse]) (lv_room hsum) hd ⟨Nat.le_trans hc1 hC, Nat.le_trans hs1 hS0⟩
theorem sn_callSN {p : Program} {l : Launch} {e : Env} {R : Room} {s : State} {m : MethodId} {args : Array Value} {below : List Frame} {meth : Method} {c : Code} {Q : State → Prop} {D : va_G} {dA : Nat → ClassId} {A : Nat → Prop} {nL : Nat} {cl : List vw_C} {n0 : Nat} {V0 : sa_V} {Ts : List Cond} {cc : ByteArray} {own : String} (C0 : sa_C p s m args c D dA A nL cl Ts cc own) {pc : Nat} {K : sa_K} {y : MethodName} {cy : ByteArray} {mL fr lc idx n maxC maxS : Nat} {ret : Option FieldType} {host : String} (hU : sa_U D cl dA s) (hg : ∀ w ∈ Ts, goodWord w = true) (hM : sa_Met l cl Ts y cy mL ret fr lc K) (hcode : Cond.code y cy mL ret ∈ Ts) (hd : decode cc pc = .ok (.invokestatic idx, 3)) (w1 : (own, idx, y, host) ∈ sa_NL) (w2 : Cond.static y ∈ Ts) (w4 : Cond.initialized y.cls ∈ Ts) (hy : sa_arg y n) (hn : K.1.length = n) (hR : fr + 1 ≤ R.frames ∧ 8 + (mL + 11) + lc ≤ R.locals) (hC : maxC ≤ R.cells) (hS0 : maxS ≤ R.slots) : sa_snd p l e R s m args below meth c Q D dA A nL cl n0 V0 pc (so_call K maxC maxS) := by
  obtain ⟨hx, hb, hts, hown, hml, hK, hA⟩ := C0
  rintro ⟨pc, lo, st, cs, G, kc, ks⟩ sts rfl h k V H locs ls hG
  refine sa_call_ok (a := #[]) hA h k hG (fun As rest V1 hst hargs hAl hI1 hsum hP1 hD1 hc1 hs1 => ?_)
  exact va_runSN (host := host) (bytes := cy) (maxL := mL) (ret := ret) (As := As.map (sa_val V)) (n := n) ⟨hx, hb, hml, hown, hts⟩ (hM D dA H.size V1 hI1) ⟨va_cnB n hts (sa_good hg hcode) rfl rfl rfl (hU.2.2.2 _ w1) (hts _ w4) hy hR, hts _ w2, trivial⟩ ⟨sa_blind, sa_pre hU hargs hP1 hD1⟩ rfl (by rw [List.length_map, hAl, hn]) hG.2.1.1 (by show st.map (sa_val V) = _; rw [show st = _ from hst, List.map_append, List.map_reverse]) (lv_room hsum) hd ⟨Nat.le_trans hc1 hC, Nat.le_trans hs1 hS0⟩
def so_obj : sa_op := fun S => match S.2.2.1 with
  | .inr (.inl (some _)) :: rest => if (rest.map sa_cat).sum ≤ 8 then some [(S.1 + 3, S.2.1, rest, S.2.2.2)] else none
  | _ => none
theorem sn_obj {p : Program} {l : Launch} {e : Env} {R : Room} {s : State} {m : MethodId} {args : Array Value} {below : List Frame} {meth : Method} {c : Code} {Q : State → Prop} {D : va_G} {dA : Nat → ClassId} {A : Nat → Prop} {nL : Nat} {cl : List vw_C} {n0 : Nat} {V0 : sa_V} {Ts : List Cond} {cc : ByteArray} {own : String} (C0 : sa_C p s m args c D dA A nL cl Ts cc own) {pc idx : Nat} (hd : decode cc pc = .ok (.invokespecial idx, 3)) (w1 : Cond.methodLink own idx Lib.objectInit ∈ Ts) (w2 : Cond.instanceMethod Lib.objectInit ∈ Ts) (w3 : Cond.code Lib.objectInit ⟨#[0xb1]⟩ 1 none ∈ Ts) (hR1 : 1 ≤ R.frames) (hR2 : 20 ≤ R.locals) : sa_snd p l e R s m args below meth c Q D dA A nL cl n0 V0 pc so_obj := by
  obtain ⟨hx, hb, hts, hown, hml, hK, hA⟩ := C0
  rintro ⟨pc, lo, st, cs, G, kc, ks⟩ sts rfl h k V H locs ls hG
  unfold so_obj at h
  dsimp only at h
  split at h
  · rename_i a rest
    split at h
    · rename_i h1
      cases h
      refine W.objInit hx hb hown (hts _ w1) (hts _ w2) (hts _ w3) rfl (by rw [hml]; exact hG.2.1.1) rfl hd hR1 ?_ (k _ List.mem_cons_self V H locs ls hG)
      have e1 := sa_sum V rest
      have e2 := lv_room (m := m) (pc := pc) (ls := ls) (rest := rest.map (sa_val V)) (st := rest.map (sa_val V)) (by rw [e1]; exact h1)
      have e3 : 2 * (F0 m pc ls (List.map (sa_val V) (.inr (.inl (some a)) :: rest))).monitorRoom + ((rest.map (sa_val V)).map (fun v => v.category)).sum ≤ 8 := e2
      exact Nat.le_trans (Nat.add_le_add_right e3 12) hR2
    · cases h
  · cases h
end SA7
end
section
section SA8
def sa_args : Nat → List sa_v → sa_L
  | _, [] => []
  | i, v :: vs => (i, v) :: sa_args (if sa_cat v = 2 then i + 2 else i + 1) vs
theorem sa_args_lv (V : sa_V) : ∀ (i : Nat) (vs : List sa_v), lv_args i (vs.map (sa_val V)) = sa_lv V (sa_args i vs)
  | _, [] => rfl
  | i, v :: vs => by
    show (i, sa_val V v) :: lv_args (if (sa_val V v).category = 2 then i + 2 else i + 1) (vs.map (sa_val V)) = (i, sa_val V v) :: sa_lv V (sa_args (if sa_cat v = 2 then i + 2 else i + 1) vs)
    rw [sa_cat_val, sa_args_lv V _ vs]
theorem sa_sl_len (V : sa_V) : ∀ vs : List sa_v, (lg_sl (vs.map (sa_val V))).length = (vs.map sa_cat).sum
  | [] => rfl
  | v :: vs => by
    have e := sa_sl_len V vs
    unfold lg_sl at e ⊢
    rw [List.map_cons, List.flatMap_cons, List.length_append, e, List.map_cons, List.sum_cons, sa_cat_val]
    rcases v with q | (_ | k) | j <;> rfl
def sa_fd (pc : Nat) : List (Nat × sa_op) → Option sa_op
  | [] => none
  | q :: l => if q.1 = pc then some q.2 else sa_fd pc l
theorem sa_fd_mem {pc : Nat} {op : sa_op} : ∀ {l : List (Nat × sa_op)}, sa_fd pc l = some op → (pc, op) ∈ l
  | [], h => by cases h
  | q :: l, h => by
    unfold sa_fd at h
    split at h
    · rename_i h1
      cases h
      rw [← h1]
      exact List.mem_cons_self
    · exact List.mem_cons_of_mem _ (sa_fd_mem h)
def sa_ri : Option FieldType → Instr
  | none => .return_
  | some _ => .ireturn
def sa_keep (cs : List sa_c) (w : List sa_c) : List Nat := w.map (fun q => sa_idx cs q.1)
def sa_fin (rets : List Nat) (t : Option FieldType) (K : sa_K) (S : sa_S) : Bool :=
  rets.contains S.1 && decide (S.2.2.2.2.2.1 ≤ K.2.2.2.2.1) && decide (S.2.2.2.2.2.2 ≤ K.2.2.2.2.2) && K.2.2.2.1.any (fun o => (match t, S.2.2.1, o.1 with
    | some ty, [.inl q], some (.inl u) => decide (q = u) && sa_fit S.2.2.2.2.1 ty (.inl q)
    | none, [], none => true
    | _, _, _ => false) && decide (o.2.2 = S.2.2.2.2.1) && va_nd (sa_keep S.2.2.2.1 o.2.1) && sa_eql ((sa_keep S.2.2.2.1 o.2.1).map (fun i => S.2.2.2.1[i]?)) o.2.1)
theorem sa_keep_ok {D : va_G} {cl : List vw_C} {A : Nat → Prop} {V : sa_V} {dA : Nat → ClassId} {cs w : List sa_c} {H : Heap} (hP : va_P D cl (cs.map (sa_e V dA)) H) (hD : va_D A (cs.map (sa_e V dA))) (h1 : va_nd (sa_keep cs w) = true) (h2 : sa_eql ((sa_keep cs w).map (fun i => cs[i]?)) w = true) : va_P D cl (w.map (sa_e V dA)) H ∧ va_D A (w.map (sa_e V dA)) := by
  have e : (sa_keep cs w).map (fun i => (cs.map (sa_e V dA))[i]?) = (w.map (sa_e V dA)).map some := by
    have := congrArg (List.map (Option.map (sa_e V dA))) (sa_eql_ok h2)
    rw [List.map_map, List.map_map] at this
    rw [List.map_map]
    refine Eq.trans (List.map_congr_left (fun i _ => ?_)) this
    show (cs.map (sa_e V dA))[i]? = Option.map (sa_e V dA) cs[i]?
    rw [List.getElem?_map]
  exact ⟨hP.sub _ (sa_fm e), hD.sub _ h1 e⟩
/-- the end of a method -/
theorem sa_fin_ok {p : Program} {l : Launch} {e : Env} {R : Room} {s : State} {m : MethodId} {args : Array Value} {below : List Frame} {meth : Method} {c : Code} {D : va_G} {dA : Nat → ClassId} {A : Nat → Prop} {nL : Nat} {cl : List vw_C} {V0 : sa_V} {K : sa_K} {cc : ByteArray} {rets : List Nat} {t : Option FieldType}
    (hx : p.tables.exec = Jvm.exec) (hb : c.code = cc) (hlocks : meth.locks = false) (hr : meth.sig.returnType = t) (hA : A = va_A (K.2.1.map (sa_e V0 dA)) s.heap.size) (hd : ∀ pc ∈ rets, decode cc pc = .ok (sa_ri t, 1))
    (S : sa_S) (h : sa_fin rets t K S = true) : sa_W p l e R s m args below meth c (MQ below (sa_Q D dA cl s.heap.size V0 K) args s K.2.2.2.2.1 K.2.2.2.2.2 A) D dA A nL cl K.2.2.1.length V0 S := by
  obtain ⟨pc, lo, st, cs, G, kc, ks⟩ := S
  intro V H locs ls hG
  simp only [sa_fin, Bool.and_eq_true, decide_eq_true_eq, List.any_eq_true] at h
  obtain ⟨⟨⟨h1, h2⟩, h3⟩, o, ho, ⟨⟨h4, h5⟩, h6⟩, h7⟩ := h
  have hpc : pc ∈ rets := by simpa using h1
  obtain ⟨hP9, hD9⟩ := sa_keep_ok hG.2.2.1 hG.2.2.2.1 h6 h7
  refine W.widen (k := K.2.2.2.2.1) (n := K.2.2.2.2.2) h2 h3 ?_
  have hI : sa_I V o.2.2 := by rw [h5]; exact hG.1.1
  have hq : ∀ (oc : Outcome) (t9 : State), t9.heap = H → oc = .returned (o.1.map (sa_val V)) → sa_Q D dA cl s.heap.size V0 K args s oc t9 := by
    intro oc t9 ht9 hoc
    subst hA
    exact ⟨⟨o, ho, V, hG.1.2.2, hI, hoc, by rw [ht9]; exact hP9, hD9⟩, hG.2.2.2.2.F ht9⟩
  have hd1 := hd pc hpc
  clear hd
  split at h4
  · rename_i ty q u he2
    rw [Bool.and_eq_true] at h4
    obtain ⟨h8, h9⟩ := h4
    have h8 := of_decide_eq_true h8
    subst h8
    obtain ⟨n1, n2⟩ := sa_fit_ok (V := V) hG.1.1 h9
    refine W.zret (v := sa_i V q) hx hb hr n1 (fun t9 ht9 _ => hq _ t9 ht9 ?_) (fun q9 hq9 => hG.2.2.2.2.2.2 q9 hq9) hd1
    rw [he2]
    rfl
  · rename_i he2
    refine W.vret hx hb hr (fun t9 ht9 _ => hq _ t9 ht9 ?_) (fun q9 hq9 => hG.2.2.2.2.2.2 q9 hq9) hd1
    rw [he2]
    rfl
  · cases h4
/-- A METHOD, out of its run over signs -/
theorem sa_method {l : Launch} {cl : List vw_C} {Ts : List Cond} {y : MethodName} {cc : ByteArray} {mL : Nat} {ret : Option FieldType} {fr lc : Nat} {K : sa_K} (hy : plainName y.cls = true) (rets : List Nat) (tab : List (Nat × sa_op)) (fuel : Nat)
    (hd : ∀ pc ∈ rets, decode cc pc = .ok (sa_ri ret, 1))
    (hops : ∀ (p : Program) (e : Env) (s : State) (m : MethodId) (args : Array Value) (below : List Frame) (meth : Method) (c : Code) (Q : State → Prop) (D : va_G) (dA : Nat → ClassId) (A : Nat → Prop) (n0 : Nat) (V0 : sa_V), sa_C p s m args c D dA A mL cl Ts cc y.cls → sa_U D cl dA s → meth.name = y.name → ∀ q ∈ tab, sa_snd p l e { frames := fr, cells := K.2.2.2.2.1, slots := K.2.2.2.2.2, locals := lc } s m args below meth c Q D dA A mL cl n0 V0 q.1 q.2)
    (hlen : (K.1.map sa_cat).sum ≤ mL) (hrun : sa_run (fun pc => sa_fd pc tab) (sa_fin rets ret K) fuel (0, sa_args 0 K.1, [], K.2.1, K.2.2.1, 0, 0) = true) : sa_Met l cl Ts y cc mL ret fr lc K := by
  intro D dA sz V hI
  refine Met.ofW (cc := cc) (maxL := mL) (ret := ret) hy rfl ?_
  intro p e s m args below meth c s₁ B hml hv
  obtain ⟨hargs, hsz, hP, hU, hD0⟩ := hv
  subst hargs
  have hts0 := atoms_spec (ws := Cond.code y cc mL ret :: Ts) B.pre
  have hown : s.vm.findClass y.cls = some m.cls := findClass_of_methodNamed B.named
  have hin : meth.name = y.name := (name_of_methodNamed B.named B.method).1
  subst hsz
  have hD := hD0.self (sz := s.heap.size)
  have hS : va_S (va_A (K.2.1.map (sa_e V dA)) s.heap.size) s.heap s.heap [] := va_S.rf
  have hl := lv_entry (K.1.map (sa_val V)) (n := mL) (by rw [sa_sl_len]; exact hlen)
  rw [sa_args_lv] at hl
  rw [lg_entry_eq]
  have hC : sa_C p s m (K.1.map (sa_val V)).toArray c D dA (va_A (K.2.1.map (sa_e V dA)) s.heap.size) mL cl Ts cc y.cls := ⟨B.exec, B.bytes, fun w hw => hts0 w (List.mem_cons_of_mem _ hw), hown, hml, hU.1, fun q h => Or.inr h⟩
  have hW := sa_run_ok (p := p) (l := l) (e := e) (R := { frames := fr, cells := K.2.2.2.2.1, slots := K.2.2.2.2.2, locals := lc }) (s := s) (m := m) (args := (K.1.map (sa_val V)).toArray) (below := below) (meth := meth) (c := c) (Q := MQ below (sa_Q D dA cl s.heap.size V K) (K.1.map (sa_val V)).toArray s K.2.2.2.2.1 K.2.2.2.2.2 (va_A (K.2.1.map (sa_e V dA)) s.heap.size)) (D := D) (dA := dA) (A := va_A (K.2.1.map (sa_e V dA)) s.heap.size) (nL := mL) (cl := cl) (n0 := K.2.2.1.length) (V0 := V)
    (fun pc op h => hops p e s m _ below meth c _ D dA _ _ V hC hU hin (pc, op) (sa_fd_mem h)) (fun S _ h => sa_fin_ok B.exec B.bytes B.notSynchronized B.returns rfl hd S h) fuel _ hrun
  exact hW V s.heap [] _ ⟨⟨hI, Nat.le_refl _, fun _ _ => rfl⟩, hl, hP, hD, hS⟩
end SA8
end
section
section SACA
variable {p : Program} {l : Launch} {e : Env} {R : Room} {s : State} {m : MethodId} {args : Array Value} {below : List Frame} {meth : Method} {c : Code} {H : Heap} {locs : List Loc} {cells slots : Nat} {Q : State → Prop}
/-- a table of one entry that names the thrown class: the walk goes on at its handler -/
theorem sa_caught {own E : String} {ce : Cell} {q : Addr} {pc : Nat} {ls : Array Slot} {rest : List Value} {xe : ExceptionTableEntry} (hown : s.vm.findClass own = some m.cls) (hone : c.exceptionTable.toList = [xe]) (hcov : covers xe pc = true) (hct : xe.catchType ≠ 0)
    (hlink : (Cond.classLink own xe.catchType E).before args s = true) (hcast : (Cond.castable E E).before args s = true) (hcell : H[q]? = some ce) (hv : ce.vm = .none) (hcl : s.vm.findClass E = some ce.cls)
    (kk : W p l e R s m args below meth c H locs cells slots Q (F0 m xe.handlerPc ls [.ref q])) : vx_W p l e R s m args below meth c H locs cells slots Q (F0 m pc ls rest) q := by
  intro T hT X
  have hplat : e.platform.magicAccessors = ({} : Platform).magicAccessors := by rw [X.admits.platform]
  obtain ⟨ca, cb, ha, hb, hasg⟩ := Cond.castable_spec hcast
  have e1 : ca = ce.cls := Option.some.inj (ha.symm.trans hcl)
  have e2 : cb = ce.cls := Option.some.inj (hb.symm.trans hcl)
  subst e1
  rw [e2] at hasg
  obtain ⟨cl, hfind, hlnk⟩ := Cond.classLink_spec hown hlink e.platform hplat
  have e3 : cl = ce.cls := Option.some.inj (hfind.symm.trans hcl)
  rw [e3] at hlnk
  obtain ⟨dk, _, _, kt, hdk, _, _, _, _, hkt, _, hopen⟩ := hlnk.here
  have hwarm : s.WarmedH (T.vm.noted m.cls xe.catchType (.cls ce.cls)) := X.warmed.noted hdk hopen (State.rightAt_cls hlnk)
  have hlnkT := X.warmed.classLinks hlnk
  obtain ⟨kT, hkT, -⟩ := X.warmed.alike.2.2 _ _ hkt
  have hasgT : T.vm.assignable ce.cls ce.cls = true := by rw [X.warmed.alike.assignable]; exact hasg
  have hobj : ∀ k, ce.vm ≠ .statics k := fun k h => by rw [hv] at h; cases h
  have hcellT : T.heap[q]? = some ce := by rw [hT]; exact hcell
  obtain ⟨t, a1, b1⟩ := kk (T.setVm (T.vm.noted m.cls xe.catchType (.cls ce.cls))) hT (X.noted hwarm)
  refine ⟨t, ?_, b1⟩
  generalize hU : (T.setTop (F0 m pc ls rest)).pushFrame (.throwing q) = U
  have hUvm : U.vm = T.vm := by rw [← hU]; exact throwing_vm T _ q
  have hUheap : U.heap = T.heap := by rw [← hU]; exact throwing_heap T _ q
  -- the search
  have search : ∀ (Qh : Handler → Pre) (Ec : CtlPost) (d : Bool) (acts : List Action), wp (findHandler (F0 m pc ls rest) q) Qh Ec e d acts U ↔ Qh (.found xe.handlerPc) d acts (U.setVm (T.vm.noted m.cls xe.catchType (.cls ce.cls))) := by
    intro Qh Ec d acts
    have hmU : U.vm.method? m = some meth := by rw [hUvm]; exact X.method'
    have hkc : meth.code = some c := by
      have h1 := X.code
      have h2 := X.method'
      first | exact h1 | (simpa [State.code?, h2] using h1)
    rw [W.findHandler_eq (f := F0 m pc ls rest) hmU hkc, hone]
    rw [← hUvm] at hlnkT hkT hasgT ⊢
    have hal : U.vm.Alike (U.vm.noted m.cls xe.catchType (.cls ce.cls)) := (Vm.Alike.refl U.vm).noted _ _ _
    obtain ⟨r1, r2⟩ := (resolveClass_links (vm := U.vm) e.toSetting hlnkT).op (op := VmOp.resolveClass m.cls xe.catchType) rfl
    obtain ⟨k1, hk1, -⟩ := hal.2.2 _ _ hkT
    have hfit : (U.vm.noted m.cls xe.catchType (.cls ce.cls)).assignable ce.cls ce.cls = true := by rw [hal.assignable]; exact hasgT
    have hcU : U.heap[q]? = some ce := by rw [hUheap]; exact hcellT
    simp only [covers] at hcov
    simp [findHandler.go, hcov, hct, r1, r2, hcU, hobj, hk1, hfit, VmOp.dirties, VmOp.acts]
  obtain ⟨hgo, hw⟩ := X.here.throwing q (g := F0 m pc ls rest)
  rw [hU] at hgo hw
  refine Steps.head hgo hw ?_
  have hstep : (stepThrowing e U q (.java (F0 m pc ls rest) :: T.frames.tail)).1 = (U.setVm (T.vm.noted m.cls xe.catchType (.cls ce.cls))).setFrames (.java (F0 m xe.handlerPc ls [.ref q]) :: T.frames.tail) := by
    simp only [stepThrowing, searchFrame, vmDo]
    generalize hr : Sem.go _ e false [] U = res
    obtain ⟨as, rfl, ha⟩ := Sem.eq_ok_of hr (a := Handler.found xe.handlerPc) (s' := U.setVm (T.vm.noted m.cls xe.catchType (.cls ce.cls))) (acts' := []) (by simp [search])
    rfl
  rw [stepThread_throwing (by rw [← hU]; exact frames_entered X.here.top _), hstep]
  obtain ⟨g₀, hg⟩ := Option.isSome_iff_exists.mp X.here.top
  obtain ⟨r, hr⟩ := State.topJava?_eq_some.mp hg
  have hr' : (T.setVm (T.vm.noted m.cls xe.catchType (.cls ce.cls))).frames = .java g₀ :: r := hr
  rw [State.setTop_of_frames _ hr'] at a1
  have hfin : (U.setVm (T.vm.noted m.cls xe.catchType (.cls ce.cls))).setFrames (.java (F0 m xe.handlerPc ls [.ref q]) :: T.frames.tail) = (T.setVm (T.vm.noted m.cls xe.catchType (.cls ce.cls))).setFrames (.java (F0 m xe.handlerPc ls [.ref q]) :: r) := by
    have hc : ∀ (u : State) (F G : List Frame) (v : Vm), ((u.setFrames F).setVm v).setFrames G = (u.setVm v).setFrames G := fun u F G v => State.setFrames_setFrames (u.setVm v) F G
    rw [hr, List.tail_cons, ← hU, State.pushFrame, State.setTop_of_frames _ hr, hc, hc]
  rw [hfin]
  exact a1
end SACA
end
section
section SAT
abbrev sa_NSE : String := "java/util/NoSuchElementException"
def sa_nm : List String := ["java/lang/RuntimeException", "java/lang/Exception"]
def sa_XW : List Cond := [.castable sa_NSE sa_NSE]
theorem sa_XW_on : ∀ w ∈ sa_XW, w.onTables = true := by decide +kernel
theorem sa_XW_warm {s U : State} (hW : s.WarmedH U.vm) (h : ∀ w ∈ sa_XW, va_Nw w s) : ∀ w ∈ sa_XW, va_Nw w U := by
  intro w hw
  have hz := h w hw
  simp only [sa_XW, List.mem_cons, List.not_mem_nil, or_false] at hw
  subst hw
  exact va_Nw.warmC hW hz
def sa_Z (A : Nat → Prop) (U : State) (H : Heap) : Prop := vx_Zq Bundle.tN "UNASSIGNED_STACK" Bundle.steD A U H ∧ vx_Zq Bundle.tN "SUPPRESSED_SENTINEL" Bundle.listD A U H
def sa_ZZ (A : Nat → Prop) (U : State) (H : Heap) : Prop := sa_Z A U H ∧ ∀ w ∈ sa_XW, va_Nw w U
/-- where a call begins -/
theorem sa_ZZ.call {A B : Nat → Prop} {s U : State} {H : Heap} {locs : List Loc} (h : sa_ZZ A s s.heap) (hS : va_S A s.heap H locs) (hAB : ∀ q, B q → A q) (hUH : U.heap = H) (hW : s.WarmedH U.vm) : sa_ZZ B U U.heap := by
  refine ⟨⟨?_, ?_⟩, sa_XW_warm hW h.2⟩
  · rw [hUH]; exact (vx_Zq.kept (vx_Zq.moved hW.alike h.1.1) (fun a h1 h2 => hS.2.1 a h1 h2)).narrow hAB
  · rw [hUH]; exact (vx_Zq.kept (vx_Zq.moved hW.alike h.1.2) (fun a h1 h2 => hS.2.1 a h1 h2)).narrow hAB
def sa_PX (D : va_G) (dA : Nat → ClassId) (cl : List vw_C) (sz : Nat) (V : sa_V) (K : sa_K) : Array Value → State → Prop := fun v U => sa_P D dA cl sz V K v U ∧ sa_ZZ (va_A (K.2.1.map (sa_e V dA)) sz) U U.heap
theorem sa_blindX {D : va_G} {dA : Nat → ClassId} {cl : List vw_C} {sz : Nat} {V : sa_V} {K : sa_K} : FrameBlind (sa_PX D dA cl sz V K) := by
  intro a U g mk q
  obtain ⟨q1, ⟨z1, z2⟩, z3⟩ := q
  exact ⟨sa_blind a U g mk q1, ⟨vx_Zq.moved (u := U) (U := U.calling g mk a) (Vm.Alike.refl U.vm) z1, vx_Zq.moved (u := U) (U := U.calling g mk a) (Vm.Alike.refl U.vm) z2⟩, fun w hw => va_Nw.same (sa_XW_on w hw) (u := U) (U := U.calling g mk a) rfl (z3 w hw)⟩
def sa_XC (A : Nat → Prop) : String → State → State → Prop := fun E st t => E = sa_NSE ∧ va_F A st t
def sa_MetX (l : Launch) (cl : List vw_C) (Ts : List Cond) (y : MethodName) (cc : ByteArray) (maxL : Nat) (ret : Option FieldType) (fr lc : Nat) (K : sa_K) : Prop :=
  ∀ (D : va_G) (dA : Nat → ClassId) (sz : Nat) (V : sa_V), sa_I V K.2.2.1 → vx_Met l y (Cond.code y cc maxL ret :: Ts) { frames := fr, cells := K.2.2.2.2.1, slots := K.2.2.2.2.2, locals := lc } (sa_PX D dA cl sz V K) (fun _ _ _ _ => False) (sa_XC (va_A (K.2.1.map (sa_e V dA)) sz)) K.2.2.2.2.1 K.2.2.2.2.2 (va_A (K.2.1.map (sa_e V dA)) sz)
def sa_finX (tp : List Nat) (K : sa_K) (S : sa_S) : Bool := tp.contains S.1 && decide (S.2.2.2.2.2.1 + 1 ≤ K.2.2.2.2.1) && decide (S.2.2.2.2.2.2 + 6 ≤ K.2.2.2.2.2) && decide ((S.2.2.1.map sa_cat).sum ≤ 8)
/-- what stands where a method throws -/
def sa_thr (Ts : List Cond) (own : String) (cc : ByteArray) (pc : Nat) : Prop := ∃ ik ic : Nat, decode cc pc = .ok (.new ik, 3) ∧ decode cc (pc + 3) = .ok (.dup, 1) ∧ decode cc (pc + 4) = .ok (.invokespecial ic, 3) ∧ decode cc (pc + 7) = .ok (.athrow, 1) ∧ Cond.classLink own ik sa_NSE ∈ Ts ∧ ∀ w ∈ vx_at0 own ic sa_NSE sa_nm, w ∈ Ts ∨ w ∈ sa_XW
theorem sa_methodX {l : Launch} (hl : l.stackTraces = false) {cl : List vw_C} {Ts : List Cond} {y : MethodName} {cc : ByteArray} {mL : Nat} {ret : Option FieldType} {fr lc : Nat} {K : sa_K} (hy : plainName y.cls = true) (hg : ∀ w ∈ Ts, goodWord w = true) (hini : Cond.initialized sa_NSE ∈ Ts) (tp : List Nat) (tab : List (Nat × sa_op)) (fuel : Nat) (hfr : 6 ≤ fr) (hlc : 100 ≤ lc)
    (hthr : ∀ pc ∈ tp, sa_thr Ts y.cls cc pc)
    (hops : ∀ (p : Program) (e : Env) (s : State) (m : MethodId) (args : Array Value) (below : List Frame) (meth : Method) (c : Code) (Q : State → Prop) (D : va_G) (dA : Nat → ClassId) (A : Nat → Prop) (n0 : Nat) (V0 : sa_V), sa_C p s m args c D dA A mL cl Ts cc y.cls → sa_U D cl dA s → meth.name = y.name → ∀ q ∈ tab, sa_snd p l e { frames := fr, cells := K.2.2.2.2.1, slots := K.2.2.2.2.2, locals := lc } s m args below meth c Q D dA A mL cl n0 V0 q.1 q.2)
    (hlen : (K.1.map sa_cat).sum ≤ mL) (hrun : sa_run (fun pc => sa_fd pc tab) (sa_finX tp K) fuel (0, sa_args 0 K.1, [], K.2.1, K.2.2.1, 0, 0) = true) : sa_MetX l cl Ts y cc mL ret fr lc K := by
  intro D dA sz V hI
  refine vx_ofW (cc := cc) (maxL := mL) (ret := ret) hy rfl ?_
  intro p e s m args below meth c s₁ B hml hno hv
  obtain ⟨⟨hargs, hsz, hP, hU, hD0⟩, ⟨hz1, hz2⟩, hz3⟩ := hv
  subst hargs
  have hts0 := atoms_spec (ws := Cond.code y cc mL ret :: Ts) B.pre
  have hts : ∀ w ∈ Ts, w.before (K.1.map (sa_val V)).toArray s = true := fun w hw => hts0 w (List.mem_cons_of_mem _ hw)
  have hown : s.vm.findClass y.cls = some m.cls := findClass_of_methodNamed B.named
  have hin : meth.name = y.name := (name_of_methodNamed B.named B.method).1
  subst hsz
  have hD := hD0.self (sz := s.heap.size)
  have hS : va_S (va_A (K.2.1.map (sa_e V dA)) s.heap.size) s.heap s.heap [] := va_S.rf
  have hl9 := lv_entry (K.1.map (sa_val V)) (n := mL) (by rw [sa_sl_len]; exact hlen)
  rw [sa_args_lv] at hl9
  rw [lg_entry_eq]
  have hC : sa_C p s m (K.1.map (sa_val V)).toArray c D dA (va_A (K.2.1.map (sa_e V dA)) s.heap.size) mL cl Ts cc y.cls := ⟨B.exec, B.bytes, hts, hown, hml, hU.1, fun q h => Or.inr h⟩
  have hW := sa_run_ok (p := p) (l := l) (e := e) (R := { frames := fr, cells := K.2.2.2.2.1, slots := K.2.2.2.2.2, locals := lc }) (s := s) (m := m) (args := (K.1.map (sa_val V)).toArray) (below := below) (meth := meth) (c := c) (Q := vx_MQ below (fun _ _ _ _ => False) (sa_XC (va_A (K.2.1.map (sa_e V dA)) s.heap.size)) (K.1.map (sa_val V)).toArray s K.2.2.2.2.1 K.2.2.2.2.2 (va_A (K.2.1.map (sa_e V dA)) s.heap.size)) (D := D) (dA := dA) (A := va_A (K.2.1.map (sa_e V dA)) s.heap.size) (nL := mL) (cl := cl) (n0 := K.2.2.1.length) (V0 := V)
    (fun pc op h => hops p e s m _ below meth c _ D dA _ _ V hC hU hin (pc, op) (sa_fd_mem h)) (fun S _ h => by
      obtain ⟨pc, lo, st, cs, G, kc, ks⟩ := S
      intro V1 H locs ls hG
      simp only [sa_finX, Bool.and_eq_true, decide_eq_true_eq] at h
      obtain ⟨⟨⟨h1, h2⟩, h3⟩, h4⟩ := h
      have hpc : pc ∈ tp := by simpa using h1
      obtain ⟨ik, ic, d0, d3, d4, d7, hck, hat⟩ := hthr pc hpc
      have hxw : ∀ w ∈ sa_XW, w.before (K.1.map (sa_val V)).toArray s = true := fun w hw => va_Nw.use (sa_XW_on w hw) (hz3 w hw)
      exact vx_throw0 (cls := sa_NSE) (names := sa_nm) B.exec B.bytes hl hown (by decide +kernel) (by decide +kernel) (hts _ hck) (hts _ hini) (fun w hw => (hat w hw).elim (hts w) (hxw w))
        (fun w hw => by
          rcases List.mem_cons.mp hw with rfl | hw
          · rfl
          · rcases List.mem_cons.mp hw with rfl | hw
            · rfl
            · rcases hat w hw with h9 | h9
              · unfold vx_ot; rw [hg w h9, Bool.or_true]
              · unfold vx_ot; rw [sa_XW_on w h9, Bool.true_or])
        hz1 hz2 hG.2.2.2.2 (by rw [hml]; exact hG.2.1.1) d0 d3 d4 d7 (fun x hx => (hno x hx).elim) (show 2 + 3 < fr by omega) (by
          rw [sa_sum]
          have e9 : (13 * (sa_nm.length + 1) + 42) = 81 := rfl
          rw [e9]
          show (st.map sa_cat).sum + 81 ≤ lc
          have h4 : (st.map sa_cat).sum ≤ 8 := h4
          omega) h2 h3 B.notSynchronized (fun t _ t1 t2 => ⟨rfl, Nat.le_trans hG.2.2.2.2.1 t1, fun q q1 q2 => (t2 q (Nat.lt_of_lt_of_le q1 hG.2.2.2.2.1)).trans (hG.2.2.2.2.2.1 q q1 q2)⟩) (fun z hz => hG.2.2.2.2.2.2 z hz) h2 h3) fuel _ hrun
  exact hW V s.heap [] _ ⟨⟨hI, Nat.le_refl _, fun _ _ => rfl⟩, hl9, hP, hD, hS⟩
end SAT
end
section
section SAC
/-- behind a call -/
theorem sa_call_okF {p : Program} {l : Launch} {e : Env} {R : Room} {s : State} {m : MethodId} {args : Array Value} {below : List Frame} {meth : Method} {c : Code} {Q : State → Prop} {D : va_G} {dA : Nat → ClassId} {A : Nat → Prop} {nL : Nat} {cl : List vw_C} {n0 : Nat} {V0 : sa_V} {K : sa_K} {maxC maxS pc : Nat} {lo : sa_L} {st : List sa_v} {cs : List sa_c} {G : sa_B} {kc ks : Nat} {sts : List sa_S} {V : sa_V} {H : Heap} {locs : List Loc} {ls : Array Slot} {a : Array Value}
    (hA : ∀ q, s.heap.size ≤ q → A q) (h : so_call K maxC maxS (pc, lo, st, cs, G, kc, ks) = some sts) (k : ∀ S' ∈ sts, sa_W p l e R s m args below meth c Q D dA A nL cl n0 V0 S') (hG : sa_G D dA A nL cl n0 V0 s.heap V lo cs G H locs ls)
    (vr : ∀ (As rest : List sa_v) (V1 : sa_V), st = As.reverse ++ rest → As.map (sa_val V) = K.1.map (sa_val V1) → As.length = K.1.length → sa_I V1 K.2.2.1 → ((rest.map (sa_val V)).map (fun v => v.category)).sum ≤ 8 → va_P D cl (K.2.1.map (sa_e V1 dA)) H → va_D (fun _ => True) (K.2.1.map (sa_e V1 dA)) → (∀ q, va_A (K.2.1.map (sa_e V1 dA)) H.size q → A q) → kc + K.2.2.2.2.1 ≤ maxC → ks + K.2.2.2.2.2 ≤ maxS →
      va_Run p l e R s m args below meth c H locs kc ks K.2.2.2.2.1 K.2.2.2.2.2 (F0 m pc ls (st.map (sa_val V))) (rest.map (sa_val V)) (sa_Q D dA cl H.size V1 K a) (va_A (K.2.1.map (sa_e V1 dA)) H.size)) :
    W p l e R s m args below meth c H locs kc ks Q (F0 m pc ls (st.map (sa_val V))) := by
  unfold so_call at h
  dsimp only at h
  split at h
  · rename_i hh
    obtain ⟨hlen, hfit⟩ := hh
    generalize hr : sa_rof K (pc, lo, st, cs, G, kc, ks) = r at h hfit
    generalize hC : sa_cof K (pc, lo, st, cs, G, kc, ks) r = isC at h hfit
    generalize has : (st.take K.1.length).reverse = As at hfit
    generalize hre : st.drop K.1.length = rest at h hfit
    simp only [sa_fitK, Bool.and_eq_true, decide_eq_true_eq] at hfit
    obtain ⟨⟨⟨⟨⟨⟨⟨⟨f1, f2⟩, f3⟩, f4⟩, f5⟩, f6⟩, f7⟩, f8⟩, f9⟩ := hfit
    cases h
    have hst : st = As.reverse ++ rest := by rw [← has, ← hre, List.reverse_reverse, List.take_append_drop]
    have hwf := f9
    simp only [sa_wf, Bool.and_eq_true, decide_eq_true_eq] at hwf
    obtain ⟨⟨⟨w0, w1⟩, w2⟩, w3⟩ := hwf
    -- the callee's start
    have b4 : ∀ j b, K.2.2.1[j]? = some b → (sa_sb r j).1 < G.length ∧ b.1 ≤ (sa_pl V (sa_sb r) j).1 ∧ (sa_pl V (sa_sb r) j).1 ≤ b.2 := by
      intro j b hj
      have hjl := (List.getElem?_eq_some_iff.mp hj).1
      have h4 := List.all_eq_true.mp f4 j (List.mem_range.mpr hjl)
      rw [hj] at h4
      split at h4
      · rename_i b1 b' e1 e2
        cases e1
        have h4 := of_decide_eq_true h4
        obtain ⟨g1, g2⟩ := hG.1.1.1 _ _ e2
        refine ⟨(List.getElem?_eq_some_iff.mp e2).1, ?_, ?_⟩
        · show b.1 ≤ (V _).1 + _
          omega
        · show (V _).1 + _ ≤ b.2
          omega
      · cases h4
    have hI1 : sa_I (sa_pl V (sa_sb r)) K.2.2.1 := by
      refine ⟨fun j b hj => (b4 j b hj).2, ?_⟩
      show (V (sa_sb r 0).1).1 + (sa_sb r 0).2 = 0
      rw [f8]
      show (V 0).1 + 0 = 0
      rw [hG.1.1.2]
      rfl
    have hCe : isC.map (fun i => (cs.map (sa_e V dA))[i]?) = (K.2.1.map (sa_e (sa_pl V (sa_sb r)) dA)).map some := by
      have := congrArg (List.map (Option.map (sa_e V dA))) (sa_eql_ok f2)
      rw [List.map_map, List.map_map, List.map_map] at this
      rw [List.map_map]
      refine Eq.trans (List.map_congr_left (fun i _ => ?_)) (this.trans (List.map_congr_left (fun q _ => ?_)))
      · show (cs.map (sa_e V dA))[i]? = Option.map (sa_e V dA) cs[i]?
        rw [List.getElem?_map]
      · show some (sa_e V dA (sa_sc (sa_sb r) q)) = some (sa_e (sa_pl V (sa_sb r)) dA q)
        rw [sa_e_pl]
    have hP1 := hG.2.2.1.sub isC (sa_fm hCe)
    have hD1 := (hG.2.2.2.1.sub isC f3 hCe)
    have hF := va_free (wc := K.2.1.map (sa_e (sa_pl V (sa_sb r)) dA)) hG.2.2.2.1 hG.2.2.2.2 hA isC hCe
    have hargs : As.map (sa_val V) = K.1.map (sa_val (sa_pl V (sa_sb r))) := by
      rw [← f1, List.map_map]
      exact List.map_congr_left (fun v _ => sa_val_pl V _ v)
    have hAl : As.length = K.1.length := by rw [← f1, List.length_map]
    have vrun := vr As rest (sa_pl V (sa_sb r)) hst hargs hAl hI1 (by rw [sa_sum]; exact f5) hP1 (hD1.weaken (fun _ _ _ _ => trivial)) hF f6 f7
    intro T hT X
    obtain ⟨v, st₀, t, T', L, t0, X', hL, e1, e2, ⟨⟨o, ho, V', hV', hI', hoc, hPo, hDo⟩, hz, hkk⟩, stp⟩ := vrun T hT X
    rw [t0] at hz hkk
    obtain ⟨Vn, hVn⟩ : ∃ Vn : sa_V, Vn = (fun j => if j < G.length then V j else V' (K.2.2.1.length + (j - G.length))) := ⟨_, rfl⟩
    have vlt : ∀ j, j < G.length → Vn j = V j := fun j hj => by rw [hVn]; exact if_pos hj
    have vge : ∀ j, Vn (G.length + j) = V' (K.2.2.1.length + j) := fun j => by
      rw [hVn]
      show (if G.length + j < G.length then _ else _) = _
      rw [if_neg (by omega), show G.length + j - G.length = j by omega]
    have hVV : V' = sa_pl Vn (sa_g2 r K.2.2.1.length G.length) := by
      funext j
      by_cases hj : j < K.2.2.1.length
      · have hj2 := (b4 j _ (List.getElem?_eq_getElem hj)).1
        unfold sa_pl sa_g2
        rw [if_pos hj, vlt _ hj2, hV' j hj]
        rfl
      · unfold sa_pl sa_g2
        rw [if_neg hj]
        show _ = ((Vn (G.length + (j - K.2.2.1.length))).1 + 0, (Vn (G.length + (j - K.2.2.1.length))).2)
        rw [vge, show K.2.2.1.length + (j - K.2.2.1.length) = j by omega, Int.add_zero]
    have agree : ∀ v : sa_v, sa_wfv G.length v = true → sa_val Vn v = sa_val V v := by
      intro v hv
      rcases v with q | (_ | j) | j
      · show Value.int (Int32.ofInt ((Vn q.1).1 + q.2)) = _
        rw [vlt _ (of_decide_eq_true hv)]
        rfl
      · rfl
      · show Value.ref (Vn j).2.2.2 = _
        rw [vlt _ (of_decide_eq_true hv)]
        rfl
      · show Value.long (Vn j).2.1 = _
        rw [vlt _ (of_decide_eq_true hv)]
        rfl
    have agreeC : ∀ q : sa_c, sa_wfc G.length q = true → sa_e Vn dA q = sa_e V dA q := by
      intro q hq
      obtain ⟨j, o9 | a9⟩ := q
      · simp only [sa_wfc, Bool.and_eq_true, decide_eq_true_eq, List.all_eq_true] at hq
        show (sa_ad Vn j, Sum.inr (o9.1, o9.2.map (sa_val Vn))) = (sa_ad V j, Sum.inr (o9.1, o9.2.map (sa_val V)))
        unfold sa_ad
        rw [vlt _ hq.1]
        congr 3
        exact List.map_congr_left (fun v hv => agree v (hq.2 v hv))
      · simp only [sa_wfc, Bool.and_eq_true, decide_eq_true_eq] at hq
        have ha : sa_arr Vn a9.2 = sa_arr V a9.2 := by
          obtain ⟨hq1, hq2⟩ := hq
          obtain ⟨t9, l9 | q9 | l9⟩ := a9
          · have hh : ∀ q ∈ l9, q.1 < G.length := fun q hq => of_decide_eq_true (List.all_eq_true.mp hq2 q hq)
            show (l9.length, _) = (l9.length, _)
            congr 2
            funext i
            unfold sa_f
            split
            · rename_i q hq
              unfold sa_i
              rw [vlt _ (hh q (List.mem_of_getElem? hq))]
            · rfl
          · have hh : q9.2 < G.length := of_decide_eq_true hq2
            show (q9.1, _) = (q9.1, _)
            rw [vlt _ hh]
          · have hh : ∀ o ∈ l9, _ := List.all_eq_true.mp hq2
            show (l9.length, _) = (l9.length, _)
            congr 5
            funext i
            unfold sa_g
            rw [List.getD_eq_getElem?_getD]
            cases hj : l9[i]? with
            | none => rfl
            | some o =>
              cases o with
              | none => rfl
              | some k9 =>
                have hk9 : k9 < G.length := of_decide_eq_true (hh _ (List.mem_of_getElem? hj))
                show some (sa_ad _ _) = some (sa_ad _ _)
                unfold sa_ad
                rw [vlt _ hk9]
        show (sa_ad Vn j, Sum.inl (dA a9.1, sa_arr Vn a9.2)) = (sa_ad V j, Sum.inl (dA a9.1, sa_arr V a9.2))
        rw [ha]
        unfold sa_ad
        rw [vlt _ hq.1]
    -- the cells
    have hmemR : ∀ q ∈ (sa_rest cs isC).filterMap (fun i => cs[i]?), sa_wfc G.length q = true := by
      intro q hq
      obtain ⟨i, -, hi⟩ := List.mem_filterMap.mp hq
      exact List.all_eq_true.mp w3 q (List.mem_of_getElem? hi)
    have hRe : (sa_rest cs isC).map (fun i => (cs.map (sa_e V dA))[i]?) = (((sa_rest cs isC).filterMap (fun i => cs[i]?)).map (sa_e Vn dA)).map some := by
      have key : ∀ l : List Nat, (∀ i ∈ l, i < cs.length) → l.map (fun i => cs[i]?) = (l.filterMap (fun i => cs[i]?)).map some := by
        intro l
        induction l with
        | nil => intro _; rfl
        | cons i l ih =>
          intro hl
          have hi := hl i List.mem_cons_self
          rw [List.map_cons, List.filterMap_cons_some (List.getElem?_eq_getElem hi), List.map_cons, ih (fun j hj => hl j (List.mem_cons_of_mem _ hj)), List.getElem?_eq_getElem hi]
      have h1 := key (sa_rest cs isC) (fun i hi => List.mem_range.mp (List.mem_filter.mp hi).1)
      have h2 := congrArg (List.map (Option.map (sa_e V dA))) h1
      rw [List.map_map, List.map_map] at h2
      rw [List.map_map]
      refine Eq.trans (List.map_congr_left (fun i _ => ?_)) (h2.trans (List.map_congr_left (fun q hq => ?_)))
      · show (cs.map (sa_e V dA))[i]? = Option.map (sa_e V dA) cs[i]?
        rw [List.getElem?_map]
      · show some (sa_e V dA q) = some (sa_e Vn dA q)
        rw [agreeC q (hmemR q hq)]
    obtain ⟨hPj, hDj⟩ := va_join (H1 := T'.heap) hG.2.2.1 hG.2.2.2.1 isC (sa_rest cs isC) hCe hRe (sa_nd_filter _ _) (fun i hi hi2 => by
      have := (List.mem_filter.mp hi).2
      simp at this
      exact this hi2) (fun q h1 h2 => by rw [e1]; exact hkk q h1 h2) hF (by rw [← e1] at hPo; exact hPo) hDo
    have hcells : ((sa_rest cs isC).filterMap (fun i => cs[i]?) ++ o.2.1.map (sa_sc (sa_g2 r K.2.2.1.length G.length))).map (sa_e Vn dA) = ((sa_rest cs isC).filterMap (fun i => cs[i]?)).map (sa_e Vn dA) ++ o.2.1.map (sa_e V' dA) := by
      rw [List.map_append, List.map_map]
      congr 1
      apply List.map_congr_left
      intro q _
      rw [hVV]
      exact sa_e_pl Vn _ dA q
    rw [← hcells] at hPj hDj
    -- the bounds
    have hIV : sa_I Vn G := ⟨fun i b hi => by rw [vlt i (List.getElem?_eq_some_iff.mp hi).1]; exact hG.1.1.1 i b hi, by rw [vlt 0 w0]; exact hG.1.1.2⟩
    obtain ⟨hrf1, hrf2⟩ := sa_rf_ok (V := Vn) (r := r) (Go := o.2.2) (List.range K.2.2.1.length) G hIV (fun j hj b hb => by
      have hjl := List.mem_range.mp hj
      have hj2 := (b4 j _ (List.getElem?_eq_getElem hjl)).1
      have h9 := hI'.1 j b hb
      rw [hV' j hjl] at h9
      rw [vlt _ hj2]
      exact h9)
    have hIn : sa_I Vn (sa_rf r o.2.2 (List.range K.2.2.1.length) G ++ o.2.2.drop K.2.2.1.length) := by
      refine ⟨fun i b hi => ?_, hIV.2⟩
      by_cases hl : i < G.length
      · rw [List.getElem?_append_left (by rw [hrf2]; exact hl)] at hi
        exact hrf1.1 i b hi
      · rw [List.getElem?_append_right (by rw [hrf2]; omega), hrf2, List.getElem?_drop] at hi
        have h9 := hI'.1 _ b hi
        have e9 : Vn i = V' (K.2.2.1.length + (i - G.length)) := by
          have := vge (i - G.length)
          rwa [show G.length + (i - G.length) = i by omega] at this
        rw [e9]
        exact h9
    -- the state behind it
    have hk9 := k (sa_end K (pc, lo, st, cs, G, kc, ks) r isC rest o) (List.mem_filter.mpr ⟨List.mem_map.mpr ⟨o, ho, rfl⟩, List.all_eq_true.mpr (fun b hb9 => decide_eq_true (by
      obtain ⟨i9, hi9⟩ := List.getElem?_of_mem hb9
      have h9 := hIn.1 i9 b hi9
      omega))⟩)
    have hSn : va_S A s.heap T'.heap (locs ++ L) := ⟨Nat.le_trans hG.2.2.2.2.1 (by rw [e1]; exact hz), fun q h1 h2 => by rw [e1, hkk q (Nat.lt_of_lt_of_le h1 hG.2.2.2.2.1) (fun z => h2 (hF q z))]; exact hG.2.2.2.2.2.1 q h1 h2, fun q hq => by
      rcases List.mem_append.mp hq with h | h
      · exact hG.2.2.2.2.2.2 q h
      · exact hF _ (hL q h)⟩
    have hlv : sa_lv Vn lo = sa_lv V lo := List.map_congr_left (fun q hq => by rw [agree _ (List.all_eq_true.mp w1 q hq)])
    have hrs : rest.map (sa_val Vn) = rest.map (sa_val V) := List.map_congr_left (fun q hq => agree _ (List.all_eq_true.mp w2 q hq))
    have hWn := hk9 Vn T'.heap (locs ++ L) ls ⟨⟨hIn, by show n0 ≤ (sa_rf r o.2.2 (List.range K.2.2.1.length) G ++ o.2.2.drop K.2.2.1.length).length; rw [List.length_append, hrf2]; exact Nat.le_trans hG.1.2.1 (Nat.le_add_right _ _), fun j hj => by rw [vlt j (Nat.lt_of_lt_of_le hj hG.1.2.1)]; exact hG.1.2.2 j hj⟩, by show lv_has ls nL (sa_lv Vn lo); rw [hlv]; exact hG.2.1, hPj, hDj, hSn⟩
    obtain ⟨t2, a1, b1⟩ := hWn T' rfl X'
    refine ⟨t2, stp t2 ?_, b1⟩
    have hv : v = o.1.map (sa_val V') := Outcome.returned.inj hoc
    have hstk : (match o.1 with | some v => sa_sv (sa_g2 r K.2.2.1.length G.length) v :: rest | none => rest).map (sa_val Vn) = v.toList ++ rest.map (sa_val V) := by
      rw [hv]
      cases o.1 with
      | none => exact hrs
      | some u =>
        show sa_val Vn (sa_sv _ u) :: rest.map (sa_val Vn) = sa_val V' u :: rest.map (sa_val V)
        rw [hrs, sa_val_pl, ← hVV]
    have a2 : Steps p.tables e below (T'.setTop (F0 m (pc + 3) ls ((match o.1 with | some v => sa_sv (sa_g2 r K.2.2.1.length G.length) v :: rest | none => rest).map (sa_val Vn)))) t2 := a1
    rw [hstk] at a2
    exact a2
  · cases h
/-- a call that throws, and is caught here -/
def so_callX (ci : Nat) (K : sa_K) (hp maxC maxS : Nat) : sa_op := fun S => match (S.2.2.1.take K.1.length).reverse with
  | .inr (.inl (some a)) :: _ => match sa_find a S.2.2.2.1 0 with
    | some (_, .inl (cj, _)) => if cj = ci ∧ K.1.length ≤ S.2.2.1.length ∧ sa_fitK K S (sa_rof K S) (sa_cof K S (sa_rof K S)) (S.2.2.1.take K.1.length).reverse (S.2.2.1.drop K.1.length) maxC maxS = true then some [(hp, S.2.1, [.inr (.inl (some S.2.2.2.2.1.length))], (sa_rest S.2.2.2.1 (sa_cof K S (sa_rof K S))).filterMap (fun i => S.2.2.2.1[i]?), S.2.2.2.2.1 ++ [(0, 0)], S.2.2.2.2.2.1 + K.2.2.2.2.1, S.2.2.2.2.2.2 + K.2.2.2.2.2)] else none
    | _ => none
  | _ => none
theorem sn_callX {p : Program} {l : Launch} {e : Env} {R : Room} {s : State} {m : MethodId} {args : Array Value} {below : List Frame} {meth : Method} {c : Code} {Q : State → Prop} {D : va_G} {dA : Nat → ClassId} {A : Nat → Prop} {nL : Nat} {cl : List vw_C} {n0 : Nat} {V0 : sa_V} {Ts : List Cond} {cc : ByteArray} {own : String} (C0 : sa_C p s m args c D dA A nL cl Ts cc own) {pc : Nat} {K : sa_K} {y : MethodName} {cy : ByteArray} {mL fr lc idx n maxC maxS hp : Nat} {ret : Option FieldType} {ci N : Nat} {T : u_T} {xe : ExceptionTableEntry} (hU : sa_U D cl dA s) (hg : ∀ w ∈ Ts, goodWord w = true) (hM : sa_MetX l cl Ts y cy mL ret fr lc K) (hcode : Cond.code y cy mL ret ∈ Ts)
    (hd : decode cc pc = .ok (.invokevirtual idx, 3)) (w1 : Cond.methodLink own idx y ∈ Ts) (w2 : Cond.instanceMethod y ∈ Ts) (w3 : Cond.selects y.cls y y ∈ Ts) (w4 : Cond.initialized y.cls ∈ Ts) (hcl : cl[ci]? = some (y.cls, T, N)) (hy : sa_arg y n) (hn : K.1.length = n + 1) (hR : fr + 1 ≤ R.frames ∧ 8 + (mL + 11) + lc ≤ R.locals) (hC : maxC ≤ R.cells) (hS0 : maxS ≤ R.slots)
    (hZ : sa_ZZ A s s.heap) (hsplit : c.exceptionTable.toList = [xe]) (hcov : covers xe pc = true) (hct : xe.catchType ≠ 0) (hlk : Cond.classLink own xe.catchType sa_NSE ∈ Ts) (hhp : xe.handlerPc = hp) : sa_snd p l e R s m args below meth c Q D dA A nL cl n0 V0 pc (so_callX ci K hp maxC maxS) := by
  obtain ⟨hx, hb, hts, hown, hml, hK, hA⟩ := C0
  rintro ⟨pc, lo, st, cs, G, kc, ks⟩ sts rfl h k V H locs ls hG
  unfold so_callX at h
  dsimp only at h
  split at h
  · rename_i b As0 heq
    split at h
    · rename_i j cj fs hj
      split at h
      · rename_i hh
        obtain ⟨hcj, hlen, hfit⟩ := hh
        subst hcj
        generalize hr : sa_rof K (pc, lo, st, cs, G, kc, ks) = r at h hfit
        generalize hC9 : sa_cof K (pc, lo, st, cs, G, kc, ks) r = isC at h hfit
        generalize hre : st.drop K.1.length = rest at hfit
        rw [heq] at hfit
        simp only [sa_fitK, Bool.and_eq_true, decide_eq_true_eq] at hfit
        obtain ⟨⟨⟨⟨⟨⟨⟨⟨f1, f2⟩, f3⟩, f4⟩, f5⟩, f6⟩, f7⟩, f8⟩, f9⟩ := hfit
        cases h
        have hst : st = (.inr (.inl (some b)) :: As0).reverse ++ rest := by rw [← heq, ← hre, List.reverse_reverse, List.take_append_drop]
        have hwf := f9
        simp only [sa_wf, Bool.and_eq_true, decide_eq_true_eq] at hwf
        obtain ⟨⟨⟨wf0, wf1⟩, wf2⟩, wf3⟩ := hwf
        have b4 : ∀ j b, K.2.2.1[j]? = some b → b.1 ≤ (sa_pl V (sa_sb r) j).1 ∧ (sa_pl V (sa_sb r) j).1 ≤ b.2 := by
          intro j b hj
          have hjl := (List.getElem?_eq_some_iff.mp hj).1
          have h4 := List.all_eq_true.mp f4 j (List.mem_range.mpr hjl)
          rw [hj] at h4
          split at h4
          · rename_i b1 b' e1 e2
            cases e1
            have h4 := of_decide_eq_true h4
            obtain ⟨g1, g2⟩ := hG.1.1.1 _ _ e2
            refine ⟨?_, ?_⟩
            · show b.1 ≤ (V _).1 + _
              omega
            · show (V _).1 + _ ≤ b.2
              omega
          · cases h4
        have hI1 : sa_I (sa_pl V (sa_sb r)) K.2.2.1 := by
          refine ⟨b4, ?_⟩
          show (V (sa_sb r 0).1).1 + (sa_sb r 0).2 = 0
          rw [f8]
          show (V 0).1 + 0 = 0
          rw [hG.1.1.2]
          rfl
        have hCe : isC.map (fun i => (cs.map (sa_e V dA))[i]?) = (K.2.1.map (sa_e (sa_pl V (sa_sb r)) dA)).map some := by
          have := congrArg (List.map (Option.map (sa_e V dA))) (sa_eql_ok f2)
          rw [List.map_map, List.map_map, List.map_map] at this
          rw [List.map_map]
          refine Eq.trans (List.map_congr_left (fun i _ => ?_)) (this.trans (List.map_congr_left (fun q _ => ?_)))
          · show (cs.map (sa_e V dA))[i]? = Option.map (sa_e V dA) cs[i]?
            rw [List.getElem?_map]
          · show some (sa_e V dA (sa_sc (sa_sb r) q)) = some (sa_e (sa_pl V (sa_sb r)) dA q)
            rw [sa_e_pl]
        have hP1 := hG.2.2.1.sub isC (sa_fm hCe)
        have hD1 := (hG.2.2.2.1.sub isC f3 hCe)
        have hF := va_free (wc := K.2.1.map (sa_e (sa_pl V (sa_sb r)) dA)) hG.2.2.2.1 hG.2.2.2.2 hA isC hCe
        have hargs : (.inr (.inl (some b)) :: As0 : List sa_v).map (sa_val V) = K.1.map (sa_val (sa_pl V (sa_sb r))) := by
          rw [← f1, List.map_map]
          exact List.map_congr_left (fun v _ => sa_val_pl V _ v)
        have hAl : As0.length = n := by
          have := congrArg List.length f1
          rw [List.length_map, List.length_cons, hn] at this
          omega
        have rv := va_recv (D := D) hK hG.2.2.1 hcl (sa_find_0 (V := V) (dA := dA) hj)
        have hrun := vx_runV (p := p) (e := e) (m := m) (below := below) (meth := meth) (c := c) (H := H) (locs := locs) (cells := kc) (slots := ks) (C := y.cls) (bytes := cy) (maxL := mL) (ret := ret) (b := sa_ad V b) (As := As0.map (sa_val V)) (rest := rest.map (sa_val V)) (n := n) (g := F0 m pc ls (st.map (sa_val V))) ⟨hx, hb, hml, hown, hts⟩ (hM D dA H.size (sa_pl V (sa_sb r)) hI1) (cwV n hts (sa_goodV hg hcode (by intro u hu; simp only [List.mem_cons, List.not_mem_nil, or_false] at hu; rcases hu with rfl | rfl | rfl | rfl <;> assumption)) rfl rfl rfl ⟨rfl, hy⟩ hR)
          ⟨sa_blindX, rv, fun U hUH hW => ⟨sa_pre hU hargs hP1 (hD1.weaken (fun _ _ _ _ => trivial)) U hUH hW, sa_ZZ.call hZ hG.2.2.2.2 hF hUH hW⟩⟩ rfl (by rw [List.length_map]; exact hAl) hG.2.1.1 (by show st.map (sa_val V) = _; rw [hst]; exact sa_stk) (lv_room (by rw [sa_sum]; exact f5)) hd ⟨Nat.le_trans f6 hC, Nat.le_trans f7 hS0⟩
        intro T9 hT9 X9
        rcases hrun T9 hT9 X9 with ⟨v, st₀, t, T', L, t0, X', hL, e1, e2, hq, stp⟩ | ⟨q, st₀, t, T', L, E, ce, t0, X', hL, e1, e2, ⟨hE, hz, hkk⟩, hce, hcv, hcls, stp⟩
        · exact hq.elim
        · subst hE
          rw [t0] at hz hkk
          have hmemR : ∀ q ∈ (sa_rest cs isC).filterMap (fun i => cs[i]?), sa_wfc G.length q = true := by
            intro q hq
            obtain ⟨i, -, hi⟩ := List.mem_filterMap.mp hq
            exact List.all_eq_true.mp wf3 q (List.mem_of_getElem? hi)
          have hRe : (sa_rest cs isC).map (fun i => (cs.map (sa_e V dA))[i]?) = (((sa_rest cs isC).filterMap (fun i => cs[i]?)).map (sa_e V dA)).map some := by
            have key : ∀ l : List Nat, (∀ i ∈ l, i < cs.length) → l.map (fun i => cs[i]?) = (l.filterMap (fun i => cs[i]?)).map some := by
              intro l
              induction l with
              | nil => intro _; rfl
              | cons i l ih =>
                intro hl
                have hi := hl i List.mem_cons_self
                rw [List.map_cons, List.filterMap_cons_some (List.getElem?_eq_getElem hi), List.map_cons, ih (fun j hj => hl j (List.mem_cons_of_mem _ hj)), List.getElem?_eq_getElem hi]
            have h1 := key (sa_rest cs isC) (fun i hi => List.mem_range.mp (List.mem_filter.mp hi).1)
            have h2 := congrArg (List.map (Option.map (sa_e V dA))) h1
            rw [List.map_map, List.map_map] at h2
            rw [List.map_map]
            refine Eq.trans (List.map_congr_left (fun i _ => ?_)) h2
            show (cs.map (sa_e V dA))[i]? = Option.map (sa_e V dA) cs[i]?
            rw [List.getElem?_map]
          obtain ⟨hPj, hDj⟩ := va_join (H1 := T'.heap) (w1 := []) hG.2.2.1 hG.2.2.2.1 isC (sa_rest cs isC) hCe hRe (sa_nd_filter _ _) (fun i hi hi2 => by
            have := (List.mem_filter.mp hi).2
            simp at this
            exact this hi2) (fun q h1 h2 => by rw [e1]; exact hkk q h1 h2) hF (fun k q h => by simp at h) ⟨fun i j p q h => by simp at h, fun k q h => by simp at h⟩
          rw [List.append_nil] at hPj hDj
          have hSn : va_S A s.heap T'.heap (locs ++ L) := ⟨Nat.le_trans hG.2.2.2.2.1 (by rw [e1]; exact hz), fun q h1 h2 => by rw [e1, hkk q (Nat.lt_of_lt_of_le h1 hG.2.2.2.2.1) (fun z => h2 (hF q z))]; exact hG.2.2.2.2.2.1 q h1 h2, fun q hq => by
            rcases List.mem_append.mp hq with h | h
            · exact hG.2.2.2.2.2.2 q h
            · exact hF _ (hL q h)⟩
          have hG2 : sa_G D dA A nL cl n0 V0 s.heap V lo ((sa_rest cs isC).filterMap (fun i => cs[i]?)) G T'.heap (locs ++ L) ls := ⟨hG.1, hG.2.1, hPj, hDj, hSn⟩
          have hw9 : sa_wf G.length lo [] ((sa_rest cs isC).filterMap (fun i => cs[i]?)) = true := by
            simp only [sa_wf, Bool.and_eq_true, decide_eq_true_eq]
            exact ⟨⟨⟨wf0, wf1⟩, rfl⟩, List.all_eq_true.mpr hmemR⟩
          obtain ⟨g1, -⟩ := sa_G_upd (x := (0, 0, fun _ => 0, q)) (b := (0, 0)) hG2 hw9 ⟨Int.le_refl _, Int.le_refl _⟩
          have hWk := k _ List.mem_cons_self _ T'.heap (locs ++ L) ls g1
          have hWk2 : W p l e R s m args below meth c T'.heap (locs ++ L) (kc + K.2.2.2.2.1) (ks + K.2.2.2.2.2) Q (F0 m xe.handlerPc ls [.ref q]) := by
            rw [hhp]
            have e5 : sa_val (sa_upd V G.length (0, 0, fun _ => 0, q)) (.inr (.inl (some G.length))) = .ref q := by
              show Value.ref (sa_ad _ _) = _
              unfold sa_ad
              rw [sa_upd_eq]
            have h5 : W p l e R s m args below meth c T'.heap (locs ++ L) (kc + K.2.2.2.2.1) (ks + K.2.2.2.2.2) Q (F0 m hp ls [sa_val (sa_upd V G.length (0, 0, fun _ => 0, q)) (.inr (.inl (some G.length)))]) := hWk
            rw [e5] at h5
            exact h5
          have hcast : (Cond.castable sa_NSE sa_NSE).before args s = true := va_Nw.use rfl (hZ.2 _ (List.mem_cons_self))
          obtain ⟨t2, a1, b1⟩ := sa_caught (pc := pc) (rest := rest.map (sa_val V)) hown hsplit hcov hct (hts _ hlk) hcast (by rw [e1]; exact hce) hcv hcls hWk2 T' rfl X'
          exact ⟨t2, stp.trans a1, b1⟩
      · cases h
    · cases h
  · cases h
/-- a method with a table of its own, that returns -/
def sa_MetH (l : Launch) (cl : List vw_C) (Ts : List Cond) (y : MethodName) (cc : ByteArray) (maxL : Nat) (ret : Option FieldType) (hh : List (Nat × Nat × Nat × Nat)) (fr lc : Nat) (K : sa_K) : Prop :=
  ∀ (D : va_G) (dA : Nat → ClassId) (sz : Nat) (V : sa_V), sa_I V K.2.2.1 → Met l y (Cond.codeWith y cc maxL ret hh :: Ts) { frames := fr, cells := K.2.2.2.2.1, slots := K.2.2.2.2.2, locals := lc } (sa_PX D dA cl sz V K) (sa_Q D dA cl sz V K) K.2.2.2.2.1 K.2.2.2.2.2 (va_A (K.2.1.map (sa_e V dA)) sz)
theorem sa_methodH {l : Launch} {cl : List vw_C} {Ts : List Cond} {y : MethodName} {cc : ByteArray} {mL : Nat} {ret : Option FieldType} {hh : List (Nat × Nat × Nat × Nat)} {fr lc : Nat} {K : sa_K} (hy : plainName y.cls = true) (rets : List Nat) (tab : List (Nat × sa_op)) (fuel : Nat)
    (hd : ∀ pc ∈ rets, decode cc pc = .ok (sa_ri ret, 1))
    (hops : ∀ (p : Program) (e : Env) (s : State) (m : MethodId) (args : Array Value) (below : List Frame) (meth : Method) (c : Code) (Q : State → Prop) (D : va_G) (dA : Nat → ClassId) (A : Nat → Prop) (n0 : Nat) (V0 : sa_V), sa_C p s m args c D dA A mL cl Ts cc y.cls → sa_U D cl dA s → sa_ZZ A s s.heap → c.exceptionTable.toList = tableOf hh → ∀ q ∈ tab, sa_snd p l e { frames := fr, cells := K.2.2.2.2.1, slots := K.2.2.2.2.2, locals := lc } s m args below meth c Q D dA A mL cl n0 V0 q.1 q.2)
    (hlen : (K.1.map sa_cat).sum ≤ mL) (hrun : sa_run (fun pc => sa_fd pc tab) (sa_fin rets ret K) fuel (0, sa_args 0 K.1, [], K.2.1, K.2.2.1, 0, 0) = true) : sa_MetH l cl Ts y cc mL ret hh fr lc K := by
  intro D dA sz V hI
  refine va_MetW (cc := cc) (maxL := mL) (ret := ret) (hh := hh) hy rfl ?_
  intro p e s m args below meth c s₁ B hml hv
  obtain ⟨⟨hargs, hsz, hP, hU, hD0⟩, hZ⟩ := hv
  subst hargs
  have hts0 := atoms_spec (ws := Cond.codeWith y cc mL ret hh :: Ts) B.pre
  have htab := vx_table (x := y) B (hts0 _ List.mem_cons_self)
  have hown : s.vm.findClass y.cls = some m.cls := findClass_of_methodNamed B.named
  subst hsz
  have hD := hD0.self (sz := s.heap.size)
  have hS : va_S (va_A (K.2.1.map (sa_e V dA)) s.heap.size) s.heap s.heap [] := va_S.rf
  have hl := lv_entry (K.1.map (sa_val V)) (n := mL) (by rw [sa_sl_len]; exact hlen)
  rw [sa_args_lv] at hl
  rw [lg_entry_eq]
  have hC : sa_C p s m (K.1.map (sa_val V)).toArray c D dA (va_A (K.2.1.map (sa_e V dA)) s.heap.size) mL cl Ts cc y.cls := ⟨B.exec, B.bytes, fun w hw => hts0 w (List.mem_cons_of_mem _ hw), hown, hml, hU.1, fun q h => Or.inr h⟩
  have hW := sa_run_ok (p := p) (l := l) (e := e) (R := { frames := fr, cells := K.2.2.2.2.1, slots := K.2.2.2.2.2, locals := lc }) (s := s) (m := m) (args := (K.1.map (sa_val V)).toArray) (below := below) (meth := meth) (c := c) (Q := MQ below (sa_Q D dA cl s.heap.size V K) (K.1.map (sa_val V)).toArray s K.2.2.2.2.1 K.2.2.2.2.2 (va_A (K.2.1.map (sa_e V dA)) s.heap.size)) (D := D) (dA := dA) (A := va_A (K.2.1.map (sa_e V dA)) s.heap.size) (nL := mL) (cl := cl) (n0 := K.2.2.1.length) (V0 := V)
    (fun pc op h => hops p e s m _ below meth c _ D dA _ _ V hC hU hZ htab (pc, op) (sa_fd_mem h)) (fun S _ h => sa_fin_ok B.exec B.bytes B.notSynchronized B.returns rfl hd S h) fuel _ hrun
  exact hW V s.heap [] _ ⟨⟨hI, Nat.le_refl _, fun _ _ => rfl⟩, hl, hP, hD, hS⟩
theorem sn_callSH {p : Program} {l : Launch} {e : Env} {R : Room} {s : State} {m : MethodId} {args : Array Value} {below : List Frame} {meth : Method} {c : Code} {Q : State → Prop} {D : va_G} {dA : Nat → ClassId} {A : Nat → Prop} {nL : Nat} {cl : List vw_C} {n0 : Nat} {V0 : sa_V} {Ts : List Cond} {cc : ByteArray} {own : String} (C0 : sa_C p s m args c D dA A nL cl Ts cc own) {pc : Nat} {K : sa_K} {y : MethodName} {cy : ByteArray} {mL fr lc idx n maxC maxS : Nat} {ret : Option FieldType} {hh : List (Nat × Nat × Nat × Nat)} (hU : sa_U D cl dA s) (hZ : sa_ZZ A s s.heap) (hg : ∀ w ∈ Ts, goodWord w = true) (hM : sa_MetH l cl Ts y cy mL ret hh fr lc K) (hcode : Cond.codeWith y cy mL ret hh ∈ Ts)
    (hd : decode cc pc = .ok (.invokestatic idx, 3)) (w1 : Cond.methodLink own idx y ∈ Ts) (w2 : Cond.static y ∈ Ts) (w4 : Cond.initialized y.cls ∈ Ts) (hy : sa_arg y n) (hn : K.1.length = n) (hR : fr + 1 ≤ R.frames ∧ 8 + (mL + 11) + lc ≤ R.locals) (hC : maxC ≤ R.cells) (hS0 : maxS ≤ R.slots) : sa_snd p l e R s m args below meth c Q D dA A nL cl n0 V0 pc (so_call K maxC maxS) := by
  obtain ⟨hx, hb, hts, hown, hml, hK, hA⟩ := C0
  rintro ⟨pc, lo, st, cs, G, kc, ks⟩ sts rfl h k V H locs ls hG
  refine sa_call_okF (a := #[]) hA h k hG (fun As rest V1 hst hargs hAl hI1 hsum hP1 hD1 hF1 hc1 hs1 => ?_)
  exact vx_runSW (bytes := cy) (maxL := mL) (ret := ret) (hh := hh) (As := As.map (sa_val V)) (n := n) ⟨hx, hb, hml, hown, hts⟩ (hM D dA H.size V1 hI1) (vx_cwSW n hts (sa_goodV hg hcode (by intro u hu; simp only [List.mem_cons, List.not_mem_nil, or_false] at hu; rcases hu with rfl | rfl | rfl <;> assumption)) rfl rfl rfl hy hR) ⟨sa_blindX, fun U hUH hW => ⟨sa_pre hU hargs hP1 hD1 U hUH hW, sa_ZZ.call hZ hG.2.2.2.2 hF1 hUH hW⟩⟩ rfl (by rw [List.length_map, hAl, hn]) hG.2.1.1 (by show st.map (sa_val V) = _; rw [show st = _ from hst, List.map_append, List.map_reverse]) (lv_room hsum) hd ⟨Nat.le_trans hc1 hC, Nat.le_trans hs1 hS0⟩
end SAC
end
section
section SAL
/-- the script: the first signs are its address, its length, its ints -/
def sa_V1 (b L : Nat) (xs : Nat → Int32) : sa_V := fun k => if k = 1 then (0, 0, fun _ => 0, b) else if k = 2 then ((L : Int), 0, fun _ => 0, 0) else if 3 ≤ k ∧ k < 9 then ((xs (k - 3)).toInt, 0, fun _ => 0, 0) else (0, 0, fun _ => 0, 0)
def so_sld : sa_op := fun S => match S.2.2.1 with
  | .inl x :: .inr (.inl (some 1)) :: rest => match sa_ixn S.2.2.2.2.1 x, S.2.2.2.2.1[2]? with
    | some j, some b => if j < 6 ∧ (j : Int) < b.1 then some [(S.1 + 1, S.2.1, .inl (3 + j, 0) :: rest, S.2.2.2)] else none
    | _, _ => none
  | _ => none
theorem sn_sld {p : Program} {l : Launch} {e : Env} {R : Room} {s : State} {m : MethodId} {args : Array Value} {below : List Frame} {meth : Method} {c : Code} {Q : State → Prop} {D : va_G} {dA : Nat → ClassId} {A : Nat → Prop} {nL : Nat} {cl : List vw_C} {Ts : List Cond} {cc : ByteArray} {own : String} (C0 : sa_C p s m args c D dA A nL cl Ts cc own) {pc b L : Nat} {xs : Nat → Int32} (hX : va_X b L xs s s.heap) (hbl : b < s.heap.size) (hbA : ¬ A b) (hd : decode cc pc = .ok (.iaload, 1)) : sa_snd p l e R s m args below meth c Q D dA A nL cl 9 (sa_V1 b L xs) pc so_sld := by
  obtain ⟨hx, hb, hts, hown, hml, hK, hA⟩ := C0
  rintro ⟨pc, lo, st, cs, G, kc, ks⟩ sts rfl h k V H locs ls hG
  unfold so_sld at h
  dsimp only at h
  split at h
  · rename_i x rest
    split at h
    · rename_i j bb hj hb2
      split at h
      · rename_i hh
        cases h
        obtain ⟨i1, i2⟩ := sa_ixk hG.1.1 hj
        have v1 : sa_ad V 1 = b := by
          show (V 1).2.2.2 = b
          rw [hG.1.2.2 1 (by decide)]
          rfl
        have v2 : (V 2).1 = (L : Int) := by rw [hG.1.2.2 2 (by decide)]; rfl
        have v3 : sa_i V (3 + j, 0) = xs j := by
          show Int32.ofInt ((V (3 + j)).1 + 0) = xs j
          rw [hG.1.2.2 (3 + j) (by omega)]
          show Int32.ofInt ((if 3 + j = 1 then _ else if 3 + j = 2 then _ else if 3 ≤ 3 + j ∧ 3 + j < 9 then _ else _ : sa_x).1 + 0) = xs j
          rw [if_neg (by omega), if_neg (by omega), if_pos (by omega), show 3 + j - 3 = j by omega, Int.add_zero, Int32.ofInt_toInt]
        have hjL : j < L := by
          have := (hG.1.1.1 2 bb hb2).1
          omega
        have h9 := k _ List.mem_cons_self V H locs ls hG
        have h8 : W p l e R s m args below meth c H locs kc ks Q (F0 m (pc + 1) ls (.int (xs (sa_i V x).toNatClampNeg) :: rest.map (sa_val V))) := by
          rw [i1, ← v3]
          exact h9
        show W p l e R s m args below meth c H locs kc ks Q (F0 m pc ls (.int (sa_i V x) :: .ref (sa_ad V 1) :: rest.map (sa_val V)))
        rw [v1]
        exact va_sld hx hb hX hbl hbA hG.2.2.2.2 (i2 L hjL) hd h8
      · cases h
    · cases h
  · cases h
def so_slen : sa_op := fun S => match S.2.2.1 with
  | .inr (.inl (some 1)) :: rest => some [(S.1 + 1, S.2.1, .inl (2, 0) :: rest, S.2.2.2)]
  | _ => none
theorem sn_slen {p : Program} {l : Launch} {e : Env} {R : Room} {s : State} {m : MethodId} {args : Array Value} {below : List Frame} {meth : Method} {c : Code} {Q : State → Prop} {D : va_G} {dA : Nat → ClassId} {A : Nat → Prop} {nL : Nat} {cl : List vw_C} {Ts : List Cond} {cc : ByteArray} {own : String} (C0 : sa_C p s m args c D dA A nL cl Ts cc own) {pc b L : Nat} {xs : Nat → Int32} (hX : va_X b L xs s s.heap) (hbl : b < s.heap.size) (hbA : ¬ A b) (hd : decode cc pc = .ok (.arraylength, 1)) : sa_snd p l e R s m args below meth c Q D dA A nL cl 9 (sa_V1 b L xs) pc so_slen := by
  obtain ⟨hx, hb, hts, hown, hml, hK, hA⟩ := C0
  rintro ⟨pc, lo, st, cs, G, kc, ks⟩ sts rfl h k V H locs ls hG
  unfold so_slen at h
  dsimp only at h
  split at h
  · rename_i rest
    cases h
    have v1 : sa_ad V 1 = b := by
      show (V 1).2.2.2 = b
      rw [hG.1.2.2 1 (by decide)]
      rfl
    have v2 : sa_i V (2, 0) = Int32.ofNat L := by
      show Int32.ofInt ((V 2).1 + 0) = _
      rw [hG.1.2.2 2 (by decide)]
      show Int32.ofInt ((L : Int) + 0) = _
      rw [Int.add_zero]
      exact Int32.ofInt_eq_ofNat
    have h9 := k _ List.mem_cons_self V H locs ls hG
    have h8 : W p l e R s m args below meth c H locs kc ks Q (F0 m (pc + 1) ls (.int (Int32.ofNat L) :: rest.map (sa_val V))) := by
      rw [← v2]
      exact h9
    show W p l e R s m args below meth c H locs kc ks Q (F0 m pc ls (.ref (sa_ad V 1) :: rest.map (sa_val V)))
    rw [v1]
    exact va_slen hx hb hX hbl hbA hG.2.2.2.2 hd h8
  · cases h
end SAL
end
section
theorem i_vc : Claimed_1_1 ∧ Claimed_1_2 := sorry
end
