set_option maxRecDepth 20000 in
theorem tv_0 : (Jvm.Cond.initialized "OffThenOnLaw") ∈ sa_Ts := tv_m1 0 rfl rfl
set_option maxRecDepth 20000 in
theorem tv_486 : (Jvm.Cond.methodLink "OffThenOnLaw" (38 : Nat) ({ cls := "OffThenOn", name := "end", desc := "(I)Z" } : Jvm.MethodName)) ∈ sa_Ts := tv_m3 6 rfl rfl
set_option maxRecDepth 20000 in
theorem tv_487 : (Jvm.Cond.instanceMethod ({ cls := "OffThenOn", name := "end", desc := "(I)Z" } : Jvm.MethodName)) ∈ sa_Ts := tv_m3 7 rfl rfl
set_option maxRecDepth 20000 in
theorem tv_488 : (Jvm.Cond.selects "OffThenOn" ({ cls := "OffThenOn", name := "end", desc := "(I)Z" } : Jvm.MethodName) ({ cls := "OffThenOn", name := "end", desc := "(I)Z" } : Jvm.MethodName)) ∈ sa_Ts := tv_m3 8 rfl rfl
set_option maxRecDepth 20000 in
theorem tv_489 : (Jvm.Cond.code ({ cls := "OffThenOn", name := "end", desc := "(I)Z" } : Jvm.MethodName) prog_1_method_3_code (2 : Nat) (Option.some Jvm.ClassFile.FieldType.boolean)) ∈ sa_Ts := tv_m3 9 rfl rfl
set_option maxRecDepth 20000 in
theorem tv_642 : (Jvm.Cond.methodLink "OffThenOnLaw" (47 : Nat) ({ cls := "OffThenOn", name := "fault", desc := "()I" } : Jvm.MethodName)) ∈ sa_Ts := tv_m3 162 rfl rfl
set_option maxRecDepth 20000 in
theorem tv_643 : (Jvm.Cond.instanceMethod ({ cls := "OffThenOn", name := "fault", desc := "()I" } : Jvm.MethodName)) ∈ sa_Ts := tv_m3 163 rfl rfl
set_option maxRecDepth 20000 in
theorem tv_644 : (Jvm.Cond.selects "OffThenOn" ({ cls := "OffThenOn", name := "fault", desc := "()I" } : Jvm.MethodName) ({ cls := "OffThenOn", name := "fault", desc := "()I" } : Jvm.MethodName)) ∈ sa_Ts := tv_m3 164 rfl rfl
set_option maxRecDepth 20000 in
theorem tv_645 : (Jvm.Cond.code ({ cls := "OffThenOn", name := "fault", desc := "()I" } : Jvm.MethodName) prog_1_method_5_code (1 : Nat) (Option.some Jvm.ClassFile.FieldType.int)) ∈ sa_Ts := tv_m3 165 rfl rfl
set_option maxRecDepth 20000 in
theorem tv_646 : (Jvm.Cond.methodLink "OffThenOnLaw" (60 : Nat) ({ cls := "OffThenOn", name := "cures", desc := "(II)I" } : Jvm.MethodName)) ∈ sa_Ts := tv_m3 166 rfl rfl
set_option maxRecDepth 20000 in
theorem tv_647 : (Jvm.Cond.instanceMethod ({ cls := "OffThenOn", name := "cures", desc := "(II)I" } : Jvm.MethodName)) ∈ sa_Ts := tv_m3 167 rfl rfl
set_option maxRecDepth 20000 in
theorem tv_648 : (Jvm.Cond.selects "OffThenOn" ({ cls := "OffThenOn", name := "cures", desc := "(II)I" } : Jvm.MethodName) ({ cls := "OffThenOn", name := "cures", desc := "(II)I" } : Jvm.MethodName)) ∈ sa_Ts := tv_m3 168 rfl rfl
set_option maxRecDepth 20000 in
theorem tv_649 : (Jvm.Cond.code ({ cls := "OffThenOn", name := "cures", desc := "(II)I" } : Jvm.MethodName) prog_1_method_8_code (3 : Nat) (Option.some Jvm.ClassFile.FieldType.int)) ∈ sa_Ts := tv_m3 169 rfl rfl
set_option maxRecDepth 20000 in
theorem tv_655 : (Jvm.Cond.methodLink "OffThenOnLaw" (64 : Nat) ({ cls := "OffThenOn", name := "now", desc := "(I)I" } : Jvm.MethodName)) ∈ sa_Ts := tv_m3 175 rfl rfl
set_option maxRecDepth 20000 in
theorem tv_656 : (Jvm.Cond.instanceMethod ({ cls := "OffThenOn", name := "now", desc := "(I)I" } : Jvm.MethodName)) ∈ sa_Ts := tv_m3 176 rfl rfl
set_option maxRecDepth 20000 in
theorem tv_657 : (Jvm.Cond.selects "OffThenOn" ({ cls := "OffThenOn", name := "now", desc := "(I)I" } : Jvm.MethodName) ({ cls := "OffThenOn", name := "now", desc := "(I)I" } : Jvm.MethodName)) ∈ sa_Ts := tv_m3 177 rfl rfl
set_option maxRecDepth 20000 in
theorem tv_658 : (Jvm.Cond.code ({ cls := "OffThenOn", name := "now", desc := "(I)I" } : Jvm.MethodName) prog_1_method_9_code (3 : Nat) (Option.some Jvm.ClassFile.FieldType.int)) ∈ sa_Ts := tv_m3 178 rfl rfl
set_option maxRecDepth 20000 in
theorem tv_668 : (Jvm.Cond.methodLink "OffThenOnLaw" (69 : Nat) ({ cls := "OffThenOn", name := "off", desc := "(I)I" } : Jvm.MethodName)) ∈ sa_Ts := tv_m3 188 rfl rfl
set_option maxRecDepth 20000 in
theorem tv_669 : (Jvm.Cond.instanceMethod ({ cls := "OffThenOn", name := "off", desc := "(I)I" } : Jvm.MethodName)) ∈ sa_Ts := tv_m3 189 rfl rfl
set_option maxRecDepth 20000 in
theorem tv_670 : (Jvm.Cond.selects "OffThenOn" ({ cls := "OffThenOn", name := "off", desc := "(I)I" } : Jvm.MethodName) ({ cls := "OffThenOn", name := "off", desc := "(I)I" } : Jvm.MethodName)) ∈ sa_Ts := tv_m3 190 rfl rfl
set_option maxRecDepth 20000 in
theorem tv_671 : (Jvm.Cond.code ({ cls := "OffThenOn", name := "off", desc := "(I)I" } : Jvm.MethodName) prog_1_method_10_code (2 : Nat) (Option.some Jvm.ClassFile.FieldType.int)) ∈ sa_Ts := tv_m3 191 rfl rfl
set_option maxRecDepth 20000 in
theorem tv_701 : (Jvm.Cond.methodLink "OffThenOnLaw" (73 : Nat) ({ cls := "OffThenOn", name := "on", desc := "(II)I" } : Jvm.MethodName)) ∈ sa_Ts := tv_m3 221 rfl rfl
set_option maxRecDepth 20000 in
theorem tv_702 : (Jvm.Cond.instanceMethod ({ cls := "OffThenOn", name := "on", desc := "(II)I" } : Jvm.MethodName)) ∈ sa_Ts := tv_m3 222 rfl rfl
set_option maxRecDepth 20000 in
theorem tv_703 : (Jvm.Cond.selects "OffThenOn" ({ cls := "OffThenOn", name := "on", desc := "(II)I" } : Jvm.MethodName) ({ cls := "OffThenOn", name := "on", desc := "(II)I" } : Jvm.MethodName)) ∈ sa_Ts := tv_m3 223 rfl rfl
set_option maxRecDepth 20000 in
theorem tv_704 : (Jvm.Cond.code ({ cls := "OffThenOn", name := "on", desc := "(II)I" } : Jvm.MethodName) prog_1_method_11_code (3 : Nat) (Option.some Jvm.ClassFile.FieldType.int)) ∈ sa_Ts := tv_m3 224 rfl rfl
set_option maxRecDepth 20000 in
theorem tv_727 : (Jvm.Cond.methodLink "OffThenOnLaw" (77 : Nat) ({ cls := "OffThenOn", name := "cable", desc := "(II)I" } : Jvm.MethodName)) ∈ sa_Ts := tv_m4 7 rfl rfl
set_option maxRecDepth 20000 in
theorem tv_728 : (Jvm.Cond.instanceMethod ({ cls := "OffThenOn", name := "cable", desc := "(II)I" } : Jvm.MethodName)) ∈ sa_Ts := tv_m4 8 rfl rfl
set_option maxRecDepth 20000 in
theorem tv_729 : (Jvm.Cond.selects "OffThenOn" ({ cls := "OffThenOn", name := "cable", desc := "(II)I" } : Jvm.MethodName) ({ cls := "OffThenOn", name := "cable", desc := "(II)I" } : Jvm.MethodName)) ∈ sa_Ts := tv_m4 9 rfl rfl
set_option maxRecDepth 20000 in
theorem tv_730 : (Jvm.Cond.code ({ cls := "OffThenOn", name := "cable", desc := "(II)I" } : Jvm.MethodName) prog_1_method_12_code (3 : Nat) (Option.some Jvm.ClassFile.FieldType.int)) ∈ sa_Ts := tv_m4 10 rfl rfl
set_option maxRecDepth 20000 in
theorem tv_735 : (Jvm.Cond.methodLink "OffThenOnLaw" (81 : Nat) ({ cls := "OffThenOn", name := "pin", desc := "(II)I" } : Jvm.MethodName)) ∈ sa_Ts := tv_m4 15 rfl rfl
set_option maxRecDepth 20000 in
theorem tv_736 : (Jvm.Cond.instanceMethod ({ cls := "OffThenOn", name := "pin", desc := "(II)I" } : Jvm.MethodName)) ∈ sa_Ts := tv_m4 16 rfl rfl
set_option maxRecDepth 20000 in
theorem tv_737 : (Jvm.Cond.selects "OffThenOn" ({ cls := "OffThenOn", name := "pin", desc := "(II)I" } : Jvm.MethodName) ({ cls := "OffThenOn", name := "pin", desc := "(II)I" } : Jvm.MethodName)) ∈ sa_Ts := tv_m4 17 rfl rfl
set_option maxRecDepth 20000 in
theorem tv_738 : (Jvm.Cond.code ({ cls := "OffThenOn", name := "pin", desc := "(II)I" } : Jvm.MethodName) prog_1_method_13_code (3 : Nat) (Option.some Jvm.ClassFile.FieldType.int)) ∈ sa_Ts := tv_m4 18 rfl rfl
set_option maxRecDepth 20000 in
theorem tv_743 : (Jvm.Cond.methodLink "OffThenOnLaw" (85 : Nat) ({ cls := "OffThenOn", name := "strike", desc := "(I)I" } : Jvm.MethodName)) ∈ sa_Ts := tv_m4 23 rfl rfl
set_option maxRecDepth 20000 in
theorem tv_744 : (Jvm.Cond.instanceMethod ({ cls := "OffThenOn", name := "strike", desc := "(I)I" } : Jvm.MethodName)) ∈ sa_Ts := tv_m4 24 rfl rfl
set_option maxRecDepth 20000 in
theorem tv_745 : (Jvm.Cond.selects "OffThenOn" ({ cls := "OffThenOn", name := "strike", desc := "(I)I" } : Jvm.MethodName) ({ cls := "OffThenOn", name := "strike", desc := "(I)I" } : Jvm.MethodName)) ∈ sa_Ts := tv_m4 25 rfl rfl
set_option maxRecDepth 20000 in
theorem tv_746 : (Jvm.Cond.code ({ cls := "OffThenOn", name := "strike", desc := "(I)I" } : Jvm.MethodName) prog_1_method_14_code (2 : Nat) (Option.some Jvm.ClassFile.FieldType.int)) ∈ sa_Ts := tv_m4 26 rfl rfl
set_option maxRecDepth 20000 in
theorem tv_751 : (Jvm.Cond.methodLink "OffThenOnLaw" (89 : Nat) ({ cls := "OffThenOn", name := "minutes", desc := "(I)I" } : Jvm.MethodName)) ∈ sa_Ts := tv_m4 31 rfl rfl
set_option maxRecDepth 20000 in
theorem tv_752 : (Jvm.Cond.instanceMethod ({ cls := "OffThenOn", name := "minutes", desc := "(I)I" } : Jvm.MethodName)) ∈ sa_Ts := tv_m4 32 rfl rfl
set_option maxRecDepth 20000 in
theorem tv_753 : (Jvm.Cond.selects "OffThenOn" ({ cls := "OffThenOn", name := "minutes", desc := "(I)I" } : Jvm.MethodName) ({ cls := "OffThenOn", name := "minutes", desc := "(I)I" } : Jvm.MethodName)) ∈ sa_Ts := tv_m4 33 rfl rfl
set_option maxRecDepth 20000 in
theorem tv_754 : (Jvm.Cond.code ({ cls := "OffThenOn", name := "minutes", desc := "(I)I" } : Jvm.MethodName) prog_1_method_15_code (3 : Nat) (Option.some Jvm.ClassFile.FieldType.int)) ∈ sa_Ts := tv_m4 34 rfl rfl
set_option maxRecDepth 20000 in
theorem tv_767 : (Jvm.Cond.methodLink "OffThenOnLaw" (93 : Nat) ({ cls := "OffThenOn", name := "undo", desc := "()I" } : Jvm.MethodName)) ∈ sa_Ts := tv_m4 47 rfl rfl
set_option maxRecDepth 20000 in
theorem tv_768 : (Jvm.Cond.instanceMethod ({ cls := "OffThenOn", name := "undo", desc := "()I" } : Jvm.MethodName)) ∈ sa_Ts := tv_m4 48 rfl rfl
set_option maxRecDepth 20000 in
theorem tv_769 : (Jvm.Cond.selects "OffThenOn" ({ cls := "OffThenOn", name := "undo", desc := "()I" } : Jvm.MethodName) ({ cls := "OffThenOn", name := "undo", desc := "()I" } : Jvm.MethodName)) ∈ sa_Ts := tv_m4 49 rfl rfl
set_option maxRecDepth 20000 in
theorem tv_770 : (Jvm.Cond.code ({ cls := "OffThenOn", name := "undo", desc := "()I" } : Jvm.MethodName) prog_1_method_16_code (1 : Nat) (Option.some Jvm.ClassFile.FieldType.int)) ∈ sa_Ts := tv_m4 50 rfl rfl
set_option maxRecDepth 20000 in
theorem tv_775 : (Jvm.Cond.methodLink "OffThenOnLaw" (97 : Nat) ({ cls := "OffThenOn", name := "what", desc := "()I" } : Jvm.MethodName)) ∈ sa_Ts := tv_m4 55 rfl rfl
set_option maxRecDepth 20000 in
theorem tv_776 : (Jvm.Cond.instanceMethod ({ cls := "OffThenOn", name := "what", desc := "()I" } : Jvm.MethodName)) ∈ sa_Ts := tv_m4 56 rfl rfl
set_option maxRecDepth 20000 in
theorem tv_777 : (Jvm.Cond.selects "OffThenOn" ({ cls := "OffThenOn", name := "what", desc := "()I" } : Jvm.MethodName) ({ cls := "OffThenOn", name := "what", desc := "()I" } : Jvm.MethodName)) ∈ sa_Ts := tv_m4 57 rfl rfl
set_option maxRecDepth 20000 in
theorem tv_778 : (Jvm.Cond.code ({ cls := "OffThenOn", name := "what", desc := "()I" } : Jvm.MethodName) prog_1_method_17_code (2 : Nat) (Option.some Jvm.ClassFile.FieldType.int)) ∈ sa_Ts := tv_m4 58 rfl rfl
set_option maxRecDepth 20000 in
theorem tv_789 : (Jvm.Cond.methodLink "OffThenOnLaw" (108 : Nat) ({ cls := "OffThenOn", name := "planAt", desc := "(I)I" } : Jvm.MethodName)) ∈ sa_Ts := tv_m4 69 rfl rfl
set_option maxRecDepth 20000 in
theorem tv_790 : (Jvm.Cond.instanceMethod ({ cls := "OffThenOn", name := "planAt", desc := "(I)I" } : Jvm.MethodName)) ∈ sa_Ts := tv_m4 70 rfl rfl
set_option maxRecDepth 20000 in
theorem tv_791 : (Jvm.Cond.selects "OffThenOn" ({ cls := "OffThenOn", name := "planAt", desc := "(I)I" } : Jvm.MethodName) ({ cls := "OffThenOn", name := "planAt", desc := "(I)I" } : Jvm.MethodName)) ∈ sa_Ts := tv_m4 71 rfl rfl
set_option maxRecDepth 20000 in
theorem tv_792 : (Jvm.Cond.code ({ cls := "OffThenOn", name := "planAt", desc := "(I)I" } : Jvm.MethodName) prog_1_method_20_code (2 : Nat) (Option.some Jvm.ClassFile.FieldType.int)) ∈ sa_Ts := tv_m4 72 rfl rfl
set_option maxRecDepth 20000 in
theorem tv_793 : (Jvm.Cond.methodLink "OffThenOnLaw" (112 : Nat) ({ cls := "OffThenOn", name := "ready", desc := "(I)I" } : Jvm.MethodName)) ∈ sa_Ts := tv_m4 73 rfl rfl
set_option maxRecDepth 20000 in
theorem tv_794 : (Jvm.Cond.instanceMethod ({ cls := "OffThenOn", name := "ready", desc := "(I)I" } : Jvm.MethodName)) ∈ sa_Ts := tv_m4 74 rfl rfl
set_option maxRecDepth 20000 in
theorem tv_795 : (Jvm.Cond.selects "OffThenOn" ({ cls := "OffThenOn", name := "ready", desc := "(I)I" } : Jvm.MethodName) ({ cls := "OffThenOn", name := "ready", desc := "(I)I" } : Jvm.MethodName)) ∈ sa_Ts := tv_m4 75 rfl rfl
set_option maxRecDepth 20000 in
theorem tv_796 : (Jvm.Cond.code ({ cls := "OffThenOn", name := "ready", desc := "(I)I" } : Jvm.MethodName) prog_1_method_21_code (2 : Nat) (Option.some Jvm.ClassFile.FieldType.int)) ∈ sa_Ts := tv_m4 76 rfl rfl
set_option maxRecDepth 20000 in
theorem tv_804 : (Jvm.Cond.methodLink "OffThenOnLaw" (116 : Nat) ({ cls := "OffThenOn", name := "starts", desc := "(I)I" } : Jvm.MethodName)) ∈ sa_Ts := tv_m4 84 rfl rfl
set_option maxRecDepth 20000 in
theorem tv_805 : (Jvm.Cond.instanceMethod ({ cls := "OffThenOn", name := "starts", desc := "(I)I" } : Jvm.MethodName)) ∈ sa_Ts := tv_m4 85 rfl rfl
set_option maxRecDepth 20000 in
theorem tv_806 : (Jvm.Cond.selects "OffThenOn" ({ cls := "OffThenOn", name := "starts", desc := "(I)I" } : Jvm.MethodName) ({ cls := "OffThenOn", name := "starts", desc := "(I)I" } : Jvm.MethodName)) ∈ sa_Ts := tv_m4 86 rfl rfl
set_option maxRecDepth 20000 in
theorem tv_807 : (Jvm.Cond.code ({ cls := "OffThenOn", name := "starts", desc := "(I)I" } : Jvm.MethodName) prog_1_method_22_code (2 : Nat) (Option.some Jvm.ClassFile.FieldType.int)) ∈ sa_Ts := tv_m4 87 rfl rfl
set_option maxRecDepth 20000 in
theorem tv_808 : (Jvm.Cond.methodLink "OffThenOnLaw" (124 : Nat) ({ cls := "OffThenOn", name := "lots", desc := "()I" } : Jvm.MethodName)) ∈ sa_Ts := tv_m4 88 rfl rfl
set_option maxRecDepth 20000 in
theorem tv_809 : (Jvm.Cond.instanceMethod ({ cls := "OffThenOn", name := "lots", desc := "()I" } : Jvm.MethodName)) ∈ sa_Ts := tv_m4 89 rfl rfl
set_option maxRecDepth 20000 in
theorem tv_810 : (Jvm.Cond.selects "OffThenOn" ({ cls := "OffThenOn", name := "lots", desc := "()I" } : Jvm.MethodName) ({ cls := "OffThenOn", name := "lots", desc := "()I" } : Jvm.MethodName)) ∈ sa_Ts := tv_m4 90 rfl rfl
set_option maxRecDepth 20000 in
theorem tv_811 : (Jvm.Cond.code ({ cls := "OffThenOn", name := "lots", desc := "()I" } : Jvm.MethodName) prog_1_method_24_code (1 : Nat) (Option.some Jvm.ClassFile.FieldType.int)) ∈ sa_Ts := tv_m4 91 rfl rfl
set_option maxRecDepth 20000 in
theorem tv_812 : (Jvm.Cond.methodLink "OffThenOnLaw" (128 : Nat) ({ cls := "OffThenOn", name := "alike", desc := "(I)I" } : Jvm.MethodName)) ∈ sa_Ts := tv_m4 92 rfl rfl
set_option maxRecDepth 20000 in
theorem tv_813 : (Jvm.Cond.instanceMethod ({ cls := "OffThenOn", name := "alike", desc := "(I)I" } : Jvm.MethodName)) ∈ sa_Ts := tv_m4 93 rfl rfl
set_option maxRecDepth 20000 in
theorem tv_814 : (Jvm.Cond.selects "OffThenOn" ({ cls := "OffThenOn", name := "alike", desc := "(I)I" } : Jvm.MethodName) ({ cls := "OffThenOn", name := "alike", desc := "(I)I" } : Jvm.MethodName)) ∈ sa_Ts := tv_m4 94 rfl rfl
set_option maxRecDepth 20000 in
theorem tv_815 : (Jvm.Cond.code ({ cls := "OffThenOn", name := "alike", desc := "(I)I" } : Jvm.MethodName) prog_1_method_25_code (2 : Nat) (Option.some Jvm.ClassFile.FieldType.int)) ∈ sa_Ts := tv_m4 95 rfl rfl
set_option maxRecDepth 20000 in
theorem tv_821 : (Jvm.Cond.methodLink "OffThenOnLaw" (132 : Nat) ({ cls := "OffThenOn", name := "kinds", desc := "()I" } : Jvm.MethodName)) ∈ sa_Ts := tv_m4 101 rfl rfl
set_option maxRecDepth 20000 in
theorem tv_822 : (Jvm.Cond.instanceMethod ({ cls := "OffThenOn", name := "kinds", desc := "()I" } : Jvm.MethodName)) ∈ sa_Ts := tv_m4 102 rfl rfl
set_option maxRecDepth 20000 in
theorem tv_823 : (Jvm.Cond.selects "OffThenOn" ({ cls := "OffThenOn", name := "kinds", desc := "()I" } : Jvm.MethodName) ({ cls := "OffThenOn", name := "kinds", desc := "()I" } : Jvm.MethodName)) ∈ sa_Ts := tv_m4 103 rfl rfl
set_option maxRecDepth 20000 in
theorem tv_824 : (Jvm.Cond.code ({ cls := "OffThenOn", name := "kinds", desc := "()I" } : Jvm.MethodName) prog_1_method_26_code (3 : Nat) (Option.some Jvm.ClassFile.FieldType.int)) ∈ sa_Ts := tv_m4 104 rfl rfl
set_option maxRecDepth 20000 in
theorem tv_825 : (Jvm.Cond.methodLink "OffThenOnLaw" (136 : Nat) ({ cls := "OffThenOn", name := "look", desc := "(I)I" } : Jvm.MethodName)) ∈ sa_Ts := tv_m4 105 rfl rfl
set_option maxRecDepth 20000 in
theorem tv_826 : (Jvm.Cond.instanceMethod ({ cls := "OffThenOn", name := "look", desc := "(I)I" } : Jvm.MethodName)) ∈ sa_Ts := tv_m4 106 rfl rfl
set_option maxRecDepth 20000 in
theorem tv_827 : (Jvm.Cond.selects "OffThenOn" ({ cls := "OffThenOn", name := "look", desc := "(I)I" } : Jvm.MethodName) ({ cls := "OffThenOn", name := "look", desc := "(I)I" } : Jvm.MethodName)) ∈ sa_Ts := tv_m4 107 rfl rfl
set_option maxRecDepth 20000 in
theorem tv_828 : (Jvm.Cond.code ({ cls := "OffThenOn", name := "look", desc := "(I)I" } : Jvm.MethodName) prog_1_method_27_code (7 : Nat) (Option.some Jvm.ClassFile.FieldType.int)) ∈ sa_Ts := tv_m4 108 rfl rfl
set_option maxRecDepth 20000 in
theorem tv_840 : (Jvm.Cond.methodLink "OffThenOnLaw" (140 : Nat) ({ cls := "OffThenOn", name := "left", desc := "()I" } : Jvm.MethodName)) ∈ sa_Ts := tv_m4 120 rfl rfl
set_option maxRecDepth 20000 in
theorem tv_841 : (Jvm.Cond.instanceMethod ({ cls := "OffThenOn", name := "left", desc := "()I" } : Jvm.MethodName)) ∈ sa_Ts := tv_m4 121 rfl rfl
set_option maxRecDepth 20000 in
theorem tv_842 : (Jvm.Cond.selects "OffThenOn" ({ cls := "OffThenOn", name := "left", desc := "()I" } : Jvm.MethodName) ({ cls := "OffThenOn", name := "left", desc := "()I" } : Jvm.MethodName)) ∈ sa_Ts := tv_m4 122 rfl rfl
set_option maxRecDepth 20000 in
theorem tv_843 : (Jvm.Cond.code ({ cls := "OffThenOn", name := "left", desc := "()I" } : Jvm.MethodName) prog_1_method_28_code (1 : Nat) (Option.some Jvm.ClassFile.FieldType.int)) ∈ sa_Ts := tv_m4 123 rfl rfl
set_option maxRecDepth 20000 in
theorem tv_844 : (Jvm.Cond.methodLink "OffThenOnLaw" (144 : Nat) ({ cls := "OffThenOn", name := "fits", desc := "(I)I" } : Jvm.MethodName)) ∈ sa_Ts := tv_m4 124 rfl rfl
set_option maxRecDepth 20000 in
theorem tv_845 : (Jvm.Cond.instanceMethod ({ cls := "OffThenOn", name := "fits", desc := "(I)I" } : Jvm.MethodName)) ∈ sa_Ts := tv_m4 125 rfl rfl
set_option maxRecDepth 20000 in
theorem tv_846 : (Jvm.Cond.selects "OffThenOn" ({ cls := "OffThenOn", name := "fits", desc := "(I)I" } : Jvm.MethodName) ({ cls := "OffThenOn", name := "fits", desc := "(I)I" } : Jvm.MethodName)) ∈ sa_Ts := tv_m4 126 rfl rfl
set_option maxRecDepth 20000 in
theorem tv_847 : (Jvm.Cond.code ({ cls := "OffThenOn", name := "fits", desc := "(I)I" } : Jvm.MethodName) prog_1_method_29_code (3 : Nat) (Option.some Jvm.ClassFile.FieldType.int)) ∈ sa_Ts := tv_m4 127 rfl rfl
set_option maxRecDepth 20000 in
theorem tv_859 : (Jvm.Cond.methodLink "OffThenOnLaw" (148 : Nat) ({ cls := "OffThenOn", name := "heals", desc := "(I)I" } : Jvm.MethodName)) ∈ sa_Ts := tv_m4 139 rfl rfl
set_option maxRecDepth 20000 in
theorem tv_860 : (Jvm.Cond.instanceMethod ({ cls := "OffThenOn", name := "heals", desc := "(I)I" } : Jvm.MethodName)) ∈ sa_Ts := tv_m4 140 rfl rfl
set_option maxRecDepth 20000 in
theorem tv_861 : (Jvm.Cond.selects "OffThenOn" ({ cls := "OffThenOn", name := "heals", desc := "(I)I" } : Jvm.MethodName) ({ cls := "OffThenOn", name := "heals", desc := "(I)I" } : Jvm.MethodName)) ∈ sa_Ts := tv_m4 141 rfl rfl
set_option maxRecDepth 20000 in
theorem tv_862 : (Jvm.Cond.code ({ cls := "OffThenOn", name := "heals", desc := "(I)I" } : Jvm.MethodName) prog_1_method_30_code (2 : Nat) (Option.some Jvm.ClassFile.FieldType.int)) ∈ sa_Ts := tv_m4 142 rfl rfl
set_option maxRecDepth 20000 in
theorem tv_863 : (Jvm.Cond.methodLink "OffThenOnLaw" (152 : Nat) ({ cls := "OffThenOn", name := "worksIn", desc := "(I)I" } : Jvm.MethodName)) ∈ sa_Ts := tv_m4 143 rfl rfl
set_option maxRecDepth 20000 in
theorem tv_864 : (Jvm.Cond.instanceMethod ({ cls := "OffThenOn", name := "worksIn", desc := "(I)I" } : Jvm.MethodName)) ∈ sa_Ts := tv_m4 144 rfl rfl
set_option maxRecDepth 20000 in
theorem tv_865 : (Jvm.Cond.selects "OffThenOn" ({ cls := "OffThenOn", name := "worksIn", desc := "(I)I" } : Jvm.MethodName) ({ cls := "OffThenOn", name := "worksIn", desc := "(I)I" } : Jvm.MethodName)) ∈ sa_Ts := tv_m4 145 rfl rfl
set_option maxRecDepth 20000 in
theorem tv_866 : (Jvm.Cond.code ({ cls := "OffThenOn", name := "worksIn", desc := "(I)I" } : Jvm.MethodName) prog_1_method_31_code (3 : Nat) (Option.some Jvm.ClassFile.FieldType.int)) ∈ sa_Ts := tv_m4 146 rfl rfl
set_option maxRecDepth 20000 in
theorem tv_867 : (Jvm.Cond.methodLink "OffThenOnLaw" (156 : Nat) ({ cls := "OffThenOn", name := "tell", desc := "(I)I" } : Jvm.MethodName)) ∈ sa_Ts := tv_m4 147 rfl rfl
set_option maxRecDepth 20000 in
theorem tv_868 : (Jvm.Cond.instanceMethod ({ cls := "OffThenOn", name := "tell", desc := "(I)I" } : Jvm.MethodName)) ∈ sa_Ts := tv_m4 148 rfl rfl
set_option maxRecDepth 20000 in
theorem tv_869 : (Jvm.Cond.selects "OffThenOn" ({ cls := "OffThenOn", name := "tell", desc := "(I)I" } : Jvm.MethodName) ({ cls := "OffThenOn", name := "tell", desc := "(I)I" } : Jvm.MethodName)) ∈ sa_Ts := tv_m4 149 rfl rfl
set_option maxRecDepth 20000 in
theorem tv_870 : (Jvm.Cond.code ({ cls := "OffThenOn", name := "tell", desc := "(I)I" } : Jvm.MethodName) prog_1_method_32_code (3 : Nat) (Option.some Jvm.ClassFile.FieldType.int)) ∈ sa_Ts := tv_m4 150 rfl rfl
set_option maxRecDepth 20000 in
theorem tv_941 : (Jvm.Cond.methodLink "OffThenOnLaw" (160 : Nat) ({ cls := "OffThenOn", name := "byteAt", desc := "(I)I" } : Jvm.MethodName)) ∈ sa_Ts := tv_m4 221 rfl rfl
set_option maxRecDepth 20000 in
theorem tv_942 : (Jvm.Cond.instanceMethod ({ cls := "OffThenOn", name := "byteAt", desc := "(I)I" } : Jvm.MethodName)) ∈ sa_Ts := tv_m4 222 rfl rfl
set_option maxRecDepth 20000 in
theorem tv_943 : (Jvm.Cond.selects "OffThenOn" ({ cls := "OffThenOn", name := "byteAt", desc := "(I)I" } : Jvm.MethodName) ({ cls := "OffThenOn", name := "byteAt", desc := "(I)I" } : Jvm.MethodName)) ∈ sa_Ts := tv_m4 223 rfl rfl
set_option maxRecDepth 20000 in
theorem tv_944 : (Jvm.Cond.code ({ cls := "OffThenOn", name := "byteAt", desc := "(I)I" } : Jvm.MethodName) prog_1_method_33_code (2 : Nat) (Option.some Jvm.ClassFile.FieldType.int)) ∈ sa_Ts := tv_m4 224 rfl rfl
set_option maxRecDepth 20000 in
theorem tv_945 : (Jvm.Cond.methodLink "OffThenOnLaw" (164 : Nat) ({ cls := "OffThenOn", name := "drawn", desc := "(II)I" } : Jvm.MethodName)) ∈ sa_Ts := tv_m4 225 rfl rfl
set_option maxRecDepth 20000 in
theorem tv_946 : (Jvm.Cond.instanceMethod ({ cls := "OffThenOn", name := "drawn", desc := "(II)I" } : Jvm.MethodName)) ∈ sa_Ts := tv_m4 226 rfl rfl
set_option maxRecDepth 20000 in
theorem tv_947 : (Jvm.Cond.selects "OffThenOn" ({ cls := "OffThenOn", name := "drawn", desc := "(II)I" } : Jvm.MethodName) ({ cls := "OffThenOn", name := "drawn", desc := "(II)I" } : Jvm.MethodName)) ∈ sa_Ts := tv_m4 227 rfl rfl
set_option maxRecDepth 20000 in
theorem tv_948 : (Jvm.Cond.code ({ cls := "OffThenOn", name := "drawn", desc := "(II)I" } : Jvm.MethodName) prog_1_method_34_code (4 : Nat) (Option.some Jvm.ClassFile.FieldType.int)) ∈ sa_Ts := tv_m4 228 rfl rfl
set_option maxRecDepth 20000 in
theorem tv_956 : (Jvm.Cond.methodLink "OffThenOnLaw" (168 : Nat) ({ cls := "OffThenOn", name := "odds", desc := "(III)I" } : Jvm.MethodName)) ∈ sa_Ts := tv_m4 236 rfl rfl
set_option maxRecDepth 20000 in
theorem tv_957 : (Jvm.Cond.instanceMethod ({ cls := "OffThenOn", name := "odds", desc := "(III)I" } : Jvm.MethodName)) ∈ sa_Ts := tv_m4 237 rfl rfl
set_option maxRecDepth 20000 in
theorem tv_958 : (Jvm.Cond.selects "OffThenOn" ({ cls := "OffThenOn", name := "odds", desc := "(III)I" } : Jvm.MethodName) ({ cls := "OffThenOn", name := "odds", desc := "(III)I" } : Jvm.MethodName)) ∈ sa_Ts := tv_m4 238 rfl rfl
set_option maxRecDepth 20000 in
theorem tv_959 : (Jvm.Cond.code ({ cls := "OffThenOn", name := "odds", desc := "(III)I" } : Jvm.MethodName) prog_1_method_35_code (6 : Nat) (Option.some Jvm.ClassFile.FieldType.int)) ∈ sa_Ts := tv_m4 239 rfl rfl
set_option maxRecDepth 20000 in
theorem tv_960 : (Jvm.Cond.methodLink "OffThenOnLaw" (172 : Nat) ({ cls := "OffThenOn", name := "log", desc := "(I)I" } : Jvm.MethodName)) ∈ sa_Ts := tv_m5 0 rfl rfl
set_option maxRecDepth 20000 in
theorem tv_961 : (Jvm.Cond.instanceMethod ({ cls := "OffThenOn", name := "log", desc := "(I)I" } : Jvm.MethodName)) ∈ sa_Ts := tv_m5 1 rfl rfl
set_option maxRecDepth 20000 in
theorem tv_962 : (Jvm.Cond.selects "OffThenOn" ({ cls := "OffThenOn", name := "log", desc := "(I)I" } : Jvm.MethodName) ({ cls := "OffThenOn", name := "log", desc := "(I)I" } : Jvm.MethodName)) ∈ sa_Ts := tv_m5 2 rfl rfl
set_option maxRecDepth 20000 in
theorem tv_963 : (Jvm.Cond.code ({ cls := "OffThenOn", name := "log", desc := "(I)I" } : Jvm.MethodName) prog_1_method_36_code (5 : Nat) (Option.some Jvm.ClassFile.FieldType.int)) ∈ sa_Ts := tv_m5 3 rfl rfl
set_option maxRecDepth 20000 in
theorem tv_1010 : (Jvm.Cond.methodLink "OffThenOnLaw" (176 : Nat) ({ cls := "OffThenOn", name := "logged", desc := "(I)I" } : Jvm.MethodName)) ∈ sa_Ts := tv_m5 50 rfl rfl
set_option maxRecDepth 20000 in
theorem tv_1011 : (Jvm.Cond.instanceMethod ({ cls := "OffThenOn", name := "logged", desc := "(I)I" } : Jvm.MethodName)) ∈ sa_Ts := tv_m5 51 rfl rfl
set_option maxRecDepth 20000 in
theorem tv_1012 : (Jvm.Cond.selects "OffThenOn" ({ cls := "OffThenOn", name := "logged", desc := "(I)I" } : Jvm.MethodName) ({ cls := "OffThenOn", name := "logged", desc := "(I)I" } : Jvm.MethodName)) ∈ sa_Ts := tv_m5 52 rfl rfl
set_option maxRecDepth 20000 in
theorem tv_1013 : (Jvm.Cond.code ({ cls := "OffThenOn", name := "logged", desc := "(I)I" } : Jvm.MethodName) prog_1_method_37_code (2 : Nat) (Option.some Jvm.ClassFile.FieldType.int)) ∈ sa_Ts := tv_m5 53 rfl rfl
set_option maxRecDepth 20000 in
theorem tv_1068 : (Jvm.Cond.methodLink "OffThenOnLaw" (184 : Nat) ({ cls := "OffThenOn", name := "said", desc := "(I)I" } : Jvm.MethodName)) ∈ sa_Ts := tv_m5 108 rfl rfl
set_option maxRecDepth 20000 in
theorem tv_1069 : (Jvm.Cond.instanceMethod ({ cls := "OffThenOn", name := "said", desc := "(I)I" } : Jvm.MethodName)) ∈ sa_Ts := tv_m5 109 rfl rfl
set_option maxRecDepth 20000 in
theorem tv_1070 : (Jvm.Cond.selects "OffThenOn" ({ cls := "OffThenOn", name := "said", desc := "(I)I" } : Jvm.MethodName) ({ cls := "OffThenOn", name := "said", desc := "(I)I" } : Jvm.MethodName)) ∈ sa_Ts := tv_m5 110 rfl rfl
set_option maxRecDepth 20000 in
theorem tv_1071 : (Jvm.Cond.code ({ cls := "OffThenOn", name := "said", desc := "(I)I" } : Jvm.MethodName) prog_1_method_39_code (5 : Nat) (Option.some Jvm.ClassFile.FieldType.int)) ∈ sa_Ts := tv_m5 111 rfl rfl
set_option maxRecDepth 20000 in
theorem tv_1111 : (Jvm.Cond.methodLink "OffThenOnLaw" (196 : Nat) ({ cls := "OffThenOn", name := "count", desc := "(I)I" } : Jvm.MethodName)) ∈ sa_Ts := tv_m5 151 rfl rfl
set_option maxRecDepth 20000 in
theorem tv_1112 : (Jvm.Cond.instanceMethod ({ cls := "OffThenOn", name := "count", desc := "(I)I" } : Jvm.MethodName)) ∈ sa_Ts := tv_m5 152 rfl rfl
set_option maxRecDepth 20000 in
theorem tv_1113 : (Jvm.Cond.selects "OffThenOn" ({ cls := "OffThenOn", name := "count", desc := "(I)I" } : Jvm.MethodName) ({ cls := "OffThenOn", name := "count", desc := "(I)I" } : Jvm.MethodName)) ∈ sa_Ts := tv_m5 153 rfl rfl
set_option maxRecDepth 20000 in
theorem tv_1114 : (Jvm.Cond.code ({ cls := "OffThenOn", name := "count", desc := "(I)I" } : Jvm.MethodName) prog_1_method_42_code (2 : Nat) (Option.some Jvm.ClassFile.FieldType.int)) ∈ sa_Ts := tv_m5 154 rfl rfl
set_option maxRecDepth 20000 in
theorem tv_1115 : (Jvm.Cond.methodLink "OffThenOnLaw" (51 : Nat) ({ cls := "OffThenOnLaw", name := "thing", desc := "(LOffThenOn;II[J)I" } : Jvm.MethodName)) ∈ sa_Ts := tv_m5 155 rfl rfl
set_option maxRecDepth 20000 in
theorem tv_1116 : (Jvm.Cond.static ({ cls := "OffThenOnLaw", name := "thing", desc := "(LOffThenOn;II[J)I" } : Jvm.MethodName)) ∈ sa_Ts := tv_m5 156 rfl rfl
set_option maxRecDepth 20000 in
theorem tv_1117 : (Jvm.Cond.codeWith ({ cls := "OffThenOnLaw", name := "thing", desc := "(LOffThenOn;II[J)I" } : Jvm.MethodName) method_3_code (5 : Nat) (Option.some Jvm.ClassFile.FieldType.int) [((0 : Nat), (10 : Nat), (13 : Nat), (13 : Nat))]) ∈ sa_Ts := tv_m5 157 rfl rfl
set_option maxRecDepth 20000 in
theorem tv_1118 : (Jvm.Cond.classLink "OffThenOnLaw" (13 : Nat) "java/util/NoSuchElementException") ∈ sa_Ts := tv_m5 158 rfl rfl
set_option maxRecDepth 20000 in
theorem tv_1119 : (Jvm.Cond.methodLink "OffThenOnLaw" (7 : Nat) ({ cls := "OffThenOn", name := "thing", desc := "(II)I" } : Jvm.MethodName)) ∈ sa_Ts := tv_m5 159 rfl rfl
set_option maxRecDepth 20000 in
theorem tv_1120 : (Jvm.Cond.instanceMethod ({ cls := "OffThenOn", name := "thing", desc := "(II)I" } : Jvm.MethodName)) ∈ sa_Ts := tv_m5 160 rfl rfl
set_option maxRecDepth 20000 in
theorem tv_1121 : (Jvm.Cond.selects "OffThenOn" ({ cls := "OffThenOn", name := "thing", desc := "(II)I" } : Jvm.MethodName) ({ cls := "OffThenOn", name := "thing", desc := "(II)I" } : Jvm.MethodName)) ∈ sa_Ts := tv_m5 161 rfl rfl
set_option maxRecDepth 20000 in
theorem tv_1122 : (Jvm.Cond.code ({ cls := "OffThenOn", name := "thing", desc := "(II)I" } : Jvm.MethodName) prog_1_method_6_code (5 : Nat) (Option.some Jvm.ClassFile.FieldType.int)) ∈ sa_Ts := tv_m5 162 rfl rfl
set_option maxRecDepth 20000 in
theorem tv_1184 : (Jvm.Cond.methodLink "OffThenOnLaw" (57 : Nat) ({ cls := "OffThenOnLaw", name := "trouble", desc := "(LOffThenOn;II[J)I" } : Jvm.MethodName)) ∈ sa_Ts := tv_m5 224 rfl rfl
set_option maxRecDepth 20000 in
theorem tv_1185 : (Jvm.Cond.static ({ cls := "OffThenOnLaw", name := "trouble", desc := "(LOffThenOn;II[J)I" } : Jvm.MethodName)) ∈ sa_Ts := tv_m5 225 rfl rfl
set_option maxRecDepth 20000 in
theorem tv_1186 : (Jvm.Cond.codeWith ({ cls := "OffThenOnLaw", name := "trouble", desc := "(LOffThenOn;II[J)I" } : Jvm.MethodName) method_4_code (5 : Nat) (Option.some Jvm.ClassFile.FieldType.int) [((0 : Nat), (10 : Nat), (13 : Nat), (13 : Nat))]) ∈ sa_Ts := tv_m5 226 rfl rfl
set_option maxRecDepth 20000 in
theorem tv_1187 : (Jvm.Cond.methodLink "OffThenOnLaw" (15 : Nat) ({ cls := "OffThenOn", name := "trouble", desc := "(II)I" } : Jvm.MethodName)) ∈ sa_Ts := tv_m5 227 rfl rfl
set_option maxRecDepth 20000 in
theorem tv_1188 : (Jvm.Cond.instanceMethod ({ cls := "OffThenOn", name := "trouble", desc := "(II)I" } : Jvm.MethodName)) ∈ sa_Ts := tv_m5 228 rfl rfl
set_option maxRecDepth 20000 in
theorem tv_1189 : (Jvm.Cond.selects "OffThenOn" ({ cls := "OffThenOn", name := "trouble", desc := "(II)I" } : Jvm.MethodName) ({ cls := "OffThenOn", name := "trouble", desc := "(II)I" } : Jvm.MethodName)) ∈ sa_Ts := tv_m5 229 rfl rfl
set_option maxRecDepth 20000 in
theorem tv_1190 : (Jvm.Cond.code ({ cls := "OffThenOn", name := "trouble", desc := "(II)I" } : Jvm.MethodName) prog_1_method_7_code (5 : Nat) (Option.some Jvm.ClassFile.FieldType.int)) ∈ sa_Ts := tv_m5 230 rfl rfl
set_option maxRecDepth 20000 in
theorem tv_1191 : (Jvm.Cond.methodLink "OffThenOnLaw" (101 : Nat) ({ cls := "OffThenOnLaw", name := "likely", desc := "(LOffThenOn;II[J)I" } : Jvm.MethodName)) ∈ sa_Ts := tv_m5 231 rfl rfl
set_option maxRecDepth 20000 in
theorem tv_1192 : (Jvm.Cond.static ({ cls := "OffThenOnLaw", name := "likely", desc := "(LOffThenOn;II[J)I" } : Jvm.MethodName)) ∈ sa_Ts := tv_m5 232 rfl rfl
set_option maxRecDepth 20000 in
theorem tv_1193 : (Jvm.Cond.codeWith ({ cls := "OffThenOnLaw", name := "likely", desc := "(LOffThenOn;II[J)I" } : Jvm.MethodName) method_5_code (5 : Nat) (Option.some Jvm.ClassFile.FieldType.int) [((0 : Nat), (10 : Nat), (13 : Nat), (13 : Nat))]) ∈ sa_Ts := tv_m5 233 rfl rfl
set_option maxRecDepth 20000 in
theorem tv_1194 : (Jvm.Cond.methodLink "OffThenOnLaw" (18 : Nat) ({ cls := "OffThenOn", name := "likely", desc := "(II)I" } : Jvm.MethodName)) ∈ sa_Ts := tv_m5 234 rfl rfl
set_option maxRecDepth 20000 in
theorem tv_1195 : (Jvm.Cond.instanceMethod ({ cls := "OffThenOn", name := "likely", desc := "(II)I" } : Jvm.MethodName)) ∈ sa_Ts := tv_m5 235 rfl rfl
set_option maxRecDepth 20000 in
theorem tv_1196 : (Jvm.Cond.selects "OffThenOn" ({ cls := "OffThenOn", name := "likely", desc := "(II)I" } : Jvm.MethodName) ({ cls := "OffThenOn", name := "likely", desc := "(II)I" } : Jvm.MethodName)) ∈ sa_Ts := tv_m5 236 rfl rfl
set_option maxRecDepth 20000 in
theorem tv_1197 : (Jvm.Cond.code ({ cls := "OffThenOn", name := "likely", desc := "(II)I" } : Jvm.MethodName) prog_1_method_18_code (5 : Nat) (Option.some Jvm.ClassFile.FieldType.int)) ∈ sa_Ts := tv_m5 237 rfl rfl
set_option maxRecDepth 20000 in
theorem tv_1202 : (Jvm.Cond.methodLink "OffThenOnLaw" (104 : Nat) ({ cls := "OffThenOnLaw", name := "plan", desc := "(LOffThenOn;III[J)I" } : Jvm.MethodName)) ∈ sa_Ts := tv_m6 2 rfl rfl
set_option maxRecDepth 20000 in
theorem tv_1203 : (Jvm.Cond.static ({ cls := "OffThenOnLaw", name := "plan", desc := "(LOffThenOn;III[J)I" } : Jvm.MethodName)) ∈ sa_Ts := tv_m6 3 rfl rfl
set_option maxRecDepth 20000 in
theorem tv_1204 : (Jvm.Cond.codeWith ({ cls := "OffThenOnLaw", name := "plan", desc := "(LOffThenOn;III[J)I" } : Jvm.MethodName) method_6_code (6 : Nat) (Option.some Jvm.ClassFile.FieldType.int) [((0 : Nat), (12 : Nat), (15 : Nat), (13 : Nat))]) ∈ sa_Ts := tv_m6 4 rfl rfl
set_option maxRecDepth 20000 in
theorem tv_1205 : (Jvm.Cond.methodLink "OffThenOnLaw" (21 : Nat) ({ cls := "OffThenOn", name := "plan", desc := "(III)I" } : Jvm.MethodName)) ∈ sa_Ts := tv_m6 5 rfl rfl
set_option maxRecDepth 20000 in
theorem tv_1206 : (Jvm.Cond.instanceMethod ({ cls := "OffThenOn", name := "plan", desc := "(III)I" } : Jvm.MethodName)) ∈ sa_Ts := tv_m6 6 rfl rfl
set_option maxRecDepth 20000 in
theorem tv_1207 : (Jvm.Cond.selects "OffThenOn" ({ cls := "OffThenOn", name := "plan", desc := "(III)I" } : Jvm.MethodName) ({ cls := "OffThenOn", name := "plan", desc := "(III)I" } : Jvm.MethodName)) ∈ sa_Ts := tv_m6 7 rfl rfl
set_option maxRecDepth 20000 in
theorem tv_1208 : (Jvm.Cond.code ({ cls := "OffThenOn", name := "plan", desc := "(III)I" } : Jvm.MethodName) prog_1_method_19_code (4 : Nat) (Option.some Jvm.ClassFile.FieldType.int)) ∈ sa_Ts := tv_m6 8 rfl rfl
set_option maxRecDepth 20000 in
theorem tv_1406 : (Jvm.Cond.methodLink "OffThenOnLaw" (42 : Nat) ({ cls := "OffThenOnModel", name := "end", desc := "(I)Z" } : Jvm.MethodName)) ∈ sa_Ts := tv_m6 206 rfl rfl
set_option maxRecDepth 20000 in
theorem tv_1407 : (Jvm.Cond.instanceMethod ({ cls := "OffThenOnModel", name := "end", desc := "(I)Z" } : Jvm.MethodName)) ∈ sa_Ts := tv_m6 207 rfl rfl
set_option maxRecDepth 20000 in
theorem tv_1408 : (Jvm.Cond.selects "OffThenOnModel" ({ cls := "OffThenOnModel", name := "end", desc := "(I)Z" } : Jvm.MethodName) ({ cls := "OffThenOnModel", name := "end", desc := "(I)Z" } : Jvm.MethodName)) ∈ sa_Ts := tv_m6 208 rfl rfl
set_option maxRecDepth 20000 in
theorem tv_1409 : (Jvm.Cond.code ({ cls := "OffThenOnModel", name := "end", desc := "(I)Z" } : Jvm.MethodName) prog_14_method_6_code (2 : Nat) (Option.some Jvm.ClassFile.FieldType.boolean)) ∈ sa_Ts := tv_m6 209 rfl rfl
set_option maxRecDepth 20000 in
theorem tv_1510 : (Jvm.Cond.methodLink "OffThenOnLaw" (50 : Nat) ({ cls := "OffThenOnModel", name := "fault", desc := "()I" } : Jvm.MethodName)) ∈ sa_Ts := tv_m7 70 rfl rfl
set_option maxRecDepth 20000 in
theorem tv_1511 : (Jvm.Cond.instanceMethod ({ cls := "OffThenOnModel", name := "fault", desc := "()I" } : Jvm.MethodName)) ∈ sa_Ts := tv_m7 71 rfl rfl
set_option maxRecDepth 20000 in
theorem tv_1512 : (Jvm.Cond.selects "OffThenOnModel" ({ cls := "OffThenOnModel", name := "fault", desc := "()I" } : Jvm.MethodName) ({ cls := "OffThenOnModel", name := "fault", desc := "()I" } : Jvm.MethodName)) ∈ sa_Ts := tv_m7 72 rfl rfl
set_option maxRecDepth 20000 in
theorem tv_1513 : (Jvm.Cond.code ({ cls := "OffThenOnModel", name := "fault", desc := "()I" } : Jvm.MethodName) prog_14_method_38_code (1 : Nat) (Option.some Jvm.ClassFile.FieldType.int)) ∈ sa_Ts := tv_m7 73 rfl rfl
set_option maxRecDepth 20000 in
theorem tv_1514 : (Jvm.Cond.methodLink "OffThenOnLaw" (56 : Nat) ({ cls := "OffThenOnModel", name := "thing", desc := "(II)I" } : Jvm.MethodName)) ∈ sa_Ts := tv_m7 74 rfl rfl
set_option maxRecDepth 20000 in
theorem tv_1515 : (Jvm.Cond.instanceMethod ({ cls := "OffThenOnModel", name := "thing", desc := "(II)I" } : Jvm.MethodName)) ∈ sa_Ts := tv_m7 75 rfl rfl
set_option maxRecDepth 20000 in
theorem tv_1516 : (Jvm.Cond.selects "OffThenOnModel" ({ cls := "OffThenOnModel", name := "thing", desc := "(II)I" } : Jvm.MethodName) ({ cls := "OffThenOnModel", name := "thing", desc := "(II)I" } : Jvm.MethodName)) ∈ sa_Ts := tv_m7 76 rfl rfl
set_option maxRecDepth 20000 in
theorem tv_1517 : (Jvm.Cond.code ({ cls := "OffThenOnModel", name := "thing", desc := "(II)I" } : Jvm.MethodName) prog_14_method_48_code (3 : Nat) (Option.some Jvm.ClassFile.FieldType.int)) ∈ sa_Ts := tv_m7 77 rfl rfl
set_option maxRecDepth 20000 in
theorem tv_1546 : (Jvm.Cond.methodLink "OffThenOnLaw" (59 : Nat) ({ cls := "OffThenOnModel", name := "trouble", desc := "(II)I" } : Jvm.MethodName)) ∈ sa_Ts := tv_m7 106 rfl rfl
set_option maxRecDepth 20000 in
theorem tv_1547 : (Jvm.Cond.instanceMethod ({ cls := "OffThenOnModel", name := "trouble", desc := "(II)I" } : Jvm.MethodName)) ∈ sa_Ts := tv_m7 107 rfl rfl
set_option maxRecDepth 20000 in
theorem tv_1548 : (Jvm.Cond.selects "OffThenOnModel" ({ cls := "OffThenOnModel", name := "trouble", desc := "(II)I" } : Jvm.MethodName) ({ cls := "OffThenOnModel", name := "trouble", desc := "(II)I" } : Jvm.MethodName)) ∈ sa_Ts := tv_m7 108 rfl rfl
set_option maxRecDepth 20000 in
theorem tv_1549 : (Jvm.Cond.code ({ cls := "OffThenOnModel", name := "trouble", desc := "(II)I" } : Jvm.MethodName) prog_14_method_49_code (3 : Nat) (Option.some Jvm.ClassFile.FieldType.int)) ∈ sa_Ts := tv_m7 109 rfl rfl
set_option maxRecDepth 20000 in
theorem tv_1554 : (Jvm.Cond.methodLink "OffThenOnLaw" (63 : Nat) ({ cls := "OffThenOnModel", name := "cures", desc := "(II)I" } : Jvm.MethodName)) ∈ sa_Ts := tv_m7 114 rfl rfl
set_option maxRecDepth 20000 in
theorem tv_1555 : (Jvm.Cond.instanceMethod ({ cls := "OffThenOnModel", name := "cures", desc := "(II)I" } : Jvm.MethodName)) ∈ sa_Ts := tv_m7 115 rfl rfl
set_option maxRecDepth 20000 in
theorem tv_1556 : (Jvm.Cond.selects "OffThenOnModel" ({ cls := "OffThenOnModel", name := "cures", desc := "(II)I" } : Jvm.MethodName) ({ cls := "OffThenOnModel", name := "cures", desc := "(II)I" } : Jvm.MethodName)) ∈ sa_Ts := tv_m7 116 rfl rfl
set_option maxRecDepth 20000 in
theorem tv_1557 : (Jvm.Cond.code ({ cls := "OffThenOnModel", name := "cures", desc := "(II)I" } : Jvm.MethodName) prog_14_method_50_code (3 : Nat) (Option.some Jvm.ClassFile.FieldType.int)) ∈ sa_Ts := tv_m7 117 rfl rfl
set_option maxRecDepth 20000 in
theorem tv_1558 : (Jvm.Cond.methodLink "OffThenOnLaw" (68 : Nat) ({ cls := "OffThenOnModel", name := "now", desc := "(I)I" } : Jvm.MethodName)) ∈ sa_Ts := tv_m7 118 rfl rfl
set_option maxRecDepth 20000 in
theorem tv_1559 : (Jvm.Cond.instanceMethod ({ cls := "OffThenOnModel", name := "now", desc := "(I)I" } : Jvm.MethodName)) ∈ sa_Ts := tv_m7 119 rfl rfl
set_option maxRecDepth 20000 in
theorem tv_1560 : (Jvm.Cond.selects "OffThenOnModel" ({ cls := "OffThenOnModel", name := "now", desc := "(I)I" } : Jvm.MethodName) ({ cls := "OffThenOnModel", name := "now", desc := "(I)I" } : Jvm.MethodName)) ∈ sa_Ts := tv_m7 120 rfl rfl
set_option maxRecDepth 20000 in
theorem tv_1561 : (Jvm.Cond.code ({ cls := "OffThenOnModel", name := "now", desc := "(I)I" } : Jvm.MethodName) prog_14_method_51_code (4 : Nat) (Option.some Jvm.ClassFile.FieldType.int)) ∈ sa_Ts := tv_m7 121 rfl rfl
set_option maxRecDepth 20000 in
theorem tv_1566 : (Jvm.Cond.methodLink "OffThenOnLaw" (72 : Nat) ({ cls := "OffThenOnModel", name := "off", desc := "(I)I" } : Jvm.MethodName)) ∈ sa_Ts := tv_m7 126 rfl rfl
set_option maxRecDepth 20000 in
theorem tv_1567 : (Jvm.Cond.instanceMethod ({ cls := "OffThenOnModel", name := "off", desc := "(I)I" } : Jvm.MethodName)) ∈ sa_Ts := tv_m7 127 rfl rfl
set_option maxRecDepth 20000 in
theorem tv_1568 : (Jvm.Cond.selects "OffThenOnModel" ({ cls := "OffThenOnModel", name := "off", desc := "(I)I" } : Jvm.MethodName) ({ cls := "OffThenOnModel", name := "off", desc := "(I)I" } : Jvm.MethodName)) ∈ sa_Ts := tv_m7 128 rfl rfl
set_option maxRecDepth 20000 in
theorem tv_1569 : (Jvm.Cond.code ({ cls := "OffThenOnModel", name := "off", desc := "(I)I" } : Jvm.MethodName) prog_14_method_61_code (2 : Nat) (Option.some Jvm.ClassFile.FieldType.int)) ∈ sa_Ts := tv_m7 129 rfl rfl
set_option maxRecDepth 20000 in
theorem tv_1611 : (Jvm.Cond.methodLink "OffThenOnLaw" (76 : Nat) ({ cls := "OffThenOnModel", name := "on", desc := "(II)I" } : Jvm.MethodName)) ∈ sa_Ts := tv_m7 171 rfl rfl
set_option maxRecDepth 20000 in
theorem tv_1612 : (Jvm.Cond.instanceMethod ({ cls := "OffThenOnModel", name := "on", desc := "(II)I" } : Jvm.MethodName)) ∈ sa_Ts := tv_m7 172 rfl rfl
set_option maxRecDepth 20000 in
theorem tv_1613 : (Jvm.Cond.selects "OffThenOnModel" ({ cls := "OffThenOnModel", name := "on", desc := "(II)I" } : Jvm.MethodName) ({ cls := "OffThenOnModel", name := "on", desc := "(II)I" } : Jvm.MethodName)) ∈ sa_Ts := tv_m7 173 rfl rfl
set_option maxRecDepth 20000 in
theorem tv_1614 : (Jvm.Cond.code ({ cls := "OffThenOnModel", name := "on", desc := "(II)I" } : Jvm.MethodName) prog_14_method_62_code (3 : Nat) (Option.some Jvm.ClassFile.FieldType.int)) ∈ sa_Ts := tv_m7 174 rfl rfl
set_option maxRecDepth 20000 in
theorem tv_1615 : (Jvm.Cond.methodLink "OffThenOnLaw" (80 : Nat) ({ cls := "OffThenOnModel", name := "cable", desc := "(II)I" } : Jvm.MethodName)) ∈ sa_Ts := tv_m7 175 rfl rfl
set_option maxRecDepth 20000 in
theorem tv_1616 : (Jvm.Cond.instanceMethod ({ cls := "OffThenOnModel", name := "cable", desc := "(II)I" } : Jvm.MethodName)) ∈ sa_Ts := tv_m7 176 rfl rfl
set_option maxRecDepth 20000 in
theorem tv_1617 : (Jvm.Cond.selects "OffThenOnModel" ({ cls := "OffThenOnModel", name := "cable", desc := "(II)I" } : Jvm.MethodName) ({ cls := "OffThenOnModel", name := "cable", desc := "(II)I" } : Jvm.MethodName)) ∈ sa_Ts := tv_m7 177 rfl rfl
set_option maxRecDepth 20000 in
theorem tv_1618 : (Jvm.Cond.code ({ cls := "OffThenOnModel", name := "cable", desc := "(II)I" } : Jvm.MethodName) prog_14_method_63_code (3 : Nat) (Option.some Jvm.ClassFile.FieldType.int)) ∈ sa_Ts := tv_m7 178 rfl rfl
set_option maxRecDepth 20000 in
theorem tv_1619 : (Jvm.Cond.methodLink "OffThenOnLaw" (84 : Nat) ({ cls := "OffThenOnModel", name := "pin", desc := "(II)I" } : Jvm.MethodName)) ∈ sa_Ts := tv_m7 179 rfl rfl
set_option maxRecDepth 20000 in
theorem tv_1620 : (Jvm.Cond.instanceMethod ({ cls := "OffThenOnModel", name := "pin", desc := "(II)I" } : Jvm.MethodName)) ∈ sa_Ts := tv_m7 180 rfl rfl
set_option maxRecDepth 20000 in
theorem tv_1621 : (Jvm.Cond.selects "OffThenOnModel" ({ cls := "OffThenOnModel", name := "pin", desc := "(II)I" } : Jvm.MethodName) ({ cls := "OffThenOnModel", name := "pin", desc := "(II)I" } : Jvm.MethodName)) ∈ sa_Ts := tv_m7 181 rfl rfl
set_option maxRecDepth 20000 in
theorem tv_1622 : (Jvm.Cond.code ({ cls := "OffThenOnModel", name := "pin", desc := "(II)I" } : Jvm.MethodName) prog_14_method_64_code (3 : Nat) (Option.some Jvm.ClassFile.FieldType.int)) ∈ sa_Ts := tv_m7 182 rfl rfl
set_option maxRecDepth 20000 in
theorem tv_1623 : (Jvm.Cond.methodLink "OffThenOnLaw" (88 : Nat) ({ cls := "OffThenOnModel", name := "strike", desc := "(I)I" } : Jvm.MethodName)) ∈ sa_Ts := tv_m7 183 rfl rfl
set_option maxRecDepth 20000 in
theorem tv_1624 : (Jvm.Cond.instanceMethod ({ cls := "OffThenOnModel", name := "strike", desc := "(I)I" } : Jvm.MethodName)) ∈ sa_Ts := tv_m7 184 rfl rfl
set_option maxRecDepth 20000 in
theorem tv_1625 : (Jvm.Cond.selects "OffThenOnModel" ({ cls := "OffThenOnModel", name := "strike", desc := "(I)I" } : Jvm.MethodName) ({ cls := "OffThenOnModel", name := "strike", desc := "(I)I" } : Jvm.MethodName)) ∈ sa_Ts := tv_m7 185 rfl rfl
set_option maxRecDepth 20000 in
theorem tv_1626 : (Jvm.Cond.code ({ cls := "OffThenOnModel", name := "strike", desc := "(I)I" } : Jvm.MethodName) prog_14_method_65_code (2 : Nat) (Option.some Jvm.ClassFile.FieldType.int)) ∈ sa_Ts := tv_m7 186 rfl rfl
set_option maxRecDepth 20000 in
theorem tv_1627 : (Jvm.Cond.methodLink "OffThenOnLaw" (96 : Nat) ({ cls := "OffThenOnModel", name := "undo", desc := "()I" } : Jvm.MethodName)) ∈ sa_Ts := tv_m7 187 rfl rfl
set_option maxRecDepth 20000 in
theorem tv_1628 : (Jvm.Cond.instanceMethod ({ cls := "OffThenOnModel", name := "undo", desc := "()I" } : Jvm.MethodName)) ∈ sa_Ts := tv_m7 188 rfl rfl
set_option maxRecDepth 20000 in
theorem tv_1629 : (Jvm.Cond.selects "OffThenOnModel" ({ cls := "OffThenOnModel", name := "undo", desc := "()I" } : Jvm.MethodName) ({ cls := "OffThenOnModel", name := "undo", desc := "()I" } : Jvm.MethodName)) ∈ sa_Ts := tv_m7 189 rfl rfl
set_option maxRecDepth 20000 in
theorem tv_1630 : (Jvm.Cond.code ({ cls := "OffThenOnModel", name := "undo", desc := "()I" } : Jvm.MethodName) prog_14_method_66_code (2 : Nat) (Option.some Jvm.ClassFile.FieldType.int)) ∈ sa_Ts := tv_m7 190 rfl rfl
set_option maxRecDepth 20000 in
theorem tv_1631 : (Jvm.Cond.methodLink "OffThenOnLaw" (92 : Nat) ({ cls := "OffThenOnModel", name := "minutes", desc := "(I)I" } : Jvm.MethodName)) ∈ sa_Ts := tv_m7 191 rfl rfl
set_option maxRecDepth 20000 in
theorem tv_1632 : (Jvm.Cond.instanceMethod ({ cls := "OffThenOnModel", name := "minutes", desc := "(I)I" } : Jvm.MethodName)) ∈ sa_Ts := tv_m7 192 rfl rfl
set_option maxRecDepth 20000 in
theorem tv_1633 : (Jvm.Cond.selects "OffThenOnModel" ({ cls := "OffThenOnModel", name := "minutes", desc := "(I)I" } : Jvm.MethodName) ({ cls := "OffThenOnModel", name := "minutes", desc := "(I)I" } : Jvm.MethodName)) ∈ sa_Ts := tv_m7 193 rfl rfl
set_option maxRecDepth 20000 in
theorem tv_1634 : (Jvm.Cond.code ({ cls := "OffThenOnModel", name := "minutes", desc := "(I)I" } : Jvm.MethodName) prog_14_method_69_code (2 : Nat) (Option.some Jvm.ClassFile.FieldType.int)) ∈ sa_Ts := tv_m7 194 rfl rfl
set_option maxRecDepth 20000 in
theorem tv_1646 : (Jvm.Cond.methodLink "OffThenOnLaw" (100 : Nat) ({ cls := "OffThenOnModel", name := "what", desc := "()I" } : Jvm.MethodName)) ∈ sa_Ts := tv_m7 206 rfl rfl
set_option maxRecDepth 20000 in
theorem tv_1647 : (Jvm.Cond.instanceMethod ({ cls := "OffThenOnModel", name := "what", desc := "()I" } : Jvm.MethodName)) ∈ sa_Ts := tv_m7 207 rfl rfl
set_option maxRecDepth 20000 in
theorem tv_1648 : (Jvm.Cond.selects "OffThenOnModel" ({ cls := "OffThenOnModel", name := "what", desc := "()I" } : Jvm.MethodName) ({ cls := "OffThenOnModel", name := "what", desc := "()I" } : Jvm.MethodName)) ∈ sa_Ts := tv_m7 208 rfl rfl
set_option maxRecDepth 20000 in
theorem tv_1649 : (Jvm.Cond.code ({ cls := "OffThenOnModel", name := "what", desc := "()I" } : Jvm.MethodName) prog_14_method_71_code (4 : Nat) (Option.some Jvm.ClassFile.FieldType.int)) ∈ sa_Ts := tv_m7 209 rfl rfl
set_option maxRecDepth 20000 in
theorem tv_1654 : (Jvm.Cond.methodLink "OffThenOnLaw" (103 : Nat) ({ cls := "OffThenOnModel", name := "likely", desc := "(II)I" } : Jvm.MethodName)) ∈ sa_Ts := tv_m7 214 rfl rfl
set_option maxRecDepth 20000 in
theorem tv_1655 : (Jvm.Cond.instanceMethod ({ cls := "OffThenOnModel", name := "likely", desc := "(II)I" } : Jvm.MethodName)) ∈ sa_Ts := tv_m7 215 rfl rfl
set_option maxRecDepth 20000 in
theorem tv_1656 : (Jvm.Cond.selects "OffThenOnModel" ({ cls := "OffThenOnModel", name := "likely", desc := "(II)I" } : Jvm.MethodName) ({ cls := "OffThenOnModel", name := "likely", desc := "(II)I" } : Jvm.MethodName)) ∈ sa_Ts := tv_m7 216 rfl rfl
set_option maxRecDepth 20000 in
theorem tv_1657 : (Jvm.Cond.code ({ cls := "OffThenOnModel", name := "likely", desc := "(II)I" } : Jvm.MethodName) prog_14_method_72_code (5 : Nat) (Option.some Jvm.ClassFile.FieldType.int)) ∈ sa_Ts := tv_m7 217 rfl rfl
set_option maxRecDepth 20000 in
theorem tv_1664 : (Jvm.Cond.methodLink "OffThenOnLaw" (107 : Nat) ({ cls := "OffThenOnModel", name := "plan", desc := "(III)I" } : Jvm.MethodName)) ∈ sa_Ts := tv_m7 224 rfl rfl
set_option maxRecDepth 20000 in
theorem tv_1665 : (Jvm.Cond.instanceMethod ({ cls := "OffThenOnModel", name := "plan", desc := "(III)I" } : Jvm.MethodName)) ∈ sa_Ts := tv_m7 225 rfl rfl
set_option maxRecDepth 20000 in
theorem tv_1666 : (Jvm.Cond.selects "OffThenOnModel" ({ cls := "OffThenOnModel", name := "plan", desc := "(III)I" } : Jvm.MethodName) ({ cls := "OffThenOnModel", name := "plan", desc := "(III)I" } : Jvm.MethodName)) ∈ sa_Ts := tv_m7 226 rfl rfl
set_option maxRecDepth 20000 in
theorem tv_1667 : (Jvm.Cond.code ({ cls := "OffThenOnModel", name := "plan", desc := "(III)I" } : Jvm.MethodName) prog_14_method_77_code (5 : Nat) (Option.some Jvm.ClassFile.FieldType.int)) ∈ sa_Ts := tv_m7 227 rfl rfl
set_option maxRecDepth 20000 in
theorem tv_1685 : (Jvm.Cond.methodLink "OffThenOnLaw" (111 : Nat) ({ cls := "OffThenOnModel", name := "planAt", desc := "(I)I" } : Jvm.MethodName)) ∈ sa_Ts := tv_m8 5 rfl rfl
set_option maxRecDepth 20000 in
theorem tv_1686 : (Jvm.Cond.instanceMethod ({ cls := "OffThenOnModel", name := "planAt", desc := "(I)I" } : Jvm.MethodName)) ∈ sa_Ts := tv_m8 6 rfl rfl
set_option maxRecDepth 20000 in
theorem tv_1687 : (Jvm.Cond.selects "OffThenOnModel" ({ cls := "OffThenOnModel", name := "planAt", desc := "(I)I" } : Jvm.MethodName) ({ cls := "OffThenOnModel", name := "planAt", desc := "(I)I" } : Jvm.MethodName)) ∈ sa_Ts := tv_m8 7 rfl rfl
set_option maxRecDepth 20000 in
theorem tv_1688 : (Jvm.Cond.code ({ cls := "OffThenOnModel", name := "planAt", desc := "(I)I" } : Jvm.MethodName) prog_14_method_78_code (2 : Nat) (Option.some Jvm.ClassFile.FieldType.int)) ∈ sa_Ts := tv_m8 8 rfl rfl
set_option maxRecDepth 20000 in
theorem tv_1689 : (Jvm.Cond.methodLink "OffThenOnLaw" (115 : Nat) ({ cls := "OffThenOnModel", name := "ready", desc := "(I)I" } : Jvm.MethodName)) ∈ sa_Ts := tv_m8 9 rfl rfl
set_option maxRecDepth 20000 in
theorem tv_1690 : (Jvm.Cond.instanceMethod ({ cls := "OffThenOnModel", name := "ready", desc := "(I)I" } : Jvm.MethodName)) ∈ sa_Ts := tv_m8 10 rfl rfl
set_option maxRecDepth 20000 in
theorem tv_1691 : (Jvm.Cond.selects "OffThenOnModel" ({ cls := "OffThenOnModel", name := "ready", desc := "(I)I" } : Jvm.MethodName) ({ cls := "OffThenOnModel", name := "ready", desc := "(I)I" } : Jvm.MethodName)) ∈ sa_Ts := tv_m8 11 rfl rfl
set_option maxRecDepth 20000 in
theorem tv_1692 : (Jvm.Cond.code ({ cls := "OffThenOnModel", name := "ready", desc := "(I)I" } : Jvm.MethodName) prog_14_method_80_code (2 : Nat) (Option.some Jvm.ClassFile.FieldType.int)) ∈ sa_Ts := tv_m8 12 rfl rfl
set_option maxRecDepth 20000 in
theorem tv_1697 : (Jvm.Cond.methodLink "OffThenOnLaw" (119 : Nat) ({ cls := "OffThenOnModel", name := "starts", desc := "(I)I" } : Jvm.MethodName)) ∈ sa_Ts := tv_m8 17 rfl rfl
set_option maxRecDepth 20000 in
theorem tv_1698 : (Jvm.Cond.instanceMethod ({ cls := "OffThenOnModel", name := "starts", desc := "(I)I" } : Jvm.MethodName)) ∈ sa_Ts := tv_m8 18 rfl rfl
set_option maxRecDepth 20000 in
theorem tv_1699 : (Jvm.Cond.selects "OffThenOnModel" ({ cls := "OffThenOnModel", name := "starts", desc := "(I)I" } : Jvm.MethodName) ({ cls := "OffThenOnModel", name := "starts", desc := "(I)I" } : Jvm.MethodName)) ∈ sa_Ts := tv_m8 19 rfl rfl
set_option maxRecDepth 20000 in
theorem tv_1700 : (Jvm.Cond.code ({ cls := "OffThenOnModel", name := "starts", desc := "(I)I" } : Jvm.MethodName) prog_14_method_81_code (2 : Nat) (Option.some Jvm.ClassFile.FieldType.int)) ∈ sa_Ts := tv_m8 20 rfl rfl
set_option maxRecDepth 20000 in
theorem tv_1708 : (Jvm.Cond.methodLink "OffThenOnLaw" (127 : Nat) ({ cls := "OffThenOnModel", name := "lots", desc := "()I" } : Jvm.MethodName)) ∈ sa_Ts := tv_m8 28 rfl rfl
set_option maxRecDepth 20000 in
theorem tv_1709 : (Jvm.Cond.instanceMethod ({ cls := "OffThenOnModel", name := "lots", desc := "()I" } : Jvm.MethodName)) ∈ sa_Ts := tv_m8 29 rfl rfl
set_option maxRecDepth 20000 in
theorem tv_1710 : (Jvm.Cond.selects "OffThenOnModel" ({ cls := "OffThenOnModel", name := "lots", desc := "()I" } : Jvm.MethodName) ({ cls := "OffThenOnModel", name := "lots", desc := "()I" } : Jvm.MethodName)) ∈ sa_Ts := tv_m8 30 rfl rfl
set_option maxRecDepth 20000 in
theorem tv_1711 : (Jvm.Cond.code ({ cls := "OffThenOnModel", name := "lots", desc := "()I" } : Jvm.MethodName) prog_14_method_83_code (1 : Nat) (Option.some Jvm.ClassFile.FieldType.int)) ∈ sa_Ts := tv_m8 31 rfl rfl
set_option maxRecDepth 20000 in
theorem tv_1712 : (Jvm.Cond.methodLink "OffThenOnLaw" (131 : Nat) ({ cls := "OffThenOnModel", name := "alike", desc := "(I)I" } : Jvm.MethodName)) ∈ sa_Ts := tv_m8 32 rfl rfl
set_option maxRecDepth 20000 in
theorem tv_1713 : (Jvm.Cond.instanceMethod ({ cls := "OffThenOnModel", name := "alike", desc := "(I)I" } : Jvm.MethodName)) ∈ sa_Ts := tv_m8 33 rfl rfl
set_option maxRecDepth 20000 in
theorem tv_1714 : (Jvm.Cond.selects "OffThenOnModel" ({ cls := "OffThenOnModel", name := "alike", desc := "(I)I" } : Jvm.MethodName) ({ cls := "OffThenOnModel", name := "alike", desc := "(I)I" } : Jvm.MethodName)) ∈ sa_Ts := tv_m8 34 rfl rfl
set_option maxRecDepth 20000 in
theorem tv_1715 : (Jvm.Cond.code ({ cls := "OffThenOnModel", name := "alike", desc := "(I)I" } : Jvm.MethodName) prog_14_method_85_code (4 : Nat) (Option.some Jvm.ClassFile.FieldType.int)) ∈ sa_Ts := tv_m8 35 rfl rfl
set_option maxRecDepth 20000 in
theorem tv_1720 : (Jvm.Cond.methodLink "OffThenOnLaw" (135 : Nat) ({ cls := "OffThenOnModel", name := "kinds", desc := "()I" } : Jvm.MethodName)) ∈ sa_Ts := tv_m8 40 rfl rfl
set_option maxRecDepth 20000 in
theorem tv_1721 : (Jvm.Cond.instanceMethod ({ cls := "OffThenOnModel", name := "kinds", desc := "()I" } : Jvm.MethodName)) ∈ sa_Ts := tv_m8 41 rfl rfl
set_option maxRecDepth 20000 in
theorem tv_1722 : (Jvm.Cond.selects "OffThenOnModel" ({ cls := "OffThenOnModel", name := "kinds", desc := "()I" } : Jvm.MethodName) ({ cls := "OffThenOnModel", name := "kinds", desc := "()I" } : Jvm.MethodName)) ∈ sa_Ts := tv_m8 42 rfl rfl
set_option maxRecDepth 20000 in
theorem tv_1723 : (Jvm.Cond.code ({ cls := "OffThenOnModel", name := "kinds", desc := "()I" } : Jvm.MethodName) prog_14_method_86_code (4 : Nat) (Option.some Jvm.ClassFile.FieldType.int)) ∈ sa_Ts := tv_m8 43 rfl rfl
set_option maxRecDepth 20000 in
theorem tv_1724 : (Jvm.Cond.methodLink "OffThenOnLaw" (139 : Nat) ({ cls := "OffThenOnModel", name := "look", desc := "(I)I" } : Jvm.MethodName)) ∈ sa_Ts := tv_m8 44 rfl rfl
set_option maxRecDepth 20000 in
theorem tv_1725 : (Jvm.Cond.instanceMethod ({ cls := "OffThenOnModel", name := "look", desc := "(I)I" } : Jvm.MethodName)) ∈ sa_Ts := tv_m8 45 rfl rfl
set_option maxRecDepth 20000 in
theorem tv_1726 : (Jvm.Cond.selects "OffThenOnModel" ({ cls := "OffThenOnModel", name := "look", desc := "(I)I" } : Jvm.MethodName) ({ cls := "OffThenOnModel", name := "look", desc := "(I)I" } : Jvm.MethodName)) ∈ sa_Ts := tv_m8 46 rfl rfl
set_option maxRecDepth 20000 in
theorem tv_1727 : (Jvm.Cond.code ({ cls := "OffThenOnModel", name := "look", desc := "(I)I" } : Jvm.MethodName) prog_14_method_88_code (4 : Nat) (Option.some Jvm.ClassFile.FieldType.int)) ∈ sa_Ts := tv_m8 47 rfl rfl
set_option maxRecDepth 20000 in
theorem tv_1732 : (Jvm.Cond.methodLink "OffThenOnLaw" (143 : Nat) ({ cls := "OffThenOnModel", name := "left", desc := "()I" } : Jvm.MethodName)) ∈ sa_Ts := tv_m8 52 rfl rfl
set_option maxRecDepth 20000 in
theorem tv_1733 : (Jvm.Cond.instanceMethod ({ cls := "OffThenOnModel", name := "left", desc := "()I" } : Jvm.MethodName)) ∈ sa_Ts := tv_m8 53 rfl rfl
set_option maxRecDepth 20000 in
theorem tv_1734 : (Jvm.Cond.selects "OffThenOnModel" ({ cls := "OffThenOnModel", name := "left", desc := "()I" } : Jvm.MethodName) ({ cls := "OffThenOnModel", name := "left", desc := "()I" } : Jvm.MethodName)) ∈ sa_Ts := tv_m8 54 rfl rfl
set_option maxRecDepth 20000 in
theorem tv_1735 : (Jvm.Cond.code ({ cls := "OffThenOnModel", name := "left", desc := "()I" } : Jvm.MethodName) prog_14_method_89_code (1 : Nat) (Option.some Jvm.ClassFile.FieldType.int)) ∈ sa_Ts := tv_m8 55 rfl rfl
set_option maxRecDepth 20000 in
theorem tv_1736 : (Jvm.Cond.methodLink "OffThenOnLaw" (147 : Nat) ({ cls := "OffThenOnModel", name := "fits", desc := "(I)I" } : Jvm.MethodName)) ∈ sa_Ts := tv_m8 56 rfl rfl
set_option maxRecDepth 20000 in
theorem tv_1737 : (Jvm.Cond.instanceMethod ({ cls := "OffThenOnModel", name := "fits", desc := "(I)I" } : Jvm.MethodName)) ∈ sa_Ts := tv_m8 57 rfl rfl
set_option maxRecDepth 20000 in
theorem tv_1738 : (Jvm.Cond.selects "OffThenOnModel" ({ cls := "OffThenOnModel", name := "fits", desc := "(I)I" } : Jvm.MethodName) ({ cls := "OffThenOnModel", name := "fits", desc := "(I)I" } : Jvm.MethodName)) ∈ sa_Ts := tv_m8 58 rfl rfl
set_option maxRecDepth 20000 in
theorem tv_1739 : (Jvm.Cond.code ({ cls := "OffThenOnModel", name := "fits", desc := "(I)I" } : Jvm.MethodName) prog_14_method_93_code (5 : Nat) (Option.some Jvm.ClassFile.FieldType.int)) ∈ sa_Ts := tv_m8 59 rfl rfl
set_option maxRecDepth 20000 in
theorem tv_1752 : (Jvm.Cond.methodLink "OffThenOnLaw" (151 : Nat) ({ cls := "OffThenOnModel", name := "heals", desc := "(I)I" } : Jvm.MethodName)) ∈ sa_Ts := tv_m8 72 rfl rfl
set_option maxRecDepth 20000 in
theorem tv_1753 : (Jvm.Cond.instanceMethod ({ cls := "OffThenOnModel", name := "heals", desc := "(I)I" } : Jvm.MethodName)) ∈ sa_Ts := tv_m8 73 rfl rfl
set_option maxRecDepth 20000 in
theorem tv_1754 : (Jvm.Cond.selects "OffThenOnModel" ({ cls := "OffThenOnModel", name := "heals", desc := "(I)I" } : Jvm.MethodName) ({ cls := "OffThenOnModel", name := "heals", desc := "(I)I" } : Jvm.MethodName)) ∈ sa_Ts := tv_m8 74 rfl rfl
set_option maxRecDepth 20000 in
theorem tv_1755 : (Jvm.Cond.code ({ cls := "OffThenOnModel", name := "heals", desc := "(I)I" } : Jvm.MethodName) prog_14_method_94_code (2 : Nat) (Option.some Jvm.ClassFile.FieldType.int)) ∈ sa_Ts := tv_m8 75 rfl rfl
set_option maxRecDepth 20000 in
theorem tv_1756 : (Jvm.Cond.methodLink "OffThenOnLaw" (155 : Nat) ({ cls := "OffThenOnModel", name := "worksIn", desc := "(I)I" } : Jvm.MethodName)) ∈ sa_Ts := tv_m8 76 rfl rfl
set_option maxRecDepth 20000 in
theorem tv_1757 : (Jvm.Cond.instanceMethod ({ cls := "OffThenOnModel", name := "worksIn", desc := "(I)I" } : Jvm.MethodName)) ∈ sa_Ts := tv_m8 77 rfl rfl
set_option maxRecDepth 20000 in
theorem tv_1758 : (Jvm.Cond.selects "OffThenOnModel" ({ cls := "OffThenOnModel", name := "worksIn", desc := "(I)I" } : Jvm.MethodName) ({ cls := "OffThenOnModel", name := "worksIn", desc := "(I)I" } : Jvm.MethodName)) ∈ sa_Ts := tv_m8 78 rfl rfl
set_option maxRecDepth 20000 in
theorem tv_1759 : (Jvm.Cond.code ({ cls := "OffThenOnModel", name := "worksIn", desc := "(I)I" } : Jvm.MethodName) prog_14_method_95_code (4 : Nat) (Option.some Jvm.ClassFile.FieldType.int)) ∈ sa_Ts := tv_m8 79 rfl rfl
set_option maxRecDepth 20000 in
theorem tv_1760 : (Jvm.Cond.methodLink "OffThenOnLaw" (159 : Nat) ({ cls := "OffThenOnModel", name := "tell", desc := "(I)I" } : Jvm.MethodName)) ∈ sa_Ts := tv_m8 80 rfl rfl
set_option maxRecDepth 20000 in
theorem tv_1761 : (Jvm.Cond.instanceMethod ({ cls := "OffThenOnModel", name := "tell", desc := "(I)I" } : Jvm.MethodName)) ∈ sa_Ts := tv_m8 81 rfl rfl
set_option maxRecDepth 20000 in
theorem tv_1762 : (Jvm.Cond.selects "OffThenOnModel" ({ cls := "OffThenOnModel", name := "tell", desc := "(I)I" } : Jvm.MethodName) ({ cls := "OffThenOnModel", name := "tell", desc := "(I)I" } : Jvm.MethodName)) ∈ sa_Ts := tv_m8 82 rfl rfl
set_option maxRecDepth 20000 in
theorem tv_1763 : (Jvm.Cond.code ({ cls := "OffThenOnModel", name := "tell", desc := "(I)I" } : Jvm.MethodName) prog_14_method_100_code (3 : Nat) (Option.some Jvm.ClassFile.FieldType.int)) ∈ sa_Ts := tv_m8 83 rfl rfl
set_option maxRecDepth 20000 in
theorem tv_1780 : (Jvm.Cond.methodLink "OffThenOnLaw" (163 : Nat) ({ cls := "OffThenOnModel", name := "byteAt", desc := "(I)I" } : Jvm.MethodName)) ∈ sa_Ts := tv_m8 100 rfl rfl
set_option maxRecDepth 20000 in
theorem tv_1781 : (Jvm.Cond.instanceMethod ({ cls := "OffThenOnModel", name := "byteAt", desc := "(I)I" } : Jvm.MethodName)) ∈ sa_Ts := tv_m8 101 rfl rfl
set_option maxRecDepth 20000 in
theorem tv_1782 : (Jvm.Cond.selects "OffThenOnModel" ({ cls := "OffThenOnModel", name := "byteAt", desc := "(I)I" } : Jvm.MethodName) ({ cls := "OffThenOnModel", name := "byteAt", desc := "(I)I" } : Jvm.MethodName)) ∈ sa_Ts := tv_m8 102 rfl rfl
set_option maxRecDepth 20000 in
theorem tv_1783 : (Jvm.Cond.code ({ cls := "OffThenOnModel", name := "byteAt", desc := "(I)I" } : Jvm.MethodName) prog_14_method_101_code (2 : Nat) (Option.some Jvm.ClassFile.FieldType.int)) ∈ sa_Ts := tv_m8 103 rfl rfl
set_option maxRecDepth 20000 in
theorem tv_1784 : (Jvm.Cond.methodLink "OffThenOnLaw" (167 : Nat) ({ cls := "OffThenOnModel", name := "drawn", desc := "(II)I" } : Jvm.MethodName)) ∈ sa_Ts := tv_m8 104 rfl rfl
set_option maxRecDepth 20000 in
theorem tv_1785 : (Jvm.Cond.instanceMethod ({ cls := "OffThenOnModel", name := "drawn", desc := "(II)I" } : Jvm.MethodName)) ∈ sa_Ts := tv_m8 105 rfl rfl
set_option maxRecDepth 20000 in
theorem tv_1786 : (Jvm.Cond.selects "OffThenOnModel" ({ cls := "OffThenOnModel", name := "drawn", desc := "(II)I" } : Jvm.MethodName) ({ cls := "OffThenOnModel", name := "drawn", desc := "(II)I" } : Jvm.MethodName)) ∈ sa_Ts := tv_m8 106 rfl rfl
set_option maxRecDepth 20000 in
theorem tv_1787 : (Jvm.Cond.code ({ cls := "OffThenOnModel", name := "drawn", desc := "(II)I" } : Jvm.MethodName) prog_14_method_104_code (3 : Nat) (Option.some Jvm.ClassFile.FieldType.int)) ∈ sa_Ts := tv_m8 107 rfl rfl
set_option maxRecDepth 20000 in
theorem tv_1796 : (Jvm.Cond.methodLink "OffThenOnLaw" (171 : Nat) ({ cls := "OffThenOnModel", name := "odds", desc := "(III)I" } : Jvm.MethodName)) ∈ sa_Ts := tv_m8 116 rfl rfl
set_option maxRecDepth 20000 in
theorem tv_1797 : (Jvm.Cond.instanceMethod ({ cls := "OffThenOnModel", name := "odds", desc := "(III)I" } : Jvm.MethodName)) ∈ sa_Ts := tv_m8 117 rfl rfl
set_option maxRecDepth 20000 in
theorem tv_1798 : (Jvm.Cond.selects "OffThenOnModel" ({ cls := "OffThenOnModel", name := "odds", desc := "(III)I" } : Jvm.MethodName) ({ cls := "OffThenOnModel", name := "odds", desc := "(III)I" } : Jvm.MethodName)) ∈ sa_Ts := tv_m8 118 rfl rfl
set_option maxRecDepth 20000 in
theorem tv_1799 : (Jvm.Cond.code ({ cls := "OffThenOnModel", name := "odds", desc := "(III)I" } : Jvm.MethodName) prog_14_method_105_code (6 : Nat) (Option.some Jvm.ClassFile.FieldType.int)) ∈ sa_Ts := tv_m8 119 rfl rfl
set_option maxRecDepth 20000 in
theorem tv_1800 : (Jvm.Cond.methodLink "OffThenOnLaw" (175 : Nat) ({ cls := "OffThenOnModel", name := "log", desc := "(I)I" } : Jvm.MethodName)) ∈ sa_Ts := tv_m8 120 rfl rfl
set_option maxRecDepth 20000 in
theorem tv_1801 : (Jvm.Cond.instanceMethod ({ cls := "OffThenOnModel", name := "log", desc := "(I)I" } : Jvm.MethodName)) ∈ sa_Ts := tv_m8 121 rfl rfl
set_option maxRecDepth 20000 in
theorem tv_1802 : (Jvm.Cond.selects "OffThenOnModel" ({ cls := "OffThenOnModel", name := "log", desc := "(I)I" } : Jvm.MethodName) ({ cls := "OffThenOnModel", name := "log", desc := "(I)I" } : Jvm.MethodName)) ∈ sa_Ts := tv_m8 122 rfl rfl
set_option maxRecDepth 20000 in
theorem tv_1803 : (Jvm.Cond.code ({ cls := "OffThenOnModel", name := "log", desc := "(I)I" } : Jvm.MethodName) prog_14_method_110_code (4 : Nat) (Option.some Jvm.ClassFile.FieldType.int)) ∈ sa_Ts := tv_m8 123 rfl rfl
set_option maxRecDepth 20000 in
theorem tv_1824 : (Jvm.Cond.methodLink "OffThenOnLaw" (179 : Nat) ({ cls := "OffThenOnModel", name := "logged", desc := "(I)I" } : Jvm.MethodName)) ∈ sa_Ts := tv_m8 144 rfl rfl
set_option maxRecDepth 20000 in
theorem tv_1825 : (Jvm.Cond.instanceMethod ({ cls := "OffThenOnModel", name := "logged", desc := "(I)I" } : Jvm.MethodName)) ∈ sa_Ts := tv_m8 145 rfl rfl
set_option maxRecDepth 20000 in
theorem tv_1826 : (Jvm.Cond.selects "OffThenOnModel" ({ cls := "OffThenOnModel", name := "logged", desc := "(I)I" } : Jvm.MethodName) ({ cls := "OffThenOnModel", name := "logged", desc := "(I)I" } : Jvm.MethodName)) ∈ sa_Ts := tv_m8 146 rfl rfl
set_option maxRecDepth 20000 in
theorem tv_1827 : (Jvm.Cond.code ({ cls := "OffThenOnModel", name := "logged", desc := "(I)I" } : Jvm.MethodName) prog_14_method_112_code (2 : Nat) (Option.some Jvm.ClassFile.FieldType.int)) ∈ sa_Ts := tv_m8 147 rfl rfl
set_option maxRecDepth 20000 in
theorem tv_1864 : (Jvm.Cond.methodLink "OffThenOnLaw" (187 : Nat) ({ cls := "OffThenOnModel", name := "said", desc := "(I)I" } : Jvm.MethodName)) ∈ sa_Ts := tv_m8 184 rfl rfl
set_option maxRecDepth 20000 in
theorem tv_1865 : (Jvm.Cond.instanceMethod ({ cls := "OffThenOnModel", name := "said", desc := "(I)I" } : Jvm.MethodName)) ∈ sa_Ts := tv_m8 185 rfl rfl
set_option maxRecDepth 20000 in
theorem tv_1866 : (Jvm.Cond.selects "OffThenOnModel" ({ cls := "OffThenOnModel", name := "said", desc := "(I)I" } : Jvm.MethodName) ({ cls := "OffThenOnModel", name := "said", desc := "(I)I" } : Jvm.MethodName)) ∈ sa_Ts := tv_m8 186 rfl rfl
set_option maxRecDepth 20000 in
theorem tv_1867 : (Jvm.Cond.code ({ cls := "OffThenOnModel", name := "said", desc := "(I)I" } : Jvm.MethodName) prog_14_method_123_code (4 : Nat) (Option.some Jvm.ClassFile.FieldType.int)) ∈ sa_Ts := tv_m8 187 rfl rfl
set_option maxRecDepth 20000 in
theorem tv_1880 : (Jvm.Cond.methodLink "OffThenOnLaw" (199 : Nat) ({ cls := "OffThenOnModel", name := "count", desc := "(I)I" } : Jvm.MethodName)) ∈ sa_Ts := tv_m8 200 rfl rfl
set_option maxRecDepth 20000 in
theorem tv_1881 : (Jvm.Cond.instanceMethod ({ cls := "OffThenOnModel", name := "count", desc := "(I)I" } : Jvm.MethodName)) ∈ sa_Ts := tv_m8 201 rfl rfl
set_option maxRecDepth 20000 in
theorem tv_1882 : (Jvm.Cond.selects "OffThenOnModel" ({ cls := "OffThenOnModel", name := "count", desc := "(I)I" } : Jvm.MethodName) ({ cls := "OffThenOnModel", name := "count", desc := "(I)I" } : Jvm.MethodName)) ∈ sa_Ts := tv_m8 202 rfl rfl
set_option maxRecDepth 20000 in
theorem tv_1883 : (Jvm.Cond.code ({ cls := "OffThenOnModel", name := "count", desc := "(I)I" } : Jvm.MethodName) prog_14_method_126_code (2 : Nat) (Option.some Jvm.ClassFile.FieldType.int)) ∈ sa_Ts := tv_m8 203 rfl rfl
theorem yb_X11_thing : sa_arg yX11_thing 2 := ⟨by decide +kernel, by decide +kernel, by decide +kernel⟩
theorem yb_X11_trouble : sa_arg yX11_trouble 2 := ⟨by decide +kernel, by decide +kernel, by decide +kernel⟩
theorem yb_X11_likely : sa_arg yX11_likely 2 := ⟨by decide +kernel, by decide +kernel, by decide +kernel⟩
theorem yb_X11_plan : sa_arg yX11_plan 3 := ⟨by decide +kernel, by decide +kernel, by decide +kernel⟩
theorem yb_X11_end : sa_arg yX11_end 1 := ⟨by decide +kernel, by decide +kernel, by decide +kernel⟩
theorem yb_X12_end : sa_arg yX12_end 1 := ⟨by decide +kernel, by decide +kernel, by decide +kernel⟩
theorem yb_X11_fault : sa_arg yX11_fault 0 := ⟨by decide +kernel, by decide +kernel, by decide +kernel⟩
theorem yb_X12_fault : sa_arg yX12_fault 0 := ⟨by decide +kernel, by decide +kernel, by decide +kernel⟩
theorem yb_L_thing : sa_arg yL_thing 4 := ⟨by decide +kernel, by decide +kernel, by decide +kernel⟩
theorem yb_X12_thing : sa_arg yX12_thing 2 := ⟨by decide +kernel, by decide +kernel, by decide +kernel⟩
theorem yb_L_trouble : sa_arg yL_trouble 4 := ⟨by decide +kernel, by decide +kernel, by decide +kernel⟩
theorem yb_X12_trouble : sa_arg yX12_trouble 2 := ⟨by decide +kernel, by decide +kernel, by decide +kernel⟩
theorem yb_X11_cures : sa_arg yX11_cures 2 := ⟨by decide +kernel, by decide +kernel, by decide +kernel⟩
theorem yb_X12_cures : sa_arg yX12_cures 2 := ⟨by decide +kernel, by decide +kernel, by decide +kernel⟩
theorem yb_X11_now : sa_arg yX11_now 1 := ⟨by decide +kernel, by decide +kernel, by decide +kernel⟩
theorem yb_X12_now : sa_arg yX12_now 1 := ⟨by decide +kernel, by decide +kernel, by decide +kernel⟩
theorem yb_X11_off : sa_arg yX11_off 1 := ⟨by decide +kernel, by decide +kernel, by decide +kernel⟩
theorem yb_X12_off : sa_arg yX12_off 1 := ⟨by decide +kernel, by decide +kernel, by decide +kernel⟩
theorem yb_X11_on : sa_arg yX11_on 2 := ⟨by decide +kernel, by decide +kernel, by decide +kernel⟩
theorem yb_X12_on : sa_arg yX12_on 2 := ⟨by decide +kernel, by decide +kernel, by decide +kernel⟩
theorem yb_X11_cable : sa_arg yX11_cable 2 := ⟨by decide +kernel, by decide +kernel, by decide +kernel⟩
theorem yb_X12_cable : sa_arg yX12_cable 2 := ⟨by decide +kernel, by decide +kernel, by decide +kernel⟩
theorem yb_X11_pin : sa_arg yX11_pin 2 := ⟨by decide +kernel, by decide +kernel, by decide +kernel⟩
theorem yb_X12_pin : sa_arg yX12_pin 2 := ⟨by decide +kernel, by decide +kernel, by decide +kernel⟩
theorem yb_X11_strike : sa_arg yX11_strike 1 := ⟨by decide +kernel, by decide +kernel, by decide +kernel⟩
theorem yb_X12_strike : sa_arg yX12_strike 1 := ⟨by decide +kernel, by decide +kernel, by decide +kernel⟩
theorem yb_X11_minutes : sa_arg yX11_minutes 1 := ⟨by decide +kernel, by decide +kernel, by decide +kernel⟩
theorem yb_X12_minutes : sa_arg yX12_minutes 1 := ⟨by decide +kernel, by decide +kernel, by decide +kernel⟩
theorem yb_X11_undo : sa_arg yX11_undo 0 := ⟨by decide +kernel, by decide +kernel, by decide +kernel⟩
theorem yb_X12_undo : sa_arg yX12_undo 0 := ⟨by decide +kernel, by decide +kernel, by decide +kernel⟩
theorem yb_X11_what : sa_arg yX11_what 0 := ⟨by decide +kernel, by decide +kernel, by decide +kernel⟩
theorem yb_X12_what : sa_arg yX12_what 0 := ⟨by decide +kernel, by decide +kernel, by decide +kernel⟩
theorem yb_L_likely : sa_arg yL_likely 4 := ⟨by decide +kernel, by decide +kernel, by decide +kernel⟩
theorem yb_X12_likely : sa_arg yX12_likely 2 := ⟨by decide +kernel, by decide +kernel, by decide +kernel⟩
theorem yb_L_plan : sa_arg yL_plan 5 := ⟨by decide +kernel, by decide +kernel, by decide +kernel⟩
theorem yb_X12_plan : sa_arg yX12_plan 3 := ⟨by decide +kernel, by decide +kernel, by decide +kernel⟩
theorem yb_X11_planAt : sa_arg yX11_planAt 1 := ⟨by decide +kernel, by decide +kernel, by decide +kernel⟩
theorem yb_X12_planAt : sa_arg yX12_planAt 1 := ⟨by decide +kernel, by decide +kernel, by decide +kernel⟩
theorem yb_X11_ready : sa_arg yX11_ready 1 := ⟨by decide +kernel, by decide +kernel, by decide +kernel⟩
theorem yb_X12_ready : sa_arg yX12_ready 1 := ⟨by decide +kernel, by decide +kernel, by decide +kernel⟩
theorem yb_X11_starts : sa_arg yX11_starts 1 := ⟨by decide +kernel, by decide +kernel, by decide +kernel⟩
theorem yb_X12_starts : sa_arg yX12_starts 1 := ⟨by decide +kernel, by decide +kernel, by decide +kernel⟩
theorem yb_X11_lots : sa_arg yX11_lots 0 := ⟨by decide +kernel, by decide +kernel, by decide +kernel⟩
theorem yb_X12_lots : sa_arg yX12_lots 0 := ⟨by decide +kernel, by decide +kernel, by decide +kernel⟩
theorem yb_X11_alike : sa_arg yX11_alike 1 := ⟨by decide +kernel, by decide +kernel, by decide +kernel⟩
theorem yb_X12_alike : sa_arg yX12_alike 1 := ⟨by decide +kernel, by decide +kernel, by decide +kernel⟩
theorem yb_X11_kinds : sa_arg yX11_kinds 0 := ⟨by decide +kernel, by decide +kernel, by decide +kernel⟩
theorem yb_X12_kinds : sa_arg yX12_kinds 0 := ⟨by decide +kernel, by decide +kernel, by decide +kernel⟩
theorem yb_X11_look : sa_arg yX11_look 1 := ⟨by decide +kernel, by decide +kernel, by decide +kernel⟩
theorem yb_X12_look : sa_arg yX12_look 1 := ⟨by decide +kernel, by decide +kernel, by decide +kernel⟩
theorem yb_X11_left : sa_arg yX11_left 0 := ⟨by decide +kernel, by decide +kernel, by decide +kernel⟩
theorem yb_X12_left : sa_arg yX12_left 0 := ⟨by decide +kernel, by decide +kernel, by decide +kernel⟩
theorem yb_X11_fits : sa_arg yX11_fits 1 := ⟨by decide +kernel, by decide +kernel, by decide +kernel⟩
theorem yb_X12_fits : sa_arg yX12_fits 1 := ⟨by decide +kernel, by decide +kernel, by decide +kernel⟩
theorem yb_X11_heals : sa_arg yX11_heals 1 := ⟨by decide +kernel, by decide +kernel, by decide +kernel⟩
theorem yb_X12_heals : sa_arg yX12_heals 1 := ⟨by decide +kernel, by decide +kernel, by decide +kernel⟩
theorem yb_X11_worksIn : sa_arg yX11_worksIn 1 := ⟨by decide +kernel, by decide +kernel, by decide +kernel⟩
theorem yb_X12_worksIn : sa_arg yX12_worksIn 1 := ⟨by decide +kernel, by decide +kernel, by decide +kernel⟩
theorem yb_X11_tell : sa_arg yX11_tell 1 := ⟨by decide +kernel, by decide +kernel, by decide +kernel⟩
theorem yb_X12_tell : sa_arg yX12_tell 1 := ⟨by decide +kernel, by decide +kernel, by decide +kernel⟩
theorem yb_X11_byteAt : sa_arg yX11_byteAt 1 := ⟨by decide +kernel, by decide +kernel, by decide +kernel⟩
theorem yb_X12_byteAt : sa_arg yX12_byteAt 1 := ⟨by decide +kernel, by decide +kernel, by decide +kernel⟩
theorem yb_X11_drawn : sa_arg yX11_drawn 2 := ⟨by decide +kernel, by decide +kernel, by decide +kernel⟩
theorem yb_X12_drawn : sa_arg yX12_drawn 2 := ⟨by decide +kernel, by decide +kernel, by decide +kernel⟩
theorem yb_X11_odds : sa_arg yX11_odds 3 := ⟨by decide +kernel, by decide +kernel, by decide +kernel⟩
theorem yb_X12_odds : sa_arg yX12_odds 3 := ⟨by decide +kernel, by decide +kernel, by decide +kernel⟩
theorem yb_X11_log : sa_arg yX11_log 1 := ⟨by decide +kernel, by decide +kernel, by decide +kernel⟩
theorem yb_X12_log : sa_arg yX12_log 1 := ⟨by decide +kernel, by decide +kernel, by decide +kernel⟩
theorem yb_X11_logged : sa_arg yX11_logged 1 := ⟨by decide +kernel, by decide +kernel, by decide +kernel⟩
theorem yb_X12_logged : sa_arg yX12_logged 1 := ⟨by decide +kernel, by decide +kernel, by decide +kernel⟩
theorem yb_X11_said : sa_arg yX11_said 1 := ⟨by decide +kernel, by decide +kernel, by decide +kernel⟩
theorem yb_X12_said : sa_arg yX12_said 1 := ⟨by decide +kernel, by decide +kernel, by decide +kernel⟩
theorem yb_X11_count : sa_arg yX11_count 1 := ⟨by decide +kernel, by decide +kernel, by decide +kernel⟩
theorem yb_X12_count : sa_arg yX12_count 1 := ⟨by decide +kernel, by decide +kernel, by decide +kernel⟩
set_option maxRecDepth 20000 in
theorem tv_474 : (Jvm.Cond.methodLink "OffThenOnLaw" (33 : Nat) ({ cls := "OffThenOn", name := "feed", desc := "(IIIII)I" } : Jvm.MethodName)) ∈ sa_Ts := tv_m2 234 rfl rfl
set_option maxRecDepth 20000 in
theorem tv_475 : (Jvm.Cond.instanceMethod ({ cls := "OffThenOn", name := "feed", desc := "(IIIII)I" } : Jvm.MethodName)) ∈ sa_Ts := tv_m2 235 rfl rfl
set_option maxRecDepth 20000 in
theorem tv_476 : (Jvm.Cond.selects "OffThenOn" ({ cls := "OffThenOn", name := "feed", desc := "(IIIII)I" } : Jvm.MethodName) ({ cls := "OffThenOn", name := "feed", desc := "(IIIII)I" } : Jvm.MethodName)) ∈ sa_Ts := tv_m2 236 rfl rfl
set_option maxRecDepth 20000 in
theorem tv_477 : (Jvm.Cond.code ({ cls := "OffThenOn", name := "feed", desc := "(IIIII)I" } : Jvm.MethodName) prog_1_method_2_code (6 : Nat) (Option.some Jvm.ClassFile.FieldType.int)) ∈ sa_Ts := tv_m2 237 rfl rfl
set_option maxRecDepth 20000 in
theorem tv_490 : (Jvm.Cond.methodLink "OffThenOnLaw" (43 : Nat) ({ cls := "OffThenOn", name := "house", desc := "()I" } : Jvm.MethodName)) ∈ sa_Ts := tv_m3 10 rfl rfl
set_option maxRecDepth 20000 in
theorem tv_491 : (Jvm.Cond.instanceMethod ({ cls := "OffThenOn", name := "house", desc := "()I" } : Jvm.MethodName)) ∈ sa_Ts := tv_m3 11 rfl rfl
set_option maxRecDepth 20000 in
theorem tv_492 : (Jvm.Cond.selects "OffThenOn" ({ cls := "OffThenOn", name := "house", desc := "()I" } : Jvm.MethodName) ({ cls := "OffThenOn", name := "house", desc := "()I" } : Jvm.MethodName)) ∈ sa_Ts := tv_m3 12 rfl rfl
set_option maxRecDepth 20000 in
theorem tv_493 : (Jvm.Cond.code ({ cls := "OffThenOn", name := "house", desc := "()I" } : Jvm.MethodName) prog_1_method_4_code (2 : Nat) (Option.some Jvm.ClassFile.FieldType.int)) ∈ sa_Ts := tv_m3 13 rfl rfl
set_option maxRecDepth 20000 in
theorem tv_1014 : (Jvm.Cond.methodLink "OffThenOnLaw" (180 : Nat) ({ cls := "OffThenOn", name := "sentence", desc := "()I" } : Jvm.MethodName)) ∈ sa_Ts := tv_m5 54 rfl rfl
set_option maxRecDepth 20000 in
theorem tv_1015 : (Jvm.Cond.instanceMethod ({ cls := "OffThenOn", name := "sentence", desc := "()I" } : Jvm.MethodName)) ∈ sa_Ts := tv_m5 55 rfl rfl
set_option maxRecDepth 20000 in
theorem tv_1016 : (Jvm.Cond.selects "OffThenOn" ({ cls := "OffThenOn", name := "sentence", desc := "()I" } : Jvm.MethodName) ({ cls := "OffThenOn", name := "sentence", desc := "()I" } : Jvm.MethodName)) ∈ sa_Ts := tv_m5 56 rfl rfl
set_option maxRecDepth 20000 in
theorem tv_1017 : (Jvm.Cond.code ({ cls := "OffThenOn", name := "sentence", desc := "()I" } : Jvm.MethodName) prog_1_method_38_code (2 : Nat) (Option.some Jvm.ClassFile.FieldType.int)) ∈ sa_Ts := tv_m5 57 rfl rfl
set_option maxRecDepth 20000 in
theorem tv_1096 : (Jvm.Cond.methodLink "OffThenOnLaw" (188 : Nat) ({ cls := "OffThenOn", name := "image", desc := "(I)Z" } : Jvm.MethodName)) ∈ sa_Ts := tv_m5 136 rfl rfl
set_option maxRecDepth 20000 in
theorem tv_1097 : (Jvm.Cond.instanceMethod ({ cls := "OffThenOn", name := "image", desc := "(I)Z" } : Jvm.MethodName)) ∈ sa_Ts := tv_m5 137 rfl rfl
set_option maxRecDepth 20000 in
theorem tv_1098 : (Jvm.Cond.selects "OffThenOn" ({ cls := "OffThenOn", name := "image", desc := "(I)Z" } : Jvm.MethodName) ({ cls := "OffThenOn", name := "image", desc := "(I)Z" } : Jvm.MethodName)) ∈ sa_Ts := tv_m5 138 rfl rfl
set_option maxRecDepth 20000 in
theorem tv_1099 : (Jvm.Cond.code ({ cls := "OffThenOn", name := "image", desc := "(I)Z" } : Jvm.MethodName) prog_1_method_40_code (2 : Nat) (Option.some Jvm.ClassFile.FieldType.boolean)) ∈ sa_Ts := tv_m5 139 rfl rfl
set_option maxRecDepth 20000 in
theorem tv_1107 : (Jvm.Cond.methodLink "OffThenOnLaw" (192 : Nat) ({ cls := "OffThenOn", name := "restore", desc := "(I)Z" } : Jvm.MethodName)) ∈ sa_Ts := tv_m5 147 rfl rfl
set_option maxRecDepth 20000 in
theorem tv_1108 : (Jvm.Cond.instanceMethod ({ cls := "OffThenOn", name := "restore", desc := "(I)Z" } : Jvm.MethodName)) ∈ sa_Ts := tv_m5 148 rfl rfl
set_option maxRecDepth 20000 in
theorem tv_1109 : (Jvm.Cond.selects "OffThenOn" ({ cls := "OffThenOn", name := "restore", desc := "(I)Z" } : Jvm.MethodName) ({ cls := "OffThenOn", name := "restore", desc := "(I)Z" } : Jvm.MethodName)) ∈ sa_Ts := tv_m5 149 rfl rfl
set_option maxRecDepth 20000 in
theorem tv_1110 : (Jvm.Cond.code ({ cls := "OffThenOn", name := "restore", desc := "(I)Z" } : Jvm.MethodName) prog_1_method_41_code (2 : Nat) (Option.some Jvm.ClassFile.FieldType.boolean)) ∈ sa_Ts := tv_m5 150 rfl rfl
set_option maxRecDepth 20000 in
theorem tv_1236 : (Jvm.Cond.methodLink "OffThenOnLaw" (120 : Nat) ({ cls := "OffThenOnLaw", name := "helped", desc := "(LOffThenOn;[J)I" } : Jvm.MethodName)) ∈ sa_Ts := tv_m6 36 rfl rfl
set_option maxRecDepth 20000 in
theorem tv_1237 : (Jvm.Cond.static ({ cls := "OffThenOnLaw", name := "helped", desc := "(LOffThenOn;[J)I" } : Jvm.MethodName)) ∈ sa_Ts := tv_m6 37 rfl rfl
set_option maxRecDepth 20000 in
theorem tv_1238 : (Jvm.Cond.codeWith ({ cls := "OffThenOnLaw", name := "helped", desc := "(LOffThenOn;[J)I" } : Jvm.MethodName) method_7_code (3 : Nat) (Option.some Jvm.ClassFile.FieldType.int) [((0 : Nat), (8 : Nat), (11 : Nat), (13 : Nat))]) ∈ sa_Ts := tv_m6 38 rfl rfl
set_option maxRecDepth 20000 in
theorem tv_1239 : (Jvm.Cond.methodLink "OffThenOnLaw" (25 : Nat) ({ cls := "OffThenOn", name := "helped", desc := "()I" } : Jvm.MethodName)) ∈ sa_Ts := tv_m6 39 rfl rfl
set_option maxRecDepth 20000 in
theorem tv_1240 : (Jvm.Cond.instanceMethod ({ cls := "OffThenOn", name := "helped", desc := "()I" } : Jvm.MethodName)) ∈ sa_Ts := tv_m6 40 rfl rfl
set_option maxRecDepth 20000 in
theorem tv_1241 : (Jvm.Cond.selects "OffThenOn" ({ cls := "OffThenOn", name := "helped", desc := "()I" } : Jvm.MethodName) ({ cls := "OffThenOn", name := "helped", desc := "()I" } : Jvm.MethodName)) ∈ sa_Ts := tv_m6 41 rfl rfl
set_option maxRecDepth 20000 in
theorem tv_1242 : (Jvm.Cond.code ({ cls := "OffThenOn", name := "helped", desc := "()I" } : Jvm.MethodName) prog_1_method_23_code (3 : Nat) (Option.some Jvm.ClassFile.FieldType.int)) ∈ sa_Ts := tv_m6 42 rfl rfl
set_option maxRecDepth 20000 in
theorem tv_1398 : (Jvm.Cond.methodLink "OffThenOnLaw" (37 : Nat) ({ cls := "OffThenOnModel", name := "feed", desc := "(IIIII)I" } : Jvm.MethodName)) ∈ sa_Ts := tv_m6 198 rfl rfl
set_option maxRecDepth 20000 in
theorem tv_1399 : (Jvm.Cond.instanceMethod ({ cls := "OffThenOnModel", name := "feed", desc := "(IIIII)I" } : Jvm.MethodName)) ∈ sa_Ts := tv_m6 199 rfl rfl
set_option maxRecDepth 20000 in
theorem tv_1400 : (Jvm.Cond.selects "OffThenOnModel" ({ cls := "OffThenOnModel", name := "feed", desc := "(IIIII)I" } : Jvm.MethodName) ({ cls := "OffThenOnModel", name := "feed", desc := "(IIIII)I" } : Jvm.MethodName)) ∈ sa_Ts := tv_m6 200 rfl rfl
set_option maxRecDepth 20000 in
theorem tv_1401 : (Jvm.Cond.code ({ cls := "OffThenOnModel", name := "feed", desc := "(IIIII)I" } : Jvm.MethodName) prog_14_method_5_code (6 : Nat) (Option.some Jvm.ClassFile.FieldType.int)) ∈ sa_Ts := tv_m6 201 rfl rfl
set_option maxRecDepth 20000 in
theorem tv_1410 : (Jvm.Cond.methodLink "OffThenOnLaw" (46 : Nat) ({ cls := "OffThenOnModel", name := "house", desc := "()I" } : Jvm.MethodName)) ∈ sa_Ts := tv_m6 210 rfl rfl
set_option maxRecDepth 20000 in
theorem tv_1411 : (Jvm.Cond.instanceMethod ({ cls := "OffThenOnModel", name := "house", desc := "()I" } : Jvm.MethodName)) ∈ sa_Ts := tv_m6 211 rfl rfl
set_option maxRecDepth 20000 in
theorem tv_1412 : (Jvm.Cond.selects "OffThenOnModel" ({ cls := "OffThenOnModel", name := "house", desc := "()I" } : Jvm.MethodName) ({ cls := "OffThenOnModel", name := "house", desc := "()I" } : Jvm.MethodName)) ∈ sa_Ts := tv_m6 212 rfl rfl
set_option maxRecDepth 20000 in
theorem tv_1413 : (Jvm.Cond.code ({ cls := "OffThenOnModel", name := "house", desc := "()I" } : Jvm.MethodName) prog_14_method_37_code (3 : Nat) (Option.some Jvm.ClassFile.FieldType.int)) ∈ sa_Ts := tv_m6 213 rfl rfl
set_option maxRecDepth 20000 in
theorem tv_1701 : (Jvm.Cond.methodLink "OffThenOnLaw" (123 : Nat) ({ cls := "OffThenOnModel", name := "helped", desc := "()I" } : Jvm.MethodName)) ∈ sa_Ts := tv_m8 21 rfl rfl
set_option maxRecDepth 20000 in
theorem tv_1702 : (Jvm.Cond.instanceMethod ({ cls := "OffThenOnModel", name := "helped", desc := "()I" } : Jvm.MethodName)) ∈ sa_Ts := tv_m8 22 rfl rfl
set_option maxRecDepth 20000 in
theorem tv_1703 : (Jvm.Cond.selects "OffThenOnModel" ({ cls := "OffThenOnModel", name := "helped", desc := "()I" } : Jvm.MethodName) ({ cls := "OffThenOnModel", name := "helped", desc := "()I" } : Jvm.MethodName)) ∈ sa_Ts := tv_m8 23 rfl rfl
set_option maxRecDepth 20000 in
theorem tv_1704 : (Jvm.Cond.code ({ cls := "OffThenOnModel", name := "helped", desc := "()I" } : Jvm.MethodName) prog_14_method_82_code (8 : Nat) (Option.some Jvm.ClassFile.FieldType.int)) ∈ sa_Ts := tv_m8 24 rfl rfl
set_option maxRecDepth 20000 in
theorem tv_1828 : (Jvm.Cond.methodLink "OffThenOnLaw" (183 : Nat) ({ cls := "OffThenOnModel", name := "sentence", desc := "()I" } : Jvm.MethodName)) ∈ sa_Ts := tv_m8 148 rfl rfl
set_option maxRecDepth 20000 in
theorem tv_1829 : (Jvm.Cond.instanceMethod ({ cls := "OffThenOnModel", name := "sentence", desc := "()I" } : Jvm.MethodName)) ∈ sa_Ts := tv_m8 149 rfl rfl
set_option maxRecDepth 20000 in
theorem tv_1830 : (Jvm.Cond.selects "OffThenOnModel" ({ cls := "OffThenOnModel", name := "sentence", desc := "()I" } : Jvm.MethodName) ({ cls := "OffThenOnModel", name := "sentence", desc := "()I" } : Jvm.MethodName)) ∈ sa_Ts := tv_m8 150 rfl rfl
set_option maxRecDepth 20000 in
theorem tv_1831 : (Jvm.Cond.code ({ cls := "OffThenOnModel", name := "sentence", desc := "()I" } : Jvm.MethodName) prog_14_method_121_code (2 : Nat) (Option.some Jvm.ClassFile.FieldType.int)) ∈ sa_Ts := tv_m8 151 rfl rfl
set_option maxRecDepth 20000 in
theorem tv_1872 : (Jvm.Cond.methodLink "OffThenOnLaw" (191 : Nat) ({ cls := "OffThenOnModel", name := "image", desc := "(I)Z" } : Jvm.MethodName)) ∈ sa_Ts := tv_m8 192 rfl rfl
set_option maxRecDepth 20000 in
theorem tv_1873 : (Jvm.Cond.instanceMethod ({ cls := "OffThenOnModel", name := "image", desc := "(I)Z" } : Jvm.MethodName)) ∈ sa_Ts := tv_m8 193 rfl rfl
set_option maxRecDepth 20000 in
theorem tv_1874 : (Jvm.Cond.selects "OffThenOnModel" ({ cls := "OffThenOnModel", name := "image", desc := "(I)Z" } : Jvm.MethodName) ({ cls := "OffThenOnModel", name := "image", desc := "(I)Z" } : Jvm.MethodName)) ∈ sa_Ts := tv_m8 194 rfl rfl
set_option maxRecDepth 20000 in
theorem tv_1875 : (Jvm.Cond.code ({ cls := "OffThenOnModel", name := "image", desc := "(I)Z" } : Jvm.MethodName) prog_14_method_124_code (3 : Nat) (Option.some Jvm.ClassFile.FieldType.boolean)) ∈ sa_Ts := tv_m8 195 rfl rfl
set_option maxRecDepth 20000 in
theorem tv_1876 : (Jvm.Cond.methodLink "OffThenOnLaw" (195 : Nat) ({ cls := "OffThenOnModel", name := "restore", desc := "(I)Z" } : Jvm.MethodName)) ∈ sa_Ts := tv_m8 196 rfl rfl
set_option maxRecDepth 20000 in
theorem tv_1877 : (Jvm.Cond.instanceMethod ({ cls := "OffThenOnModel", name := "restore", desc := "(I)Z" } : Jvm.MethodName)) ∈ sa_Ts := tv_m8 197 rfl rfl
set_option maxRecDepth 20000 in
theorem tv_1878 : (Jvm.Cond.selects "OffThenOnModel" ({ cls := "OffThenOnModel", name := "restore", desc := "(I)Z" } : Jvm.MethodName) ({ cls := "OffThenOnModel", name := "restore", desc := "(I)Z" } : Jvm.MethodName)) ∈ sa_Ts := tv_m8 198 rfl rfl
set_option maxRecDepth 20000 in
theorem tv_1879 : (Jvm.Cond.code ({ cls := "OffThenOnModel", name := "restore", desc := "(I)Z" } : Jvm.MethodName) prog_14_method_125_code (3 : Nat) (Option.some Jvm.ClassFile.FieldType.boolean)) ∈ sa_Ts := tv_m8 199 rfl rfl
theorem yb_X11_feed : sa_arg yX11_feed 5 := ⟨by decide +kernel, by decide +kernel, by decide +kernel⟩
theorem yb_X11_helped : sa_arg yX11_helped 0 := ⟨by decide +kernel, by decide +kernel, by decide +kernel⟩
theorem yb_X11_house : sa_arg yX11_house 0 := ⟨by decide +kernel, by decide +kernel, by decide +kernel⟩
theorem yb_X11_image : sa_arg yX11_image 1 := ⟨by decide +kernel, by decide +kernel, by decide +kernel⟩
theorem yb_X11_restore : sa_arg yX11_restore 1 := ⟨by decide +kernel, by decide +kernel, by decide +kernel⟩
theorem yb_X11_sentence : sa_arg yX11_sentence 0 := ⟨by decide +kernel, by decide +kernel, by decide +kernel⟩
theorem yb_L_helped : sa_arg yL_helped 2 := ⟨by decide +kernel, by decide +kernel, by decide +kernel⟩
theorem yb_X12_feed : sa_arg yX12_feed 5 := ⟨by decide +kernel, by decide +kernel, by decide +kernel⟩
theorem yb_X12_helped : sa_arg yX12_helped 0 := ⟨by decide +kernel, by decide +kernel, by decide +kernel⟩
theorem yb_X12_house : sa_arg yX12_house 0 := ⟨by decide +kernel, by decide +kernel, by decide +kernel⟩
theorem yb_X12_image : sa_arg yX12_image 1 := ⟨by decide +kernel, by decide +kernel, by decide +kernel⟩
theorem yb_X12_restore : sa_arg yX12_restore 1 := ⟨by decide +kernel, by decide +kernel, by decide +kernel⟩
theorem yb_X12_sentence : sa_arg yX12_sentence 0 := ⟨by decide +kernel, by decide +kernel, by decide +kernel⟩
set_option maxRecDepth 200000 in
set_option maxHeartbeats 4000000 in
def K_L_thing : tb_K := ([.inr (.inl (some 1)), .inl (2, 0), .inl (3, 0), .inr (.inl (some 4))], [], [], [(0, 0), (1180591620717411303451, 1180591620717411303451), (-2147483648, 2147483647), (-2147483648, 2147483647), (1180591620717411303511, 1180591620717411303511)], [(some (.inl (5, 0)), [], [], [(0, 0), (1180591620717411303451, 1180591620717411303451), (-2147483648, 2147483647), (-2147483648, 2147483647), (1180591620717411303511, 1180591620717411303511), (0, 1)])], [(87, 0, 0)])
noncomputable def t_L_thing : List (Nat × tb_op) := [(0, to_aload 3 1), (1, to_int (0) 1), (2, to_aload 0 1), (3, to_iload 1 1), (4, to_iload 2 1), (5, to_cX tb_Z0 [(87, 0, 0)] (tb_gV tb_Z0 11 3 0 0) 13 K_X11_thing_1), (8, to_i2l), (9, to_last tb_Z0 tb_RT0 [(87, 0, 0)] []), (10, to_goto 17), (13, to_astore 5 4 2), (15, to_int (1) 1), (17, to_int (0) 1)]
set_option maxRecDepth 200000 in
set_option maxHeartbeats 4000000 in
theorem h_L_thing {l : Launch} (hl : l.stackTraces = false) : tb_MetH l vwCl sa_Ts tb_Z0 yL_thing cL_thing 5 (some .int) [(0, 10, 13, 13)] 7 169 K_L_thing := tb_methodH (by decide) [16, 18] t_L_thing 60 (List.forall_mem_cons.mpr ⟨dL_thing_16, List.forall_mem_cons.mpr ⟨dL_thing_18, fun _ h => absurd h List.not_mem_nil⟩⟩) (fun p e s m args below meth c Q D dA A n0 V0 E C0 hU hO htab hz hm => List.forall_mem_cons.mpr ⟨tn_aload_n C0 dL_thing_0, List.forall_mem_cons.mpr ⟨tn_iconst C0 dL_thing_1, List.forall_mem_cons.mpr ⟨tn_aload_n C0 dL_thing_2, List.forall_mem_cons.mpr ⟨tn_iload_n C0 dL_thing_3, List.forall_mem_cons.mpr ⟨tn_iload_n C0 dL_thing_4, List.forall_mem_cons.mpr ⟨tn_cX C0 hz hcv0 hm hU hO (m_X11_thing_1 hl) tv_1122 dL_thing_5 tv_1119 tv_1120 tv_1121 tv_1 rfl yb_X11_thing rfl (by decide) (by decide) (by decide) htab (by decide) (by decide) tv_1118 rfl, List.forall_mem_cons.mpr ⟨tn_i2l C0 dL_thing_8, List.forall_mem_cons.mpr ⟨tn_last C0 hz hcv0 hrt0 hm dL_thing_9, List.forall_mem_cons.mpr ⟨tn_goto C0 dL_thing_10 (by decide), List.forall_mem_cons.mpr ⟨tn_astore C0 dL_thing_13, List.forall_mem_cons.mpr ⟨tn_iconst C0 dL_thing_15, List.forall_mem_cons.mpr ⟨tn_iconst C0 dL_thing_17, fun _ h => absurd h List.not_mem_nil⟩⟩⟩⟩⟩⟩⟩⟩⟩⟩⟩⟩) (by decide) (by decide +kernel)
set_option maxRecDepth 200000 in
set_option maxHeartbeats 4000000 in
def K_L_trouble : tb_K := ([.inr (.inl (some 1)), .inl (2, 0), .inl (3, 0), .inr (.inl (some 4))], [], [], [(0, 0), (1180591620717411303451, 1180591620717411303451), (-2147483648, 2147483647), (-2147483648, 2147483647), (1180591620717411303511, 1180591620717411303511)], [(some (.inl (5, 0)), [], [], [(0, 0), (1180591620717411303451, 1180591620717411303451), (-2147483648, 2147483647), (-2147483648, 2147483647), (1180591620717411303511, 1180591620717411303511), (0, 1)])], [(87, 0, 0)])
noncomputable def t_L_trouble : List (Nat × tb_op) := [(0, to_aload 3 1), (1, to_int (0) 1), (2, to_aload 0 1), (3, to_iload 1 1), (4, to_iload 2 1), (5, to_cX tb_Z0 [(87, 0, 0)] (tb_gV tb_Z0 11 3 0 0) 13 K_X11_trouble_1), (8, to_i2l), (9, to_last tb_Z0 tb_RT0 [(87, 0, 0)] []), (10, to_goto 17), (13, to_astore 5 4 2), (15, to_int (1) 1), (17, to_int (0) 1)]
set_option maxRecDepth 200000 in
set_option maxHeartbeats 4000000 in
theorem h_L_trouble {l : Launch} (hl : l.stackTraces = false) : tb_MetH l vwCl sa_Ts tb_Z0 yL_trouble cL_trouble 5 (some .int) [(0, 10, 13, 13)] 7 165 K_L_trouble := tb_methodH (by decide) [16, 18] t_L_trouble 60 (List.forall_mem_cons.mpr ⟨dL_trouble_16, List.forall_mem_cons.mpr ⟨dL_trouble_18, fun _ h => absurd h List.not_mem_nil⟩⟩) (fun p e s m args below meth c Q D dA A n0 V0 E C0 hU hO htab hz hm => List.forall_mem_cons.mpr ⟨tn_aload_n C0 dL_trouble_0, List.forall_mem_cons.mpr ⟨tn_iconst C0 dL_trouble_1, List.forall_mem_cons.mpr ⟨tn_aload_n C0 dL_trouble_2, List.forall_mem_cons.mpr ⟨tn_iload_n C0 dL_trouble_3, List.forall_mem_cons.mpr ⟨tn_iload_n C0 dL_trouble_4, List.forall_mem_cons.mpr ⟨tn_cX C0 hz hcv0 hm hU hO (m_X11_trouble_1 hl) tv_1190 dL_trouble_5 tv_1187 tv_1188 tv_1189 tv_1 rfl yb_X11_trouble rfl (by decide) (by decide) (by decide) htab (by decide) (by decide) tv_1118 rfl, List.forall_mem_cons.mpr ⟨tn_i2l C0 dL_trouble_8, List.forall_mem_cons.mpr ⟨tn_last C0 hz hcv0 hrt0 hm dL_trouble_9, List.forall_mem_cons.mpr ⟨tn_goto C0 dL_trouble_10 (by decide), List.forall_mem_cons.mpr ⟨tn_astore C0 dL_trouble_13, List.forall_mem_cons.mpr ⟨tn_iconst C0 dL_trouble_15, List.forall_mem_cons.mpr ⟨tn_iconst C0 dL_trouble_17, fun _ h => absurd h List.not_mem_nil⟩⟩⟩⟩⟩⟩⟩⟩⟩⟩⟩⟩) (by decide) (by decide +kernel)
set_option maxRecDepth 200000 in
set_option maxHeartbeats 4000000 in
def K_L_likely : tb_K := ([.inr (.inl (some 1)), .inl (2, 0), .inl (3, 0), .inr (.inl (some 4))], [], [], [(0, 0), (1180591620717411303451, 1180591620717411303451), (-2147483648, 2147483647), (-2147483648, 2147483647), (1180591620717411303511, 1180591620717411303511)], [(some (.inl (5, 0)), [], [], [(0, 0), (1180591620717411303451, 1180591620717411303451), (-2147483648, 2147483647), (-2147483648, 2147483647), (1180591620717411303511, 1180591620717411303511), (0, 1)])], [(87, 0, 0)])
noncomputable def t_L_likely : List (Nat × tb_op) := [(0, to_aload 3 1), (1, to_int (0) 1), (2, to_aload 0 1), (3, to_iload 1 1), (4, to_iload 2 1), (5, to_cX tb_Z0 [(87, 0, 0)] (tb_gV tb_Z0 11 3 0 0) 13 K_X11_likely_1), (8, to_i2l), (9, to_last tb_Z0 tb_RT0 [(87, 0, 0)] []), (10, to_goto 17), (13, to_astore 5 4 2), (15, to_int (1) 1), (17, to_int (0) 1)]
set_option maxRecDepth 200000 in
set_option maxHeartbeats 4000000 in
theorem h_L_likely {l : Launch} (hl : l.stackTraces = false) : tb_MetH l vwCl sa_Ts tb_Z0 yL_likely cL_likely 5 (some .int) [(0, 10, 13, 13)] 7 170 K_L_likely := tb_methodH (by decide) [16, 18] t_L_likely 60 (List.forall_mem_cons.mpr ⟨dL_likely_16, List.forall_mem_cons.mpr ⟨dL_likely_18, fun _ h => absurd h List.not_mem_nil⟩⟩) (fun p e s m args below meth c Q D dA A n0 V0 E C0 hU hO htab hz hm => List.forall_mem_cons.mpr ⟨tn_aload_n C0 dL_likely_0, List.forall_mem_cons.mpr ⟨tn_iconst C0 dL_likely_1, List.forall_mem_cons.mpr ⟨tn_aload_n C0 dL_likely_2, List.forall_mem_cons.mpr ⟨tn_iload_n C0 dL_likely_3, List.forall_mem_cons.mpr ⟨tn_iload_n C0 dL_likely_4, List.forall_mem_cons.mpr ⟨tn_cX C0 hz hcv0 hm hU hO (m_X11_likely_1 hl) tv_1197 dL_likely_5 tv_1194 tv_1195 tv_1196 tv_1 rfl yb_X11_likely rfl (by decide) (by decide) (by decide) htab (by decide) (by decide) tv_1118 rfl, List.forall_mem_cons.mpr ⟨tn_i2l C0 dL_likely_8, List.forall_mem_cons.mpr ⟨tn_last C0 hz hcv0 hrt0 hm dL_likely_9, List.forall_mem_cons.mpr ⟨tn_goto C0 dL_likely_10 (by decide), List.forall_mem_cons.mpr ⟨tn_astore C0 dL_likely_13, List.forall_mem_cons.mpr ⟨tn_iconst C0 dL_likely_15, List.forall_mem_cons.mpr ⟨tn_iconst C0 dL_likely_17, fun _ h => absurd h List.not_mem_nil⟩⟩⟩⟩⟩⟩⟩⟩⟩⟩⟩⟩) (by decide) (by decide +kernel)
set_option maxRecDepth 200000 in
set_option maxHeartbeats 4000000 in
def K_L_plan : tb_K := ([.inr (.inl (some 1)), .inl (2, 0), .inl (3, 0), .inl (4, 0), .inr (.inl (some 5))], [], [], [(0, 0), (1180591620717411303451, 1180591620717411303451), (-2147483648, 2147483647), (-2147483648, 2147483647), (-2147483648, 2147483647), (1180591620717411303511, 1180591620717411303511)], [(some (.inl (6, 0)), [], [], [(0, 0), (1180591620717411303451, 1180591620717411303451), (-2147483648, 2147483647), (-2147483648, 2147483647), (-2147483648, 2147483647), (1180591620717411303511, 1180591620717411303511), (0, 1)])], [(69, 1, 3), (70, 0, 3), (71, 0, 3), (72, 0, 31), (73, 0, 3), (87, 0, 0)])
noncomputable def t_L_plan : List (Nat × tb_op) := [(0, to_aload 4 2), (2, to_int (0) 1), (3, to_aload 0 1), (4, to_iload 1 1), (5, to_iload 2 1), (6, to_iload 3 1), (7, to_cX tb_Z0 [(69, 1, 3), (70, 0, 3), (71, 0, 3), (72, 0, 31), (73, 0, 3), (87, 0, 0)] (tb_gV tb_Z0 11 4 0 0) 15 K_X11_plan_1), (10, to_i2l), (11, to_last tb_Z0 tb_RT0 [(69, 1, 3), (70, 0, 3), (71, 0, 3), (72, 0, 31), (73, 0, 3), (87, 0, 0)] []), (12, to_goto 19), (15, to_astore 6 5 2), (17, to_int (1) 1), (19, to_int (0) 1)]
set_option maxRecDepth 200000 in
set_option maxHeartbeats 4000000 in
theorem h_L_plan {l : Launch} (hl : l.stackTraces = false) : tb_MetH l vwCl sa_Ts tb_Z0 yL_plan cL_plan 6 (some .int) [(0, 12, 15, 13)] 12 369 K_L_plan := tb_methodH (by decide) [18, 20] t_L_plan 60 (List.forall_mem_cons.mpr ⟨dL_plan_18, List.forall_mem_cons.mpr ⟨dL_plan_20, fun _ h => absurd h List.not_mem_nil⟩⟩) (fun p e s m args below meth c Q D dA A n0 V0 E C0 hU hO htab hz hm => List.forall_mem_cons.mpr ⟨tn_aload C0 dL_plan_0, List.forall_mem_cons.mpr ⟨tn_iconst C0 dL_plan_2, List.forall_mem_cons.mpr ⟨tn_aload_n C0 dL_plan_3, List.forall_mem_cons.mpr ⟨tn_iload_n C0 dL_plan_4, List.forall_mem_cons.mpr ⟨tn_iload_n C0 dL_plan_5, List.forall_mem_cons.mpr ⟨tn_iload_n C0 dL_plan_6, List.forall_mem_cons.mpr ⟨tn_cX C0 hz hcv0 hm hU hO (m_X11_plan_1 hl) tv_1208 dL_plan_7 tv_1205 tv_1206 tv_1207 tv_1 rfl yb_X11_plan rfl (by decide) (by decide) (by decide) htab (by decide) (by decide) tv_1118 rfl, List.forall_mem_cons.mpr ⟨tn_i2l C0 dL_plan_10, List.forall_mem_cons.mpr ⟨tn_last C0 hz hcv0 hrt0 hm dL_plan_11, List.forall_mem_cons.mpr ⟨tn_goto C0 dL_plan_12 (by decide), List.forall_mem_cons.mpr ⟨tn_astore C0 dL_plan_15, List.forall_mem_cons.mpr ⟨tn_iconst C0 dL_plan_17, List.forall_mem_cons.mpr ⟨tn_iconst C0 dL_plan_19, fun _ h => absurd h List.not_mem_nil⟩⟩⟩⟩⟩⟩⟩⟩⟩⟩⟩⟩⟩) (by decide) (by decide +kernel)
