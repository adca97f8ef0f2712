theorem tv_m1 {w : Cond} (i : Nat) (h0 : tables_1_1[i]? = some w) (g : goodWord w = true) : w ∈ sa_Ts := have h : w ∈ tables_1_1 := List.mem_of_getElem? h0; List.mem_filter.mpr ⟨List.mem_append_right _ (List.mem_append_left _ h), g⟩
theorem tv_m2 {w : Cond} (i : Nat) (h0 : tables_1_2[i]? = some w) (g : goodWord w = true) : w ∈ sa_Ts := have h : w ∈ tables_1_2 := List.mem_of_getElem? h0; List.mem_filter.mpr ⟨List.mem_append_right _ (List.mem_append_right _ (List.mem_append_left _ h)), g⟩
theorem tv_m3 {w : Cond} (i : Nat) (h0 : tables_1_3[i]? = some w) (g : goodWord w = true) : w ∈ sa_Ts := have h : w ∈ tables_1_3 := List.mem_of_getElem? h0; List.mem_filter.mpr ⟨List.mem_append_right _ (List.mem_append_right _ (List.mem_append_right _ (List.mem_append_left _ h))), g⟩
theorem tv_m4 {w : Cond} (i : Nat) (h0 : tables_1_4[i]? = some w) (g : goodWord w = true) : w ∈ sa_Ts := have h : w ∈ tables_1_4 := List.mem_of_getElem? h0; List.mem_filter.mpr ⟨List.mem_append_right _ (List.mem_append_right _ (List.mem_append_right _ (List.mem_append_right _ (List.mem_append_left _ h)))), g⟩
theorem tv_m5 {w : Cond} (i : Nat) (h0 : tables_1_5[i]? = some w) (g : goodWord w = true) : w ∈ sa_Ts := have h : w ∈ tables_1_5 := List.mem_of_getElem? h0; List.mem_filter.mpr ⟨List.mem_append_right _ (List.mem_append_right _ (List.mem_append_right _ (List.mem_append_right _ (List.mem_append_right _ (List.mem_append_left _ h))))), g⟩
theorem tv_m6 {w : Cond} (i : Nat) (h0 : tables_1_6[i]? = some w) (g : goodWord w = true) : w ∈ sa_Ts := have h : w ∈ tables_1_6 := List.mem_of_getElem? h0; List.mem_filter.mpr ⟨List.mem_append_right _ (List.mem_append_right _ (List.mem_append_right _ (List.mem_append_right _ (List.mem_append_right _ (List.mem_append_right _ (List.mem_append_left _ h)))))), g⟩
theorem tv_m7 {w : Cond} (i : Nat) (h0 : tables_1_7[i]? = some w) (g : goodWord w = true) : w ∈ sa_Ts := have h : w ∈ tables_1_7 := List.mem_of_getElem? h0; List.mem_filter.mpr ⟨List.mem_append_right _ (List.mem_append_right _ (List.mem_append_right _ (List.mem_append_right _ (List.mem_append_right _ (List.mem_append_right _ (List.mem_append_right _ (List.mem_append_left _ h))))))), g⟩
theorem tv_m8 {w : Cond} (i : Nat) (h0 : tables_1_8[i]? = some w) (g : goodWord w = true) : w ∈ sa_Ts := have h : w ∈ tables_1_8 := List.mem_of_getElem? h0; List.mem_filter.mpr ⟨List.mem_append_right _ (List.mem_append_right _ (List.mem_append_right _ (List.mem_append_right _ (List.mem_append_right _ (List.mem_append_right _ (List.mem_append_right _ (List.mem_append_right _ (h)))))))), g⟩
set_option maxRecDepth 20000 in
theorem tv_1 : (Jvm.Cond.initialized "OffThenOn") ∈ sa_Ts := tv_m1 1 rfl rfl
set_option maxRecDepth 20000 in
theorem tv_2 : (Jvm.Cond.initialized "OffThenOn$Bytes") ∈ sa_Ts := tv_m1 2 rfl rfl
set_option maxRecDepth 20000 in
theorem tv_3 : (Jvm.Cond.initialized "OffThenOn$World") ∈ sa_Ts := tv_m1 3 rfl rfl
set_option maxRecDepth 20000 in
theorem tv_4 : (Jvm.Cond.initialized "OffThenOn$House") ∈ sa_Ts := tv_m1 4 rfl rfl
set_option maxRecDepth 20000 in
theorem tv_5 : (Jvm.Cond.initialized "OffThenOn$State") ∈ sa_Ts := tv_m1 5 rfl rfl
set_option maxRecDepth 20000 in
theorem tv_6 : (Jvm.Cond.initialized "OffThenOn$Sentence") ∈ sa_Ts := tv_m1 6 rfl rfl
set_option maxRecDepth 20000 in
theorem tv_7 : (Jvm.Cond.initialized "OffThenOn$History") ∈ sa_Ts := tv_m1 7 rfl rfl
set_option maxRecDepth 20000 in
theorem tv_8 : (Jvm.Cond.initialized "OffThenOn$HouseReader") ∈ sa_Ts := tv_m1 8 rfl rfl
set_option maxRecDepth 20000 in
theorem tv_9 : (Jvm.Cond.initialized "OffThenOn$Reader") ∈ sa_Ts := tv_m1 9 rfl rfl
set_option maxRecDepth 20000 in
theorem tv_10 : (Jvm.Cond.initialized "OffThenOn$LogReader") ∈ sa_Ts := tv_m1 10 rfl rfl
set_option maxRecDepth 20000 in
theorem tv_11 : (Jvm.Cond.initialized "OffThenOn$SentenceReader") ∈ sa_Ts := tv_m1 11 rfl rfl
set_option maxRecDepth 20000 in
theorem tv_12 : (Jvm.Cond.initialized "OffThenOn$Planner") ∈ sa_Ts := tv_m1 12 rfl rfl
set_option maxRecDepth 20000 in
theorem tv_13 : (Jvm.Cond.initialized "OffThenOnModel") ∈ sa_Ts := tv_m1 13 rfl rfl
set_option maxRecDepth 20000 in
theorem tv_14 : (Jvm.Cond.initialized "java/lang/System") ∈ sa_Ts := tv_m1 14 rfl rfl
set_option maxRecDepth 20000 in
theorem tv_18 : (Jvm.Cond.initialized "java/util/NoSuchElementException") ∈ sa_Ts := tv_m1 18 rfl rfl
set_option maxRecDepth 20000 in
theorem tv_19 : (Jvm.Cond.initialized "java/lang/Math") ∈ sa_Ts := tv_m1 19 rfl rfl
set_option maxRecDepth 20000 in
theorem tv_20 : (Jvm.Cond.initialized "java/lang/Integer") ∈ sa_Ts := tv_m1 20 rfl rfl
set_option maxRecDepth 20000 in
theorem tv_21 : (Jvm.Cond.initialized "java/lang/String") ∈ sa_Ts := tv_m1 21 rfl rfl
set_option maxRecDepth 20000 in
theorem tv_22 : (Jvm.Cond.initialized "java/lang/StringLatin1") ∈ sa_Ts := tv_m1 22 rfl rfl
set_option maxRecDepth 20000 in
theorem tv_23 : (Jvm.Cond.initialized "jdk/internal/util/Preconditions") ∈ sa_Ts := tv_m1 23 rfl rfl
set_option maxRecDepth 20000 in
theorem tv_39 : (Jvm.Cond.fieldLink "OffThenOn$Bytes" (9 : Nat) "OffThenOn$Bytes" "row" "[B") ∈ sa_Ts := tv_m1 39 rfl rfl
set_option maxRecDepth 20000 in
theorem tv_40 : (Jvm.Cond.fieldLink "OffThenOn" (88 : Nat) "OffThenOn$Bytes" "size" "I") ∈ sa_Ts := tv_m1 40 rfl rfl
set_option maxRecDepth 20000 in
theorem tv_41 : (Jvm.Cond.fieldLink "OffThenOn$Bytes" (15 : Nat) "OffThenOn$Bytes" "size" "I") ∈ sa_Ts := tv_m1 41 rfl rfl
set_option maxRecDepth 20000 in
theorem tv_42 : (Jvm.Cond.fieldLink "OffThenOn$Reader" (36 : Nat) "OffThenOn$Bytes" "size" "I") ∈ sa_Ts := tv_m1 42 rfl rfl
set_option maxRecDepth 20000 in
theorem tv_61 : (Jvm.Cond.fieldLink "OffThenOn$House" (9 : Nat) "OffThenOn$House" "thingNames" "[J") ∈ sa_Ts := tv_m1 61 rfl rfl
set_option maxRecDepth 20000 in
theorem tv_62 : (Jvm.Cond.fieldLink "OffThenOn" (330 : Nat) "OffThenOn$House" "thingNames" "[J") ∈ sa_Ts := tv_m1 62 rfl rfl
set_option maxRecDepth 20000 in
theorem tv_63 : (Jvm.Cond.fieldLink "OffThenOn$House" (15 : Nat) "OffThenOn$House" "boots" "[I") ∈ sa_Ts := tv_m1 63 rfl rfl
set_option maxRecDepth 20000 in
theorem tv_64 : (Jvm.Cond.fieldLink "OffThenOn$Planner" (29 : Nat) "OffThenOn$House" "boots" "[I") ∈ sa_Ts := tv_m1 64 rfl rfl
set_option maxRecDepth 20000 in
theorem tv_65 : (Jvm.Cond.fieldLink "OffThenOn" (153 : Nat) "OffThenOn$House" "boots" "[I") ∈ sa_Ts := tv_m1 65 rfl rfl
set_option maxRecDepth 20000 in
theorem tv_66 : (Jvm.Cond.fieldLink "OffThenOn$State" (98 : Nat) "OffThenOn$House" "boots" "[I") ∈ sa_Ts := tv_m1 66 rfl rfl
set_option maxRecDepth 20000 in
theorem tv_67 : (Jvm.Cond.fieldLink "OffThenOn$House" (19 : Nat) "OffThenOn$House" "waits" "[I") ∈ sa_Ts := tv_m1 67 rfl rfl
set_option maxRecDepth 20000 in
theorem tv_68 : (Jvm.Cond.fieldLink "OffThenOn$Planner" (24 : Nat) "OffThenOn$House" "waits" "[I") ∈ sa_Ts := tv_m1 68 rfl rfl
set_option maxRecDepth 20000 in
theorem tv_69 : (Jvm.Cond.fieldLink "OffThenOn" (156 : Nat) "OffThenOn$House" "waits" "[I") ∈ sa_Ts := tv_m1 69 rfl rfl
set_option maxRecDepth 20000 in
theorem tv_70 : (Jvm.Cond.fieldLink "OffThenOn$State" (85 : Nat) "OffThenOn$House" "waits" "[I") ∈ sa_Ts := tv_m1 70 rfl rfl
set_option maxRecDepth 20000 in
theorem tv_71 : (Jvm.Cond.fieldLink "OffThenOn$House" (22 : Nat) "OffThenOn$House" "behinds" "[I") ∈ sa_Ts := tv_m1 71 rfl rfl
set_option maxRecDepth 20000 in
theorem tv_72 : (Jvm.Cond.fieldLink "OffThenOn$State" (78 : Nat) "OffThenOn$House" "behinds" "[I") ∈ sa_Ts := tv_m1 72 rfl rfl
set_option maxRecDepth 20000 in
theorem tv_73 : (Jvm.Cond.fieldLink "OffThenOn" (159 : Nat) "OffThenOn$House" "behinds" "[I") ∈ sa_Ts := tv_m1 73 rfl rfl
set_option maxRecDepth 20000 in
theorem tv_74 : (Jvm.Cond.fieldLink "OffThenOn$House" (25 : Nat) "OffThenOn$House" "ahead" "[I") ∈ sa_Ts := tv_m1 74 rfl rfl
set_option maxRecDepth 20000 in
theorem tv_75 : (Jvm.Cond.fieldLink "OffThenOn$House" (28 : Nat) "OffThenOn$House" "after" "[I") ∈ sa_Ts := tv_m1 75 rfl rfl
set_option maxRecDepth 20000 in
theorem tv_76 : (Jvm.Cond.fieldLink "OffThenOn$Sentence" (66 : Nat) "OffThenOn$House" "after" "[I") ∈ sa_Ts := tv_m1 76 rfl rfl
set_option maxRecDepth 20000 in
theorem tv_77 : (Jvm.Cond.fieldLink "OffThenOn$State" (95 : Nat) "OffThenOn$House" "after" "[I") ∈ sa_Ts := tv_m1 77 rfl rfl
set_option maxRecDepth 20000 in
theorem tv_78 : (Jvm.Cond.fieldLink "OffThenOn$House" (31 : Nat) "OffThenOn$House" "faultsOf" "[I") ∈ sa_Ts := tv_m1 78 rfl rfl
set_option maxRecDepth 20000 in
theorem tv_79 : (Jvm.Cond.fieldLink "OffThenOn$State" (60 : Nat) "OffThenOn$House" "faultsOf" "[I") ∈ sa_Ts := tv_m1 79 rfl rfl
set_option maxRecDepth 20000 in
theorem tv_80 : (Jvm.Cond.fieldLink "OffThenOn" (285 : Nat) "OffThenOn$House" "faultsOf" "[I") ∈ sa_Ts := tv_m1 80 rfl rfl
set_option maxRecDepth 20000 in
theorem tv_81 : (Jvm.Cond.fieldLink "OffThenOn$House" (34 : Nat) "OffThenOn$House" "faultNames" "[J") ∈ sa_Ts := tv_m1 81 rfl rfl
set_option maxRecDepth 20000 in
theorem tv_82 : (Jvm.Cond.fieldLink "OffThenOn" (357 : Nat) "OffThenOn$House" "faultNames" "[J") ∈ sa_Ts := tv_m1 82 rfl rfl
set_option maxRecDepth 20000 in
theorem tv_83 : (Jvm.Cond.fieldLink "OffThenOn$House" (37 : Nat) "OffThenOn$House" "homes" "[I") ∈ sa_Ts := tv_m1 83 rfl rfl
set_option maxRecDepth 20000 in
theorem tv_84 : (Jvm.Cond.fieldLink "OffThenOn$Sentence" (63 : Nat) "OffThenOn$House" "homes" "[I") ∈ sa_Ts := tv_m1 84 rfl rfl
set_option maxRecDepth 20000 in
theorem tv_85 : (Jvm.Cond.fieldLink "OffThenOn" (192 : Nat) "OffThenOn$House" "homes" "[I") ∈ sa_Ts := tv_m1 85 rfl rfl
set_option maxRecDepth 20000 in
theorem tv_86 : (Jvm.Cond.fieldLink "OffThenOn$House" (40 : Nat) "OffThenOn$House" "healTimes" "[I") ∈ sa_Ts := tv_m1 86 rfl rfl
set_option maxRecDepth 20000 in
theorem tv_87 : (Jvm.Cond.fieldLink "OffThenOn" (195 : Nat) "OffThenOn$House" "healTimes" "[I") ∈ sa_Ts := tv_m1 87 rfl rfl
set_option maxRecDepth 20000 in
theorem tv_88 : (Jvm.Cond.fieldLink "OffThenOn$State" (123 : Nat) "OffThenOn$House" "healTimes" "[I") ∈ sa_Ts := tv_m1 88 rfl rfl
set_option maxRecDepth 20000 in
theorem tv_89 : (Jvm.Cond.fieldLink "OffThenOn$House" (43 : Nat) "OffThenOn$House" "chances" "[I") ∈ sa_Ts := tv_m1 89 rfl rfl
set_option maxRecDepth 20000 in
theorem tv_90 : (Jvm.Cond.fieldLink "OffThenOn$Planner" (36 : Nat) "OffThenOn$House" "chances" "[I") ∈ sa_Ts := tv_m1 90 rfl rfl
set_option maxRecDepth 20000 in
theorem tv_91 : (Jvm.Cond.fieldLink "OffThenOn" (198 : Nat) "OffThenOn$House" "chances" "[I") ∈ sa_Ts := tv_m1 91 rfl rfl
set_option maxRecDepth 20000 in
theorem tv_92 : (Jvm.Cond.fieldLink "OffThenOn$House" (46 : Nat) "OffThenOn$House" "shows" "[I") ∈ sa_Ts := tv_m1 92 rfl rfl
set_option maxRecDepth 20000 in
theorem tv_93 : (Jvm.Cond.fieldLink "OffThenOn$State" (67 : Nat) "OffThenOn$House" "shows" "[I") ∈ sa_Ts := tv_m1 93 rfl rfl
set_option maxRecDepth 20000 in
theorem tv_94 : (Jvm.Cond.fieldLink "OffThenOn" (201 : Nat) "OffThenOn$House" "shows" "[I") ∈ sa_Ts := tv_m1 94 rfl rfl
set_option maxRecDepth 20000 in
theorem tv_95 : (Jvm.Cond.fieldLink "OffThenOn$House" (49 : Nat) "OffThenOn$House" "twelfths" "[I") ∈ sa_Ts := tv_m1 95 rfl rfl
set_option maxRecDepth 20000 in
theorem tv_96 : (Jvm.Cond.fieldLink "OffThenOn$House" (52 : Nat) "OffThenOn$House" "things" "I") ∈ sa_Ts := tv_m1 96 rfl rfl
set_option maxRecDepth 20000 in
theorem tv_97 : (Jvm.Cond.fieldLink "OffThenOn$HouseReader" (59 : Nat) "OffThenOn$House" "things" "I") ∈ sa_Ts := tv_m1 97 rfl rfl
set_option maxRecDepth 20000 in
theorem tv_98 : (Jvm.Cond.fieldLink "OffThenOn$Sentence" (37 : Nat) "OffThenOn$House" "things" "I") ∈ sa_Ts := tv_m1 98 rfl rfl
set_option maxRecDepth 20000 in
theorem tv_99 : (Jvm.Cond.fieldLink "OffThenOn$State" (75 : Nat) "OffThenOn$House" "things" "I") ∈ sa_Ts := tv_m1 99 rfl rfl
set_option maxRecDepth 20000 in
theorem tv_100 : (Jvm.Cond.fieldLink "OffThenOn" (322 : Nat) "OffThenOn$House" "things" "I") ∈ sa_Ts := tv_m1 100 rfl rfl
set_option maxRecDepth 20000 in
theorem tv_101 : (Jvm.Cond.fieldLink "OffThenOn$House" (56 : Nat) "OffThenOn$House" "faults" "I") ∈ sa_Ts := tv_m1 101 rfl rfl
set_option maxRecDepth 20000 in
theorem tv_102 : (Jvm.Cond.fieldLink "OffThenOn$State" (55 : Nat) "OffThenOn$House" "faults" "I") ∈ sa_Ts := tv_m1 102 rfl rfl
set_option maxRecDepth 20000 in
theorem tv_103 : (Jvm.Cond.fieldLink "OffThenOn$HouseReader" (87 : Nat) "OffThenOn$House" "faults" "I") ∈ sa_Ts := tv_m1 103 rfl rfl
set_option maxRecDepth 20000 in
theorem tv_104 : (Jvm.Cond.fieldLink "OffThenOn" (316 : Nat) "OffThenOn$House" "faults" "I") ∈ sa_Ts := tv_m1 104 rfl rfl
set_option maxRecDepth 20000 in
theorem tv_105 : (Jvm.Cond.fieldLink "OffThenOn$House" (59 : Nat) "OffThenOn$House" "curesTold" "I") ∈ sa_Ts := tv_m1 105 rfl rfl
set_option maxRecDepth 20000 in
theorem tv_106 : (Jvm.Cond.fieldLink "OffThenOn$HouseReader" (94 : Nat) "OffThenOn$House" "curesTold" "I") ∈ sa_Ts := tv_m1 106 rfl rfl
set_option maxRecDepth 20000 in
theorem tv_107 : (Jvm.Cond.fieldLink "OffThenOn" (411 : Nat) "OffThenOn$House" "curesTold" "I") ∈ sa_Ts := tv_m1 107 rfl rfl
set_option maxRecDepth 20000 in
theorem tv_149 : (Jvm.Cond.fieldLink "OffThenOn$State" (9 : Nat) "OffThenOn$State" "modes" "[I") ∈ sa_Ts := tv_m1 149 rfl rfl
set_option maxRecDepth 20000 in
theorem tv_150 : (Jvm.Cond.fieldLink "OffThenOn" (162 : Nat) "OffThenOn$State" "modes" "[I") ∈ sa_Ts := tv_m1 150 rfl rfl
set_option maxRecDepth 20000 in
theorem tv_151 : (Jvm.Cond.fieldLink "OffThenOn$State" (15 : Nat) "OffThenOn$State" "clocks" "[I") ∈ sa_Ts := tv_m1 151 rfl rfl
set_option maxRecDepth 20000 in
theorem tv_152 : (Jvm.Cond.fieldLink "OffThenOn" (165 : Nat) "OffThenOn$State" "clocks" "[I") ∈ sa_Ts := tv_m1 152 rfl rfl
set_option maxRecDepth 20000 in
theorem tv_153 : (Jvm.Cond.fieldLink "OffThenOn$State" (18 : Nat) "OffThenOn$State" "downs" "[I") ∈ sa_Ts := tv_m1 153 rfl rfl
set_option maxRecDepth 20000 in
theorem tv_154 : (Jvm.Cond.fieldLink "OffThenOn" (186 : Nat) "OffThenOn$State" "downs" "[I") ∈ sa_Ts := tv_m1 154 rfl rfl
set_option maxRecDepth 20000 in
theorem tv_155 : (Jvm.Cond.fieldLink "OffThenOn$Sentence" (84 : Nat) "OffThenOn$State" "downs" "[I") ∈ sa_Ts := tv_m1 155 rfl rfl
set_option maxRecDepth 20000 in
theorem tv_156 : (Jvm.Cond.fieldLink "OffThenOn$State" (21 : Nat) "OffThenOn$State" "ages" "[I") ∈ sa_Ts := tv_m1 156 rfl rfl
set_option maxRecDepth 20000 in
theorem tv_157 : (Jvm.Cond.fieldLink "OffThenOn" (204 : Nat) "OffThenOn$State" "ages" "[I") ∈ sa_Ts := tv_m1 157 rfl rfl
set_option maxRecDepth 20000 in
theorem tv_158 : (Jvm.Cond.fieldLink "OffThenOn$State" (24 : Nat) "OffThenOn$State" "struck" "[I") ∈ sa_Ts := tv_m1 158 rfl rfl
set_option maxRecDepth 20000 in
theorem tv_159 : (Jvm.Cond.fieldLink "OffThenOn" (207 : Nat) "OffThenOn$State" "struck" "[I") ∈ sa_Ts := tv_m1 159 rfl rfl
set_option maxRecDepth 20000 in
theorem tv_160 : (Jvm.Cond.fieldLink "OffThenOn$State" (27 : Nat) "OffThenOn$State" "healed" "[I") ∈ sa_Ts := tv_m1 160 rfl rfl
set_option maxRecDepth 20000 in
theorem tv_161 : (Jvm.Cond.fieldLink "OffThenOn" (210 : Nat) "OffThenOn$State" "healed" "[I") ∈ sa_Ts := tv_m1 161 rfl rfl
set_option maxRecDepth 20000 in
theorem tv_162 : (Jvm.Cond.fieldLink "OffThenOn$State" (30 : Nat) "OffThenOn$State" "numbered" "I") ∈ sa_Ts := tv_m1 162 rfl rfl
set_option maxRecDepth 20000 in
theorem tv_163 : (Jvm.Cond.fieldLink "OffThenOn" (168 : Nat) "OffThenOn$State" "numbered" "I") ∈ sa_Ts := tv_m1 163 rfl rfl
set_option maxRecDepth 20000 in
theorem tv_164 : (Jvm.Cond.fieldLink "OffThenOn$State" (34 : Nat) "OffThenOn$State" "there" "I") ∈ sa_Ts := tv_m1 164 rfl rfl
set_option maxRecDepth 20000 in
theorem tv_165 : (Jvm.Cond.fieldLink "OffThenOn$Sentence" (56 : Nat) "OffThenOn$State" "there" "I") ∈ sa_Ts := tv_m1 165 rfl rfl
set_option maxRecDepth 20000 in
theorem tv_166 : (Jvm.Cond.fieldLink "OffThenOn" (175 : Nat) "OffThenOn$State" "there" "I") ∈ sa_Ts := tv_m1 166 rfl rfl
set_option maxRecDepth 20000 in
theorem tv_167 : (Jvm.Cond.fieldLink "OffThenOn$State" (37 : Nat) "OffThenOn$State" "minute" "I") ∈ sa_Ts := tv_m1 167 rfl rfl
set_option maxRecDepth 20000 in
theorem tv_168 : (Jvm.Cond.fieldLink "OffThenOn$LogReader" (123 : Nat) "OffThenOn$State" "minute" "I") ∈ sa_Ts := tv_m1 168 rfl rfl
set_option maxRecDepth 20000 in
theorem tv_169 : (Jvm.Cond.fieldLink "OffThenOn" (216 : Nat) "OffThenOn$State" "minute" "I") ∈ sa_Ts := tv_m1 169 rfl rfl
set_option maxRecDepth 20000 in
theorem tv_170 : (Jvm.Cond.fieldLink "OffThenOn$State" (40 : Nat) "OffThenOn$State" "deedsDone" "I") ∈ sa_Ts := tv_m1 170 rfl rfl
set_option maxRecDepth 20000 in
theorem tv_171 : (Jvm.Cond.fieldLink "OffThenOn" (223 : Nat) "OffThenOn$State" "deedsDone" "I") ∈ sa_Ts := tv_m1 171 rfl rfl
set_option maxRecDepth 20000 in
theorem tv_172 : (Jvm.Cond.fieldLink "OffThenOn$State" (43 : Nat) "OffThenOn$State" "goneByDeeds" "I") ∈ sa_Ts := tv_m1 172 rfl rfl
set_option maxRecDepth 20000 in
theorem tv_173 : (Jvm.Cond.fieldLink "OffThenOn" (226 : Nat) "OffThenOn$State" "goneByDeeds" "I") ∈ sa_Ts := tv_m1 173 rfl rfl
set_option maxRecDepth 20000 in
theorem tv_174 : (Jvm.Cond.fieldLink "OffThenOn$State" (46 : Nat) "OffThenOn$State" "goneByThemselves" "I") ∈ sa_Ts := tv_m1 174 rfl rfl
set_option maxRecDepth 20000 in
theorem tv_175 : (Jvm.Cond.fieldLink "OffThenOn" (229 : Nat) "OffThenOn$State" "goneByThemselves" "I") ∈ sa_Ts := tv_m1 175 rfl rfl
set_option maxRecDepth 20000 in
theorem tv_176 : (Jvm.Cond.fieldLink "OffThenOn$LogReader" (98 : Nat) "OffThenOn$State" "seed" "I") ∈ sa_Ts := tv_m1 176 rfl rfl
set_option maxRecDepth 20000 in
theorem tv_177 : (Jvm.Cond.fieldLink "OffThenOn" (243 : Nat) "OffThenOn$State" "seed" "I") ∈ sa_Ts := tv_m1 177 rfl rfl
set_option maxRecDepth 20000 in
theorem tv_178 : (Jvm.Cond.fieldLink "OffThenOn$State" (112 : Nat) "OffThenOn$State" "seed" "I") ∈ sa_Ts := tv_m1 178 rfl rfl
set_option maxRecDepth 20000 in
theorem tv_212 : (Jvm.Cond.fieldLink "OffThenOn$Sentence" (11 : Nat) "OffThenOn$Sentence" "words" "[I") ∈ sa_Ts := tv_m1 212 rfl rfl
set_option maxRecDepth 20000 in
theorem tv_213 : (Jvm.Cond.fieldLink "OffThenOn$Sentence" (15 : Nat) "OffThenOn$Sentence" "signs" "[I") ∈ sa_Ts := tv_m1 213 rfl rfl
set_option maxRecDepth 20000 in
theorem tv_214 : (Jvm.Cond.fieldLink "OffThenOn$Sentence" (18 : Nat) "OffThenOn$Sentence" "numbers" "[I") ∈ sa_Ts := tv_m1 214 rfl rfl
set_option maxRecDepth 20000 in
theorem tv_215 : (Jvm.Cond.fieldLink "OffThenOn$Sentence" (21 : Nat) "OffThenOn$Sentence" "stack" "[I") ∈ sa_Ts := tv_m1 215 rfl rfl
set_option maxRecDepth 20000 in
theorem tv_216 : (Jvm.Cond.fieldLink "OffThenOn$Sentence" (24 : Nat) "OffThenOn$Sentence" "steps" "I") ∈ sa_Ts := tv_m1 216 rfl rfl
set_option maxRecDepth 20000 in
theorem tv_217 : (Jvm.Cond.fieldLink "OffThenOn$Sentence" (28 : Nat) "OffThenOn$Sentence" "ones" "I") ∈ sa_Ts := tv_m1 217 rfl rfl
set_option maxRecDepth 20000 in
theorem tv_218 : (Jvm.Cond.fieldLink "OffThenOn$SentenceReader" (64 : Nat) "OffThenOn$Sentence" "ones" "I") ∈ sa_Ts := tv_m1 218 rfl rfl
set_option maxRecDepth 20000 in
theorem tv_219 : (Jvm.Cond.fieldLink "OffThenOn" (394 : Nat) "OffThenOn$Sentence" "ones" "I") ∈ sa_Ts := tv_m1 219 rfl rfl
set_option maxRecDepth 20000 in
theorem tv_233 : (Jvm.Cond.fieldLink "OffThenOn$World" (10 : Nat) "OffThenOn$World" "house" "LOffThenOn$House;") ∈ sa_Ts := tv_m1 233 rfl rfl
set_option maxRecDepth 20000 in
theorem tv_234 : (Jvm.Cond.fieldLink "OffThenOn" (111 : Nat) "OffThenOn$World" "house" "LOffThenOn$House;") ∈ sa_Ts := tv_m1 234 rfl rfl
set_option maxRecDepth 20000 in
theorem tv_235 : (Jvm.Cond.fieldLink "OffThenOn$World" (19 : Nat) "OffThenOn$World" "state" "LOffThenOn$State;") ∈ sa_Ts := tv_m1 235 rfl rfl
set_option maxRecDepth 20000 in
theorem tv_236 : (Jvm.Cond.fieldLink "OffThenOn" (124 : Nat) "OffThenOn$World" "state" "LOffThenOn$State;") ∈ sa_Ts := tv_m1 236 rfl rfl
set_option maxRecDepth 20000 in
theorem tv_237 : (Jvm.Cond.fieldLink "OffThenOn$World" (26 : Nat) "OffThenOn$World" "sentence" "LOffThenOn$Sentence;") ∈ sa_Ts := tv_m1 237 rfl rfl
set_option maxRecDepth 20000 in
theorem tv_238 : (Jvm.Cond.fieldLink "OffThenOn" (130 : Nat) "OffThenOn$World" "sentence" "LOffThenOn$Sentence;") ∈ sa_Ts := tv_m1 238 rfl rfl
set_option maxRecDepth 20000 in
theorem tv_239 : (Jvm.Cond.fieldLink "OffThenOn" (408 : Nat) "OffThenOn$World" "holds" "Z") ∈ sa_Ts := tv_m1 239 rfl rfl
set_option maxRecDepth 20000 in
theorem tv_259 : (Jvm.Cond.fieldLink "OffThenOn$History" (13 : Nat) "OffThenOn$History" "states" "[LOffThenOn$State;") ∈ sa_Ts := tv_m2 19 rfl rfl
set_option maxRecDepth 20000 in
theorem tv_260 : (Jvm.Cond.fieldLink "OffThenOn$History" (22 : Nat) "OffThenOn$History" "first" "I") ∈ sa_Ts := tv_m2 20 rfl rfl
set_option maxRecDepth 20000 in
theorem tv_261 : (Jvm.Cond.fieldLink "OffThenOn$History" (18 : Nat) "OffThenOn$History" "size" "I") ∈ sa_Ts := tv_m2 21 rfl rfl
set_option maxRecDepth 20000 in
theorem tv_285 : (Jvm.Cond.fieldLink "OffThenOn$Reader" (14 : Nat) "OffThenOn$Reader" "text" "LOffThenOn$Bytes;") ∈ sa_Ts := tv_m2 45 rfl rfl
set_option maxRecDepth 20000 in
theorem tv_286 : (Jvm.Cond.fieldLink "OffThenOn$Reader" (20 : Nat) "OffThenOn$Reader" "mostBytes" "I") ∈ sa_Ts := tv_m2 46 rfl rfl
set_option maxRecDepth 20000 in
theorem tv_287 : (Jvm.Cond.fieldLink "OffThenOn$LogReader" (36 : Nat) "OffThenOn$Reader" "sort" "I") ∈ sa_Ts := tv_m2 47 rfl rfl
set_option maxRecDepth 20000 in
theorem tv_288 : (Jvm.Cond.fieldLink "OffThenOn$SentenceReader" (36 : Nat) "OffThenOn$Reader" "sort" "I") ∈ sa_Ts := tv_m2 48 rfl rfl
set_option maxRecDepth 20000 in
theorem tv_289 : (Jvm.Cond.fieldLink "OffThenOn$HouseReader" (36 : Nat) "OffThenOn$Reader" "sort" "I") ∈ sa_Ts := tv_m2 49 rfl rfl
set_option maxRecDepth 20000 in
theorem tv_290 : (Jvm.Cond.fieldLink "OffThenOn$Reader" (56 : Nat) "OffThenOn$Reader" "sort" "I") ∈ sa_Ts := tv_m2 50 rfl rfl
set_option maxRecDepth 20000 in
theorem tv_291 : (Jvm.Cond.fieldLink "OffThenOn$Reader" (47 : Nat) "OffThenOn$Reader" "place" "I") ∈ sa_Ts := tv_m2 51 rfl rfl
set_option maxRecDepth 20000 in
theorem tv_292 : (Jvm.Cond.fieldLink "OffThenOn$Reader" (24 : Nat) "OffThenOn$Reader" "next" "I") ∈ sa_Ts := tv_m2 52 rfl rfl
set_option maxRecDepth 20000 in
theorem tv_293 : (Jvm.Cond.fieldLink "OffThenOn$LogReader" (50 : Nat) "OffThenOn$Reader" "letters" "J") ∈ sa_Ts := tv_m2 53 rfl rfl
set_option maxRecDepth 20000 in
theorem tv_294 : (Jvm.Cond.fieldLink "OffThenOn$Reader" (71 : Nat) "OffThenOn$Reader" "letters" "J") ∈ sa_Ts := tv_m2 54 rfl rfl
set_option maxRecDepth 20000 in
theorem tv_295 : (Jvm.Cond.fieldLink "OffThenOn$HouseReader" (68 : Nat) "OffThenOn$Reader" "letters" "J") ∈ sa_Ts := tv_m2 55 rfl rfl
set_option maxRecDepth 20000 in
theorem tv_296 : (Jvm.Cond.fieldLink "OffThenOn$HouseReader" (43 : Nat) "OffThenOn$Reader" "keyword" "I") ∈ sa_Ts := tv_m2 56 rfl rfl
set_option maxRecDepth 20000 in
theorem tv_297 : (Jvm.Cond.fieldLink "OffThenOn$LogReader" (43 : Nat) "OffThenOn$Reader" "keyword" "I") ∈ sa_Ts := tv_m2 57 rfl rfl
set_option maxRecDepth 20000 in
theorem tv_298 : (Jvm.Cond.fieldLink "OffThenOn$SentenceReader" (47 : Nat) "OffThenOn$Reader" "keyword" "I") ∈ sa_Ts := tv_m2 58 rfl rfl
set_option maxRecDepth 20000 in
theorem tv_299 : (Jvm.Cond.fieldLink "OffThenOn$Reader" (50 : Nat) "OffThenOn$Reader" "keyword" "I") ∈ sa_Ts := tv_m2 59 rfl rfl
set_option maxRecDepth 20000 in
theorem tv_300 : (Jvm.Cond.fieldLink "OffThenOn$Reader" (53 : Nat) "OffThenOn$Reader" "value" "I") ∈ sa_Ts := tv_m2 60 rfl rfl
set_option maxRecDepth 20000 in
theorem tv_301 : (Jvm.Cond.fieldLink "OffThenOn$SentenceReader" (89 : Nat) "OffThenOn$Reader" "value" "I") ∈ sa_Ts := tv_m2 61 rfl rfl
set_option maxRecDepth 20000 in
theorem tv_302 : (Jvm.Cond.fieldLink "OffThenOn$Reader" (27 : Nat) "OffThenOn$Reader" "wrong" "I") ∈ sa_Ts := tv_m2 62 rfl rfl
set_option maxRecDepth 20000 in
theorem tv_303 : (Jvm.Cond.fieldLink "OffThenOn" (414 : Nat) "OffThenOn$Reader" "wrong" "I") ∈ sa_Ts := tv_m2 63 rfl rfl
set_option maxRecDepth 20000 in
theorem tv_304 : (Jvm.Cond.fieldLink "OffThenOn$Reader" (30 : Nat) "OffThenOn$Reader" "wrongPlace" "I") ∈ sa_Ts := tv_m2 64 rfl rfl
set_option maxRecDepth 20000 in
theorem tv_305 : (Jvm.Cond.fieldLink "OffThenOn" (106 : Nat) "OffThenOn$Reader" "wrongPlace" "I") ∈ sa_Ts := tv_m2 65 rfl rfl
set_option maxRecDepth 20000 in
theorem tv_329 : (Jvm.Cond.fieldLink "OffThenOn$HouseReader" (12 : Nat) "OffThenOn$HouseReader" "reader" "LOffThenOn$Reader;") ∈ sa_Ts := tv_m2 89 rfl rfl
set_option maxRecDepth 20000 in
theorem tv_330 : (Jvm.Cond.fieldLink "OffThenOn" (98 : Nat) "OffThenOn$HouseReader" "reader" "LOffThenOn$Reader;") ∈ sa_Ts := tv_m2 90 rfl rfl
set_option maxRecDepth 20000 in
theorem tv_331 : (Jvm.Cond.fieldLink "OffThenOn$HouseReader" (21 : Nat) "OffThenOn$HouseReader" "draft" "LOffThenOn$House;") ∈ sa_Ts := tv_m2 91 rfl rfl
set_option maxRecDepth 20000 in
theorem tv_332 : (Jvm.Cond.fieldLink "OffThenOn" (115 : Nat) "OffThenOn$HouseReader" "draft" "LOffThenOn$House;") ∈ sa_Ts := tv_m2 92 rfl rfl
set_option maxRecDepth 20000 in
theorem tv_333 : (Jvm.Cond.fieldLink "OffThenOn$HouseReader" (32 : Nat) "OffThenOn$HouseReader" "lines" "I") ∈ sa_Ts := tv_m2 93 rfl rfl
set_option maxRecDepth 20000 in
theorem tv_334 : (Jvm.Cond.fieldLink "OffThenOn" (140 : Nat) "OffThenOn$HouseReader" "lines" "I") ∈ sa_Ts := tv_m2 94 rfl rfl
set_option maxRecDepth 20000 in
theorem tv_350 : (Jvm.Cond.fieldLink "OffThenOn$LogReader" (12 : Nat) "OffThenOn$LogReader" "reader" "LOffThenOn$Reader;") ∈ sa_Ts := tv_m2 110 rfl rfl
set_option maxRecDepth 20000 in
theorem tv_351 : (Jvm.Cond.fieldLink "OffThenOn" (373 : Nat) "OffThenOn$LogReader" "reader" "LOffThenOn$Reader;") ∈ sa_Ts := tv_m2 111 rfl rfl
set_option maxRecDepth 20000 in
theorem tv_352 : (Jvm.Cond.fieldLink "OffThenOn$LogReader" (18 : Nat) "OffThenOn$LogReader" "verbs" "[I") ∈ sa_Ts := tv_m2 112 rfl rfl
set_option maxRecDepth 20000 in
theorem tv_353 : (Jvm.Cond.fieldLink "OffThenOn$LogReader" (22 : Nat) "OffThenOn$LogReader" "whos" "[I") ∈ sa_Ts := tv_m2 113 rfl rfl
set_option maxRecDepth 20000 in
theorem tv_354 : (Jvm.Cond.fieldLink "OffThenOn$LogReader" (25 : Nat) "OffThenOn$LogReader" "numbers" "[I") ∈ sa_Ts := tv_m2 114 rfl rfl
set_option maxRecDepth 20000 in
theorem tv_355 : (Jvm.Cond.fieldLink "OffThenOn$LogReader" (32 : Nat) "OffThenOn$LogReader" "lines" "I") ∈ sa_Ts := tv_m2 115 rfl rfl
set_option maxRecDepth 20000 in
theorem tv_356 : (Jvm.Cond.fieldLink "OffThenOn$LogReader" (91 : Nat) "OffThenOn$LogReader" "why" "I") ∈ sa_Ts := tv_m2 116 rfl rfl
set_option maxRecDepth 20000 in
theorem tv_357 : (Jvm.Cond.fieldLink "OffThenOn" (382 : Nat) "OffThenOn$LogReader" "why" "I") ∈ sa_Ts := tv_m2 117 rfl rfl
set_option maxRecDepth 20000 in
theorem tv_381 : (Jvm.Cond.fieldLink "OffThenOn$SentenceReader" (12 : Nat) "OffThenOn$SentenceReader" "reader" "LOffThenOn$Reader;") ∈ sa_Ts := tv_m2 141 rfl rfl
set_option maxRecDepth 20000 in
theorem tv_382 : (Jvm.Cond.fieldLink "OffThenOn" (388 : Nat) "OffThenOn$SentenceReader" "reader" "LOffThenOn$Reader;") ∈ sa_Ts := tv_m2 142 rfl rfl
set_option maxRecDepth 20000 in
theorem tv_383 : (Jvm.Cond.fieldLink "OffThenOn$SentenceReader" (21 : Nat) "OffThenOn$SentenceReader" "draft" "LOffThenOn$Sentence;") ∈ sa_Ts := tv_m2 143 rfl rfl
set_option maxRecDepth 20000 in
theorem tv_384 : (Jvm.Cond.fieldLink "OffThenOn" (389 : Nat) "OffThenOn$SentenceReader" "draft" "LOffThenOn$Sentence;") ∈ sa_Ts := tv_m2 144 rfl rfl
set_option maxRecDepth 20000 in
theorem tv_396 : (Jvm.Cond.fieldLink "OffThenOn$Planner" (9 : Nat) "OffThenOn$Planner" "best" "[I") ∈ sa_Ts := tv_m2 156 rfl rfl
set_option maxRecDepth 20000 in
theorem tv_397 : (Jvm.Cond.fieldLink "OffThenOn" (301 : Nat) "OffThenOn$Planner" "best" "[I") ∈ sa_Ts := tv_m2 157 rfl rfl
set_option maxRecDepth 20000 in
theorem tv_398 : (Jvm.Cond.fieldLink "OffThenOn$Planner" (69 : Nat) "OffThenOn$Planner" "bestSize" "I") ∈ sa_Ts := tv_m2 158 rfl rfl
set_option maxRecDepth 20000 in
theorem tv_399 : (Jvm.Cond.fieldLink "OffThenOn" (298 : Nat) "OffThenOn$Planner" "bestSize" "I") ∈ sa_Ts := tv_m2 159 rfl rfl
set_option maxRecDepth 20000 in
theorem tv_400 : (Jvm.Cond.fieldLink "OffThenOn$Planner" (47 : Nat) "OffThenOn$Planner" "fewest" "I") ∈ sa_Ts := tv_m2 160 rfl rfl
set_option maxRecDepth 20000 in
theorem tv_401 : (Jvm.Cond.fieldLink "OffThenOn" (292 : Nat) "OffThenOn$Planner" "fewest" "I") ∈ sa_Ts := tv_m2 161 rfl rfl
set_option maxRecDepth 20000 in
theorem tv_402 : (Jvm.Cond.fieldLink "OffThenOn$Planner" (43 : Nat) "OffThenOn$Planner" "whole" "I") ∈ sa_Ts := tv_m2 162 rfl rfl
set_option maxRecDepth 20000 in
theorem tv_403 : (Jvm.Cond.fieldLink "OffThenOn" (295 : Nat) "OffThenOn$Planner" "whole" "I") ∈ sa_Ts := tv_m2 163 rfl rfl
set_option maxRecDepth 20000 in
theorem tv_404 : (Jvm.Cond.fieldLink "OffThenOn$Planner" (15 : Nat) "OffThenOn$Planner" "row" "[I") ∈ sa_Ts := tv_m2 164 rfl rfl
set_option maxRecDepth 20000 in
theorem tv_405 : (Jvm.Cond.fieldLink "OffThenOn$Planner" (18 : Nat) "OffThenOn$Planner" "weights" "[I") ∈ sa_Ts := tv_m2 165 rfl rfl
set_option maxRecDepth 20000 in
theorem tv_406 : (Jvm.Cond.fieldLink "OffThenOn$Planner" (21 : Nat) "OffThenOn$Planner" "costs" "[I") ∈ sa_Ts := tv_m2 166 rfl rfl
set_option maxRecDepth 20000 in
theorem tv_422 : (Jvm.Cond.fieldLink "OffThenOn" (14 : Nat) "OffThenOn" "tape" "LOffThenOn$Bytes;") ∈ sa_Ts := tv_m2 182 rfl rfl
set_option maxRecDepth 20000 in
theorem tv_423 : (Jvm.Cond.fieldLink "OffThenOn" (21 : Nat) "OffThenOn" "world" "LOffThenOn$World;") ∈ sa_Ts := tv_m2 183 rfl rfl
set_option maxRecDepth 20000 in
theorem tv_424 : (Jvm.Cond.fieldLink "OffThenOn" (25 : Nat) "OffThenOn" "kept" "[LOffThenOn$World;") ∈ sa_Ts := tv_m2 184 rfl rfl
set_option maxRecDepth 20000 in
theorem tv_425 : (Jvm.Cond.fieldLink "OffThenOn" (32 : Nat) "OffThenOn" "history" "LOffThenOn$History;") ∈ sa_Ts := tv_m2 185 rfl rfl
set_option maxRecDepth 20000 in
theorem tv_426 : (Jvm.Cond.fieldLink "OffThenOn" (39 : Nat) "OffThenOn" "scratch" "LOffThenOn$State;") ∈ sa_Ts := tv_m2 186 rfl rfl
set_option maxRecDepth 20000 in
theorem tv_427 : (Jvm.Cond.fieldLink "OffThenOn" (46 : Nat) "OffThenOn" "houseReader" "LOffThenOn$HouseReader;") ∈ sa_Ts := tv_m2 187 rfl rfl
set_option maxRecDepth 20000 in
theorem tv_428 : (Jvm.Cond.fieldLink "OffThenOn" (53 : Nat) "OffThenOn" "logReader" "LOffThenOn$LogReader;") ∈ sa_Ts := tv_m2 188 rfl rfl
set_option maxRecDepth 20000 in
theorem tv_429 : (Jvm.Cond.fieldLink "OffThenOn" (60 : Nat) "OffThenOn" "sentenceReader" "LOffThenOn$SentenceReader;") ∈ sa_Ts := tv_m2 189 rfl rfl
set_option maxRecDepth 20000 in
theorem tv_430 : (Jvm.Cond.fieldLink "OffThenOn" (67 : Nat) "OffThenOn" "planner" "LOffThenOn$Planner;") ∈ sa_Ts := tv_m2 190 rfl rfl
set_option maxRecDepth 20000 in
theorem tv_431 : (Jvm.Cond.fieldLink "OffThenOn" (71 : Nat) "OffThenOn" "told" "LOffThenOn$Bytes;") ∈ sa_Ts := tv_m2 191 rfl rfl
set_option maxRecDepth 20000 in
theorem tv_432 : (Jvm.Cond.fieldLink "OffThenOn" (74 : Nat) "OffThenOn" "likelyOdds" "[I") ∈ sa_Ts := tv_m2 192 rfl rfl
set_option maxRecDepth 20000 in
theorem tv_433 : (Jvm.Cond.fieldLink "OffThenOn" (78 : Nat) "OffThenOn" "judged" "[I") ∈ sa_Ts := tv_m2 193 rfl rfl
set_option maxRecDepth 20000 in
theorem tv_434 : (Jvm.Cond.fieldLink "OffThenOn" (272 : Nat) "OffThenOn" "likelyFaults" "I") ∈ sa_Ts := tv_m2 194 rfl rfl
set_option maxRecDepth 20000 in
theorem tv_435 : (Jvm.Cond.fieldLink "OffThenOn" (143 : Nat) "OffThenOn" "textFault" "I") ∈ sa_Ts := tv_m2 195 rfl rfl
set_option maxRecDepth 20000 in
theorem tv_436 : (Jvm.Cond.fieldLink "OffThenOn" (81 : Nat) "OffThenOn" "ways" "I") ∈ sa_Ts := tv_m2 196 rfl rfl
set_option maxRecDepth 20000 in
theorem tv_437 : (Jvm.Cond.fieldLink "OffThenOn" (85 : Nat) "OffThenOn" "leftByLook" "I") ∈ sa_Ts := tv_m2 197 rfl rfl
set_option maxRecDepth 20000 in
theorem tv_438 : (Jvm.Cond.fieldLink "OffThenOn" (378 : Nat) "OffThenOn" "hasJudged" "Z") ∈ sa_Ts := tv_m2 198 rfl rfl
set_option maxRecDepth 20000 in
theorem tv_478 : (Jvm.Cond.methodLink "OffThenOn" (91 : Nat) ({ cls := "OffThenOn$Bytes", name := "addInt", desc := "(I)V" } : Jvm.MethodName)) ∈ sa_Ts := tv_m2 238 rfl rfl
set_option maxRecDepth 20000 in
theorem tv_479 : (Jvm.Cond.instanceMethod ({ cls := "OffThenOn$Bytes", name := "addInt", desc := "(I)V" } : Jvm.MethodName)) ∈ sa_Ts := tv_m2 239 rfl rfl
set_option maxRecDepth 20000 in
theorem tv_480 : (Jvm.Cond.selects "OffThenOn$Bytes" ({ cls := "OffThenOn$Bytes", name := "addInt", desc := "(I)V" } : Jvm.MethodName) ({ cls := "OffThenOn$Bytes", name := "addInt", desc := "(I)V" } : Jvm.MethodName)) ∈ sa_Ts := tv_m3 0 rfl rfl
set_option maxRecDepth 20000 in
theorem tv_481 : (Jvm.Cond.code ({ cls := "OffThenOn$Bytes", name := "addInt", desc := "(I)V" } : Jvm.MethodName) prog_2_method_4_code (2 : Nat) (Option.none : Option Jvm.ClassFile.FieldType)) ∈ sa_Ts := tv_m3 1 rfl rfl
set_option maxRecDepth 20000 in
theorem tv_482 : (Jvm.Cond.methodLink "OffThenOn$Bytes" (19 : Nat) ({ cls := "OffThenOn$Bytes", name := "add", desc := "(I)V" } : Jvm.MethodName)) ∈ sa_Ts := tv_m3 2 rfl rfl
set_option maxRecDepth 20000 in
theorem tv_483 : (Jvm.Cond.instanceMethod ({ cls := "OffThenOn$Bytes", name := "add", desc := "(I)V" } : Jvm.MethodName)) ∈ sa_Ts := tv_m3 3 rfl rfl
set_option maxRecDepth 20000 in
theorem tv_484 : (Jvm.Cond.selects "OffThenOn$Bytes" ({ cls := "OffThenOn$Bytes", name := "add", desc := "(I)V" } : Jvm.MethodName) ({ cls := "OffThenOn$Bytes", name := "add", desc := "(I)V" } : Jvm.MethodName)) ∈ sa_Ts := tv_m3 4 rfl rfl
set_option maxRecDepth 20000 in
theorem tv_485 : (Jvm.Cond.code ({ cls := "OffThenOn$Bytes", name := "add", desc := "(I)V" } : Jvm.MethodName) prog_2_method_3_code (2 : Nat) (Option.none : Option Jvm.ClassFile.FieldType)) ∈ sa_Ts := tv_m3 5 rfl rfl
set_option maxRecDepth 20000 in
theorem tv_494 : (Jvm.Cond.methodLink "OffThenOn" (94 : Nat) ({ cls := "OffThenOn$HouseReader", name := "readHouse", desc := "(LOffThenOn$Bytes;)Z" } : Jvm.MethodName)) ∈ sa_Ts := tv_m3 14 rfl rfl
set_option maxRecDepth 20000 in
theorem tv_495 : (Jvm.Cond.instanceMethod ({ cls := "OffThenOn$HouseReader", name := "readHouse", desc := "(LOffThenOn$Bytes;)Z" } : Jvm.MethodName)) ∈ sa_Ts := tv_m3 15 rfl rfl
set_option maxRecDepth 20000 in
theorem tv_496 : (Jvm.Cond.selects "OffThenOn$HouseReader" ({ cls := "OffThenOn$HouseReader", name := "readHouse", desc := "(LOffThenOn$Bytes;)Z" } : Jvm.MethodName) ({ cls := "OffThenOn$HouseReader", name := "readHouse", desc := "(LOffThenOn$Bytes;)Z" } : Jvm.MethodName)) ∈ sa_Ts := tv_m3 16 rfl rfl
set_option maxRecDepth 20000 in
theorem tv_497 : (Jvm.Cond.code ({ cls := "OffThenOn$HouseReader", name := "readHouse", desc := "(LOffThenOn$Bytes;)Z" } : Jvm.MethodName) prog_5_method_2_code (3 : Nat) (Option.some Jvm.ClassFile.FieldType.boolean)) ∈ sa_Ts := tv_m3 17 rfl rfl
set_option maxRecDepth 20000 in
theorem tv_498 : (Jvm.Cond.methodLink "OffThenOn$HouseReader" (25 : Nat) ({ cls := "OffThenOn$House", name := "clear", desc := "()V" } : Jvm.MethodName)) ∈ sa_Ts := tv_m3 18 rfl rfl
set_option maxRecDepth 20000 in
theorem tv_499 : (Jvm.Cond.instanceMethod ({ cls := "OffThenOn$House", name := "clear", desc := "()V" } : Jvm.MethodName)) ∈ sa_Ts := tv_m3 19 rfl rfl
set_option maxRecDepth 20000 in
theorem tv_500 : (Jvm.Cond.selects "OffThenOn$House" ({ cls := "OffThenOn$House", name := "clear", desc := "()V" } : Jvm.MethodName) ({ cls := "OffThenOn$House", name := "clear", desc := "()V" } : Jvm.MethodName)) ∈ sa_Ts := tv_m3 20 rfl rfl
set_option maxRecDepth 20000 in
theorem tv_501 : (Jvm.Cond.code ({ cls := "OffThenOn$House", name := "clear", desc := "()V" } : Jvm.MethodName) prog_4_method_2_code (2 : Nat) (Option.none : Option Jvm.ClassFile.FieldType)) ∈ sa_Ts := tv_m3 21 rfl rfl
set_option maxRecDepth 20000 in
theorem tv_502 : (Jvm.Cond.methodLink "OffThenOn$HouseReader" (28 : Nat) ({ cls := "OffThenOn$Reader", name := "start", desc := "(LOffThenOn$Bytes;I)V" } : Jvm.MethodName)) ∈ sa_Ts := tv_m3 22 rfl rfl
set_option maxRecDepth 20000 in
theorem tv_503 : (Jvm.Cond.instanceMethod ({ cls := "OffThenOn$Reader", name := "start", desc := "(LOffThenOn$Bytes;I)V" } : Jvm.MethodName)) ∈ sa_Ts := tv_m3 23 rfl rfl
set_option maxRecDepth 20000 in
theorem tv_504 : (Jvm.Cond.selects "OffThenOn$Reader" ({ cls := "OffThenOn$Reader", name := "start", desc := "(LOffThenOn$Bytes;I)V" } : Jvm.MethodName) ({ cls := "OffThenOn$Reader", name := "start", desc := "(LOffThenOn$Bytes;I)V" } : Jvm.MethodName)) ∈ sa_Ts := tv_m3 24 rfl rfl
set_option maxRecDepth 20000 in
theorem tv_505 : (Jvm.Cond.code ({ cls := "OffThenOn$Reader", name := "start", desc := "(LOffThenOn$Bytes;I)V" } : Jvm.MethodName) prog_8_method_2_code (3 : Nat) (Option.none : Option Jvm.ClassFile.FieldType)) ∈ sa_Ts := tv_m3 25 rfl rfl
set_option maxRecDepth 20000 in
theorem tv_506 : (Jvm.Cond.methodLink "OffThenOn$Reader" (33 : Nat) ({ cls := "OffThenOn$Reader", name := "step", desc := "()V" } : Jvm.MethodName)) ∈ sa_Ts := tv_m3 26 rfl rfl
set_option maxRecDepth 20000 in
theorem tv_507 : (Jvm.Cond.instanceMethod ({ cls := "OffThenOn$Reader", name := "step", desc := "()V" } : Jvm.MethodName)) ∈ sa_Ts := tv_m3 27 rfl rfl
set_option maxRecDepth 20000 in
theorem tv_508 : (Jvm.Cond.selects "OffThenOn$Reader" ({ cls := "OffThenOn$Reader", name := "step", desc := "()V" } : Jvm.MethodName) ({ cls := "OffThenOn$Reader", name := "step", desc := "()V" } : Jvm.MethodName)) ∈ sa_Ts := tv_m3 28 rfl rfl
set_option maxRecDepth 20000 in
theorem tv_509 : (Jvm.Cond.code ({ cls := "OffThenOn$Reader", name := "step", desc := "()V" } : Jvm.MethodName) prog_8_method_3_code (2 : Nat) (Option.none : Option Jvm.ClassFile.FieldType)) ∈ sa_Ts := tv_m3 29 rfl rfl
set_option maxRecDepth 20000 in
theorem tv_510 : (Jvm.Cond.methodLink "OffThenOn$Reader" (39 : Nat) ({ cls := "OffThenOn$Bytes", name := "at", desc := "(I)I" } : Jvm.MethodName)) ∈ sa_Ts := tv_m3 30 rfl rfl
set_option maxRecDepth 20000 in
theorem tv_511 : (Jvm.Cond.instanceMethod ({ cls := "OffThenOn$Bytes", name := "at", desc := "(I)I" } : Jvm.MethodName)) ∈ sa_Ts := tv_m3 31 rfl rfl
set_option maxRecDepth 20000 in
theorem tv_512 : (Jvm.Cond.selects "OffThenOn$Bytes" ({ cls := "OffThenOn$Bytes", name := "at", desc := "(I)I" } : Jvm.MethodName) ({ cls := "OffThenOn$Bytes", name := "at", desc := "(I)I" } : Jvm.MethodName)) ∈ sa_Ts := tv_m3 32 rfl rfl
set_option maxRecDepth 20000 in
theorem tv_513 : (Jvm.Cond.code ({ cls := "OffThenOn$Bytes", name := "at", desc := "(I)I" } : Jvm.MethodName) prog_2_method_2_code (2 : Nat) (Option.some Jvm.ClassFile.FieldType.int)) ∈ sa_Ts := tv_m3 33 rfl rfl
set_option maxRecDepth 20000 in
theorem tv_514 : (Jvm.Cond.methodLink "OffThenOn$Reader" (43 : Nat) ({ cls := "OffThenOn$Reader", name := "isBlank", desc := "(I)Z" } : Jvm.MethodName)) ∈ sa_Ts := tv_m3 34 rfl rfl
set_option maxRecDepth 20000 in
theorem tv_515 : (Jvm.Cond.static ({ cls := "OffThenOn$Reader", name := "isBlank", desc := "(I)Z" } : Jvm.MethodName)) ∈ sa_Ts := tv_m3 35 rfl rfl
set_option maxRecDepth 20000 in
theorem tv_516 : (Jvm.Cond.code ({ cls := "OffThenOn$Reader", name := "isBlank", desc := "(I)Z" } : Jvm.MethodName) prog_8_method_6_code (1 : Nat) (Option.some Jvm.ClassFile.FieldType.boolean)) ∈ sa_Ts := tv_m3 36 rfl rfl
set_option maxRecDepth 20000 in
theorem tv_517 : (Jvm.Cond.methodLink "OffThenOn$Reader" (59 : Nat) ({ cls := "OffThenOn$Reader", name := "isLetter", desc := "(I)Z" } : Jvm.MethodName)) ∈ sa_Ts := tv_m3 37 rfl rfl
set_option maxRecDepth 20000 in
theorem tv_518 : (Jvm.Cond.static ({ cls := "OffThenOn$Reader", name := "isLetter", desc := "(I)Z" } : Jvm.MethodName)) ∈ sa_Ts := tv_m3 38 rfl rfl
set_option maxRecDepth 20000 in
theorem tv_519 : (Jvm.Cond.code ({ cls := "OffThenOn$Reader", name := "isLetter", desc := "(I)Z" } : Jvm.MethodName) prog_8_method_7_code (1 : Nat) (Option.some Jvm.ClassFile.FieldType.boolean)) ∈ sa_Ts := tv_m3 39 rfl rfl
set_option maxRecDepth 20000 in
theorem tv_520 : (Jvm.Cond.methodLink "OffThenOn$Reader" (62 : Nat) ({ cls := "OffThenOn$Reader", name := "isDigit", desc := "(I)Z" } : Jvm.MethodName)) ∈ sa_Ts := tv_m3 40 rfl rfl
set_option maxRecDepth 20000 in
theorem tv_521 : (Jvm.Cond.static ({ cls := "OffThenOn$Reader", name := "isDigit", desc := "(I)Z" } : Jvm.MethodName)) ∈ sa_Ts := tv_m3 41 rfl rfl
set_option maxRecDepth 20000 in
theorem tv_522 : (Jvm.Cond.code ({ cls := "OffThenOn$Reader", name := "isDigit", desc := "(I)Z" } : Jvm.MethodName) prog_8_method_8_code (1 : Nat) (Option.some Jvm.ClassFile.FieldType.boolean)) ∈ sa_Ts := tv_m3 42 rfl rfl
set_option maxRecDepth 20000 in
theorem tv_523 : (Jvm.Cond.methodLink "OffThenOn$Reader" (65 : Nat) ({ cls := "OffThenOn$Reader", name := "readRun", desc := "(I)V" } : Jvm.MethodName)) ∈ sa_Ts := tv_m3 43 rfl rfl
set_option maxRecDepth 20000 in
theorem tv_525 : (Jvm.Cond.instanceMethod ({ cls := "OffThenOn$Reader", name := "readRun", desc := "(I)V" } : Jvm.MethodName)) ∈ sa_Ts := tv_m3 45 rfl rfl
set_option maxRecDepth 20000 in
theorem tv_526 : (Jvm.Cond.code ({ cls := "OffThenOn$Reader", name := "readRun", desc := "(I)V" } : Jvm.MethodName) prog_8_method_4_code (5 : Nat) (Option.none : Option Jvm.ClassFile.FieldType)) ∈ sa_Ts := tv_m3 46 rfl rfl
set_option maxRecDepth 20000 in
theorem tv_527 : (Jvm.Cond.methodLink "OffThenOn$Reader" (75 : Nat) ({ cls := "OffThenOn$Reader", name := "keywordOf", desc := "(J)I" } : Jvm.MethodName)) ∈ sa_Ts := tv_m3 47 rfl rfl
set_option maxRecDepth 20000 in
theorem tv_528 : (Jvm.Cond.static ({ cls := "OffThenOn$Reader", name := "keywordOf", desc := "(J)I" } : Jvm.MethodName)) ∈ sa_Ts := tv_m3 48 rfl rfl
set_option maxRecDepth 20000 in
theorem tv_529 : (Jvm.Cond.code ({ cls := "OffThenOn$Reader", name := "keywordOf", desc := "(J)I" } : Jvm.MethodName) prog_8_method_5_code (3 : Nat) (Option.some Jvm.ClassFile.FieldType.int)) ∈ sa_Ts := tv_m3 49 rfl rfl
set_option maxRecDepth 20000 in
theorem tv_532 : (Jvm.Cond.methodLink "OffThenOn$Reader" (68 : Nat) ({ cls := "OffThenOn$Reader", name := "isSign", desc := "(I)Z" } : Jvm.MethodName)) ∈ sa_Ts := tv_m3 52 rfl rfl
set_option maxRecDepth 20000 in
theorem tv_533 : (Jvm.Cond.static ({ cls := "OffThenOn$Reader", name := "isSign", desc := "(I)Z" } : Jvm.MethodName)) ∈ sa_Ts := tv_m3 53 rfl rfl
set_option maxRecDepth 20000 in
theorem tv_534 : (Jvm.Cond.code ({ cls := "OffThenOn$Reader", name := "isSign", desc := "(I)Z" } : Jvm.MethodName) prog_8_method_9_code (1 : Nat) (Option.some Jvm.ClassFile.FieldType.boolean)) ∈ sa_Ts := tv_m3 54 rfl rfl
set_option maxRecDepth 20000 in
theorem tv_535 : (Jvm.Cond.methodLink "OffThenOn$HouseReader" (39 : Nat) ({ cls := "OffThenOn$HouseReader", name := "readLine", desc := "()Z" } : Jvm.MethodName)) ∈ sa_Ts := tv_m3 55 rfl rfl
set_option maxRecDepth 20000 in
theorem tv_537 : (Jvm.Cond.instanceMethod ({ cls := "OffThenOn$HouseReader", name := "readLine", desc := "()Z" } : Jvm.MethodName)) ∈ sa_Ts := tv_m3 57 rfl rfl
set_option maxRecDepth 20000 in
theorem tv_538 : (Jvm.Cond.code ({ cls := "OffThenOn$HouseReader", name := "readLine", desc := "()Z" } : Jvm.MethodName) prog_5_method_3_code (1 : Nat) (Option.some Jvm.ClassFile.FieldType.boolean)) ∈ sa_Ts := tv_m3 58 rfl rfl
set_option maxRecDepth 20000 in
theorem tv_539 : (Jvm.Cond.methodLink "OffThenOn$HouseReader" (46 : Nat) ({ cls := "OffThenOn$HouseReader", name := "readThing", desc := "()Z" } : Jvm.MethodName)) ∈ sa_Ts := tv_m3 59 rfl rfl
set_option maxRecDepth 20000 in
theorem tv_541 : (Jvm.Cond.instanceMethod ({ cls := "OffThenOn$HouseReader", name := "readThing", desc := "()Z" } : Jvm.MethodName)) ∈ sa_Ts := tv_m3 61 rfl rfl
set_option maxRecDepth 20000 in
theorem tv_542 : (Jvm.Cond.code ({ cls := "OffThenOn$HouseReader", name := "readThing", desc := "()Z" } : Jvm.MethodName) prog_5_method_4_code (6 : Nat) (Option.some Jvm.ClassFile.FieldType.boolean)) ∈ sa_Ts := tv_m3 62 rfl rfl
set_option maxRecDepth 20000 in
theorem tv_543 : (Jvm.Cond.methodLink "OffThenOn$HouseReader" (55 : Nat) ({ cls := "OffThenOn$Reader", name := "refuse", desc := "(I)Z" } : Jvm.MethodName)) ∈ sa_Ts := tv_m3 63 rfl rfl
set_option maxRecDepth 20000 in
theorem tv_544 : (Jvm.Cond.instanceMethod ({ cls := "OffThenOn$Reader", name := "refuse", desc := "(I)Z" } : Jvm.MethodName)) ∈ sa_Ts := tv_m3 64 rfl rfl
set_option maxRecDepth 20000 in
theorem tv_545 : (Jvm.Cond.selects "OffThenOn$Reader" ({ cls := "OffThenOn$Reader", name := "refuse", desc := "(I)Z" } : Jvm.MethodName) ({ cls := "OffThenOn$Reader", name := "refuse", desc := "(I)Z" } : Jvm.MethodName)) ∈ sa_Ts := tv_m3 65 rfl rfl
set_option maxRecDepth 20000 in
theorem tv_546 : (Jvm.Cond.code ({ cls := "OffThenOn$Reader", name := "refuse", desc := "(I)Z" } : Jvm.MethodName) prog_8_method_11_code (2 : Nat) (Option.some Jvm.ClassFile.FieldType.boolean)) ∈ sa_Ts := tv_m3 66 rfl rfl
set_option maxRecDepth 20000 in
theorem tv_547 : (Jvm.Cond.methodLink "OffThenOn$HouseReader" (62 : Nat) ({ cls := "OffThenOn$Reader", name := "step", desc := "()V" } : Jvm.MethodName)) ∈ sa_Ts := tv_m3 67 rfl rfl
set_option maxRecDepth 20000 in
theorem tv_548 : (Jvm.Cond.methodLink "OffThenOn$HouseReader" (65 : Nat) ({ cls := "OffThenOn$HouseReader", name := "isNewName", desc := "()Z" } : Jvm.MethodName)) ∈ sa_Ts := tv_m3 68 rfl rfl
set_option maxRecDepth 20000 in
theorem tv_550 : (Jvm.Cond.instanceMethod ({ cls := "OffThenOn$HouseReader", name := "isNewName", desc := "()Z" } : Jvm.MethodName)) ∈ sa_Ts := tv_m3 70 rfl rfl
set_option maxRecDepth 20000 in
theorem tv_551 : (Jvm.Cond.code ({ cls := "OffThenOn$HouseReader", name := "isNewName", desc := "()Z" } : Jvm.MethodName) prog_5_method_8_code (1 : Nat) (Option.some Jvm.ClassFile.FieldType.boolean)) ∈ sa_Ts := tv_m3 71 rfl rfl
set_option maxRecDepth 20000 in
theorem tv_552 : (Jvm.Cond.methodLink "OffThenOn$HouseReader" (111 : Nat) ({ cls := "OffThenOn$Reader", name := "isName", desc := "()Z" } : Jvm.MethodName)) ∈ sa_Ts := tv_m3 72 rfl rfl
set_option maxRecDepth 20000 in
theorem tv_553 : (Jvm.Cond.instanceMethod ({ cls := "OffThenOn$Reader", name := "isName", desc := "()Z" } : Jvm.MethodName)) ∈ sa_Ts := tv_m3 73 rfl rfl
set_option maxRecDepth 20000 in
theorem tv_554 : (Jvm.Cond.selects "OffThenOn$Reader" ({ cls := "OffThenOn$Reader", name := "isName", desc := "()Z" } : Jvm.MethodName) ({ cls := "OffThenOn$Reader", name := "isName", desc := "()Z" } : Jvm.MethodName)) ∈ sa_Ts := tv_m3 74 rfl rfl
set_option maxRecDepth 20000 in
theorem tv_555 : (Jvm.Cond.code ({ cls := "OffThenOn$Reader", name := "isName", desc := "()Z" } : Jvm.MethodName) prog_8_method_14_code (1 : Nat) (Option.some Jvm.ClassFile.FieldType.boolean)) ∈ sa_Ts := tv_m3 75 rfl rfl
set_option maxRecDepth 20000 in
theorem tv_556 : (Jvm.Cond.methodLink "OffThenOn$Reader" (86 : Nat) ({ cls := "OffThenOn$Reader", name := "refuse", desc := "(I)Z" } : Jvm.MethodName)) ∈ sa_Ts := tv_m3 76 rfl rfl
set_option maxRecDepth 20000 in
theorem tv_557 : (Jvm.Cond.methodLink "OffThenOn$HouseReader" (114 : Nat) ({ cls := "OffThenOn$House", name := "findThing", desc := "(J)I" } : Jvm.MethodName)) ∈ sa_Ts := tv_m3 77 rfl rfl
set_option maxRecDepth 20000 in
theorem tv_558 : (Jvm.Cond.instanceMethod ({ cls := "OffThenOn$House", name := "findThing", desc := "(J)I" } : Jvm.MethodName)) ∈ sa_Ts := tv_m3 78 rfl rfl
set_option maxRecDepth 20000 in
theorem tv_559 : (Jvm.Cond.selects "OffThenOn$House" ({ cls := "OffThenOn$House", name := "findThing", desc := "(J)I" } : Jvm.MethodName) ({ cls := "OffThenOn$House", name := "findThing", desc := "(J)I" } : Jvm.MethodName)) ∈ sa_Ts := tv_m3 79 rfl rfl
set_option maxRecDepth 20000 in
theorem tv_560 : (Jvm.Cond.code ({ cls := "OffThenOn$House", name := "findThing", desc := "(J)I" } : Jvm.MethodName) prog_4_method_8_code (4 : Nat) (Option.some Jvm.ClassFile.FieldType.int)) ∈ sa_Ts := tv_m3 80 rfl rfl
set_option maxRecDepth 20000 in
theorem tv_561 : (Jvm.Cond.methodLink "OffThenOn$HouseReader" (118 : Nat) ({ cls := "OffThenOn$House", name := "findFault", desc := "(J)I" } : Jvm.MethodName)) ∈ sa_Ts := tv_m3 81 rfl rfl
set_option maxRecDepth 20000 in
theorem tv_562 : (Jvm.Cond.instanceMethod ({ cls := "OffThenOn$House", name := "findFault", desc := "(J)I" } : Jvm.MethodName)) ∈ sa_Ts := tv_m3 82 rfl rfl
set_option maxRecDepth 20000 in
theorem tv_563 : (Jvm.Cond.selects "OffThenOn$House" ({ cls := "OffThenOn$House", name := "findFault", desc := "(J)I" } : Jvm.MethodName) ({ cls := "OffThenOn$House", name := "findFault", desc := "(J)I" } : Jvm.MethodName)) ∈ sa_Ts := tv_m3 83 rfl rfl
set_option maxRecDepth 20000 in
theorem tv_564 : (Jvm.Cond.code ({ cls := "OffThenOn$House", name := "findFault", desc := "(J)I" } : Jvm.MethodName) prog_4_method_9_code (4 : Nat) (Option.some Jvm.ClassFile.FieldType.int)) ∈ sa_Ts := tv_m3 84 rfl rfl
set_option maxRecDepth 20000 in
theorem tv_565 : (Jvm.Cond.methodLink "OffThenOn$HouseReader" (72 : Nat) ({ cls := "OffThenOn$Reader", name := "takeNumber", desc := "(II)I" } : Jvm.MethodName)) ∈ sa_Ts := tv_m3 85 rfl rfl
set_option maxRecDepth 20000 in
theorem tv_566 : (Jvm.Cond.instanceMethod ({ cls := "OffThenOn$Reader", name := "takeNumber", desc := "(II)I" } : Jvm.MethodName)) ∈ sa_Ts := tv_m3 86 rfl rfl
set_option maxRecDepth 20000 in
theorem tv_567 : (Jvm.Cond.selects "OffThenOn$Reader" ({ cls := "OffThenOn$Reader", name := "takeNumber", desc := "(II)I" } : Jvm.MethodName) ({ cls := "OffThenOn$Reader", name := "takeNumber", desc := "(II)I" } : Jvm.MethodName)) ∈ sa_Ts := tv_m3 87 rfl rfl
set_option maxRecDepth 20000 in
theorem tv_568 : (Jvm.Cond.code ({ cls := "OffThenOn$Reader", name := "takeNumber", desc := "(II)I" } : Jvm.MethodName) prog_8_method_13_code (4 : Nat) (Option.some Jvm.ClassFile.FieldType.int)) ∈ sa_Ts := tv_m3 88 rfl rfl
set_option maxRecDepth 20000 in
theorem tv_569 : (Jvm.Cond.methodLink "OffThenOn$HouseReader" (76 : Nat) ({ cls := "OffThenOn$Reader", name := "takeThing", desc := "(LOffThenOn$House;)I" } : Jvm.MethodName)) ∈ sa_Ts := tv_m3 89 rfl rfl
set_option maxRecDepth 20000 in
theorem tv_570 : (Jvm.Cond.instanceMethod ({ cls := "OffThenOn$Reader", name := "takeThing", desc := "(LOffThenOn$House;)I" } : Jvm.MethodName)) ∈ sa_Ts := tv_m3 90 rfl rfl
set_option maxRecDepth 20000 in
theorem tv_571 : (Jvm.Cond.selects "OffThenOn$Reader" ({ cls := "OffThenOn$Reader", name := "takeThing", desc := "(LOffThenOn$House;)I" } : Jvm.MethodName) ({ cls := "OffThenOn$Reader", name := "takeThing", desc := "(LOffThenOn$House;)I" } : Jvm.MethodName)) ∈ sa_Ts := tv_m3 91 rfl rfl
set_option maxRecDepth 20000 in
theorem tv_572 : (Jvm.Cond.code ({ cls := "OffThenOn$Reader", name := "takeThing", desc := "(LOffThenOn$House;)I" } : Jvm.MethodName) prog_8_method_15_code (3 : Nat) (Option.some Jvm.ClassFile.FieldType.int)) ∈ sa_Ts := tv_m3 92 rfl rfl
set_option maxRecDepth 20000 in
theorem tv_573 : (Jvm.Cond.methodLink "OffThenOn$Reader" (89 : Nat) ({ cls := "OffThenOn$Reader", name := "isName", desc := "()Z" } : Jvm.MethodName)) ∈ sa_Ts := tv_m3 93 rfl rfl
set_option maxRecDepth 20000 in
theorem tv_574 : (Jvm.Cond.methodLink "OffThenOn$Reader" (93 : Nat) ({ cls := "OffThenOn$House", name := "findThing", desc := "(J)I" } : Jvm.MethodName)) ∈ sa_Ts := tv_m3 94 rfl rfl
set_option maxRecDepth 20000 in
theorem tv_575 : (Jvm.Cond.methodLink "OffThenOn$HouseReader" (80 : Nat) ({ cls := "OffThenOn$Reader", name := "takeSign", desc := "(I)Z" } : Jvm.MethodName)) ∈ sa_Ts := tv_m3 95 rfl rfl
set_option maxRecDepth 20000 in
theorem tv_576 : (Jvm.Cond.instanceMethod ({ cls := "OffThenOn$Reader", name := "takeSign", desc := "(I)Z" } : Jvm.MethodName)) ∈ sa_Ts := tv_m3 96 rfl rfl
set_option maxRecDepth 20000 in
theorem tv_577 : (Jvm.Cond.selects "OffThenOn$Reader" ({ cls := "OffThenOn$Reader", name := "takeSign", desc := "(I)Z" } : Jvm.MethodName) ({ cls := "OffThenOn$Reader", name := "takeSign", desc := "(I)Z" } : Jvm.MethodName)) ∈ sa_Ts := tv_m3 97 rfl rfl
set_option maxRecDepth 20000 in
theorem tv_578 : (Jvm.Cond.code ({ cls := "OffThenOn$Reader", name := "takeSign", desc := "(I)Z" } : Jvm.MethodName) prog_8_method_12_code (2 : Nat) (Option.some Jvm.ClassFile.FieldType.boolean)) ∈ sa_Ts := tv_m3 98 rfl rfl
set_option maxRecDepth 20000 in
theorem tv_579 : (Jvm.Cond.methodLink "OffThenOn$Reader" (83 : Nat) ({ cls := "OffThenOn$Reader", name := "isSignNow", desc := "(I)Z" } : Jvm.MethodName)) ∈ sa_Ts := tv_m3 99 rfl rfl
set_option maxRecDepth 20000 in
theorem tv_580 : (Jvm.Cond.instanceMethod ({ cls := "OffThenOn$Reader", name := "isSignNow", desc := "(I)Z" } : Jvm.MethodName)) ∈ sa_Ts := tv_m3 100 rfl rfl
set_option maxRecDepth 20000 in
theorem tv_581 : (Jvm.Cond.selects "OffThenOn$Reader" ({ cls := "OffThenOn$Reader", name := "isSignNow", desc := "(I)Z" } : Jvm.MethodName) ({ cls := "OffThenOn$Reader", name := "isSignNow", desc := "(I)Z" } : Jvm.MethodName)) ∈ sa_Ts := tv_m3 101 rfl rfl
set_option maxRecDepth 20000 in
theorem tv_582 : (Jvm.Cond.code ({ cls := "OffThenOn$Reader", name := "isSignNow", desc := "(I)Z" } : Jvm.MethodName) prog_8_method_10_code (2 : Nat) (Option.some Jvm.ClassFile.FieldType.boolean)) ∈ sa_Ts := tv_m3 102 rfl rfl
set_option maxRecDepth 20000 in
theorem tv_583 : (Jvm.Cond.methodLink "OffThenOn$HouseReader" (83 : Nat) ({ cls := "OffThenOn$House", name := "addThing", desc := "(JIII)V" } : Jvm.MethodName)) ∈ sa_Ts := tv_m3 103 rfl rfl
set_option maxRecDepth 20000 in
theorem tv_584 : (Jvm.Cond.instanceMethod ({ cls := "OffThenOn$House", name := "addThing", desc := "(JIII)V" } : Jvm.MethodName)) ∈ sa_Ts := tv_m3 104 rfl rfl
set_option maxRecDepth 20000 in
theorem tv_585 : (Jvm.Cond.selects "OffThenOn$House" ({ cls := "OffThenOn$House", name := "addThing", desc := "(JIII)V" } : Jvm.MethodName) ({ cls := "OffThenOn$House", name := "addThing", desc := "(JIII)V" } : Jvm.MethodName)) ∈ sa_Ts := tv_m3 105 rfl rfl
set_option maxRecDepth 20000 in
theorem tv_586 : (Jvm.Cond.code ({ cls := "OffThenOn$House", name := "addThing", desc := "(JIII)V" } : Jvm.MethodName) prog_4_method_4_code (8 : Nat) (Option.none : Option Jvm.ClassFile.FieldType)) ∈ sa_Ts := tv_m3 106 rfl rfl
set_option maxRecDepth 20000 in
theorem tv_588 : (Jvm.Cond.static ({ cls := "OffThenOn", name := "bit", desc := "(II)I" } : Jvm.MethodName)) ∈ sa_Ts := tv_m3 108 rfl rfl
set_option maxRecDepth 20000 in
theorem tv_589 : (Jvm.Cond.code ({ cls := "OffThenOn", name := "bit", desc := "(II)I" } : Jvm.MethodName) prog_1_method_53_code (2 : Nat) (Option.some Jvm.ClassFile.FieldType.int)) ∈ sa_Ts := tv_m3 109 rfl rfl
set_option maxRecDepth 20000 in
theorem tv_590 : (Jvm.Cond.methodLink "OffThenOn$HouseReader" (49 : Nat) ({ cls := "OffThenOn$HouseReader", name := "readFault", desc := "()Z" } : Jvm.MethodName)) ∈ sa_Ts := tv_m3 110 rfl rfl
set_option maxRecDepth 20000 in
theorem tv_592 : (Jvm.Cond.instanceMethod ({ cls := "OffThenOn$HouseReader", name := "readFault", desc := "()Z" } : Jvm.MethodName)) ∈ sa_Ts := tv_m3 112 rfl rfl
set_option maxRecDepth 20000 in
theorem tv_593 : (Jvm.Cond.code ({ cls := "OffThenOn$HouseReader", name := "readFault", desc := "()Z" } : Jvm.MethodName) prog_5_method_5_code (7 : Nat) (Option.some Jvm.ClassFile.FieldType.boolean)) ∈ sa_Ts := tv_m3 113 rfl rfl
set_option maxRecDepth 20000 in
theorem tv_594 : (Jvm.Cond.methodLink "OffThenOn$HouseReader" (90 : Nat) ({ cls := "OffThenOn$House", name := "addFault", desc := "(JIIII)V" } : Jvm.MethodName)) ∈ sa_Ts := tv_m3 114 rfl rfl
set_option maxRecDepth 20000 in
theorem tv_595 : (Jvm.Cond.instanceMethod ({ cls := "OffThenOn$House", name := "addFault", desc := "(JIIII)V" } : Jvm.MethodName)) ∈ sa_Ts := tv_m3 115 rfl rfl
set_option maxRecDepth 20000 in
theorem tv_596 : (Jvm.Cond.selects "OffThenOn$House" ({ cls := "OffThenOn$House", name := "addFault", desc := "(JIIII)V" } : Jvm.MethodName) ({ cls := "OffThenOn$House", name := "addFault", desc := "(JIIII)V" } : Jvm.MethodName)) ∈ sa_Ts := tv_m3 116 rfl rfl
set_option maxRecDepth 20000 in
theorem tv_597 : (Jvm.Cond.code ({ cls := "OffThenOn$House", name := "addFault", desc := "(JIIII)V" } : Jvm.MethodName) prog_4_method_5_code (8 : Nat) (Option.none : Option Jvm.ClassFile.FieldType)) ∈ sa_Ts := tv_m3 117 rfl rfl
set_option maxRecDepth 20000 in
theorem tv_598 : (Jvm.Cond.methodLink "OffThenOn$HouseReader" (52 : Nat) ({ cls := "OffThenOn$HouseReader", name := "readCure", desc := "()Z" } : Jvm.MethodName)) ∈ sa_Ts := tv_m3 118 rfl rfl
set_option maxRecDepth 20000 in
theorem tv_600 : (Jvm.Cond.instanceMethod ({ cls := "OffThenOn$HouseReader", name := "readCure", desc := "()Z" } : Jvm.MethodName)) ∈ sa_Ts := tv_m3 120 rfl rfl
set_option maxRecDepth 20000 in
theorem tv_601 : (Jvm.Cond.code ({ cls := "OffThenOn$HouseReader", name := "readCure", desc := "()Z" } : Jvm.MethodName) prog_5_method_6_code (4 : Nat) (Option.some Jvm.ClassFile.FieldType.boolean)) ∈ sa_Ts := tv_m3 121 rfl rfl
set_option maxRecDepth 20000 in
theorem tv_602 : (Jvm.Cond.methodLink "OffThenOn$HouseReader" (97 : Nat) ({ cls := "OffThenOn$Reader", name := "takeFault", desc := "(LOffThenOn$House;)I" } : Jvm.MethodName)) ∈ sa_Ts := tv_m3 122 rfl rfl
set_option maxRecDepth 20000 in
theorem tv_603 : (Jvm.Cond.instanceMethod ({ cls := "OffThenOn$Reader", name := "takeFault", desc := "(LOffThenOn$House;)I" } : Jvm.MethodName)) ∈ sa_Ts := tv_m3 123 rfl rfl
set_option maxRecDepth 20000 in
theorem tv_604 : (Jvm.Cond.selects "OffThenOn$Reader" ({ cls := "OffThenOn$Reader", name := "takeFault", desc := "(LOffThenOn$House;)I" } : Jvm.MethodName) ({ cls := "OffThenOn$Reader", name := "takeFault", desc := "(LOffThenOn$House;)I" } : Jvm.MethodName)) ∈ sa_Ts := tv_m3 124 rfl rfl
set_option maxRecDepth 20000 in
theorem tv_605 : (Jvm.Cond.code ({ cls := "OffThenOn$Reader", name := "takeFault", desc := "(LOffThenOn$House;)I" } : Jvm.MethodName) prog_8_method_16_code (3 : Nat) (Option.some Jvm.ClassFile.FieldType.int)) ∈ sa_Ts := tv_m3 125 rfl rfl
set_option maxRecDepth 20000 in
theorem tv_606 : (Jvm.Cond.methodLink "OffThenOn$Reader" (98 : Nat) ({ cls := "OffThenOn$House", name := "findFault", desc := "(J)I" } : Jvm.MethodName)) ∈ sa_Ts := tv_m3 126 rfl rfl
set_option maxRecDepth 20000 in
theorem tv_607 : (Jvm.Cond.methodLink "OffThenOn$HouseReader" (100 : Nat) ({ cls := "OffThenOn$HouseReader", name := "deedHere", desc := "()I" } : Jvm.MethodName)) ∈ sa_Ts := tv_m3 127 rfl rfl
set_option maxRecDepth 20000 in
theorem tv_609 : (Jvm.Cond.instanceMethod ({ cls := "OffThenOn$HouseReader", name := "deedHere", desc := "()I" } : Jvm.MethodName)) ∈ sa_Ts := tv_m3 129 rfl rfl
set_option maxRecDepth 20000 in
theorem tv_610 : (Jvm.Cond.code ({ cls := "OffThenOn$HouseReader", name := "deedHere", desc := "()I" } : Jvm.MethodName) prog_5_method_7_code (1 : Nat) (Option.some Jvm.ClassFile.FieldType.int)) ∈ sa_Ts := tv_m3 130 rfl rfl
set_option maxRecDepth 20000 in
theorem tv_611 : (Jvm.Cond.methodLink "OffThenOn$HouseReader" (104 : Nat) ({ cls := "OffThenOn$House", name := "cureOf", desc := "(II)I" } : Jvm.MethodName)) ∈ sa_Ts := tv_m3 131 rfl rfl
set_option maxRecDepth 20000 in
theorem tv_612 : (Jvm.Cond.instanceMethod ({ cls := "OffThenOn$House", name := "cureOf", desc := "(II)I" } : Jvm.MethodName)) ∈ sa_Ts := tv_m3 132 rfl rfl
set_option maxRecDepth 20000 in
theorem tv_613 : (Jvm.Cond.selects "OffThenOn$House" ({ cls := "OffThenOn$House", name := "cureOf", desc := "(II)I" } : Jvm.MethodName) ({ cls := "OffThenOn$House", name := "cureOf", desc := "(II)I" } : Jvm.MethodName)) ∈ sa_Ts := tv_m3 133 rfl rfl
set_option maxRecDepth 20000 in
theorem tv_614 : (Jvm.Cond.code ({ cls := "OffThenOn$House", name := "cureOf", desc := "(II)I" } : Jvm.MethodName) prog_4_method_7_code (3 : Nat) (Option.some Jvm.ClassFile.FieldType.int)) ∈ sa_Ts := tv_m3 134 rfl rfl
set_option maxRecDepth 20000 in
theorem tv_615 : (Jvm.Cond.methodLink "OffThenOn$HouseReader" (107 : Nat) ({ cls := "OffThenOn$House", name := "addCure", desc := "(III)V" } : Jvm.MethodName)) ∈ sa_Ts := tv_m3 135 rfl rfl
set_option maxRecDepth 20000 in
theorem tv_616 : (Jvm.Cond.instanceMethod ({ cls := "OffThenOn$House", name := "addCure", desc := "(III)V" } : Jvm.MethodName)) ∈ sa_Ts := tv_m3 136 rfl rfl
set_option maxRecDepth 20000 in
theorem tv_617 : (Jvm.Cond.selects "OffThenOn$House" ({ cls := "OffThenOn$House", name := "addCure", desc := "(III)V" } : Jvm.MethodName) ({ cls := "OffThenOn$House", name := "addCure", desc := "(III)V" } : Jvm.MethodName)) ∈ sa_Ts := tv_m3 137 rfl rfl
set_option maxRecDepth 20000 in
theorem tv_618 : (Jvm.Cond.code ({ cls := "OffThenOn$House", name := "addCure", desc := "(III)V" } : Jvm.MethodName) prog_4_method_6_code (4 : Nat) (Option.none : Option Jvm.ClassFile.FieldType)) ∈ sa_Ts := tv_m3 138 rfl rfl
set_option maxRecDepth 20000 in
theorem tv_619 : (Jvm.Cond.methodLink "OffThenOn" (102 : Nat) ({ cls := "OffThenOn", name := "takeText", desc := "(LOffThenOn$Reader;)V" } : Jvm.MethodName)) ∈ sa_Ts := tv_m3 139 rfl rfl
set_option maxRecDepth 20000 in
theorem tv_621 : (Jvm.Cond.instanceMethod ({ cls := "OffThenOn", name := "takeText", desc := "(LOffThenOn$Reader;)V" } : Jvm.MethodName)) ∈ sa_Ts := tv_m3 141 rfl rfl
set_option maxRecDepth 20000 in
theorem tv_622 : (Jvm.Cond.code ({ cls := "OffThenOn", name := "takeText", desc := "(LOffThenOn$Reader;)V" } : Jvm.MethodName) prog_1_method_45_code (2 : Nat) (Option.none : Option Jvm.ClassFile.FieldType)) ∈ sa_Ts := tv_m3 142 rfl rfl
set_option maxRecDepth 20000 in
theorem tv_623 : (Jvm.Cond.methodLink "OffThenOn" (118 : Nat) ({ cls := "OffThenOn$House", name := "copyFrom", desc := "(LOffThenOn$House;)V" } : Jvm.MethodName)) ∈ sa_Ts := tv_m3 143 rfl rfl
set_option maxRecDepth 20000 in
theorem tv_624 : (Jvm.Cond.instanceMethod ({ cls := "OffThenOn$House", name := "copyFrom", desc := "(LOffThenOn$House;)V" } : Jvm.MethodName)) ∈ sa_Ts := tv_m3 144 rfl rfl
set_option maxRecDepth 20000 in
theorem tv_625 : (Jvm.Cond.selects "OffThenOn$House" ({ cls := "OffThenOn$House", name := "copyFrom", desc := "(LOffThenOn$House;)V" } : Jvm.MethodName) ({ cls := "OffThenOn$House", name := "copyFrom", desc := "(LOffThenOn$House;)V" } : Jvm.MethodName)) ∈ sa_Ts := tv_m3 145 rfl rfl
set_option maxRecDepth 20000 in
theorem tv_626 : (Jvm.Cond.code ({ cls := "OffThenOn$House", name := "copyFrom", desc := "(LOffThenOn$House;)V" } : Jvm.MethodName) prog_4_method_3_code (2 : Nat) (Option.none : Option Jvm.ClassFile.FieldType)) ∈ sa_Ts := tv_m3 146 rfl rfl
set_option maxRecDepth 20000 in
theorem tv_627 : (Jvm.Cond.methodLink "OffThenOn$House" (62 : Nat) ({ cls := "java/lang/System", name := "arraycopy", desc := "(Ljava/lang/Object;ILjava/lang/Object;II)V" } : Jvm.MethodName)) ∈ sa_Ts := tv_m3 147 rfl rfl
set_option maxRecDepth 20000 in
theorem tv_628 : (Jvm.Cond.static ({ cls := "java/lang/System", name := "arraycopy", desc := "(Ljava/lang/Object;ILjava/lang/Object;II)V" } : Jvm.MethodName)) ∈ sa_Ts := tv_m3 148 rfl rfl
set_option maxRecDepth 20000 in
theorem tv_629 : (Jvm.Cond.native ({ cls := "java/lang/System", name := "arraycopy", desc := "(Ljava/lang/Object;ILjava/lang/Object;II)V" } : Jvm.MethodName)) ∈ sa_Ts := tv_m3 149 rfl rfl
set_option maxRecDepth 20000 in
theorem tv_630 : (Jvm.Cond.methodLink "OffThenOn" (127 : Nat) ({ cls := "OffThenOn$State", name := "makeNew", desc := "()V" } : Jvm.MethodName)) ∈ sa_Ts := tv_m3 150 rfl rfl
set_option maxRecDepth 20000 in
theorem tv_631 : (Jvm.Cond.instanceMethod ({ cls := "OffThenOn$State", name := "makeNew", desc := "()V" } : Jvm.MethodName)) ∈ sa_Ts := tv_m3 151 rfl rfl
set_option maxRecDepth 20000 in
theorem tv_632 : (Jvm.Cond.selects "OffThenOn$State" ({ cls := "OffThenOn$State", name := "makeNew", desc := "()V" } : Jvm.MethodName) ({ cls := "OffThenOn$State", name := "makeNew", desc := "()V" } : Jvm.MethodName)) ∈ sa_Ts := tv_m3 152 rfl rfl
set_option maxRecDepth 20000 in
theorem tv_633 : (Jvm.Cond.code ({ cls := "OffThenOn$State", name := "makeNew", desc := "()V" } : Jvm.MethodName) prog_11_method_2_code (2 : Nat) (Option.none : Option Jvm.ClassFile.FieldType)) ∈ sa_Ts := tv_m3 153 rfl rfl
set_option maxRecDepth 20000 in
theorem tv_634 : (Jvm.Cond.methodLink "OffThenOn" (134 : Nat) ({ cls := "OffThenOn$Sentence", name := "clear", desc := "()V" } : Jvm.MethodName)) ∈ sa_Ts := tv_m3 154 rfl rfl
set_option maxRecDepth 20000 in
theorem tv_635 : (Jvm.Cond.instanceMethod ({ cls := "OffThenOn$Sentence", name := "clear", desc := "()V" } : Jvm.MethodName)) ∈ sa_Ts := tv_m3 155 rfl rfl
set_option maxRecDepth 20000 in
theorem tv_636 : (Jvm.Cond.selects "OffThenOn$Sentence" ({ cls := "OffThenOn$Sentence", name := "clear", desc := "()V" } : Jvm.MethodName) ({ cls := "OffThenOn$Sentence", name := "clear", desc := "()V" } : Jvm.MethodName)) ∈ sa_Ts := tv_m3 156 rfl rfl
set_option maxRecDepth 20000 in
theorem tv_637 : (Jvm.Cond.code ({ cls := "OffThenOn$Sentence", name := "clear", desc := "()V" } : Jvm.MethodName) prog_9_method_2_code (1 : Nat) (Option.none : Option Jvm.ClassFile.FieldType)) ∈ sa_Ts := tv_m3 157 rfl rfl
set_option maxRecDepth 20000 in
theorem tv_638 : (Jvm.Cond.methodLink "OffThenOn" (139 : Nat) ({ cls := "OffThenOn$History", name := "clear", desc := "()V" } : Jvm.MethodName)) ∈ sa_Ts := tv_m3 158 rfl rfl
set_option maxRecDepth 20000 in
theorem tv_639 : (Jvm.Cond.instanceMethod ({ cls := "OffThenOn$History", name := "clear", desc := "()V" } : Jvm.MethodName)) ∈ sa_Ts := tv_m3 159 rfl rfl
set_option maxRecDepth 20000 in
theorem tv_640 : (Jvm.Cond.selects "OffThenOn$History" ({ cls := "OffThenOn$History", name := "clear", desc := "()V" } : Jvm.MethodName) ({ cls := "OffThenOn$History", name := "clear", desc := "()V" } : Jvm.MethodName)) ∈ sa_Ts := tv_m3 160 rfl rfl
set_option maxRecDepth 20000 in
theorem tv_641 : (Jvm.Cond.code ({ cls := "OffThenOn$History", name := "clear", desc := "()V" } : Jvm.MethodName) prog_3_method_2_code (1 : Nat) (Option.none : Option Jvm.ClassFile.FieldType)) ∈ sa_Ts := tv_m3 161 rfl rfl
set_option maxRecDepth 20000 in
theorem tv_650 : (Jvm.Cond.methodLink "OffThenOn" (189 : Nat) ({ cls := "OffThenOn", name := "isFault", desc := "(I)Z" } : Jvm.MethodName)) ∈ sa_Ts := tv_m3 170 rfl rfl
set_option maxRecDepth 20000 in
theorem tv_652 : (Jvm.Cond.instanceMethod ({ cls := "OffThenOn", name := "isFault", desc := "(I)Z" } : Jvm.MethodName)) ∈ sa_Ts := tv_m3 172 rfl rfl
set_option maxRecDepth 20000 in
theorem tv_653 : (Jvm.Cond.code ({ cls := "OffThenOn", name := "isFault", desc := "(I)Z" } : Jvm.MethodName) prog_1_method_44_code (2 : Nat) (Option.some Jvm.ClassFile.FieldType.boolean)) ∈ sa_Ts := tv_m3 173 rfl rfl
set_option maxRecDepth 20000 in
theorem tv_654 : (Jvm.Cond.methodLink "OffThenOn" (213 : Nat) ({ cls := "OffThenOn$House", name := "cureOf", desc := "(II)I" } : Jvm.MethodName)) ∈ sa_Ts := tv_m3 174 rfl rfl
set_option maxRecDepth 20000 in
theorem tv_659 : (Jvm.Cond.methodLink "OffThenOn" (182 : Nat) ({ cls := "OffThenOn$State", name := "working", desc := "(LOffThenOn$House;)I" } : Jvm.MethodName)) ∈ sa_Ts := tv_m3 179 rfl rfl
set_option maxRecDepth 20000 in
theorem tv_660 : (Jvm.Cond.instanceMethod ({ cls := "OffThenOn$State", name := "working", desc := "(LOffThenOn$House;)I" } : Jvm.MethodName)) ∈ sa_Ts := tv_m3 180 rfl rfl
set_option maxRecDepth 20000 in
theorem tv_661 : (Jvm.Cond.selects "OffThenOn$State" ({ cls := "OffThenOn$State", name := "working", desc := "(LOffThenOn$House;)I" } : Jvm.MethodName) ({ cls := "OffThenOn$State", name := "working", desc := "(LOffThenOn$House;)I" } : Jvm.MethodName)) ∈ sa_Ts := tv_m3 181 rfl rfl
set_option maxRecDepth 20000 in
theorem tv_662 : (Jvm.Cond.code ({ cls := "OffThenOn$State", name := "working", desc := "(LOffThenOn$House;)I" } : Jvm.MethodName) prog_11_method_5_code (5 : Nat) (Option.some Jvm.ClassFile.FieldType.int)) ∈ sa_Ts := tv_m3 182 rfl rfl
set_option maxRecDepth 20000 in
theorem tv_664 : (Jvm.Cond.methodLink "OffThenOn" (219 : Nat) ({ cls := "OffThenOn$State", name := "thingsIn", desc := "(LOffThenOn$House;I)I" } : Jvm.MethodName)) ∈ sa_Ts := tv_m3 184 rfl rfl
set_option maxRecDepth 20000 in
theorem tv_665 : (Jvm.Cond.instanceMethod ({ cls := "OffThenOn$State", name := "thingsIn", desc := "(LOffThenOn$House;I)I" } : Jvm.MethodName)) ∈ sa_Ts := tv_m3 185 rfl rfl
set_option maxRecDepth 20000 in
theorem tv_666 : (Jvm.Cond.selects "OffThenOn$State" ({ cls := "OffThenOn$State", name := "thingsIn", desc := "(LOffThenOn$House;I)I" } : Jvm.MethodName) ({ cls := "OffThenOn$State", name := "thingsIn", desc := "(LOffThenOn$House;I)I" } : Jvm.MethodName)) ∈ sa_Ts := tv_m3 186 rfl rfl
set_option maxRecDepth 20000 in
theorem tv_667 : (Jvm.Cond.code ({ cls := "OffThenOn$State", name := "thingsIn", desc := "(LOffThenOn$House;I)I" } : Jvm.MethodName) prog_11_method_6_code (5 : Nat) (Option.some Jvm.ClassFile.FieldType.int)) ∈ sa_Ts := tv_m3 187 rfl rfl
set_option maxRecDepth 20000 in
theorem tv_672 : (Jvm.Cond.methodLink "OffThenOn" (146 : Nat) ({ cls := "OffThenOn", name := "isThing", desc := "(I)Z" } : Jvm.MethodName)) ∈ sa_Ts := tv_m3 192 rfl rfl
set_option maxRecDepth 20000 in
theorem tv_674 : (Jvm.Cond.instanceMethod ({ cls := "OffThenOn", name := "isThing", desc := "(I)Z" } : Jvm.MethodName)) ∈ sa_Ts := tv_m3 194 rfl rfl
set_option maxRecDepth 20000 in
theorem tv_675 : (Jvm.Cond.code ({ cls := "OffThenOn", name := "isThing", desc := "(I)Z" } : Jvm.MethodName) prog_1_method_43_code (2 : Nat) (Option.some Jvm.ClassFile.FieldType.boolean)) ∈ sa_Ts := tv_m3 195 rfl rfl
set_option maxRecDepth 20000 in
theorem tv_676 : (Jvm.Cond.methodLink "OffThenOn" (232 : Nat) ({ cls := "OffThenOn$History", name := "prepare", desc := "(LOffThenOn$State;)V" } : Jvm.MethodName)) ∈ sa_Ts := tv_m3 196 rfl rfl
set_option maxRecDepth 20000 in
theorem tv_677 : (Jvm.Cond.instanceMethod ({ cls := "OffThenOn$History", name := "prepare", desc := "(LOffThenOn$State;)V" } : Jvm.MethodName)) ∈ sa_Ts := tv_m3 197 rfl rfl
set_option maxRecDepth 20000 in
theorem tv_678 : (Jvm.Cond.selects "OffThenOn$History" ({ cls := "OffThenOn$History", name := "prepare", desc := "(LOffThenOn$State;)V" } : Jvm.MethodName) ({ cls := "OffThenOn$History", name := "prepare", desc := "(LOffThenOn$State;)V" } : Jvm.MethodName)) ∈ sa_Ts := tv_m3 198 rfl rfl
set_option maxRecDepth 20000 in
theorem tv_679 : (Jvm.Cond.code ({ cls := "OffThenOn$History", name := "prepare", desc := "(LOffThenOn$State;)V" } : Jvm.MethodName) prog_3_method_3_code (2 : Nat) (Option.none : Option Jvm.ClassFile.FieldType)) ∈ sa_Ts := tv_m3 199 rfl rfl
set_option maxRecDepth 20000 in
theorem tv_680 : (Jvm.Cond.methodLink "OffThenOn$History" (25 : Nat) ({ cls := "OffThenOn$State", name := "copyFrom", desc := "(LOffThenOn$State;)V" } : Jvm.MethodName)) ∈ sa_Ts := tv_m3 200 rfl rfl
set_option maxRecDepth 20000 in
theorem tv_681 : (Jvm.Cond.instanceMethod ({ cls := "OffThenOn$State", name := "copyFrom", desc := "(LOffThenOn$State;)V" } : Jvm.MethodName)) ∈ sa_Ts := tv_m3 201 rfl rfl
set_option maxRecDepth 20000 in
theorem tv_682 : (Jvm.Cond.selects "OffThenOn$State" ({ cls := "OffThenOn$State", name := "copyFrom", desc := "(LOffThenOn$State;)V" } : Jvm.MethodName) ({ cls := "OffThenOn$State", name := "copyFrom", desc := "(LOffThenOn$State;)V" } : Jvm.MethodName)) ∈ sa_Ts := tv_m3 202 rfl rfl
set_option maxRecDepth 20000 in
theorem tv_683 : (Jvm.Cond.code ({ cls := "OffThenOn$State", name := "copyFrom", desc := "(LOffThenOn$State;)V" } : Jvm.MethodName) prog_11_method_3_code (2 : Nat) (Option.none : Option Jvm.ClassFile.FieldType)) ∈ sa_Ts := tv_m3 203 rfl rfl
set_option maxRecDepth 20000 in
theorem tv_684 : (Jvm.Cond.methodLink "OffThenOn$State" (49 : Nat) ({ cls := "java/lang/System", name := "arraycopy", desc := "(Ljava/lang/Object;ILjava/lang/Object;II)V" } : Jvm.MethodName)) ∈ sa_Ts := tv_m3 204 rfl rfl
set_option maxRecDepth 20000 in
theorem tv_685 : (Jvm.Cond.methodLink "OffThenOn" (236 : Nat) ({ cls := "OffThenOn$State", name := "switchOff", desc := "(LOffThenOn$House;I)I" } : Jvm.MethodName)) ∈ sa_Ts := tv_m3 205 rfl rfl
set_option maxRecDepth 20000 in
theorem tv_686 : (Jvm.Cond.instanceMethod ({ cls := "OffThenOn$State", name := "switchOff", desc := "(LOffThenOn$House;I)I" } : Jvm.MethodName)) ∈ sa_Ts := tv_m3 206 rfl rfl
set_option maxRecDepth 20000 in
theorem tv_687 : (Jvm.Cond.selects "OffThenOn$State" ({ cls := "OffThenOn$State", name := "switchOff", desc := "(LOffThenOn$House;I)I" } : Jvm.MethodName) ({ cls := "OffThenOn$State", name := "switchOff", desc := "(LOffThenOn$House;I)I" } : Jvm.MethodName)) ∈ sa_Ts := tv_m3 207 rfl rfl
set_option maxRecDepth 20000 in
theorem tv_688 : (Jvm.Cond.code ({ cls := "OffThenOn$State", name := "switchOff", desc := "(LOffThenOn$House;I)I" } : Jvm.MethodName) prog_11_method_7_code (3 : Nat) (Option.some Jvm.ClassFile.FieldType.int)) ∈ sa_Ts := tv_m3 208 rfl rfl
set_option maxRecDepth 20000 in
theorem tv_689 : (Jvm.Cond.methodLink "OffThenOn$State" (81 : Nat) ({ cls := "OffThenOn$State", name := "cutOff", desc := "(LOffThenOn$House;I)V" } : Jvm.MethodName)) ∈ sa_Ts := tv_m3 209 rfl rfl
set_option maxRecDepth 20000 in
theorem tv_691 : (Jvm.Cond.instanceMethod ({ cls := "OffThenOn$State", name := "cutOff", desc := "(LOffThenOn$House;I)V" } : Jvm.MethodName)) ∈ sa_Ts := tv_m3 211 rfl rfl
set_option maxRecDepth 20000 in
theorem tv_692 : (Jvm.Cond.code ({ cls := "OffThenOn$State", name := "cutOff", desc := "(LOffThenOn$House;I)V" } : Jvm.MethodName) prog_11_method_12_code (3 : Nat) (Option.none : Option Jvm.ClassFile.FieldType)) ∈ sa_Ts := tv_m3 212 rfl rfl
set_option maxRecDepth 20000 in
theorem tv_693 : (Jvm.Cond.methodLink "OffThenOn" (239 : Nat) ({ cls := "OffThenOn", name := "settle", desc := "(I)I" } : Jvm.MethodName)) ∈ sa_Ts := tv_m3 213 rfl rfl
set_option maxRecDepth 20000 in
theorem tv_695 : (Jvm.Cond.instanceMethod ({ cls := "OffThenOn", name := "settle", desc := "(I)I" } : Jvm.MethodName)) ∈ sa_Ts := tv_m3 215 rfl rfl
set_option maxRecDepth 20000 in
theorem tv_696 : (Jvm.Cond.code ({ cls := "OffThenOn", name := "settle", desc := "(I)I" } : Jvm.MethodName) prog_1_method_46_code (2 : Nat) (Option.some Jvm.ClassFile.FieldType.int)) ∈ sa_Ts := tv_m3 216 rfl rfl
set_option maxRecDepth 20000 in
theorem tv_697 : (Jvm.Cond.methodLink "OffThenOn" (261 : Nat) ({ cls := "OffThenOn$History", name := "commit", desc := "()V" } : Jvm.MethodName)) ∈ sa_Ts := tv_m3 217 rfl rfl
set_option maxRecDepth 20000 in
theorem tv_698 : (Jvm.Cond.instanceMethod ({ cls := "OffThenOn$History", name := "commit", desc := "()V" } : Jvm.MethodName)) ∈ sa_Ts := tv_m3 218 rfl rfl
set_option maxRecDepth 20000 in
theorem tv_699 : (Jvm.Cond.selects "OffThenOn$History" ({ cls := "OffThenOn$History", name := "commit", desc := "()V" } : Jvm.MethodName) ({ cls := "OffThenOn$History", name := "commit", desc := "()V" } : Jvm.MethodName)) ∈ sa_Ts := tv_m3 219 rfl rfl
set_option maxRecDepth 20000 in
theorem tv_700 : (Jvm.Cond.code ({ cls := "OffThenOn$History", name := "commit", desc := "()V" } : Jvm.MethodName) prog_3_method_4_code (1 : Nat) (Option.none : Option Jvm.ClassFile.FieldType)) ∈ sa_Ts := tv_m3 220 rfl rfl
set_option maxRecDepth 20000 in
theorem tv_705 : (Jvm.Cond.methodLink "OffThenOn" (246 : Nat) ({ cls := "OffThenOn$State", name := "switchOn", desc := "(LOffThenOn$House;I)I" } : Jvm.MethodName)) ∈ sa_Ts := tv_m3 225 rfl rfl
set_option maxRecDepth 20000 in
theorem tv_706 : (Jvm.Cond.instanceMethod ({ cls := "OffThenOn$State", name := "switchOn", desc := "(LOffThenOn$House;I)I" } : Jvm.MethodName)) ∈ sa_Ts := tv_m3 226 rfl rfl
set_option maxRecDepth 20000 in
theorem tv_707 : (Jvm.Cond.selects "OffThenOn$State" ({ cls := "OffThenOn$State", name := "switchOn", desc := "(LOffThenOn$House;I)I" } : Jvm.MethodName) ({ cls := "OffThenOn$State", name := "switchOn", desc := "(LOffThenOn$House;I)I" } : Jvm.MethodName)) ∈ sa_Ts := tv_m3 227 rfl rfl
set_option maxRecDepth 20000 in
theorem tv_708 : (Jvm.Cond.code ({ cls := "OffThenOn$State", name := "switchOn", desc := "(LOffThenOn$House;I)I" } : Jvm.MethodName) prog_11_method_8_code (3 : Nat) (Option.some Jvm.ClassFile.FieldType.int)) ∈ sa_Ts := tv_m3 228 rfl rfl
set_option maxRecDepth 20000 in
theorem tv_709 : (Jvm.Cond.methodLink "OffThenOn$State" (88 : Nat) ({ cls := "OffThenOn$State", name := "startBoot", desc := "(LOffThenOn$House;I)V" } : Jvm.MethodName)) ∈ sa_Ts := tv_m3 229 rfl rfl
set_option maxRecDepth 20000 in
theorem tv_711 : (Jvm.Cond.instanceMethod ({ cls := "OffThenOn$State", name := "startBoot", desc := "(LOffThenOn$House;I)V" } : Jvm.MethodName)) ∈ sa_Ts := tv_m3 231 rfl rfl
set_option maxRecDepth 20000 in
theorem tv_712 : (Jvm.Cond.code ({ cls := "OffThenOn$State", name := "startBoot", desc := "(LOffThenOn$House;I)V" } : Jvm.MethodName) prog_11_method_13_code (3 : Nat) (Option.none : Option Jvm.ClassFile.FieldType)) ∈ sa_Ts := tv_m3 232 rfl rfl
set_option maxRecDepth 20000 in
theorem tv_713 : (Jvm.Cond.methodLink "OffThenOn$State" (91 : Nat) ({ cls := "OffThenOn$State", name := "doDeed", desc := "(LOffThenOn$House;II)V" } : Jvm.MethodName)) ∈ sa_Ts := tv_m3 233 rfl rfl
set_option maxRecDepth 20000 in
theorem tv_715 : (Jvm.Cond.instanceMethod ({ cls := "OffThenOn$State", name := "doDeed", desc := "(LOffThenOn$House;II)V" } : Jvm.MethodName)) ∈ sa_Ts := tv_m3 235 rfl rfl
set_option maxRecDepth 20000 in
theorem tv_716 : (Jvm.Cond.code ({ cls := "OffThenOn$State", name := "doDeed", desc := "(LOffThenOn$House;II)V" } : Jvm.MethodName) prog_11_method_14_code (6 : Nat) (Option.none : Option Jvm.ClassFile.FieldType)) ∈ sa_Ts := tv_m3 236 rfl rfl
set_option maxRecDepth 20000 in
theorem tv_717 : (Jvm.Cond.methodLink "OffThenOn$State" (101 : Nat) ({ cls := "OffThenOn$House", name := "cureOf", desc := "(II)I" } : Jvm.MethodName)) ∈ sa_Ts := tv_m3 237 rfl rfl
set_option maxRecDepth 20000 in
theorem tv_718 : (Jvm.Cond.methodLink "OffThenOn$State" (104 : Nat) ({ cls := "OffThenOn$State", name := "draw", desc := "(I)I" } : Jvm.MethodName)) ∈ sa_Ts := tv_m3 238 rfl rfl
set_option maxRecDepth 20000 in
theorem tv_720 : (Jvm.Cond.instanceMethod ({ cls := "OffThenOn$State", name := "draw", desc := "(I)I" } : Jvm.MethodName)) ∈ sa_Ts := tv_m4 0 rfl rfl
set_option maxRecDepth 20000 in
theorem tv_721 : (Jvm.Cond.code ({ cls := "OffThenOn$State", name := "draw", desc := "(I)I" } : Jvm.MethodName) prog_11_method_16_code (2 : Nat) (Option.some Jvm.ClassFile.FieldType.int)) ∈ sa_Ts := tv_m4 1 rfl rfl
set_option maxRecDepth 20000 in
theorem tv_722 : (Jvm.Cond.constant "OffThenOn$State" (115 : Nat) (1103515245 : Int32)) ∈ sa_Ts := tv_m4 2 rfl rfl
set_option maxRecDepth 20000 in
theorem tv_723 : (Jvm.Cond.methodLink "OffThenOn$State" (108 : Nat) ({ cls := "OffThenOn$State", name := "takeAway", desc := "(I)V" } : Jvm.MethodName)) ∈ sa_Ts := tv_m4 3 rfl rfl
set_option maxRecDepth 20000 in
theorem tv_725 : (Jvm.Cond.instanceMethod ({ cls := "OffThenOn$State", name := "takeAway", desc := "(I)V" } : Jvm.MethodName)) ∈ sa_Ts := tv_m4 5 rfl rfl
set_option maxRecDepth 20000 in
theorem tv_726 : (Jvm.Cond.code ({ cls := "OffThenOn$State", name := "takeAway", desc := "(I)V" } : Jvm.MethodName) prog_11_method_15_code (2 : Nat) (Option.none : Option Jvm.ClassFile.FieldType)) ∈ sa_Ts := tv_m4 6 rfl rfl
set_option maxRecDepth 20000 in
theorem tv_731 : (Jvm.Cond.methodLink "OffThenOn" (249 : Nat) ({ cls := "OffThenOn$State", name := "pullCable", desc := "(LOffThenOn$House;I)I" } : Jvm.MethodName)) ∈ sa_Ts := tv_m4 11 rfl rfl
set_option maxRecDepth 20000 in
theorem tv_732 : (Jvm.Cond.instanceMethod ({ cls := "OffThenOn$State", name := "pullCable", desc := "(LOffThenOn$House;I)I" } : Jvm.MethodName)) ∈ sa_Ts := tv_m4 12 rfl rfl
set_option maxRecDepth 20000 in
theorem tv_733 : (Jvm.Cond.selects "OffThenOn$State" ({ cls := "OffThenOn$State", name := "pullCable", desc := "(LOffThenOn$House;I)I" } : Jvm.MethodName) ({ cls := "OffThenOn$State", name := "pullCable", desc := "(LOffThenOn$House;I)I" } : Jvm.MethodName)) ∈ sa_Ts := tv_m4 13 rfl rfl
set_option maxRecDepth 20000 in
theorem tv_734 : (Jvm.Cond.code ({ cls := "OffThenOn$State", name := "pullCable", desc := "(LOffThenOn$House;I)I" } : Jvm.MethodName) prog_11_method_9_code (3 : Nat) (Option.some Jvm.ClassFile.FieldType.int)) ∈ sa_Ts := tv_m4 14 rfl rfl
set_option maxRecDepth 20000 in
theorem tv_739 : (Jvm.Cond.methodLink "OffThenOn" (252 : Nat) ({ cls := "OffThenOn$State", name := "pushPin", desc := "(LOffThenOn$House;I)I" } : Jvm.MethodName)) ∈ sa_Ts := tv_m4 19 rfl rfl
set_option maxRecDepth 20000 in
theorem tv_740 : (Jvm.Cond.instanceMethod ({ cls := "OffThenOn$State", name := "pushPin", desc := "(LOffThenOn$House;I)I" } : Jvm.MethodName)) ∈ sa_Ts := tv_m4 20 rfl rfl
set_option maxRecDepth 20000 in
theorem tv_741 : (Jvm.Cond.selects "OffThenOn$State" ({ cls := "OffThenOn$State", name := "pushPin", desc := "(LOffThenOn$House;I)I" } : Jvm.MethodName) ({ cls := "OffThenOn$State", name := "pushPin", desc := "(LOffThenOn$House;I)I" } : Jvm.MethodName)) ∈ sa_Ts := tv_m4 21 rfl rfl
set_option maxRecDepth 20000 in
theorem tv_742 : (Jvm.Cond.code ({ cls := "OffThenOn$State", name := "pushPin", desc := "(LOffThenOn$House;I)I" } : Jvm.MethodName) prog_11_method_10_code (3 : Nat) (Option.some Jvm.ClassFile.FieldType.int)) ∈ sa_Ts := tv_m4 22 rfl rfl
set_option maxRecDepth 20000 in
theorem tv_747 : (Jvm.Cond.methodLink "OffThenOn" (255 : Nat) ({ cls := "OffThenOn$State", name := "letStrike", desc := "(I)I" } : Jvm.MethodName)) ∈ sa_Ts := tv_m4 27 rfl rfl
set_option maxRecDepth 20000 in
theorem tv_748 : (Jvm.Cond.instanceMethod ({ cls := "OffThenOn$State", name := "letStrike", desc := "(I)I" } : Jvm.MethodName)) ∈ sa_Ts := tv_m4 28 rfl rfl
set_option maxRecDepth 20000 in
theorem tv_749 : (Jvm.Cond.selects "OffThenOn$State" ({ cls := "OffThenOn$State", name := "letStrike", desc := "(I)I" } : Jvm.MethodName) ({ cls := "OffThenOn$State", name := "letStrike", desc := "(I)I" } : Jvm.MethodName)) ∈ sa_Ts := tv_m4 29 rfl rfl
set_option maxRecDepth 20000 in
theorem tv_750 : (Jvm.Cond.code ({ cls := "OffThenOn$State", name := "letStrike", desc := "(I)I" } : Jvm.MethodName) prog_11_method_11_code (2 : Nat) (Option.some Jvm.ClassFile.FieldType.int)) ∈ sa_Ts := tv_m4 30 rfl rfl
set_option maxRecDepth 20000 in
theorem tv_755 : (Jvm.Cond.methodLink "OffThenOn" (258 : Nat) ({ cls := "OffThenOn$State", name := "passMinutes", desc := "(LOffThenOn$House;I)I" } : Jvm.MethodName)) ∈ sa_Ts := tv_m4 35 rfl rfl
set_option maxRecDepth 20000 in
theorem tv_756 : (Jvm.Cond.instanceMethod ({ cls := "OffThenOn$State", name := "passMinutes", desc := "(LOffThenOn$House;I)I" } : Jvm.MethodName)) ∈ sa_Ts := tv_m4 36 rfl rfl
set_option maxRecDepth 20000 in
theorem tv_757 : (Jvm.Cond.selects "OffThenOn$State" ({ cls := "OffThenOn$State", name := "passMinutes", desc := "(LOffThenOn$House;I)I" } : Jvm.MethodName) ({ cls := "OffThenOn$State", name := "passMinutes", desc := "(LOffThenOn$House;I)I" } : Jvm.MethodName)) ∈ sa_Ts := tv_m4 37 rfl rfl
set_option maxRecDepth 20000 in
theorem tv_758 : (Jvm.Cond.code ({ cls := "OffThenOn$State", name := "passMinutes", desc := "(LOffThenOn$House;I)I" } : Jvm.MethodName) prog_11_method_17_code (4 : Nat) (Option.some Jvm.ClassFile.FieldType.int)) ∈ sa_Ts := tv_m4 38 rfl rfl
set_option maxRecDepth 20000 in
theorem tv_759 : (Jvm.Cond.methodLink "OffThenOn$State" (116 : Nat) ({ cls := "OffThenOn$State", name := "passMinute", desc := "(LOffThenOn$House;)V" } : Jvm.MethodName)) ∈ sa_Ts := tv_m4 39 rfl rfl
set_option maxRecDepth 20000 in
theorem tv_761 : (Jvm.Cond.instanceMethod ({ cls := "OffThenOn$State", name := "passMinute", desc := "(LOffThenOn$House;)V" } : Jvm.MethodName)) ∈ sa_Ts := tv_m4 41 rfl rfl
set_option maxRecDepth 20000 in
theorem tv_762 : (Jvm.Cond.code ({ cls := "OffThenOn$State", name := "passMinute", desc := "(LOffThenOn$House;)V" } : Jvm.MethodName) prog_11_method_18_code (3 : Nat) (Option.none : Option Jvm.ClassFile.FieldType)) ∈ sa_Ts := tv_m4 42 rfl rfl
set_option maxRecDepth 20000 in
theorem tv_763 : (Jvm.Cond.methodLink "OffThenOn$State" (120 : Nat) ({ cls := "OffThenOn$State", name := "comeUp", desc := "(LOffThenOn$House;I)V" } : Jvm.MethodName)) ∈ sa_Ts := tv_m4 43 rfl rfl
set_option maxRecDepth 20000 in
theorem tv_765 : (Jvm.Cond.instanceMethod ({ cls := "OffThenOn$State", name := "comeUp", desc := "(LOffThenOn$House;I)V" } : Jvm.MethodName)) ∈ sa_Ts := tv_m4 45 rfl rfl
set_option maxRecDepth 20000 in
theorem tv_766 : (Jvm.Cond.code ({ cls := "OffThenOn$State", name := "comeUp", desc := "(LOffThenOn$House;I)V" } : Jvm.MethodName) prog_11_method_19_code (4 : Nat) (Option.none : Option Jvm.ClassFile.FieldType)) ∈ sa_Ts := tv_m4 46 rfl rfl
set_option maxRecDepth 20000 in
theorem tv_771 : (Jvm.Cond.methodLink "OffThenOn" (264 : Nat) ({ cls := "OffThenOn$History", name := "takeBack", desc := "(LOffThenOn$State;)I" } : Jvm.MethodName)) ∈ sa_Ts := tv_m4 51 rfl rfl
set_option maxRecDepth 20000 in
theorem tv_772 : (Jvm.Cond.instanceMethod ({ cls := "OffThenOn$History", name := "takeBack", desc := "(LOffThenOn$State;)I" } : Jvm.MethodName)) ∈ sa_Ts := tv_m4 52 rfl rfl
set_option maxRecDepth 20000 in
theorem tv_773 : (Jvm.Cond.selects "OffThenOn$History" ({ cls := "OffThenOn$History", name := "takeBack", desc := "(LOffThenOn$State;)I" } : Jvm.MethodName) ({ cls := "OffThenOn$History", name := "takeBack", desc := "(LOffThenOn$State;)I" } : Jvm.MethodName)) ∈ sa_Ts := tv_m4 53 rfl rfl
set_option maxRecDepth 20000 in
theorem tv_774 : (Jvm.Cond.code ({ cls := "OffThenOn$History", name := "takeBack", desc := "(LOffThenOn$State;)I" } : Jvm.MethodName) prog_3_method_5_code (2 : Nat) (Option.some Jvm.ClassFile.FieldType.int)) ∈ sa_Ts := tv_m4 54 rfl rfl
set_option maxRecDepth 20000 in
theorem tv_779 : (Jvm.Cond.methodLink "OffThenOn" (268 : Nat) ({ cls := "OffThenOn", name := "faultsByLamps", desc := "()I" } : Jvm.MethodName)) ∈ sa_Ts := tv_m4 59 rfl rfl
set_option maxRecDepth 20000 in
theorem tv_781 : (Jvm.Cond.instanceMethod ({ cls := "OffThenOn", name := "faultsByLamps", desc := "()I" } : Jvm.MethodName)) ∈ sa_Ts := tv_m4 61 rfl rfl
set_option maxRecDepth 20000 in
theorem tv_782 : (Jvm.Cond.code ({ cls := "OffThenOn", name := "faultsByLamps", desc := "()I" } : Jvm.MethodName) prog_1_method_47_code (5 : Nat) (Option.some Jvm.ClassFile.FieldType.int)) ∈ sa_Ts := tv_m4 62 rfl rfl
set_option maxRecDepth 20000 in
theorem tv_783 : (Jvm.Cond.methodLink "OffThenOn" (363 : Nat) ({ cls := "OffThenOn$Bytes", name := "at", desc := "(I)I" } : Jvm.MethodName)) ∈ sa_Ts := tv_m4 63 rfl rfl
set_option maxRecDepth 20000 in
theorem tv_784 : (Jvm.Cond.methodLink "OffThenOn" (417 : Nat) ({ cls := "OffThenOn$House", name := "faultsShowing", desc := "(II)I" } : Jvm.MethodName)) ∈ sa_Ts := tv_m4 64 rfl rfl
set_option maxRecDepth 20000 in
theorem tv_785 : (Jvm.Cond.instanceMethod ({ cls := "OffThenOn$House", name := "faultsShowing", desc := "(II)I" } : Jvm.MethodName)) ∈ sa_Ts := tv_m4 65 rfl rfl
set_option maxRecDepth 20000 in
theorem tv_786 : (Jvm.Cond.selects "OffThenOn$House" ({ cls := "OffThenOn$House", name := "faultsShowing", desc := "(II)I" } : Jvm.MethodName) ({ cls := "OffThenOn$House", name := "faultsShowing", desc := "(II)I" } : Jvm.MethodName)) ∈ sa_Ts := tv_m4 66 rfl rfl
set_option maxRecDepth 20000 in
theorem tv_787 : (Jvm.Cond.code ({ cls := "OffThenOn$House", name := "faultsShowing", desc := "(II)I" } : Jvm.MethodName) prog_4_method_11_code (6 : Nat) (Option.some Jvm.ClassFile.FieldType.int)) ∈ sa_Ts := tv_m4 67 rfl rfl
set_option maxRecDepth 20000 in
theorem tv_788 : (Jvm.Cond.methodLink "OffThenOn" (275 : Nat) ({ cls := "java/lang/System", name := "arraycopy", desc := "(Ljava/lang/Object;ILjava/lang/Object;II)V" } : Jvm.MethodName)) ∈ sa_Ts := tv_m4 68 rfl rfl
set_option maxRecDepth 20000 in
theorem tv_797 : (Jvm.Cond.methodLink "OffThenOn" (304 : Nat) ({ cls := "OffThenOn$House", name := "minutesTillUp", desc := "(I)I" } : Jvm.MethodName)) ∈ sa_Ts := tv_m4 77 rfl rfl
set_option maxRecDepth 20000 in
theorem tv_798 : (Jvm.Cond.instanceMethod ({ cls := "OffThenOn$House", name := "minutesTillUp", desc := "(I)I" } : Jvm.MethodName)) ∈ sa_Ts := tv_m4 78 rfl rfl
set_option maxRecDepth 20000 in
theorem tv_799 : (Jvm.Cond.selects "OffThenOn$House" ({ cls := "OffThenOn$House", name := "minutesTillUp", desc := "(I)I" } : Jvm.MethodName) ({ cls := "OffThenOn$House", name := "minutesTillUp", desc := "(I)I" } : Jvm.MethodName)) ∈ sa_Ts := tv_m4 79 rfl rfl
set_option maxRecDepth 20000 in
theorem tv_800 : (Jvm.Cond.code ({ cls := "OffThenOn$House", name := "minutesTillUp", desc := "(I)I" } : Jvm.MethodName) prog_4_method_10_code (4 : Nat) (Option.some Jvm.ClassFile.FieldType.int)) ∈ sa_Ts := tv_m4 80 rfl rfl
set_option maxRecDepth 20000 in
theorem tv_801 : (Jvm.Cond.methodLink "OffThenOn$House" (72 : Nat) ({ cls := "java/lang/Math", name := "max", desc := "(II)I" } : Jvm.MethodName)) ∈ sa_Ts := tv_m4 81 rfl rfl
set_option maxRecDepth 20000 in
theorem tv_802 : (Jvm.Cond.static ({ cls := "java/lang/Math", name := "max", desc := "(II)I" } : Jvm.MethodName)) ∈ sa_Ts := tv_m4 82 rfl rfl
set_option maxRecDepth 20000 in
theorem tv_803 : (Jvm.Cond.code ({ cls := "java/lang/Math", name := "max", desc := "(II)I" } : Jvm.MethodName) prog_20_method_65_code (2 : Nat) (Option.some Jvm.ClassFile.FieldType.int)) ∈ sa_Ts := tv_m4 83 rfl rfl
set_option maxRecDepth 20000 in
theorem tv_816 : (Jvm.Cond.methodLink "OffThenOn" (313 : Nat) ({ cls := "OffThenOn$House", name := "lookingLike", desc := "(I)I" } : Jvm.MethodName)) ∈ sa_Ts := tv_m4 96 rfl rfl
set_option maxRecDepth 20000 in
theorem tv_817 : (Jvm.Cond.instanceMethod ({ cls := "OffThenOn$House", name := "lookingLike", desc := "(I)I" } : Jvm.MethodName)) ∈ sa_Ts := tv_m4 97 rfl rfl
set_option maxRecDepth 20000 in
theorem tv_818 : (Jvm.Cond.selects "OffThenOn$House" ({ cls := "OffThenOn$House", name := "lookingLike", desc := "(I)I" } : Jvm.MethodName) ({ cls := "OffThenOn$House", name := "lookingLike", desc := "(I)I" } : Jvm.MethodName)) ∈ sa_Ts := tv_m4 98 rfl rfl
set_option maxRecDepth 20000 in
theorem tv_819 : (Jvm.Cond.code ({ cls := "OffThenOn$House", name := "lookingLike", desc := "(I)I" } : Jvm.MethodName) prog_4_method_12_code (2 : Nat) (Option.some Jvm.ClassFile.FieldType.int)) ∈ sa_Ts := tv_m4 99 rfl rfl
set_option maxRecDepth 20000 in
theorem tv_820 : (Jvm.Cond.methodLink "OffThenOn$House" (77 : Nat) ({ cls := "OffThenOn$House", name := "faultsShowing", desc := "(II)I" } : Jvm.MethodName)) ∈ sa_Ts := tv_m4 100 rfl rfl
set_option maxRecDepth 20000 in
theorem tv_829 : (Jvm.Cond.methodLink "OffThenOn" (319 : Nat) ({ cls := "OffThenOn$House", name := "mostLeft", desc := "(II)I" } : Jvm.MethodName)) ∈ sa_Ts := tv_m4 109 rfl rfl
set_option maxRecDepth 20000 in
theorem tv_830 : (Jvm.Cond.instanceMethod ({ cls := "OffThenOn$House", name := "mostLeft", desc := "(II)I" } : Jvm.MethodName)) ∈ sa_Ts := tv_m4 110 rfl rfl
set_option maxRecDepth 20000 in
theorem tv_831 : (Jvm.Cond.selects "OffThenOn$House" ({ cls := "OffThenOn$House", name := "mostLeft", desc := "(II)I" } : Jvm.MethodName) ({ cls := "OffThenOn$House", name := "mostLeft", desc := "(II)I" } : Jvm.MethodName)) ∈ sa_Ts := tv_m4 111 rfl rfl
set_option maxRecDepth 20000 in
theorem tv_832 : (Jvm.Cond.code ({ cls := "OffThenOn$House", name := "mostLeft", desc := "(II)I" } : Jvm.MethodName) prog_4_method_13_code (5 : Nat) (Option.some Jvm.ClassFile.FieldType.int)) ∈ sa_Ts := tv_m4 112 rfl rfl
set_option maxRecDepth 20000 in
theorem tv_833 : (Jvm.Cond.methodLink "OffThenOn$House" (80 : Nat) ({ cls := "java/lang/Integer", name := "bitCount", desc := "(I)I" } : Jvm.MethodName)) ∈ sa_Ts := tv_m4 113 rfl rfl
set_option maxRecDepth 20000 in
theorem tv_834 : (Jvm.Cond.static ({ cls := "java/lang/Integer", name := "bitCount", desc := "(I)I" } : Jvm.MethodName)) ∈ sa_Ts := tv_m4 114 rfl rfl
set_option maxRecDepth 20000 in
theorem tv_835 : (Jvm.Cond.code ({ cls := "java/lang/Integer", name := "bitCount", desc := "(I)I" } : Jvm.MethodName) prog_19_method_49_code (1 : Nat) (Option.some Jvm.ClassFile.FieldType.int)) ∈ sa_Ts := tv_m4 115 rfl rfl
set_option maxRecDepth 20000 in
theorem tv_836 : (Jvm.Cond.constant "java/lang/Integer" (265 : Nat) (1431655765 : Int32)) ∈ sa_Ts := tv_m4 116 rfl rfl
set_option maxRecDepth 20000 in
theorem tv_837 : (Jvm.Cond.constant "java/lang/Integer" (266 : Nat) (858993459 : Int32)) ∈ sa_Ts := tv_m4 117 rfl rfl
set_option maxRecDepth 20000 in
theorem tv_838 : (Jvm.Cond.constant "java/lang/Integer" (267 : Nat) (252645135 : Int32)) ∈ sa_Ts := tv_m4 118 rfl rfl
set_option maxRecDepth 20000 in
theorem tv_839 : (Jvm.Cond.methodLink "OffThenOn$House" (86 : Nat) ({ cls := "OffThenOn$House", name := "lookingLike", desc := "(I)I" } : Jvm.MethodName)) ∈ sa_Ts := tv_m4 119 rfl rfl
set_option maxRecDepth 20000 in
theorem tv_848 : (Jvm.Cond.methodLink "OffThenOn" (325 : Nat) ({ cls := "OffThenOn", name := "faultsByMinutes", desc := "(I)I" } : Jvm.MethodName)) ∈ sa_Ts := tv_m4 128 rfl rfl
set_option maxRecDepth 20000 in
theorem tv_850 : (Jvm.Cond.instanceMethod ({ cls := "OffThenOn", name := "faultsByMinutes", desc := "(I)I" } : Jvm.MethodName)) ∈ sa_Ts := tv_m4 130 rfl rfl
set_option maxRecDepth 20000 in
theorem tv_851 : (Jvm.Cond.code ({ cls := "OffThenOn", name := "faultsByMinutes", desc := "(I)I" } : Jvm.MethodName) prog_1_method_51_code (8 : Nat) (Option.some Jvm.ClassFile.FieldType.int)) ∈ sa_Ts := tv_m4 131 rfl rfl
set_option maxRecDepth 20000 in
theorem tv_852 : (Jvm.Cond.methodLink "OffThenOn" (328 : Nat) ({ cls := "OffThenOn$State", name := "copyFrom", desc := "(LOffThenOn$State;)V" } : Jvm.MethodName)) ∈ sa_Ts := tv_m4 132 rfl rfl
set_option maxRecDepth 20000 in
theorem tv_853 : (Jvm.Cond.methodLink "OffThenOn" (171 : Nat) ({ cls := "OffThenOn", name := "bit", desc := "(II)I" } : Jvm.MethodName)) ∈ sa_Ts := tv_m4 133 rfl rfl
set_option maxRecDepth 20000 in
theorem tv_854 : (Jvm.Cond.methodLink "OffThenOn" (178 : Nat) ({ cls := "OffThenOn$State", name := "lampOf", desc := "(LOffThenOn$House;II)I" } : Jvm.MethodName)) ∈ sa_Ts := tv_m4 134 rfl rfl
set_option maxRecDepth 20000 in
theorem tv_855 : (Jvm.Cond.instanceMethod ({ cls := "OffThenOn$State", name := "lampOf", desc := "(LOffThenOn$House;II)I" } : Jvm.MethodName)) ∈ sa_Ts := tv_m4 135 rfl rfl
set_option maxRecDepth 20000 in
theorem tv_856 : (Jvm.Cond.selects "OffThenOn$State" ({ cls := "OffThenOn$State", name := "lampOf", desc := "(LOffThenOn$House;II)I" } : Jvm.MethodName) ({ cls := "OffThenOn$State", name := "lampOf", desc := "(LOffThenOn$House;II)I" } : Jvm.MethodName)) ∈ sa_Ts := tv_m4 136 rfl rfl
set_option maxRecDepth 20000 in
theorem tv_857 : (Jvm.Cond.code ({ cls := "OffThenOn$State", name := "lampOf", desc := "(LOffThenOn$House;II)I" } : Jvm.MethodName) prog_11_method_4_code (6 : Nat) (Option.some Jvm.ClassFile.FieldType.int)) ∈ sa_Ts := tv_m4 137 rfl rfl
set_option maxRecDepth 20000 in
theorem tv_858 : (Jvm.Cond.methodLink "OffThenOn$State" (70 : Nat) ({ cls := "java/lang/Math", name := "max", desc := "(II)I" } : Jvm.MethodName)) ∈ sa_Ts := tv_m4 138 rfl rfl
set_option maxRecDepth 20000 in
theorem tv_871 : (Jvm.Cond.methodLink "OffThenOn" (334 : Nat) ({ cls := "OffThenOn$Bytes", name := "addWord", desc := "(J)V" } : Jvm.MethodName)) ∈ sa_Ts := tv_m4 151 rfl rfl
set_option maxRecDepth 20000 in
theorem tv_872 : (Jvm.Cond.instanceMethod ({ cls := "OffThenOn$Bytes", name := "addWord", desc := "(J)V" } : Jvm.MethodName)) ∈ sa_Ts := tv_m4 152 rfl rfl
set_option maxRecDepth 20000 in
theorem tv_873 : (Jvm.Cond.selects "OffThenOn$Bytes" ({ cls := "OffThenOn$Bytes", name := "addWord", desc := "(J)V" } : Jvm.MethodName) ({ cls := "OffThenOn$Bytes", name := "addWord", desc := "(J)V" } : Jvm.MethodName)) ∈ sa_Ts := tv_m4 153 rfl rfl
set_option maxRecDepth 20000 in
theorem tv_874 : (Jvm.Cond.code ({ cls := "OffThenOn$Bytes", name := "addWord", desc := "(J)V" } : Jvm.MethodName) prog_2_method_5_code (5 : Nat) (Option.none : Option Jvm.ClassFile.FieldType)) ∈ sa_Ts := tv_m4 154 rfl rfl
set_option maxRecDepth 20000 in
theorem tv_876 : (Jvm.Cond.methodLink "OffThenOn" (340 : Nat) ({ cls := "OffThenOn$Bytes", name := "addText", desc := "(Ljava/lang/String;)V" } : Jvm.MethodName)) ∈ sa_Ts := tv_m4 156 rfl rfl
set_option maxRecDepth 20000 in
theorem tv_877 : (Jvm.Cond.instanceMethod ({ cls := "OffThenOn$Bytes", name := "addText", desc := "(Ljava/lang/String;)V" } : Jvm.MethodName)) ∈ sa_Ts := tv_m4 157 rfl rfl
set_option maxRecDepth 20000 in
theorem tv_878 : (Jvm.Cond.selects "OffThenOn$Bytes" ({ cls := "OffThenOn$Bytes", name := "addText", desc := "(Ljava/lang/String;)V" } : Jvm.MethodName) ({ cls := "OffThenOn$Bytes", name := "addText", desc := "(Ljava/lang/String;)V" } : Jvm.MethodName)) ∈ sa_Ts := tv_m4 158 rfl rfl
set_option maxRecDepth 20000 in
theorem tv_879 : (Jvm.Cond.code ({ cls := "OffThenOn$Bytes", name := "addText", desc := "(Ljava/lang/String;)V" } : Jvm.MethodName) prog_2_method_6_code (3 : Nat) (Option.none : Option Jvm.ClassFile.FieldType)) ∈ sa_Ts := tv_m4 159 rfl rfl
set_option maxRecDepth 20000 in
theorem tv_880 : (Jvm.Cond.methodLink "OffThenOn$Bytes" (23 : Nat) ({ cls := "java/lang/String", name := "length", desc := "()I" } : Jvm.MethodName)) ∈ sa_Ts := tv_m4 160 rfl rfl
set_option maxRecDepth 20000 in
theorem tv_881 : (Jvm.Cond.instanceMethod ({ cls := "java/lang/String", name := "length", desc := "()I" } : Jvm.MethodName)) ∈ sa_Ts := tv_m4 161 rfl rfl
set_option maxRecDepth 20000 in
theorem tv_882 : (Jvm.Cond.selects "java/lang/String" ({ cls := "java/lang/String", name := "length", desc := "()I" } : Jvm.MethodName) ({ cls := "java/lang/String", name := "length", desc := "()I" } : Jvm.MethodName)) ∈ sa_Ts := tv_m4 162 rfl rfl
set_option maxRecDepth 20000 in
theorem tv_883 : (Jvm.Cond.code ({ cls := "java/lang/String", name := "length", desc := "()I" } : Jvm.MethodName) prog_22_method_54_code (1 : Nat) (Option.some Jvm.ClassFile.FieldType.int)) ∈ sa_Ts := tv_m4 163 rfl rfl
set_option maxRecDepth 20000 in
theorem tv_884 : (Jvm.Cond.methodLink "java/lang/String" (335 : Nat) ({ cls := "java/lang/String", name := "coder", desc := "()B" } : Jvm.MethodName)) ∈ sa_Ts := tv_m4 164 rfl rfl
set_option maxRecDepth 20000 in
theorem tv_885 : (Jvm.Cond.instanceMethod ({ cls := "java/lang/String", name := "coder", desc := "()B" } : Jvm.MethodName)) ∈ sa_Ts := tv_m4 165 rfl rfl
set_option maxRecDepth 20000 in
theorem tv_886 : (Jvm.Cond.selects "java/lang/String" ({ cls := "java/lang/String", name := "coder", desc := "()B" } : Jvm.MethodName) ({ cls := "java/lang/String", name := "coder", desc := "()B" } : Jvm.MethodName)) ∈ sa_Ts := tv_m4 166 rfl rfl
set_option maxRecDepth 20000 in
theorem tv_887 : (Jvm.Cond.code ({ cls := "java/lang/String", name := "coder", desc := "()B" } : Jvm.MethodName) prog_22_method_152_code (1 : Nat) (Option.some Jvm.ClassFile.FieldType.byte)) ∈ sa_Ts := tv_m4 167 rfl rfl
set_option maxRecDepth 20000 in
theorem tv_888 : (Jvm.Cond.fieldLink "java/lang/String" (38 : Nat) "java/lang/String" "COMPACT_STRINGS" "Z") ∈ sa_Ts := tv_m4 168 rfl rfl
set_option maxRecDepth 20000 in
theorem tv_890 : (Jvm.Cond.methodLink "OffThenOn$Bytes" (29 : Nat) ({ cls := "java/lang/String", name := "charAt", desc := "(I)C" } : Jvm.MethodName)) ∈ sa_Ts := tv_m4 170 rfl rfl
set_option maxRecDepth 20000 in
theorem tv_891 : (Jvm.Cond.instanceMethod ({ cls := "java/lang/String", name := "charAt", desc := "(I)C" } : Jvm.MethodName)) ∈ sa_Ts := tv_m4 171 rfl rfl
set_option maxRecDepth 20000 in
theorem tv_892 : (Jvm.Cond.selects "java/lang/String" ({ cls := "java/lang/String", name := "charAt", desc := "(I)C" } : Jvm.MethodName) ({ cls := "java/lang/String", name := "charAt", desc := "(I)C" } : Jvm.MethodName)) ∈ sa_Ts := tv_m4 172 rfl rfl
set_option maxRecDepth 20000 in
theorem tv_893 : (Jvm.Cond.code ({ cls := "java/lang/String", name := "charAt", desc := "(I)C" } : Jvm.MethodName) prog_22_method_56_code (2 : Nat) (Option.some Jvm.ClassFile.FieldType.char)) ∈ sa_Ts := tv_m4 173 rfl rfl
set_option maxRecDepth 20000 in
theorem tv_894 : (Jvm.Cond.methodLink "java/lang/String" (492 : Nat) ({ cls := "java/lang/String", name := "isLatin1", desc := "()Z" } : Jvm.MethodName)) ∈ sa_Ts := tv_m4 174 rfl rfl
set_option maxRecDepth 20000 in
theorem tv_895 : (Jvm.Cond.instanceMethod ({ cls := "java/lang/String", name := "isLatin1", desc := "()Z" } : Jvm.MethodName)) ∈ sa_Ts := tv_m4 175 rfl rfl
set_option maxRecDepth 20000 in
theorem tv_896 : (Jvm.Cond.selects "java/lang/String" ({ cls := "java/lang/String", name := "isLatin1", desc := "()Z" } : Jvm.MethodName) ({ cls := "java/lang/String", name := "isLatin1", desc := "()Z" } : Jvm.MethodName)) ∈ sa_Ts := tv_m4 176 rfl rfl
set_option maxRecDepth 20000 in
theorem tv_897 : (Jvm.Cond.code ({ cls := "java/lang/String", name := "isLatin1", desc := "()Z" } : Jvm.MethodName) prog_22_method_154_code (1 : Nat) (Option.some Jvm.ClassFile.FieldType.boolean)) ∈ sa_Ts := tv_m4 177 rfl rfl
set_option maxRecDepth 20000 in
theorem tv_898 : (Jvm.Cond.methodLink "java/lang/String" (495 : Nat) ({ cls := "java/lang/StringLatin1", name := "charAt", desc := "([BI)C" } : Jvm.MethodName)) ∈ sa_Ts := tv_m4 178 rfl rfl
set_option maxRecDepth 20000 in
theorem tv_899 : (Jvm.Cond.static ({ cls := "java/lang/StringLatin1", name := "charAt", desc := "([BI)C" } : Jvm.MethodName)) ∈ sa_Ts := tv_m4 179 rfl rfl
set_option maxRecDepth 20000 in
theorem tv_900 : (Jvm.Cond.code ({ cls := "java/lang/StringLatin1", name := "charAt", desc := "([BI)C" } : Jvm.MethodName) prog_23_method_2_code (2 : Nat) (Option.some Jvm.ClassFile.FieldType.char)) ∈ sa_Ts := tv_m4 180 rfl rfl
set_option maxRecDepth 20000 in
theorem tv_901 : (Jvm.Cond.methodLink "java/lang/StringLatin1" (9 : Nat) ({ cls := "java/lang/String", name := "checkIndex", desc := "(II)V" } : Jvm.MethodName)) ∈ sa_Ts := tv_m4 181 rfl rfl
set_option maxRecDepth 20000 in
theorem tv_902 : (Jvm.Cond.static ({ cls := "java/lang/String", name := "checkIndex", desc := "(II)V" } : Jvm.MethodName)) ∈ sa_Ts := tv_m4 182 rfl rfl
set_option maxRecDepth 20000 in
theorem tv_903 : (Jvm.Cond.code ({ cls := "java/lang/String", name := "checkIndex", desc := "(II)V" } : Jvm.MethodName) prog_22_method_155_code (2 : Nat) (Option.none : Option Jvm.ClassFile.FieldType)) ∈ sa_Ts := tv_m4 183 rfl rfl
set_option maxRecDepth 20000 in
theorem tv_904 : (Jvm.Cond.fieldLink "java/lang/String" (1053 : Nat) "jdk/internal/util/Preconditions" "SIOOBE_FORMATTER" "Ljava/util/function/BiFunction;") ∈ sa_Ts := tv_m4 184 rfl rfl
set_option maxRecDepth 20000 in
theorem tv_906 : (Jvm.Cond.methodLink "java/lang/String" (1059 : Nat) ({ cls := "jdk/internal/util/Preconditions", name := "checkIndex", desc := "(IILjava/util/function/BiFunction;)I" } : Jvm.MethodName)) ∈ sa_Ts := tv_m4 186 rfl rfl
set_option maxRecDepth 20000 in
theorem tv_907 : (Jvm.Cond.static ({ cls := "jdk/internal/util/Preconditions", name := "checkIndex", desc := "(IILjava/util/function/BiFunction;)I" } : Jvm.MethodName)) ∈ sa_Ts := tv_m4 187 rfl rfl
set_option maxRecDepth 20000 in
theorem tv_908 : (Jvm.Cond.code ({ cls := "jdk/internal/util/Preconditions", name := "checkIndex", desc := "(IILjava/util/function/BiFunction;)I" } : Jvm.MethodName) prog_30_method_11_code (3 : Nat) (Option.some Jvm.ClassFile.FieldType.int)) ∈ sa_Ts := tv_m4 188 rfl rfl
set_option maxRecDepth 20000 in
theorem tv_929 : (Jvm.Cond.methodLink "OffThenOn" (346 : Nat) ({ cls := "OffThenOn$Bytes", name := "addNumber", desc := "(I)V" } : Jvm.MethodName)) ∈ sa_Ts := tv_m4 209 rfl rfl
set_option maxRecDepth 20000 in
theorem tv_930 : (Jvm.Cond.instanceMethod ({ cls := "OffThenOn$Bytes", name := "addNumber", desc := "(I)V" } : Jvm.MethodName)) ∈ sa_Ts := tv_m4 210 rfl rfl
set_option maxRecDepth 20000 in
theorem tv_931 : (Jvm.Cond.selects "OffThenOn$Bytes" ({ cls := "OffThenOn$Bytes", name := "addNumber", desc := "(I)V" } : Jvm.MethodName) ({ cls := "OffThenOn$Bytes", name := "addNumber", desc := "(I)V" } : Jvm.MethodName)) ∈ sa_Ts := tv_m4 211 rfl rfl
set_option maxRecDepth 20000 in
theorem tv_932 : (Jvm.Cond.code ({ cls := "OffThenOn$Bytes", name := "addNumber", desc := "(I)V" } : Jvm.MethodName) prog_2_method_7_code (2 : Nat) (Option.none : Option Jvm.ClassFile.FieldType)) ∈ sa_Ts := tv_m4 212 rfl rfl
set_option maxRecDepth 20000 in
theorem tv_937 : (Jvm.Cond.methodLink "OffThenOn" (360 : Nat) ({ cls := "OffThenOn", name := "shownFault", desc := "(I)I" } : Jvm.MethodName)) ∈ sa_Ts := tv_m4 217 rfl rfl
set_option maxRecDepth 20000 in
theorem tv_939 : (Jvm.Cond.instanceMethod ({ cls := "OffThenOn", name := "shownFault", desc := "(I)I" } : Jvm.MethodName)) ∈ sa_Ts := tv_m4 219 rfl rfl
set_option maxRecDepth 20000 in
theorem tv_940 : (Jvm.Cond.code ({ cls := "OffThenOn", name := "shownFault", desc := "(I)I" } : Jvm.MethodName) prog_1_method_52_code (5 : Nat) (Option.some Jvm.ClassFile.FieldType.int)) ∈ sa_Ts := tv_m4 220 rfl rfl
set_option maxRecDepth 20000 in
theorem tv_949 : (Jvm.Cond.methodLink "OffThenOn" (366 : Nat) ({ cls := "OffThenOn$State", name := "drawMinutes", desc := "(LOffThenOn$House;I)I" } : Jvm.MethodName)) ∈ sa_Ts := tv_m4 229 rfl rfl
set_option maxRecDepth 20000 in
theorem tv_950 : (Jvm.Cond.instanceMethod ({ cls := "OffThenOn$State", name := "drawMinutes", desc := "(LOffThenOn$House;I)I" } : Jvm.MethodName)) ∈ sa_Ts := tv_m4 230 rfl rfl
set_option maxRecDepth 20000 in
theorem tv_951 : (Jvm.Cond.selects "OffThenOn$State" ({ cls := "OffThenOn$State", name := "drawMinutes", desc := "(LOffThenOn$House;I)I" } : Jvm.MethodName) ({ cls := "OffThenOn$State", name := "drawMinutes", desc := "(LOffThenOn$House;I)I" } : Jvm.MethodName)) ∈ sa_Ts := tv_m4 231 rfl rfl
set_option maxRecDepth 20000 in
theorem tv_952 : (Jvm.Cond.code ({ cls := "OffThenOn$State", name := "drawMinutes", desc := "(LOffThenOn$House;I)I" } : Jvm.MethodName) prog_11_method_20_code (6 : Nat) (Option.some Jvm.ClassFile.FieldType.int)) ∈ sa_Ts := tv_m4 232 rfl rfl
set_option maxRecDepth 20000 in
theorem tv_953 : (Jvm.Cond.methodLink "OffThenOn$State" (126 : Nat) ({ cls := "OffThenOn$State", name := "letStrike", desc := "(I)I" } : Jvm.MethodName)) ∈ sa_Ts := tv_m4 233 rfl rfl
set_option maxRecDepth 20000 in
theorem tv_954 : (Jvm.Cond.methodLink "OffThenOn$State" (129 : Nat) ({ cls := "OffThenOn$State", name := "switchOff", desc := "(LOffThenOn$House;I)I" } : Jvm.MethodName)) ∈ sa_Ts := tv_m4 234 rfl rfl
set_option maxRecDepth 20000 in
theorem tv_955 : (Jvm.Cond.methodLink "OffThenOn$State" (133 : Nat) ({ cls := "OffThenOn$State", name := "switchOn", desc := "(LOffThenOn$House;I)I" } : Jvm.MethodName)) ∈ sa_Ts := tv_m4 235 rfl rfl
set_option maxRecDepth 20000 in
theorem tv_964 : (Jvm.Cond.methodLink "OffThenOn" (369 : Nat) ({ cls := "OffThenOn$LogReader", name := "readLog", desc := "(LOffThenOn$Bytes;LOffThenOn$House;)Z" } : Jvm.MethodName)) ∈ sa_Ts := tv_m5 4 rfl rfl
set_option maxRecDepth 20000 in
theorem tv_965 : (Jvm.Cond.instanceMethod ({ cls := "OffThenOn$LogReader", name := "readLog", desc := "(LOffThenOn$Bytes;LOffThenOn$House;)Z" } : Jvm.MethodName)) ∈ sa_Ts := tv_m5 5 rfl rfl
set_option maxRecDepth 20000 in
theorem tv_966 : (Jvm.Cond.selects "OffThenOn$LogReader" ({ cls := "OffThenOn$LogReader", name := "readLog", desc := "(LOffThenOn$Bytes;LOffThenOn$House;)Z" } : Jvm.MethodName) ({ cls := "OffThenOn$LogReader", name := "readLog", desc := "(LOffThenOn$Bytes;LOffThenOn$House;)Z" } : Jvm.MethodName)) ∈ sa_Ts := tv_m5 6 rfl rfl
set_option maxRecDepth 20000 in
theorem tv_967 : (Jvm.Cond.code ({ cls := "OffThenOn$LogReader", name := "readLog", desc := "(LOffThenOn$Bytes;LOffThenOn$House;)Z" } : Jvm.MethodName) prog_6_method_2_code (3 : Nat) (Option.some Jvm.ClassFile.FieldType.boolean)) ∈ sa_Ts := tv_m5 7 rfl rfl
set_option maxRecDepth 20000 in
theorem tv_968 : (Jvm.Cond.methodLink "OffThenOn$LogReader" (28 : Nat) ({ cls := "OffThenOn$Reader", name := "start", desc := "(LOffThenOn$Bytes;I)V" } : Jvm.MethodName)) ∈ sa_Ts := tv_m5 8 rfl rfl
set_option maxRecDepth 20000 in
theorem tv_969 : (Jvm.Cond.methodLink "OffThenOn$LogReader" (39 : Nat) ({ cls := "OffThenOn$LogReader", name := "readLine", desc := "(LOffThenOn$House;)Z" } : Jvm.MethodName)) ∈ sa_Ts := tv_m5 9 rfl rfl
set_option maxRecDepth 20000 in
theorem tv_971 : (Jvm.Cond.instanceMethod ({ cls := "OffThenOn$LogReader", name := "readLine", desc := "(LOffThenOn$House;)Z" } : Jvm.MethodName)) ∈ sa_Ts := tv_m5 11 rfl rfl
set_option maxRecDepth 20000 in
theorem tv_972 : (Jvm.Cond.code ({ cls := "OffThenOn$LogReader", name := "readLine", desc := "(LOffThenOn$House;)Z" } : Jvm.MethodName) prog_6_method_3_code (4 : Nat) (Option.some Jvm.ClassFile.FieldType.boolean)) ∈ sa_Ts := tv_m5 12 rfl rfl
set_option maxRecDepth 20000 in
theorem tv_973 : (Jvm.Cond.methodLink "OffThenOn$LogReader" (46 : Nat) ({ cls := "OffThenOn$Reader", name := "isName", desc := "()Z" } : Jvm.MethodName)) ∈ sa_Ts := tv_m5 13 rfl rfl
set_option maxRecDepth 20000 in
theorem tv_974 : (Jvm.Cond.methodLink "OffThenOn$LogReader" (54 : Nat) ({ cls := "OffThenOn$House", name := "findThing", desc := "(J)I" } : Jvm.MethodName)) ∈ sa_Ts := tv_m5 14 rfl rfl
set_option maxRecDepth 20000 in
theorem tv_975 : (Jvm.Cond.methodLink "OffThenOn$LogReader" (60 : Nat) ({ cls := "OffThenOn$Reader", name := "refuse", desc := "(I)Z" } : Jvm.MethodName)) ∈ sa_Ts := tv_m5 15 rfl rfl
set_option maxRecDepth 20000 in
theorem tv_976 : (Jvm.Cond.methodLink "OffThenOn$LogReader" (64 : Nat) ({ cls := "OffThenOn$LogReader", name := "readAct", desc := "(LOffThenOn$House;)Z" } : Jvm.MethodName)) ∈ sa_Ts := tv_m5 16 rfl rfl
set_option maxRecDepth 20000 in
theorem tv_978 : (Jvm.Cond.instanceMethod ({ cls := "OffThenOn$LogReader", name := "readAct", desc := "(LOffThenOn$House;)Z" } : Jvm.MethodName)) ∈ sa_Ts := tv_m5 18 rfl rfl
set_option maxRecDepth 20000 in
theorem tv_979 : (Jvm.Cond.code ({ cls := "OffThenOn$LogReader", name := "readAct", desc := "(LOffThenOn$House;)Z" } : Jvm.MethodName) prog_6_method_4_code (4 : Nat) (Option.some Jvm.ClassFile.FieldType.boolean)) ∈ sa_Ts := tv_m5 19 rfl rfl
set_option maxRecDepth 20000 in
theorem tv_980 : (Jvm.Cond.methodLink "OffThenOn$LogReader" (73 : Nat) ({ cls := "OffThenOn$Reader", name := "takeThing", desc := "(LOffThenOn$House;)I" } : Jvm.MethodName)) ∈ sa_Ts := tv_m5 20 rfl rfl
set_option maxRecDepth 20000 in
theorem tv_981 : (Jvm.Cond.methodLink "OffThenOn$LogReader" (77 : Nat) ({ cls := "OffThenOn$Reader", name := "step", desc := "()V" } : Jvm.MethodName)) ∈ sa_Ts := tv_m5 21 rfl rfl
set_option maxRecDepth 20000 in
theorem tv_982 : (Jvm.Cond.methodLink "OffThenOn$LogReader" (80 : Nat) ({ cls := "OffThenOn$Reader", name := "takeNumber", desc := "(II)I" } : Jvm.MethodName)) ∈ sa_Ts := tv_m5 22 rfl rfl
set_option maxRecDepth 20000 in
theorem tv_983 : (Jvm.Cond.methodLink "OffThenOn$LogReader" (84 : Nat) ({ cls := "OffThenOn$LogReader", name := "keepLine", desc := "(III)Z" } : Jvm.MethodName)) ∈ sa_Ts := tv_m5 23 rfl rfl
set_option maxRecDepth 20000 in
theorem tv_985 : (Jvm.Cond.instanceMethod ({ cls := "OffThenOn$LogReader", name := "keepLine", desc := "(III)Z" } : Jvm.MethodName)) ∈ sa_Ts := tv_m5 25 rfl rfl
set_option maxRecDepth 20000 in
theorem tv_986 : (Jvm.Cond.code ({ cls := "OffThenOn$LogReader", name := "keepLine", desc := "(III)Z" } : Jvm.MethodName) prog_6_method_6_code (4 : Nat) (Option.some Jvm.ClassFile.FieldType.boolean)) ∈ sa_Ts := tv_m5 26 rfl rfl
set_option maxRecDepth 20000 in
theorem tv_987 : (Jvm.Cond.methodLink "OffThenOn$LogReader" (67 : Nat) ({ cls := "OffThenOn$LogReader", name := "readEvent", desc := "(LOffThenOn$House;)Z" } : Jvm.MethodName)) ∈ sa_Ts := tv_m5 27 rfl rfl
set_option maxRecDepth 20000 in
theorem tv_989 : (Jvm.Cond.instanceMethod ({ cls := "OffThenOn$LogReader", name := "readEvent", desc := "(LOffThenOn$House;)Z" } : Jvm.MethodName)) ∈ sa_Ts := tv_m5 29 rfl rfl
set_option maxRecDepth 20000 in
theorem tv_990 : (Jvm.Cond.code ({ cls := "OffThenOn$LogReader", name := "readEvent", desc := "(LOffThenOn$House;)Z" } : Jvm.MethodName) prog_6_method_5_code (3 : Nat) (Option.some Jvm.ClassFile.FieldType.boolean)) ∈ sa_Ts := tv_m5 30 rfl rfl
set_option maxRecDepth 20000 in
theorem tv_991 : (Jvm.Cond.methodLink "OffThenOn$LogReader" (88 : Nat) ({ cls := "OffThenOn$Reader", name := "takeFault", desc := "(LOffThenOn$House;)I" } : Jvm.MethodName)) ∈ sa_Ts := tv_m5 31 rfl rfl
set_option maxRecDepth 20000 in
theorem tv_992 : (Jvm.Cond.methodLink "OffThenOn$LogReader" (70 : Nat) ({ cls := "OffThenOn$Reader", name := "takeSign", desc := "(I)Z" } : Jvm.MethodName)) ∈ sa_Ts := tv_m5 32 rfl rfl
set_option maxRecDepth 20000 in
theorem tv_993 : (Jvm.Cond.methodLink "OffThenOn" (374 : Nat) ({ cls := "OffThenOn$LogReader", name := "live", desc := "(LOffThenOn$House;LOffThenOn$State;)I" } : Jvm.MethodName)) ∈ sa_Ts := tv_m5 33 rfl rfl
set_option maxRecDepth 20000 in
theorem tv_994 : (Jvm.Cond.instanceMethod ({ cls := "OffThenOn$LogReader", name := "live", desc := "(LOffThenOn$House;LOffThenOn$State;)I" } : Jvm.MethodName)) ∈ sa_Ts := tv_m5 34 rfl rfl
set_option maxRecDepth 20000 in
theorem tv_995 : (Jvm.Cond.selects "OffThenOn$LogReader" ({ cls := "OffThenOn$LogReader", name := "live", desc := "(LOffThenOn$House;LOffThenOn$State;)I" } : Jvm.MethodName) ({ cls := "OffThenOn$LogReader", name := "live", desc := "(LOffThenOn$House;LOffThenOn$State;)I" } : Jvm.MethodName)) ∈ sa_Ts := tv_m5 35 rfl rfl
set_option maxRecDepth 20000 in
theorem tv_996 : (Jvm.Cond.code ({ cls := "OffThenOn$LogReader", name := "live", desc := "(LOffThenOn$House;LOffThenOn$State;)I" } : Jvm.MethodName) prog_6_method_7_code (4 : Nat) (Option.some Jvm.ClassFile.FieldType.int)) ∈ sa_Ts := tv_m5 36 rfl rfl
set_option maxRecDepth 20000 in
theorem tv_997 : (Jvm.Cond.methodLink "OffThenOn$LogReader" (94 : Nat) ({ cls := "OffThenOn$LogReader", name := "liveLine", desc := "(LOffThenOn$House;LOffThenOn$State;I)I" } : Jvm.MethodName)) ∈ sa_Ts := tv_m5 37 rfl rfl
set_option maxRecDepth 20000 in
theorem tv_999 : (Jvm.Cond.instanceMethod ({ cls := "OffThenOn$LogReader", name := "liveLine", desc := "(LOffThenOn$House;LOffThenOn$State;I)I" } : Jvm.MethodName)) ∈ sa_Ts := tv_m5 39 rfl rfl
set_option maxRecDepth 20000 in
theorem tv_1000 : (Jvm.Cond.code ({ cls := "OffThenOn$LogReader", name := "liveLine", desc := "(LOffThenOn$House;LOffThenOn$State;I)I" } : Jvm.MethodName) prog_6_method_8_code (4 : Nat) (Option.some Jvm.ClassFile.FieldType.int)) ∈ sa_Ts := tv_m5 40 rfl rfl
set_option maxRecDepth 20000 in
theorem tv_1001 : (Jvm.Cond.methodLink "OffThenOn$LogReader" (103 : Nat) ({ cls := "OffThenOn$State", name := "switchOff", desc := "(LOffThenOn$House;I)I" } : Jvm.MethodName)) ∈ sa_Ts := tv_m5 41 rfl rfl
set_option maxRecDepth 20000 in
theorem tv_1002 : (Jvm.Cond.methodLink "OffThenOn$LogReader" (107 : Nat) ({ cls := "OffThenOn$LogReader", name := "whyOf", desc := "(II)I" } : Jvm.MethodName)) ∈ sa_Ts := tv_m5 42 rfl rfl
set_option maxRecDepth 20000 in
theorem tv_1003 : (Jvm.Cond.static ({ cls := "OffThenOn$LogReader", name := "whyOf", desc := "(II)I" } : Jvm.MethodName)) ∈ sa_Ts := tv_m5 43 rfl rfl
set_option maxRecDepth 20000 in
theorem tv_1004 : (Jvm.Cond.code ({ cls := "OffThenOn$LogReader", name := "whyOf", desc := "(II)I" } : Jvm.MethodName) prog_6_method_9_code (2 : Nat) (Option.some Jvm.ClassFile.FieldType.int)) ∈ sa_Ts := tv_m5 44 rfl rfl
set_option maxRecDepth 20000 in
theorem tv_1005 : (Jvm.Cond.methodLink "OffThenOn$LogReader" (110 : Nat) ({ cls := "OffThenOn$State", name := "switchOn", desc := "(LOffThenOn$House;I)I" } : Jvm.MethodName)) ∈ sa_Ts := tv_m5 45 rfl rfl
set_option maxRecDepth 20000 in
theorem tv_1006 : (Jvm.Cond.methodLink "OffThenOn$LogReader" (113 : Nat) ({ cls := "OffThenOn$State", name := "pullCable", desc := "(LOffThenOn$House;I)I" } : Jvm.MethodName)) ∈ sa_Ts := tv_m5 46 rfl rfl
set_option maxRecDepth 20000 in
theorem tv_1007 : (Jvm.Cond.methodLink "OffThenOn$LogReader" (116 : Nat) ({ cls := "OffThenOn$State", name := "pushPin", desc := "(LOffThenOn$House;I)I" } : Jvm.MethodName)) ∈ sa_Ts := tv_m5 47 rfl rfl
set_option maxRecDepth 20000 in
theorem tv_1008 : (Jvm.Cond.methodLink "OffThenOn$LogReader" (119 : Nat) ({ cls := "OffThenOn$State", name := "letStrike", desc := "(I)I" } : Jvm.MethodName)) ∈ sa_Ts := tv_m5 48 rfl rfl
set_option maxRecDepth 20000 in
theorem tv_1009 : (Jvm.Cond.methodLink "OffThenOn$LogReader" (126 : Nat) ({ cls := "OffThenOn$State", name := "passMinutes", desc := "(LOffThenOn$House;I)I" } : Jvm.MethodName)) ∈ sa_Ts := tv_m5 49 rfl rfl
set_option maxRecDepth 20000 in
theorem tv_1018 : (Jvm.Cond.methodLink "OffThenOn" (385 : Nat) ({ cls := "OffThenOn$SentenceReader", name := "readSentence", desc := "(LOffThenOn$Bytes;LOffThenOn$House;)Z" } : Jvm.MethodName)) ∈ sa_Ts := tv_m5 58 rfl rfl
set_option maxRecDepth 20000 in
theorem tv_1019 : (Jvm.Cond.instanceMethod ({ cls := "OffThenOn$SentenceReader", name := "readSentence", desc := "(LOffThenOn$Bytes;LOffThenOn$House;)Z" } : Jvm.MethodName)) ∈ sa_Ts := tv_m5 59 rfl rfl
set_option maxRecDepth 20000 in
theorem tv_1020 : (Jvm.Cond.selects "OffThenOn$SentenceReader" ({ cls := "OffThenOn$SentenceReader", name := "readSentence", desc := "(LOffThenOn$Bytes;LOffThenOn$House;)Z" } : Jvm.MethodName) ({ cls := "OffThenOn$SentenceReader", name := "readSentence", desc := "(LOffThenOn$Bytes;LOffThenOn$House;)Z" } : Jvm.MethodName)) ∈ sa_Ts := tv_m5 60 rfl rfl
set_option maxRecDepth 20000 in
theorem tv_1021 : (Jvm.Cond.code ({ cls := "OffThenOn$SentenceReader", name := "readSentence", desc := "(LOffThenOn$Bytes;LOffThenOn$House;)Z" } : Jvm.MethodName) prog_10_method_2_code (3 : Nat) (Option.some Jvm.ClassFile.FieldType.boolean)) ∈ sa_Ts := tv_m5 61 rfl rfl
set_option maxRecDepth 20000 in
theorem tv_1022 : (Jvm.Cond.methodLink "OffThenOn$SentenceReader" (25 : Nat) ({ cls := "OffThenOn$Sentence", name := "clear", desc := "()V" } : Jvm.MethodName)) ∈ sa_Ts := tv_m5 62 rfl rfl
set_option maxRecDepth 20000 in
theorem tv_1023 : (Jvm.Cond.methodLink "OffThenOn$SentenceReader" (28 : Nat) ({ cls := "OffThenOn$Reader", name := "start", desc := "(LOffThenOn$Bytes;I)V" } : Jvm.MethodName)) ∈ sa_Ts := tv_m5 63 rfl rfl
set_option maxRecDepth 20000 in
theorem tv_1024 : (Jvm.Cond.methodLink "OffThenOn$SentenceReader" (32 : Nat) ({ cls := "OffThenOn$SentenceReader", name := "readCond", desc := "(LOffThenOn$House;I)Z" } : Jvm.MethodName)) ∈ sa_Ts := tv_m5 64 rfl rfl
set_option maxRecDepth 20000 in
theorem tv_1026 : (Jvm.Cond.instanceMethod ({ cls := "OffThenOn$SentenceReader", name := "readCond", desc := "(LOffThenOn$House;I)Z" } : Jvm.MethodName)) ∈ sa_Ts := tv_m5 66 rfl rfl
set_option maxRecDepth 20000 in
theorem tv_1027 : (Jvm.Cond.code ({ cls := "OffThenOn$SentenceReader", name := "readCond", desc := "(LOffThenOn$House;I)Z" } : Jvm.MethodName) prog_10_method_3_code (4 : Nat) (Option.some Jvm.ClassFile.FieldType.boolean)) ∈ sa_Ts := tv_m5 67 rfl rfl
set_option maxRecDepth 20000 in
theorem tv_1028 : (Jvm.Cond.methodLink "OffThenOn$SentenceReader" (44 : Nat) ({ cls := "OffThenOn$SentenceReader", name := "readAll", desc := "(LOffThenOn$House;I)Z" } : Jvm.MethodName)) ∈ sa_Ts := tv_m5 68 rfl rfl
set_option maxRecDepth 20000 in
theorem tv_1030 : (Jvm.Cond.instanceMethod ({ cls := "OffThenOn$SentenceReader", name := "readAll", desc := "(LOffThenOn$House;I)Z" } : Jvm.MethodName)) ∈ sa_Ts := tv_m5 70 rfl rfl
set_option maxRecDepth 20000 in
theorem tv_1031 : (Jvm.Cond.code ({ cls := "OffThenOn$SentenceReader", name := "readAll", desc := "(LOffThenOn$House;I)Z" } : Jvm.MethodName) prog_10_method_4_code (4 : Nat) (Option.some Jvm.ClassFile.FieldType.boolean)) ∈ sa_Ts := tv_m5 71 rfl rfl
set_option maxRecDepth 20000 in
theorem tv_1032 : (Jvm.Cond.methodLink "OffThenOn$SentenceReader" (57 : Nat) ({ cls := "OffThenOn$SentenceReader", name := "readOne", desc := "(LOffThenOn$House;I)Z" } : Jvm.MethodName)) ∈ sa_Ts := tv_m5 72 rfl rfl
set_option maxRecDepth 20000 in
theorem tv_1034 : (Jvm.Cond.instanceMethod ({ cls := "OffThenOn$SentenceReader", name := "readOne", desc := "(LOffThenOn$House;I)Z" } : Jvm.MethodName)) ∈ sa_Ts := tv_m5 74 rfl rfl
set_option maxRecDepth 20000 in
theorem tv_1035 : (Jvm.Cond.code ({ cls := "OffThenOn$SentenceReader", name := "readOne", desc := "(LOffThenOn$House;I)Z" } : Jvm.MethodName) prog_10_method_5_code (4 : Nat) (Option.some Jvm.ClassFile.FieldType.boolean)) ∈ sa_Ts := tv_m5 75 rfl rfl
set_option maxRecDepth 20000 in
theorem tv_1036 : (Jvm.Cond.methodLink "OffThenOn$SentenceReader" (60 : Nat) ({ cls := "OffThenOn$SentenceReader", name := "isOneHere", desc := "()Z" } : Jvm.MethodName)) ∈ sa_Ts := tv_m5 76 rfl rfl
set_option maxRecDepth 20000 in
theorem tv_1038 : (Jvm.Cond.instanceMethod ({ cls := "OffThenOn$SentenceReader", name := "isOneHere", desc := "()Z" } : Jvm.MethodName)) ∈ sa_Ts := tv_m5 78 rfl rfl
set_option maxRecDepth 20000 in
theorem tv_1039 : (Jvm.Cond.code ({ cls := "OffThenOn$SentenceReader", name := "isOneHere", desc := "()Z" } : Jvm.MethodName) prog_10_method_7_code (1 : Nat) (Option.some Jvm.ClassFile.FieldType.boolean)) ∈ sa_Ts := tv_m5 79 rfl rfl
set_option maxRecDepth 20000 in
theorem tv_1040 : (Jvm.Cond.methodLink "OffThenOn$SentenceReader" (86 : Nat) ({ cls := "OffThenOn$Reader", name := "isSignNow", desc := "(I)Z" } : Jvm.MethodName)) ∈ sa_Ts := tv_m5 80 rfl rfl
set_option maxRecDepth 20000 in
theorem tv_1041 : (Jvm.Cond.methodLink "OffThenOn$SentenceReader" (40 : Nat) ({ cls := "OffThenOn$Reader", name := "refuse", desc := "(I)Z" } : Jvm.MethodName)) ∈ sa_Ts := tv_m5 81 rfl rfl
set_option maxRecDepth 20000 in
theorem tv_1042 : (Jvm.Cond.methodLink "OffThenOn$SentenceReader" (50 : Nat) ({ cls := "OffThenOn$Reader", name := "step", desc := "()V" } : Jvm.MethodName)) ∈ sa_Ts := tv_m5 82 rfl rfl
set_option maxRecDepth 20000 in
theorem tv_1043 : (Jvm.Cond.methodLink "OffThenOn$SentenceReader" (67 : Nat) ({ cls := "OffThenOn$Reader", name := "takeSign", desc := "(I)Z" } : Jvm.MethodName)) ∈ sa_Ts := tv_m5 83 rfl rfl
set_option maxRecDepth 20000 in
theorem tv_1044 : (Jvm.Cond.methodLink "OffThenOn$SentenceReader" (70 : Nat) ({ cls := "OffThenOn$SentenceReader", name := "readNot", desc := "(LOffThenOn$House;I)Z" } : Jvm.MethodName)) ∈ sa_Ts := tv_m5 84 rfl rfl
set_option maxRecDepth 20000 in
theorem tv_1046 : (Jvm.Cond.instanceMethod ({ cls := "OffThenOn$SentenceReader", name := "readNot", desc := "(LOffThenOn$House;I)Z" } : Jvm.MethodName)) ∈ sa_Ts := tv_m5 86 rfl rfl
set_option maxRecDepth 20000 in
theorem tv_1047 : (Jvm.Cond.code ({ cls := "OffThenOn$SentenceReader", name := "readNot", desc := "(LOffThenOn$House;I)Z" } : Jvm.MethodName) prog_10_method_6_code (3 : Nat) (Option.some Jvm.ClassFile.FieldType.boolean)) ∈ sa_Ts := tv_m5 87 rfl rfl
set_option maxRecDepth 20000 in
theorem tv_1048 : (Jvm.Cond.methodLink "OffThenOn$SentenceReader" (53 : Nat) ({ cls := "OffThenOn$Sentence", name := "addStep", desc := "(III)Z" } : Jvm.MethodName)) ∈ sa_Ts := tv_m5 88 rfl rfl
set_option maxRecDepth 20000 in
theorem tv_1049 : (Jvm.Cond.instanceMethod ({ cls := "OffThenOn$Sentence", name := "addStep", desc := "(III)Z" } : Jvm.MethodName)) ∈ sa_Ts := tv_m5 89 rfl rfl
set_option maxRecDepth 20000 in
theorem tv_1050 : (Jvm.Cond.selects "OffThenOn$Sentence" ({ cls := "OffThenOn$Sentence", name := "addStep", desc := "(III)Z" } : Jvm.MethodName) ({ cls := "OffThenOn$Sentence", name := "addStep", desc := "(III)Z" } : Jvm.MethodName)) ∈ sa_Ts := tv_m5 90 rfl rfl
set_option maxRecDepth 20000 in
theorem tv_1051 : (Jvm.Cond.code ({ cls := "OffThenOn$Sentence", name := "addStep", desc := "(III)Z" } : Jvm.MethodName) prog_9_method_4_code (4 : Nat) (Option.some Jvm.ClassFile.FieldType.boolean)) ∈ sa_Ts := tv_m5 91 rfl rfl
set_option maxRecDepth 20000 in
theorem tv_1052 : (Jvm.Cond.methodLink "OffThenOn$SentenceReader" (73 : Nat) ({ cls := "OffThenOn$Reader", name := "takeFault", desc := "(LOffThenOn$House;)I" } : Jvm.MethodName)) ∈ sa_Ts := tv_m5 92 rfl rfl
set_option maxRecDepth 20000 in
theorem tv_1053 : (Jvm.Cond.methodLink "OffThenOn$SentenceReader" (77 : Nat) ({ cls := "OffThenOn$SentenceReader", name := "addNumbered", desc := "(III)Z" } : Jvm.MethodName)) ∈ sa_Ts := tv_m5 93 rfl rfl
set_option maxRecDepth 20000 in
theorem tv_1055 : (Jvm.Cond.instanceMethod ({ cls := "OffThenOn$SentenceReader", name := "addNumbered", desc := "(III)Z" } : Jvm.MethodName)) ∈ sa_Ts := tv_m5 95 rfl rfl
set_option maxRecDepth 20000 in
theorem tv_1056 : (Jvm.Cond.code ({ cls := "OffThenOn$SentenceReader", name := "addNumbered", desc := "(III)Z" } : Jvm.MethodName) prog_10_method_9_code (4 : Nat) (Option.some Jvm.ClassFile.FieldType.boolean)) ∈ sa_Ts := tv_m5 96 rfl rfl
set_option maxRecDepth 20000 in
theorem tv_1057 : (Jvm.Cond.methodLink "OffThenOn$SentenceReader" (80 : Nat) ({ cls := "OffThenOn$Reader", name := "takeThing", desc := "(LOffThenOn$House;)I" } : Jvm.MethodName)) ∈ sa_Ts := tv_m5 97 rfl rfl
set_option maxRecDepth 20000 in
theorem tv_1058 : (Jvm.Cond.methodLink "OffThenOn$SentenceReader" (83 : Nat) ({ cls := "OffThenOn$SentenceReader", name := "readCompared", desc := "(I)Z" } : Jvm.MethodName)) ∈ sa_Ts := tv_m5 98 rfl rfl
set_option maxRecDepth 20000 in
theorem tv_1060 : (Jvm.Cond.instanceMethod ({ cls := "OffThenOn$SentenceReader", name := "readCompared", desc := "(I)Z" } : Jvm.MethodName)) ∈ sa_Ts := tv_m5 100 rfl rfl
set_option maxRecDepth 20000 in
theorem tv_1061 : (Jvm.Cond.code ({ cls := "OffThenOn$SentenceReader", name := "readCompared", desc := "(I)Z" } : Jvm.MethodName) prog_10_method_8_code (3 : Nat) (Option.some Jvm.ClassFile.FieldType.boolean)) ∈ sa_Ts := tv_m5 101 rfl rfl
set_option maxRecDepth 20000 in
theorem tv_1062 : (Jvm.Cond.methodLink "OffThenOn$SentenceReader" (92 : Nat) ({ cls := "OffThenOn$Reader", name := "takeNumber", desc := "(II)I" } : Jvm.MethodName)) ∈ sa_Ts := tv_m5 102 rfl rfl
set_option maxRecDepth 20000 in
theorem tv_1063 : (Jvm.Cond.methodLink "OffThenOn" (391 : Nat) ({ cls := "OffThenOn$Sentence", name := "copyFrom", desc := "(LOffThenOn$Sentence;)V" } : Jvm.MethodName)) ∈ sa_Ts := tv_m5 103 rfl rfl
set_option maxRecDepth 20000 in
theorem tv_1064 : (Jvm.Cond.instanceMethod ({ cls := "OffThenOn$Sentence", name := "copyFrom", desc := "(LOffThenOn$Sentence;)V" } : Jvm.MethodName)) ∈ sa_Ts := tv_m5 104 rfl rfl
set_option maxRecDepth 20000 in
theorem tv_1065 : (Jvm.Cond.selects "OffThenOn$Sentence" ({ cls := "OffThenOn$Sentence", name := "copyFrom", desc := "(LOffThenOn$Sentence;)V" } : Jvm.MethodName) ({ cls := "OffThenOn$Sentence", name := "copyFrom", desc := "(LOffThenOn$Sentence;)V" } : Jvm.MethodName)) ∈ sa_Ts := tv_m5 105 rfl rfl
set_option maxRecDepth 20000 in
theorem tv_1066 : (Jvm.Cond.code ({ cls := "OffThenOn$Sentence", name := "copyFrom", desc := "(LOffThenOn$Sentence;)V" } : Jvm.MethodName) prog_9_method_3_code (2 : Nat) (Option.none : Option Jvm.ClassFile.FieldType)) ∈ sa_Ts := tv_m5 106 rfl rfl
set_option maxRecDepth 20000 in
theorem tv_1067 : (Jvm.Cond.methodLink "OffThenOn$Sentence" (31 : Nat) ({ cls := "java/lang/System", name := "arraycopy", desc := "(Ljava/lang/Object;ILjava/lang/Object;II)V" } : Jvm.MethodName)) ∈ sa_Ts := tv_m5 107 rfl rfl
set_option maxRecDepth 20000 in
theorem tv_1072 : (Jvm.Cond.methodLink "OffThenOn" (397 : Nat) ({ cls := "OffThenOn$Sentence", name := "thingsOf", desc := "(LOffThenOn$House;LOffThenOn$State;)I" } : Jvm.MethodName)) ∈ sa_Ts := tv_m5 112 rfl rfl
set_option maxRecDepth 20000 in
theorem tv_1073 : (Jvm.Cond.instanceMethod ({ cls := "OffThenOn$Sentence", name := "thingsOf", desc := "(LOffThenOn$House;LOffThenOn$State;)I" } : Jvm.MethodName)) ∈ sa_Ts := tv_m5 113 rfl rfl
set_option maxRecDepth 20000 in
theorem tv_1074 : (Jvm.Cond.selects "OffThenOn$Sentence" ({ cls := "OffThenOn$Sentence", name := "thingsOf", desc := "(LOffThenOn$House;LOffThenOn$State;)I" } : Jvm.MethodName) ({ cls := "OffThenOn$Sentence", name := "thingsOf", desc := "(LOffThenOn$House;LOffThenOn$State;)I" } : Jvm.MethodName)) ∈ sa_Ts := tv_m5 114 rfl rfl
set_option maxRecDepth 20000 in
theorem tv_1075 : (Jvm.Cond.code ({ cls := "OffThenOn$Sentence", name := "thingsOf", desc := "(LOffThenOn$House;LOffThenOn$State;)I" } : Jvm.MethodName) prog_9_method_5_code (6 : Nat) (Option.some Jvm.ClassFile.FieldType.int)) ∈ sa_Ts := tv_m5 115 rfl rfl
set_option maxRecDepth 20000 in
theorem tv_1076 : (Jvm.Cond.methodLink "OffThenOn$Sentence" (42 : Nat) ({ cls := "OffThenOn$Sentence", name := "thingsOfStep", desc := "(LOffThenOn$House;LOffThenOn$State;I)I" } : Jvm.MethodName)) ∈ sa_Ts := tv_m5 116 rfl rfl
set_option maxRecDepth 20000 in
theorem tv_1078 : (Jvm.Cond.instanceMethod ({ cls := "OffThenOn$Sentence", name := "thingsOfStep", desc := "(LOffThenOn$House;LOffThenOn$State;I)I" } : Jvm.MethodName)) ∈ sa_Ts := tv_m5 118 rfl rfl
set_option maxRecDepth 20000 in
theorem tv_1079 : (Jvm.Cond.code ({ cls := "OffThenOn$Sentence", name := "thingsOfStep", desc := "(LOffThenOn$House;LOffThenOn$State;I)I" } : Jvm.MethodName) prog_9_method_6_code (5 : Nat) (Option.some Jvm.ClassFile.FieldType.int)) ∈ sa_Ts := tv_m5 119 rfl rfl
set_option maxRecDepth 20000 in
theorem tv_1080 : (Jvm.Cond.methodLink "OffThenOn$Sentence" (46 : Nat) ({ cls := "OffThenOn$State", name := "working", desc := "(LOffThenOn$House;)I" } : Jvm.MethodName)) ∈ sa_Ts := tv_m5 120 rfl rfl
set_option maxRecDepth 20000 in
theorem tv_1081 : (Jvm.Cond.methodLink "OffThenOn$Sentence" (52 : Nat) ({ cls := "OffThenOn$State", name := "thingsIn", desc := "(LOffThenOn$House;I)I" } : Jvm.MethodName)) ∈ sa_Ts := tv_m5 121 rfl rfl
set_option maxRecDepth 20000 in
theorem tv_1083 : (Jvm.Cond.methodLink "OffThenOn$Sentence" (69 : Nat) ({ cls := "OffThenOn$Sentence", name := "thingsCompared", desc := "(LOffThenOn$House;LOffThenOn$State;I)I" } : Jvm.MethodName)) ∈ sa_Ts := tv_m5 123 rfl rfl
set_option maxRecDepth 20000 in
theorem tv_1085 : (Jvm.Cond.instanceMethod ({ cls := "OffThenOn$Sentence", name := "thingsCompared", desc := "(LOffThenOn$House;LOffThenOn$State;I)I" } : Jvm.MethodName)) ∈ sa_Ts := tv_m5 125 rfl rfl
set_option maxRecDepth 20000 in
theorem tv_1086 : (Jvm.Cond.code ({ cls := "OffThenOn$Sentence", name := "thingsCompared", desc := "(LOffThenOn$House;LOffThenOn$State;I)I" } : Jvm.MethodName) prog_9_method_7_code (6 : Nat) (Option.some Jvm.ClassFile.FieldType.int)) ∈ sa_Ts := tv_m5 126 rfl rfl
set_option maxRecDepth 20000 in
theorem tv_1087 : (Jvm.Cond.methodLink "OffThenOn$Sentence" (72 : Nat) ({ cls := "OffThenOn$Sentence", name := "valueOf", desc := "(LOffThenOn$House;LOffThenOn$State;II)I" } : Jvm.MethodName)) ∈ sa_Ts := tv_m5 127 rfl rfl
set_option maxRecDepth 20000 in
theorem tv_1089 : (Jvm.Cond.instanceMethod ({ cls := "OffThenOn$Sentence", name := "valueOf", desc := "(LOffThenOn$House;LOffThenOn$State;II)I" } : Jvm.MethodName)) ∈ sa_Ts := tv_m5 129 rfl rfl
set_option maxRecDepth 20000 in
theorem tv_1090 : (Jvm.Cond.code ({ cls := "OffThenOn$Sentence", name := "valueOf", desc := "(LOffThenOn$House;LOffThenOn$State;II)I" } : Jvm.MethodName) prog_9_method_8_code (5 : Nat) (Option.some Jvm.ClassFile.FieldType.int)) ∈ sa_Ts := tv_m5 130 rfl rfl
set_option maxRecDepth 20000 in
theorem tv_1091 : (Jvm.Cond.methodLink "OffThenOn$Sentence" (80 : Nat) ({ cls := "OffThenOn$State", name := "lampOf", desc := "(LOffThenOn$House;II)I" } : Jvm.MethodName)) ∈ sa_Ts := tv_m5 131 rfl rfl
set_option maxRecDepth 20000 in
theorem tv_1092 : (Jvm.Cond.methodLink "OffThenOn$Sentence" (76 : Nat) ({ cls := "OffThenOn$Sentence", name := "holds", desc := "(III)Z" } : Jvm.MethodName)) ∈ sa_Ts := tv_m5 132 rfl rfl
set_option maxRecDepth 20000 in
theorem tv_1093 : (Jvm.Cond.static ({ cls := "OffThenOn$Sentence", name := "holds", desc := "(III)Z" } : Jvm.MethodName)) ∈ sa_Ts := tv_m5 133 rfl rfl
set_option maxRecDepth 20000 in
theorem tv_1094 : (Jvm.Cond.code ({ cls := "OffThenOn$Sentence", name := "holds", desc := "(III)Z" } : Jvm.MethodName) prog_9_method_9_code (3 : Nat) (Option.some Jvm.ClassFile.FieldType.boolean)) ∈ sa_Ts := tv_m5 134 rfl rfl
set_option maxRecDepth 20000 in
theorem tv_1095 : (Jvm.Cond.methodLink "OffThenOn" (400 : Nat) ({ cls := "java/lang/Integer", name := "bitCount", desc := "(I)I" } : Jvm.MethodName)) ∈ sa_Ts := tv_m5 135 rfl rfl
set_option maxRecDepth 20000 in
theorem tv_1100 : (Jvm.Cond.methodLink "OffThenOn" (405 : Nat) ({ cls := "OffThenOn$World", name := "copyFrom", desc := "(LOffThenOn$World;)V" } : Jvm.MethodName)) ∈ sa_Ts := tv_m5 140 rfl rfl
set_option maxRecDepth 20000 in
theorem tv_1101 : (Jvm.Cond.instanceMethod ({ cls := "OffThenOn$World", name := "copyFrom", desc := "(LOffThenOn$World;)V" } : Jvm.MethodName)) ∈ sa_Ts := tv_m5 141 rfl rfl
set_option maxRecDepth 20000 in
theorem tv_1102 : (Jvm.Cond.selects "OffThenOn$World" ({ cls := "OffThenOn$World", name := "copyFrom", desc := "(LOffThenOn$World;)V" } : Jvm.MethodName) ({ cls := "OffThenOn$World", name := "copyFrom", desc := "(LOffThenOn$World;)V" } : Jvm.MethodName)) ∈ sa_Ts := tv_m5 142 rfl rfl
set_option maxRecDepth 20000 in
theorem tv_1103 : (Jvm.Cond.code ({ cls := "OffThenOn$World", name := "copyFrom", desc := "(LOffThenOn$World;)V" } : Jvm.MethodName) prog_12_method_2_code (2 : Nat) (Option.none : Option Jvm.ClassFile.FieldType)) ∈ sa_Ts := tv_m5 143 rfl rfl
set_option maxRecDepth 20000 in
theorem tv_1104 : (Jvm.Cond.methodLink "OffThenOn$World" (30 : Nat) ({ cls := "OffThenOn$House", name := "copyFrom", desc := "(LOffThenOn$House;)V" } : Jvm.MethodName)) ∈ sa_Ts := tv_m5 144 rfl rfl
set_option maxRecDepth 20000 in
theorem tv_1105 : (Jvm.Cond.methodLink "OffThenOn$World" (34 : Nat) ({ cls := "OffThenOn$State", name := "copyFrom", desc := "(LOffThenOn$State;)V" } : Jvm.MethodName)) ∈ sa_Ts := tv_m5 145 rfl rfl
set_option maxRecDepth 20000 in
theorem tv_1106 : (Jvm.Cond.methodLink "OffThenOn$World" (37 : Nat) ({ cls := "OffThenOn$Sentence", name := "copyFrom", desc := "(LOffThenOn$Sentence;)V" } : Jvm.MethodName)) ∈ sa_Ts := tv_m5 146 rfl rfl
set_option maxRecDepth 20000 in
theorem tv_1123 : (Jvm.Cond.classLink "OffThenOn" (150 : Nat) "java/util/NoSuchElementException") ∈ sa_Ts := tv_m5 163 rfl rfl
set_option maxRecDepth 20000 in
theorem tv_1198 : (Jvm.Cond.methodLink "OffThenOn" (281 : Nat) ({ cls := "OffThenOn", name := "leastTerm", desc := "(III)I" } : Jvm.MethodName)) ∈ sa_Ts := tv_m5 238 rfl rfl
set_option maxRecDepth 20000 in
theorem tv_1199 : (Jvm.Cond.static ({ cls := "OffThenOn", name := "leastTerm", desc := "(III)I" } : Jvm.MethodName)) ∈ sa_Ts := tv_m5 239 rfl rfl
set_option maxRecDepth 20000 in
theorem tv_1200 : (Jvm.Cond.code ({ cls := "OffThenOn", name := "leastTerm", desc := "(III)I" } : Jvm.MethodName) prog_1_method_54_code (7 : Nat) (Option.some Jvm.ClassFile.FieldType.int)) ∈ sa_Ts := tv_m6 0 rfl rfl
set_option maxRecDepth 20000 in
theorem tv_1201 : (Jvm.Cond.constant "OffThenOn" (423 : Nat) (1000000 : Int32)) ∈ sa_Ts := tv_m6 1 rfl rfl
set_option maxRecDepth 20000 in
theorem tv_1209 : (Jvm.Cond.methodLink "OffThenOn" (288 : Nat) ({ cls := "OffThenOn$Planner", name := "makePlan", desc := "(LOffThenOn$House;II)V" } : Jvm.MethodName)) ∈ sa_Ts := tv_m6 9 rfl rfl
set_option maxRecDepth 20000 in
theorem tv_1210 : (Jvm.Cond.instanceMethod ({ cls := "OffThenOn$Planner", name := "makePlan", desc := "(LOffThenOn$House;II)V" } : Jvm.MethodName)) ∈ sa_Ts := tv_m6 10 rfl rfl
set_option maxRecDepth 20000 in
theorem tv_1211 : (Jvm.Cond.selects "OffThenOn$Planner" ({ cls := "OffThenOn$Planner", name := "makePlan", desc := "(LOffThenOn$House;II)V" } : Jvm.MethodName) ({ cls := "OffThenOn$Planner", name := "makePlan", desc := "(LOffThenOn$House;II)V" } : Jvm.MethodName)) ∈ sa_Ts := tv_m6 11 rfl rfl
set_option maxRecDepth 20000 in
theorem tv_1212 : (Jvm.Cond.code ({ cls := "OffThenOn$Planner", name := "makePlan", desc := "(LOffThenOn$House;II)V" } : Jvm.MethodName) prog_7_method_2_code (5 : Nat) (Option.none : Option Jvm.ClassFile.FieldType)) ∈ sa_Ts := tv_m6 12 rfl rfl
set_option maxRecDepth 20000 in
theorem tv_1214 : (Jvm.Cond.methodLink "OffThenOn$Planner" (39 : Nat) ({ cls := "OffThenOn$Planner", name := "weightBehind", desc := "(I)I" } : Jvm.MethodName)) ∈ sa_Ts := tv_m6 14 rfl rfl
set_option maxRecDepth 20000 in
theorem tv_1216 : (Jvm.Cond.instanceMethod ({ cls := "OffThenOn$Planner", name := "weightBehind", desc := "(I)I" } : Jvm.MethodName)) ∈ sa_Ts := tv_m6 16 rfl rfl
set_option maxRecDepth 20000 in
theorem tv_1217 : (Jvm.Cond.code ({ cls := "OffThenOn$Planner", name := "weightBehind", desc := "(I)I" } : Jvm.MethodName) prog_7_method_5_code (4 : Nat) (Option.some Jvm.ClassFile.FieldType.int)) ∈ sa_Ts := tv_m6 17 rfl rfl
set_option maxRecDepth 20000 in
theorem tv_1218 : (Jvm.Cond.methodLink "OffThenOn$Planner" (50 : Nat) ({ cls := "OffThenOn$Planner", name := "tryRows", desc := "(LOffThenOn$House;III)V" } : Jvm.MethodName)) ∈ sa_Ts := tv_m6 18 rfl rfl
set_option maxRecDepth 20000 in
theorem tv_1220 : (Jvm.Cond.instanceMethod ({ cls := "OffThenOn$Planner", name := "tryRows", desc := "(LOffThenOn$House;III)V" } : Jvm.MethodName)) ∈ sa_Ts := tv_m6 20 rfl rfl
set_option maxRecDepth 20000 in
theorem tv_1221 : (Jvm.Cond.code ({ cls := "OffThenOn$Planner", name := "tryRows", desc := "(LOffThenOn$House;III)V" } : Jvm.MethodName) prog_7_method_3_code (7 : Nat) (Option.none : Option Jvm.ClassFile.FieldType)) ∈ sa_Ts := tv_m6 21 rfl rfl
set_option maxRecDepth 20000 in
theorem tv_1222 : (Jvm.Cond.methodLink "OffThenOn$Planner" (54 : Nat) ({ cls := "OffThenOn$Planner", name := "keepBetter", desc := "(II)V" } : Jvm.MethodName)) ∈ sa_Ts := tv_m6 22 rfl rfl
set_option maxRecDepth 20000 in
theorem tv_1224 : (Jvm.Cond.instanceMethod ({ cls := "OffThenOn$Planner", name := "keepBetter", desc := "(II)V" } : Jvm.MethodName)) ∈ sa_Ts := tv_m6 24 rfl rfl
set_option maxRecDepth 20000 in
theorem tv_1225 : (Jvm.Cond.code ({ cls := "OffThenOn$Planner", name := "keepBetter", desc := "(II)V" } : Jvm.MethodName) prog_7_method_7_code (3 : Nat) (Option.none : Option Jvm.ClassFile.FieldType)) ∈ sa_Ts := tv_m6 25 rfl rfl
set_option maxRecDepth 20000 in
theorem tv_1226 : (Jvm.Cond.methodLink "OffThenOn$Planner" (72 : Nat) ({ cls := "java/lang/System", name := "arraycopy", desc := "(Ljava/lang/Object;ILjava/lang/Object;II)V" } : Jvm.MethodName)) ∈ sa_Ts := tv_m6 26 rfl rfl
set_option maxRecDepth 20000 in
theorem tv_1227 : (Jvm.Cond.methodLink "OffThenOn$Planner" (58 : Nat) ({ cls := "OffThenOn$Planner", name := "tryDeed", desc := "(LOffThenOn$House;IIII)V" } : Jvm.MethodName)) ∈ sa_Ts := tv_m6 27 rfl rfl
set_option maxRecDepth 20000 in
theorem tv_1229 : (Jvm.Cond.instanceMethod ({ cls := "OffThenOn$Planner", name := "tryDeed", desc := "(LOffThenOn$House;IIII)V" } : Jvm.MethodName)) ∈ sa_Ts := tv_m6 29 rfl rfl
set_option maxRecDepth 20000 in
theorem tv_1230 : (Jvm.Cond.code ({ cls := "OffThenOn$Planner", name := "tryDeed", desc := "(LOffThenOn$House;IIII)V" } : Jvm.MethodName) prog_7_method_4_code (6 : Nat) (Option.none : Option Jvm.ClassFile.FieldType)) ∈ sa_Ts := tv_m6 30 rfl rfl
set_option maxRecDepth 20000 in
theorem tv_1231 : (Jvm.Cond.methodLink "OffThenOn$Planner" (62 : Nat) ({ cls := "OffThenOn$Planner", name := "weighDeed", desc := "(LOffThenOn$House;II)V" } : Jvm.MethodName)) ∈ sa_Ts := tv_m6 31 rfl rfl
set_option maxRecDepth 20000 in
theorem tv_1233 : (Jvm.Cond.instanceMethod ({ cls := "OffThenOn$Planner", name := "weighDeed", desc := "(LOffThenOn$House;II)V" } : Jvm.MethodName)) ∈ sa_Ts := tv_m6 33 rfl rfl
set_option maxRecDepth 20000 in
theorem tv_1234 : (Jvm.Cond.code ({ cls := "OffThenOn$Planner", name := "weighDeed", desc := "(LOffThenOn$House;II)V" } : Jvm.MethodName) prog_7_method_6_code (6 : Nat) (Option.none : Option Jvm.ClassFile.FieldType)) ∈ sa_Ts := tv_m6 34 rfl rfl
set_option maxRecDepth 20000 in
theorem tv_1235 : (Jvm.Cond.methodLink "OffThenOn$Planner" (66 : Nat) ({ cls := "OffThenOn$House", name := "cureOf", desc := "(II)I" } : Jvm.MethodName)) ∈ sa_Ts := tv_m6 35 rfl rfl
set_option maxRecDepth 20000 in
theorem tv_1243 : (Jvm.Cond.methodLink "OffThenOn" (307 : Nat) ({ cls := "OffThenOn", name := "eveningsWithDeed", desc := "()I" } : Jvm.MethodName)) ∈ sa_Ts := tv_m6 43 rfl rfl
set_option maxRecDepth 20000 in
theorem tv_1245 : (Jvm.Cond.instanceMethod ({ cls := "OffThenOn", name := "eveningsWithDeed", desc := "()I" } : Jvm.MethodName)) ∈ sa_Ts := tv_m6 45 rfl rfl
set_option maxRecDepth 20000 in
theorem tv_1246 : (Jvm.Cond.code ({ cls := "OffThenOn", name := "eveningsWithDeed", desc := "()I" } : Jvm.MethodName) prog_1_method_48_code (4 : Nat) (Option.some Jvm.ClassFile.FieldType.int)) ∈ sa_Ts := tv_m6 46 rfl rfl
set_option maxRecDepth 20000 in
theorem tv_1247 : (Jvm.Cond.methodLink "OffThenOn" (310 : Nat) ({ cls := "OffThenOn", name := "countWays", desc := "(II)I" } : Jvm.MethodName)) ∈ sa_Ts := tv_m6 47 rfl rfl
set_option maxRecDepth 20000 in
theorem tv_1249 : (Jvm.Cond.instanceMethod ({ cls := "OffThenOn", name := "countWays", desc := "(II)I" } : Jvm.MethodName)) ∈ sa_Ts := tv_m6 49 rfl rfl
set_option maxRecDepth 20000 in
theorem tv_1250 : (Jvm.Cond.code ({ cls := "OffThenOn", name := "countWays", desc := "(II)I" } : Jvm.MethodName) prog_1_method_49_code (7 : Nat) (Option.some Jvm.ClassFile.FieldType.int)) ∈ sa_Ts := tv_m6 50 rfl rfl
set_option maxRecDepth 20000 in
theorem tv_1251 : (Jvm.Cond.methodLink "OffThenOn" (420 : Nat) ({ cls := "OffThenOn", name := "minutesOfWay", desc := "(II)I" } : Jvm.MethodName)) ∈ sa_Ts := tv_m6 51 rfl rfl
set_option maxRecDepth 20000 in
theorem tv_1253 : (Jvm.Cond.instanceMethod ({ cls := "OffThenOn", name := "minutesOfWay", desc := "(II)I" } : Jvm.MethodName)) ∈ sa_Ts := tv_m6 53 rfl rfl
set_option maxRecDepth 20000 in
theorem tv_1254 : (Jvm.Cond.code ({ cls := "OffThenOn", name := "minutesOfWay", desc := "(II)I" } : Jvm.MethodName) prog_1_method_50_code (5 : Nat) (Option.some Jvm.ClassFile.FieldType.int)) ∈ sa_Ts := tv_m6 54 rfl rfl
set_option maxRecDepth 20000 in
theorem tv_1261 : (Jvm.Cond.fieldLink "OffThenOnModel" (73 : Nat) "OffThenOnModel" "thrown" "I") ∈ sa_Ts := tv_m6 61 rfl rfl
set_option maxRecDepth 20000 in
theorem tv_1262 : (Jvm.Cond.fieldLink "OffThenOnModel" (7 : Nat) "OffThenOnModel" "tape" "[I") ∈ sa_Ts := tv_m6 62 rfl rfl
set_option maxRecDepth 20000 in
theorem tv_1263 : (Jvm.Cond.fieldLink "OffThenOnModel" (76 : Nat) "OffThenOnModel" "taped" "I") ∈ sa_Ts := tv_m6 63 rfl rfl
set_option maxRecDepth 20000 in
theorem tv_1264 : (Jvm.Cond.fieldLink "OffThenOnModel" (83 : Nat) "OffThenOnModel" "size" "I") ∈ sa_Ts := tv_m6 64 rfl rfl
set_option maxRecDepth 20000 in
theorem tv_1265 : (Jvm.Cond.fieldLink "OffThenOnModel" (92 : Nat) "OffThenOnModel" "limit" "I") ∈ sa_Ts := tv_m6 65 rfl rfl
set_option maxRecDepth 20000 in
theorem tv_1266 : (Jvm.Cond.fieldLink "OffThenOnModel" (86 : Nat) "OffThenOnModel" "to" "I") ∈ sa_Ts := tv_m6 66 rfl rfl
set_option maxRecDepth 20000 in
theorem tv_1267 : (Jvm.Cond.fieldLink "OffThenOnModel" (89 : Nat) "OffThenOnModel" "from" "I") ∈ sa_Ts := tv_m6 67 rfl rfl
set_option maxRecDepth 20000 in
theorem tv_1268 : (Jvm.Cond.fieldLink "OffThenOnModel" (95 : Nat) "OffThenOnModel" "kind" "I") ∈ sa_Ts := tv_m6 68 rfl rfl
set_option maxRecDepth 20000 in
theorem tv_1269 : (Jvm.Cond.fieldLink "OffThenOnModel" (112 : Nat) "OffThenOnModel" "number" "I") ∈ sa_Ts := tv_m6 69 rfl rfl
set_option maxRecDepth 20000 in
theorem tv_1270 : (Jvm.Cond.fieldLink "OffThenOnModel" (105 : Nat) "OffThenOnModel" "sign" "I") ∈ sa_Ts := tv_m6 70 rfl rfl
set_option maxRecDepth 20000 in
theorem tv_1271 : (Jvm.Cond.fieldLink "OffThenOnModel" (131 : Nat) "OffThenOnModel" "fault" "I") ∈ sa_Ts := tv_m6 71 rfl rfl
set_option maxRecDepth 20000 in
theorem tv_1272 : (Jvm.Cond.fieldLink "OffThenOnModel" (134 : Nat) "OffThenOnModel" "place" "I") ∈ sa_Ts := tv_m6 72 rfl rfl
set_option maxRecDepth 20000 in
theorem tv_1273 : (Jvm.Cond.fieldLink "OffThenOnModel" (108 : Nat) "OffThenOnModel" "word" "J") ∈ sa_Ts := tv_m6 73 rfl rfl
set_option maxRecDepth 20000 in
theorem tv_1274 : (Jvm.Cond.fieldLink "OffThenOnModel" (144 : Nat) "OffThenOnModel" "told" "I") ∈ sa_Ts := tv_m6 74 rfl rfl
set_option maxRecDepth 20000 in
theorem tv_1275 : (Jvm.Cond.fieldLink "OffThenOnModel" (13 : Nat) "OffThenOnModel" "now" "[I") ∈ sa_Ts := tv_m6 75 rfl rfl
set_option maxRecDepth 20000 in
theorem tv_1276 : (Jvm.Cond.fieldLink "OffThenOnModel" (16 : Nat) "OffThenOnModel" "read" "[I") ∈ sa_Ts := tv_m6 76 rfl rfl
set_option maxRecDepth 20000 in
theorem tv_1277 : (Jvm.Cond.fieldLink "OffThenOnModel" (19 : Nat) "OffThenOnModel" "kept" "[I") ∈ sa_Ts := tv_m6 77 rfl rfl
set_option maxRecDepth 20000 in
theorem tv_1278 : (Jvm.Cond.fieldLink "OffThenOnModel" (22 : Nat) "OffThenOnModel" "snaps" "[I") ∈ sa_Ts := tv_m6 78 rfl rfl
set_option maxRecDepth 20000 in
theorem tv_1279 : (Jvm.Cond.fieldLink "OffThenOnModel" (25 : Nat) "OffThenOnModel" "aside" "[I") ∈ sa_Ts := tv_m6 79 rfl rfl
set_option maxRecDepth 20000 in
theorem tv_1280 : (Jvm.Cond.fieldLink "OffThenOnModel" (28 : Nat) "OffThenOnModel" "name" "[J") ∈ sa_Ts := tv_m6 80 rfl rfl
set_option maxRecDepth 20000 in
theorem tv_1281 : (Jvm.Cond.fieldLink "OffThenOnModel" (32 : Nat) "OffThenOnModel" "readName" "[J") ∈ sa_Ts := tv_m6 81 rfl rfl
set_option maxRecDepth 20000 in
theorem tv_1282 : (Jvm.Cond.fieldLink "OffThenOnModel" (35 : Nat) "OffThenOnModel" "keptName" "[J") ∈ sa_Ts := tv_m6 82 rfl rfl
set_option maxRecDepth 20000 in
theorem tv_1283 : (Jvm.Cond.fieldLink "OffThenOnModel" (38 : Nat) "OffThenOnModel" "isKept" "[Z") ∈ sa_Ts := tv_m6 83 rfl rfl
set_option maxRecDepth 20000 in
theorem tv_1284 : (Jvm.Cond.fieldLink "OffThenOnModel" (206 : Nat) "OffThenOnModel" "snapMany" "I") ∈ sa_Ts := tv_m6 84 rfl rfl
set_option maxRecDepth 20000 in
theorem tv_1285 : (Jvm.Cond.fieldLink "OffThenOnModel" (236 : Nat) "OffThenOnModel" "seed" "I") ∈ sa_Ts := tv_m6 85 rfl rfl
set_option maxRecDepth 20000 in
theorem tv_1286 : (Jvm.Cond.fieldLink "OffThenOnModel" (285 : Nat) "OffThenOnModel" "likely" "I") ∈ sa_Ts := tv_m6 86 rfl rfl
set_option maxRecDepth 20000 in
theorem tv_1287 : (Jvm.Cond.fieldLink "OffThenOnModel" (42 : Nat) "OffThenOnModel" "likelyOdds" "[I") ∈ sa_Ts := tv_m6 87 rfl rfl
set_option maxRecDepth 20000 in
theorem tv_1288 : (Jvm.Cond.fieldLink "OffThenOnModel" (45 : Nat) "OffThenOnModel" "weight" "[I") ∈ sa_Ts := tv_m6 88 rfl rfl
set_option maxRecDepth 20000 in
theorem tv_1289 : (Jvm.Cond.fieldLink "OffThenOnModel" (48 : Nat) "OffThenOnModel" "trying" "[I") ∈ sa_Ts := tv_m6 89 rfl rfl
set_option maxRecDepth 20000 in
theorem tv_1290 : (Jvm.Cond.fieldLink "OffThenOnModel" (51 : Nat) "OffThenOnModel" "planned" "[I") ∈ sa_Ts := tv_m6 90 rfl rfl
set_option maxRecDepth 20000 in
theorem tv_1291 : (Jvm.Cond.fieldLink "OffThenOnModel" (297 : Nat) "OffThenOnModel" "planLong" "I") ∈ sa_Ts := tv_m6 91 rfl rfl
set_option maxRecDepth 20000 in
theorem tv_1292 : (Jvm.Cond.fieldLink "OffThenOnModel" (294 : Nat) "OffThenOnModel" "planCost" "I") ∈ sa_Ts := tv_m6 92 rfl rfl
set_option maxRecDepth 20000 in
theorem tv_1293 : (Jvm.Cond.fieldLink "OffThenOnModel" (54 : Nat) "OffThenOnModel" "lots" "I") ∈ sa_Ts := tv_m6 93 rfl rfl
set_option maxRecDepth 20000 in
theorem tv_1294 : (Jvm.Cond.fieldLink "OffThenOnModel" (58 : Nat) "OffThenOnModel" "left" "I") ∈ sa_Ts := tv_m6 94 rfl rfl
set_option maxRecDepth 20000 in
theorem tv_1295 : (Jvm.Cond.fieldLink "OffThenOnModel" (61 : Nat) "OffThenOnModel" "text" "[I") ∈ sa_Ts := tv_m6 95 rfl rfl
set_option maxRecDepth 20000 in
theorem tv_1296 : (Jvm.Cond.fieldLink "OffThenOnModel" (335 : Nat) "OffThenOnModel" "texts" "I") ∈ sa_Ts := tv_m6 96 rfl rfl
set_option maxRecDepth 20000 in
theorem tv_1297 : (Jvm.Cond.fieldLink "OffThenOnModel" (64 : Nat) "OffThenOnModel" "line" "[I") ∈ sa_Ts := tv_m6 97 rfl rfl
set_option maxRecDepth 20000 in
theorem tv_1298 : (Jvm.Cond.fieldLink "OffThenOnModel" (67 : Nat) "OffThenOnModel" "logged" "[I") ∈ sa_Ts := tv_m6 98 rfl rfl
set_option maxRecDepth 20000 in
theorem tv_1299 : (Jvm.Cond.fieldLink "OffThenOnModel" (360 : Nat) "OffThenOnModel" "lineMany" "I") ∈ sa_Ts := tv_m6 99 rfl rfl
set_option maxRecDepth 20000 in
theorem tv_1300 : (Jvm.Cond.fieldLink "OffThenOnModel" (372 : Nat) "OffThenOnModel" "hasLogged" "Z") ∈ sa_Ts := tv_m6 100 rfl rfl
set_option maxRecDepth 20000 in
theorem tv_1301 : (Jvm.Cond.fieldLink "OffThenOnModel" (70 : Nat) "OffThenOnModel" "node" "[I") ∈ sa_Ts := tv_m6 101 rfl rfl
set_option maxRecDepth 20000 in
theorem tv_1302 : (Jvm.Cond.fieldLink "OffThenOnModel" (380 : Nat) "OffThenOnModel" "nodes" "I") ∈ sa_Ts := tv_m6 102 rfl rfl
set_option maxRecDepth 20000 in
theorem tv_1303 : (Jvm.Cond.fieldLink "OffThenOnModel" (396 : Nat) "OffThenOnModel" "onesMany" "I") ∈ sa_Ts := tv_m6 103 rfl rfl
set_option maxRecDepth 20000 in
theorem tv_1304 : (Jvm.Cond.fieldLink "OffThenOnModel" (399 : Nat) "OffThenOnModel" "within" "I") ∈ sa_Ts := tv_m6 104 rfl rfl
set_option maxRecDepth 20000 in
theorem tv_1305 : (Jvm.Cond.fieldLink "OffThenOnModel" (386 : Nat) "OffThenOnModel" "top" "I") ∈ sa_Ts := tv_m6 105 rfl rfl
set_option maxRecDepth 20000 in
theorem tv_1402 : (Jvm.Cond.methodLink "OffThenOnModel" (79 : Nat) ({ cls := "OffThenOnModel", name := "come", desc := "(I)V" } : Jvm.MethodName)) ∈ sa_Ts := tv_m6 202 rfl rfl
set_option maxRecDepth 20000 in
theorem tv_1404 : (Jvm.Cond.instanceMethod ({ cls := "OffThenOnModel", name := "come", desc := "(I)V" } : Jvm.MethodName)) ∈ sa_Ts := tv_m6 204 rfl rfl
set_option maxRecDepth 20000 in
theorem tv_1405 : (Jvm.Cond.code ({ cls := "OffThenOnModel", name := "come", desc := "(I)V" } : Jvm.MethodName) prog_14_method_4_code (3 : Nat) (Option.none : Option Jvm.ClassFile.FieldType)) ∈ sa_Ts := tv_m6 205 rfl rfl
set_option maxRecDepth 20000 in
theorem tv_1414 : (Jvm.Cond.methodLink "OffThenOnModel" (194 : Nat) ({ cls := "OffThenOnModel", name := "begin", desc := "(I)V" } : Jvm.MethodName)) ∈ sa_Ts := tv_m6 214 rfl rfl
set_option maxRecDepth 20000 in
theorem tv_1416 : (Jvm.Cond.instanceMethod ({ cls := "OffThenOnModel", name := "begin", desc := "(I)V" } : Jvm.MethodName)) ∈ sa_Ts := tv_m6 216 rfl rfl
set_option maxRecDepth 20000 in
theorem tv_1417 : (Jvm.Cond.code ({ cls := "OffThenOnModel", name := "begin", desc := "(I)V" } : Jvm.MethodName) prog_14_method_26_code (2 : Nat) (Option.none : Option Jvm.ClassFile.FieldType)) ∈ sa_Ts := tv_m6 217 rfl rfl
set_option maxRecDepth 20000 in
theorem tv_1418 : (Jvm.Cond.methodLink "OffThenOnModel" (153 : Nat) ({ cls := "OffThenOnModel", name := "take", desc := "()I" } : Jvm.MethodName)) ∈ sa_Ts := tv_m6 218 rfl rfl
set_option maxRecDepth 20000 in
theorem tv_1420 : (Jvm.Cond.instanceMethod ({ cls := "OffThenOnModel", name := "take", desc := "()I" } : Jvm.MethodName)) ∈ sa_Ts := tv_m6 220 rfl rfl
set_option maxRecDepth 20000 in
theorem tv_1421 : (Jvm.Cond.code ({ cls := "OffThenOnModel", name := "take", desc := "()I" } : Jvm.MethodName) prog_14_method_7_code (2 : Nat) (Option.some Jvm.ClassFile.FieldType.int)) ∈ sa_Ts := tv_m6 221 rfl rfl
set_option maxRecDepth 20000 in
theorem tv_1422 : (Jvm.Cond.methodLink "OffThenOnModel" (147 : Nat) ({ cls := "OffThenOnModel", name := "go", desc := "()V" } : Jvm.MethodName)) ∈ sa_Ts := tv_m6 222 rfl rfl
set_option maxRecDepth 20000 in
theorem tv_1424 : (Jvm.Cond.instanceMethod ({ cls := "OffThenOnModel", name := "go", desc := "()V" } : Jvm.MethodName)) ∈ sa_Ts := tv_m6 224 rfl rfl
set_option maxRecDepth 20000 in
theorem tv_1425 : (Jvm.Cond.code ({ cls := "OffThenOnModel", name := "go", desc := "()V" } : Jvm.MethodName) prog_14_method_17_code (5 : Nat) (Option.none : Option Jvm.ClassFile.FieldType)) ∈ sa_Ts := tv_m6 225 rfl rfl
set_option maxRecDepth 20000 in
theorem tv_1426 : (Jvm.Cond.methodLink "OffThenOnModel" (98 : Nat) ({ cls := "OffThenOnModel", name := "isLetter", desc := "(I)Z" } : Jvm.MethodName)) ∈ sa_Ts := tv_m6 226 rfl rfl
set_option maxRecDepth 20000 in
theorem tv_1427 : (Jvm.Cond.static ({ cls := "OffThenOnModel", name := "isLetter", desc := "(I)Z" } : Jvm.MethodName)) ∈ sa_Ts := tv_m6 227 rfl rfl
set_option maxRecDepth 20000 in
theorem tv_1428 : (Jvm.Cond.code ({ cls := "OffThenOnModel", name := "isLetter", desc := "(I)Z" } : Jvm.MethodName) prog_14_method_16_code (1 : Nat) (Option.some Jvm.ClassFile.FieldType.boolean)) ∈ sa_Ts := tv_m6 228 rfl rfl
set_option maxRecDepth 20000 in
theorem tv_1429 : (Jvm.Cond.methodLink "OffThenOnModel" (102 : Nat) ({ cls := "OffThenOnModel", name := "isDigit", desc := "(I)Z" } : Jvm.MethodName)) ∈ sa_Ts := tv_m6 229 rfl rfl
set_option maxRecDepth 20000 in
theorem tv_1430 : (Jvm.Cond.static ({ cls := "OffThenOnModel", name := "isDigit", desc := "(I)Z" } : Jvm.MethodName)) ∈ sa_Ts := tv_m6 230 rfl rfl
set_option maxRecDepth 20000 in
theorem tv_1431 : (Jvm.Cond.code ({ cls := "OffThenOnModel", name := "isDigit", desc := "(I)Z" } : Jvm.MethodName) prog_14_method_15_code (1 : Nat) (Option.some Jvm.ClassFile.FieldType.boolean)) ∈ sa_Ts := tv_m6 231 rfl rfl
set_option maxRecDepth 20000 in
theorem tv_1432 : (Jvm.Cond.methodLink "OffThenOnModel" (115 : Nat) ({ cls := "OffThenOnModel", name := "tapeAt", desc := "(I)I" } : Jvm.MethodName)) ∈ sa_Ts := tv_m6 232 rfl rfl
set_option maxRecDepth 20000 in
theorem tv_1434 : (Jvm.Cond.instanceMethod ({ cls := "OffThenOnModel", name := "tapeAt", desc := "(I)I" } : Jvm.MethodName)) ∈ sa_Ts := tv_m6 234 rfl rfl
set_option maxRecDepth 20000 in
theorem tv_1435 : (Jvm.Cond.code ({ cls := "OffThenOnModel", name := "tapeAt", desc := "(I)I" } : Jvm.MethodName) prog_14_method_14_code (2 : Nat) (Option.some Jvm.ClassFile.FieldType.int)) ∈ sa_Ts := tv_m6 235 rfl rfl
set_option maxRecDepth 20000 in
theorem tv_1436 : (Jvm.Cond.constantLong "OffThenOnModel" (119 : Nat) (27 : Int64)) ∈ sa_Ts := tv_m6 236 rfl rfl
set_option maxRecDepth 20000 in
theorem tv_1437 : (Jvm.Cond.constantLong "OffThenOnModel" (121 : Nat) (96 : Int64)) ∈ sa_Ts := tv_m6 237 rfl rfl
set_option maxRecDepth 20000 in
theorem tv_1438 : (Jvm.Cond.methodLink "OffThenOnModel" (197 : Nat) ({ cls := "OffThenOnModel", name := "readLine", desc := "()Z" } : Jvm.MethodName)) ∈ sa_Ts := tv_m6 238 rfl rfl
set_option maxRecDepth 20000 in
theorem tv_1440 : (Jvm.Cond.instanceMethod ({ cls := "OffThenOnModel", name := "readLine", desc := "()Z" } : Jvm.MethodName)) ∈ sa_Ts := tv_m7 0 rfl rfl
set_option maxRecDepth 20000 in
theorem tv_1441 : (Jvm.Cond.code ({ cls := "OffThenOnModel", name := "readLine", desc := "()Z" } : Jvm.MethodName) prog_14_method_36_code (1 : Nat) (Option.some Jvm.ClassFile.FieldType.boolean)) ∈ sa_Ts := tv_m7 1 rfl rfl
set_option maxRecDepth 20000 in
theorem tv_1442 : (Jvm.Cond.methodLink "OffThenOnModel" (179 : Nat) ({ cls := "OffThenOnModel", name := "isWord", desc := "(I)Z" } : Jvm.MethodName)) ∈ sa_Ts := tv_m7 2 rfl rfl
set_option maxRecDepth 20000 in
theorem tv_1444 : (Jvm.Cond.instanceMethod ({ cls := "OffThenOnModel", name := "isWord", desc := "(I)Z" } : Jvm.MethodName)) ∈ sa_Ts := tv_m7 4 rfl rfl
set_option maxRecDepth 20000 in
theorem tv_1445 : (Jvm.Cond.code ({ cls := "OffThenOnModel", name := "isWord", desc := "(I)Z" } : Jvm.MethodName) prog_14_method_20_code (2 : Nat) (Option.some Jvm.ClassFile.FieldType.boolean)) ∈ sa_Ts := tv_m7 5 rfl rfl
set_option maxRecDepth 20000 in
theorem tv_1446 : (Jvm.Cond.methodLink "OffThenOnModel" (127 : Nat) ({ cls := "OffThenOnModel", name := "wordOf", desc := "(I)J" } : Jvm.MethodName)) ∈ sa_Ts := tv_m7 6 rfl rfl
set_option maxRecDepth 20000 in
theorem tv_1447 : (Jvm.Cond.static ({ cls := "OffThenOnModel", name := "wordOf", desc := "(I)J" } : Jvm.MethodName)) ∈ sa_Ts := tv_m7 7 rfl rfl
set_option maxRecDepth 20000 in
theorem tv_1448 : (Jvm.Cond.code ({ cls := "OffThenOnModel", name := "wordOf", desc := "(I)J" } : Jvm.MethodName) prog_14_method_19_code (1 : Nat) (Option.some Jvm.ClassFile.FieldType.long)) ∈ sa_Ts := tv_m7 8 rfl rfl
set_option maxRecDepth 20000 in
theorem tv_1449 : (Jvm.Cond.methodLink "OffThenOnModel" (123 : Nat) ({ cls := "OffThenOnModel", name := "spelt", desc := "(IIIIIII)J" } : Jvm.MethodName)) ∈ sa_Ts := tv_m7 9 rfl rfl
set_option maxRecDepth 20000 in
theorem tv_1450 : (Jvm.Cond.static ({ cls := "OffThenOnModel", name := "spelt", desc := "(IIIIIII)J" } : Jvm.MethodName)) ∈ sa_Ts := tv_m7 10 rfl rfl
set_option maxRecDepth 20000 in
theorem tv_1451 : (Jvm.Cond.code ({ cls := "OffThenOnModel", name := "spelt", desc := "(IIIIIII)J" } : Jvm.MethodName) prog_14_method_18_code (9 : Nat) (Option.some Jvm.ClassFile.FieldType.long)) ∈ sa_Ts := tv_m7 11 rfl rfl
set_option maxRecDepth 20000 in
theorem tv_1452 : (Jvm.Cond.methodLink "OffThenOnModel" (185 : Nat) ({ cls := "OffThenOnModel", name := "readThing", desc := "()Z" } : Jvm.MethodName)) ∈ sa_Ts := tv_m7 12 rfl rfl
set_option maxRecDepth 20000 in
theorem tv_1454 : (Jvm.Cond.instanceMethod ({ cls := "OffThenOnModel", name := "readThing", desc := "()Z" } : Jvm.MethodName)) ∈ sa_Ts := tv_m7 14 rfl rfl
set_option maxRecDepth 20000 in
theorem tv_1455 : (Jvm.Cond.code ({ cls := "OffThenOnModel", name := "readThing", desc := "()Z" } : Jvm.MethodName) prog_14_method_33_code (2 : Nat) (Option.some Jvm.ClassFile.FieldType.boolean)) ∈ sa_Ts := tv_m7 15 rfl rfl
set_option maxRecDepth 20000 in
theorem tv_1456 : (Jvm.Cond.methodLink "OffThenOnModel" (165 : Nat) ({ cls := "OffThenOnModel", name := "readFirst", desc := "(II)Z" } : Jvm.MethodName)) ∈ sa_Ts := tv_m7 16 rfl rfl
set_option maxRecDepth 20000 in
theorem tv_1458 : (Jvm.Cond.instanceMethod ({ cls := "OffThenOnModel", name := "readFirst", desc := "(II)Z" } : Jvm.MethodName)) ∈ sa_Ts := tv_m7 18 rfl rfl
set_option maxRecDepth 20000 in
theorem tv_1459 : (Jvm.Cond.code ({ cls := "OffThenOnModel", name := "readFirst", desc := "(II)Z" } : Jvm.MethodName) prog_14_method_31_code (3 : Nat) (Option.some Jvm.ClassFile.FieldType.boolean)) ∈ sa_Ts := tv_m7 19 rfl rfl
set_option maxRecDepth 20000 in
theorem tv_1460 : (Jvm.Cond.methodLink "OffThenOnModel" (137 : Nat) ({ cls := "OffThenOnModel", name := "bad", desc := "(I)Z" } : Jvm.MethodName)) ∈ sa_Ts := tv_m7 20 rfl rfl
set_option maxRecDepth 20000 in
theorem tv_1462 : (Jvm.Cond.instanceMethod ({ cls := "OffThenOnModel", name := "bad", desc := "(I)Z" } : Jvm.MethodName)) ∈ sa_Ts := tv_m7 22 rfl rfl
set_option maxRecDepth 20000 in
theorem tv_1463 : (Jvm.Cond.code ({ cls := "OffThenOnModel", name := "bad", desc := "(I)Z" } : Jvm.MethodName) prog_14_method_23_code (2 : Nat) (Option.some Jvm.ClassFile.FieldType.boolean)) ∈ sa_Ts := tv_m7 23 rfl rfl
set_option maxRecDepth 20000 in
theorem tv_1464 : (Jvm.Cond.methodLink "OffThenOnModel" (169 : Nat) ({ cls := "OffThenOnModel", name := "readNew", desc := "(I)Z" } : Jvm.MethodName)) ∈ sa_Ts := tv_m7 24 rfl rfl
set_option maxRecDepth 20000 in
theorem tv_1466 : (Jvm.Cond.instanceMethod ({ cls := "OffThenOnModel", name := "readNew", desc := "(I)Z" } : Jvm.MethodName)) ∈ sa_Ts := tv_m7 26 rfl rfl
set_option maxRecDepth 20000 in
theorem tv_1467 : (Jvm.Cond.code ({ cls := "OffThenOnModel", name := "readNew", desc := "(I)Z" } : Jvm.MethodName) prog_14_method_29_code (2 : Nat) (Option.some Jvm.ClassFile.FieldType.boolean)) ∈ sa_Ts := tv_m7 27 rfl rfl
set_option maxRecDepth 20000 in
theorem tv_1468 : (Jvm.Cond.methodLink "OffThenOnModel" (157 : Nat) ({ cls := "OffThenOnModel", name := "isName", desc := "()Z" } : Jvm.MethodName)) ∈ sa_Ts := tv_m7 28 rfl rfl
set_option maxRecDepth 20000 in
theorem tv_1470 : (Jvm.Cond.instanceMethod ({ cls := "OffThenOnModel", name := "isName", desc := "()Z" } : Jvm.MethodName)) ∈ sa_Ts := tv_m7 30 rfl rfl
set_option maxRecDepth 20000 in
theorem tv_1471 : (Jvm.Cond.code ({ cls := "OffThenOnModel", name := "isName", desc := "()Z" } : Jvm.MethodName) prog_14_method_22_code (2 : Nat) (Option.some Jvm.ClassFile.FieldType.boolean)) ∈ sa_Ts := tv_m7 31 rfl rfl
set_option maxRecDepth 20000 in
theorem tv_1472 : (Jvm.Cond.methodLink "OffThenOnModel" (161 : Nat) ({ cls := "OffThenOnModel", name := "findIn", desc := "([JIIJ)I" } : Jvm.MethodName)) ∈ sa_Ts := tv_m7 32 rfl rfl
set_option maxRecDepth 20000 in
theorem tv_1473 : (Jvm.Cond.static ({ cls := "OffThenOnModel", name := "findIn", desc := "([JIIJ)I" } : Jvm.MethodName)) ∈ sa_Ts := tv_m7 33 rfl rfl
set_option maxRecDepth 20000 in
theorem tv_1474 : (Jvm.Cond.code ({ cls := "OffThenOnModel", name := "findIn", desc := "([JIIJ)I" } : Jvm.MethodName) prog_14_method_28_code (6 : Nat) (Option.some Jvm.ClassFile.FieldType.int)) ∈ sa_Ts := tv_m7 34 rfl rfl
set_option maxRecDepth 20000 in
theorem tv_1475 : (Jvm.Cond.methodLink "OffThenOnModel" (172 : Nat) ({ cls := "OffThenOnModel", name := "readNumber", desc := "(II)Z" } : Jvm.MethodName)) ∈ sa_Ts := tv_m7 35 rfl rfl
set_option maxRecDepth 20000 in
theorem tv_1477 : (Jvm.Cond.instanceMethod ({ cls := "OffThenOnModel", name := "readNumber", desc := "(II)Z" } : Jvm.MethodName)) ∈ sa_Ts := tv_m7 37 rfl rfl
set_option maxRecDepth 20000 in
theorem tv_1478 : (Jvm.Cond.code ({ cls := "OffThenOnModel", name := "readNumber", desc := "(II)Z" } : Jvm.MethodName) prog_14_method_24_code (3 : Nat) (Option.some Jvm.ClassFile.FieldType.boolean)) ∈ sa_Ts := tv_m7 38 rfl rfl
set_option maxRecDepth 20000 in
theorem tv_1479 : (Jvm.Cond.methodLink "OffThenOnModel" (140 : Nat) ({ cls := "OffThenOnModel", name := "isIn", desc := "(III)Z" } : Jvm.MethodName)) ∈ sa_Ts := tv_m7 39 rfl rfl
set_option maxRecDepth 20000 in
theorem tv_1480 : (Jvm.Cond.static ({ cls := "OffThenOnModel", name := "isIn", desc := "(III)Z" } : Jvm.MethodName)) ∈ sa_Ts := tv_m7 40 rfl rfl
set_option maxRecDepth 20000 in
theorem tv_1481 : (Jvm.Cond.code ({ cls := "OffThenOnModel", name := "isIn", desc := "(III)Z" } : Jvm.MethodName) prog_14_method_8_code (3 : Nat) (Option.some Jvm.ClassFile.FieldType.boolean)) ∈ sa_Ts := tv_m7 41 rfl rfl
set_option maxRecDepth 20000 in
theorem tv_1482 : (Jvm.Cond.methodLink "OffThenOnModel" (175 : Nat) ({ cls := "OffThenOnModel", name := "put", desc := "(IZ)Z" } : Jvm.MethodName)) ∈ sa_Ts := tv_m7 42 rfl rfl
set_option maxRecDepth 20000 in
theorem tv_1484 : (Jvm.Cond.instanceMethod ({ cls := "OffThenOnModel", name := "put", desc := "(IZ)Z" } : Jvm.MethodName)) ∈ sa_Ts := tv_m7 44 rfl rfl
set_option maxRecDepth 20000 in
theorem tv_1485 : (Jvm.Cond.code ({ cls := "OffThenOnModel", name := "put", desc := "(IZ)Z" } : Jvm.MethodName) prog_14_method_32_code (3 : Nat) (Option.some Jvm.ClassFile.FieldType.boolean)) ∈ sa_Ts := tv_m7 45 rfl rfl
set_option maxRecDepth 20000 in
theorem tv_1486 : (Jvm.Cond.methodLink "OffThenOnModel" (182 : Nat) ({ cls := "OffThenOnModel", name := "readOne", desc := "(II)Z" } : Jvm.MethodName)) ∈ sa_Ts := tv_m7 46 rfl rfl
set_option maxRecDepth 20000 in
theorem tv_1488 : (Jvm.Cond.instanceMethod ({ cls := "OffThenOnModel", name := "readOne", desc := "(II)Z" } : Jvm.MethodName)) ∈ sa_Ts := tv_m7 48 rfl rfl
set_option maxRecDepth 20000 in
theorem tv_1489 : (Jvm.Cond.code ({ cls := "OffThenOnModel", name := "readOne", desc := "(II)Z" } : Jvm.MethodName) prog_14_method_30_code (3 : Nat) (Option.some Jvm.ClassFile.FieldType.boolean)) ∈ sa_Ts := tv_m7 49 rfl rfl
set_option maxRecDepth 20000 in
theorem tv_1490 : (Jvm.Cond.methodLink "OffThenOnModel" (188 : Nat) ({ cls := "OffThenOnModel", name := "readFault", desc := "()Z" } : Jvm.MethodName)) ∈ sa_Ts := tv_m7 50 rfl rfl
set_option maxRecDepth 20000 in
theorem tv_1492 : (Jvm.Cond.instanceMethod ({ cls := "OffThenOnModel", name := "readFault", desc := "()Z" } : Jvm.MethodName)) ∈ sa_Ts := tv_m7 52 rfl rfl
set_option maxRecDepth 20000 in
theorem tv_1493 : (Jvm.Cond.code ({ cls := "OffThenOnModel", name := "readFault", desc := "()Z" } : Jvm.MethodName) prog_14_method_34_code (2 : Nat) (Option.some Jvm.ClassFile.FieldType.boolean)) ∈ sa_Ts := tv_m7 53 rfl rfl
set_option maxRecDepth 20000 in
theorem tv_1494 : (Jvm.Cond.methodLink "OffThenOnModel" (191 : Nat) ({ cls := "OffThenOnModel", name := "readCures", desc := "()Z" } : Jvm.MethodName)) ∈ sa_Ts := tv_m7 54 rfl rfl
set_option maxRecDepth 20000 in
theorem tv_1496 : (Jvm.Cond.instanceMethod ({ cls := "OffThenOnModel", name := "readCures", desc := "()Z" } : Jvm.MethodName)) ∈ sa_Ts := tv_m7 56 rfl rfl
set_option maxRecDepth 20000 in
theorem tv_1497 : (Jvm.Cond.code ({ cls := "OffThenOnModel", name := "readCures", desc := "()Z" } : Jvm.MethodName) prog_14_method_35_code (3 : Nat) (Option.some Jvm.ClassFile.FieldType.boolean)) ∈ sa_Ts := tv_m7 57 rfl rfl
set_option maxRecDepth 20000 in
theorem tv_1498 : (Jvm.Cond.methodLink "OffThenOnModel" (200 : Nat) ({ cls := "OffThenOnModel", name := "readEnd", desc := "()Z" } : Jvm.MethodName)) ∈ sa_Ts := tv_m7 58 rfl rfl
set_option maxRecDepth 20000 in
theorem tv_1500 : (Jvm.Cond.instanceMethod ({ cls := "OffThenOnModel", name := "readEnd", desc := "()Z" } : Jvm.MethodName)) ∈ sa_Ts := tv_m7 60 rfl rfl
set_option maxRecDepth 20000 in
theorem tv_1501 : (Jvm.Cond.code ({ cls := "OffThenOnModel", name := "readEnd", desc := "()Z" } : Jvm.MethodName) prog_14_method_25_code (1 : Nat) (Option.some Jvm.ClassFile.FieldType.boolean)) ∈ sa_Ts := tv_m7 61 rfl rfl
set_option maxRecDepth 20000 in
theorem tv_1502 : (Jvm.Cond.methodLink "OffThenOnModel" (150 : Nat) ({ cls := "OffThenOnModel", name := "isSign", desc := "(I)Z" } : Jvm.MethodName)) ∈ sa_Ts := tv_m7 62 rfl rfl
set_option maxRecDepth 20000 in
theorem tv_1504 : (Jvm.Cond.instanceMethod ({ cls := "OffThenOnModel", name := "isSign", desc := "(I)Z" } : Jvm.MethodName)) ∈ sa_Ts := tv_m7 64 rfl rfl
set_option maxRecDepth 20000 in
theorem tv_1505 : (Jvm.Cond.code ({ cls := "OffThenOnModel", name := "isSign", desc := "(I)Z" } : Jvm.MethodName) prog_14_method_21_code (2 : Nat) (Option.some Jvm.ClassFile.FieldType.boolean)) ∈ sa_Ts := tv_m7 65 rfl rfl
set_option maxRecDepth 20000 in
theorem tv_1506 : (Jvm.Cond.methodLink "OffThenOnModel" (203 : Nat) ({ cls := "OffThenOnModel", name := "startSo", desc := "()V" } : Jvm.MethodName)) ∈ sa_Ts := tv_m7 66 rfl rfl
set_option maxRecDepth 20000 in
theorem tv_1508 : (Jvm.Cond.instanceMethod ({ cls := "OffThenOnModel", name := "startSo", desc := "()V" } : Jvm.MethodName)) ∈ sa_Ts := tv_m7 68 rfl rfl
set_option maxRecDepth 20000 in
theorem tv_1509 : (Jvm.Cond.code ({ cls := "OffThenOnModel", name := "startSo", desc := "()V" } : Jvm.MethodName) prog_14_method_27_code (2 : Nat) (Option.none : Option Jvm.ClassFile.FieldType)) ∈ sa_Ts := tv_m7 69 rfl rfl
set_option maxRecDepth 20000 in
theorem tv_1518 : (Jvm.Cond.methodLink "OffThenOnModel" (221 : Nat) ({ cls := "OffThenOnModel", name := "isThing", desc := "(I)Z" } : Jvm.MethodName)) ∈ sa_Ts := tv_m7 78 rfl rfl
set_option maxRecDepth 20000 in
theorem tv_1520 : (Jvm.Cond.instanceMethod ({ cls := "OffThenOnModel", name := "isThing", desc := "(I)Z" } : Jvm.MethodName)) ∈ sa_Ts := tv_m7 80 rfl rfl
set_option maxRecDepth 20000 in
theorem tv_1521 : (Jvm.Cond.code ({ cls := "OffThenOnModel", name := "isThing", desc := "(I)Z" } : Jvm.MethodName) prog_14_method_39_code (2 : Nat) (Option.some Jvm.ClassFile.FieldType.boolean)) ∈ sa_Ts := tv_m7 81 rfl rfl
set_option maxRecDepth 20000 in
theorem tv_1522 : (Jvm.Cond.methodLink "OffThenOnModel" (224 : Nat) ({ cls := "OffThenOnModel", name := "refuse", desc := "()I" } : Jvm.MethodName)) ∈ sa_Ts := tv_m7 82 rfl rfl
set_option maxRecDepth 20000 in
theorem tv_1524 : (Jvm.Cond.instanceMethod ({ cls := "OffThenOnModel", name := "refuse", desc := "()I" } : Jvm.MethodName)) ∈ sa_Ts := tv_m7 84 rfl rfl
set_option maxRecDepth 20000 in
theorem tv_1525 : (Jvm.Cond.code ({ cls := "OffThenOnModel", name := "refuse", desc := "()I" } : Jvm.MethodName) prog_14_method_3_code (1 : Nat) (Option.some Jvm.ClassFile.FieldType.int)) ∈ sa_Ts := tv_m7 85 rfl rfl
set_option maxRecDepth 20000 in
theorem tv_1526 : (Jvm.Cond.methodLink "OffThenOnModel" (227 : Nat) ({ cls := "OffThenOnModel", name := "lamp", desc := "(I)I" } : Jvm.MethodName)) ∈ sa_Ts := tv_m7 86 rfl rfl
set_option maxRecDepth 20000 in
theorem tv_1528 : (Jvm.Cond.instanceMethod ({ cls := "OffThenOnModel", name := "lamp", desc := "(I)I" } : Jvm.MethodName)) ∈ sa_Ts := tv_m7 88 rfl rfl
set_option maxRecDepth 20000 in
theorem tv_1529 : (Jvm.Cond.code ({ cls := "OffThenOnModel", name := "lamp", desc := "(I)I" } : Jvm.MethodName) prog_14_method_45_code (2 : Nat) (Option.some Jvm.ClassFile.FieldType.int)) ∈ sa_Ts := tv_m7 89 rfl rfl
set_option maxRecDepth 20000 in
theorem tv_1530 : (Jvm.Cond.methodLink "OffThenOnModel" (212 : Nat) ({ cls := "OffThenOnModel", name := "worst", desc := "(I)I" } : Jvm.MethodName)) ∈ sa_Ts := tv_m7 90 rfl rfl
set_option maxRecDepth 20000 in
theorem tv_1532 : (Jvm.Cond.instanceMethod ({ cls := "OffThenOnModel", name := "worst", desc := "(I)I" } : Jvm.MethodName)) ∈ sa_Ts := tv_m7 92 rfl rfl
set_option maxRecDepth 20000 in
theorem tv_1533 : (Jvm.Cond.code ({ cls := "OffThenOnModel", name := "worst", desc := "(I)I" } : Jvm.MethodName) prog_14_method_44_code (4 : Nat) (Option.some Jvm.ClassFile.FieldType.int)) ∈ sa_Ts := tv_m7 93 rfl rfl
set_option maxRecDepth 20000 in
theorem tv_1534 : (Jvm.Cond.methodLink "OffThenOnModel" (209 : Nat) ({ cls := "OffThenOnModel", name := "isThere", desc := "(I)Z" } : Jvm.MethodName)) ∈ sa_Ts := tv_m7 94 rfl rfl
set_option maxRecDepth 20000 in
theorem tv_1536 : (Jvm.Cond.instanceMethod ({ cls := "OffThenOnModel", name := "isThere", desc := "(I)Z" } : Jvm.MethodName)) ∈ sa_Ts := tv_m7 96 rfl rfl
set_option maxRecDepth 20000 in
theorem tv_1537 : (Jvm.Cond.code ({ cls := "OffThenOnModel", name := "isThere", desc := "(I)Z" } : Jvm.MethodName) prog_14_method_41_code (2 : Nat) (Option.some Jvm.ClassFile.FieldType.boolean)) ∈ sa_Ts := tv_m7 97 rfl rfl
set_option maxRecDepth 20000 in
theorem tv_1538 : (Jvm.Cond.methodLink "OffThenOnModel" (218 : Nat) ({ cls := "OffThenOnModel", name := "works", desc := "(I)Z" } : Jvm.MethodName)) ∈ sa_Ts := tv_m7 98 rfl rfl
set_option maxRecDepth 20000 in
theorem tv_1540 : (Jvm.Cond.instanceMethod ({ cls := "OffThenOnModel", name := "works", desc := "(I)Z" } : Jvm.MethodName)) ∈ sa_Ts := tv_m7 100 rfl rfl
set_option maxRecDepth 20000 in
theorem tv_1541 : (Jvm.Cond.code ({ cls := "OffThenOnModel", name := "works", desc := "(I)Z" } : Jvm.MethodName) prog_14_method_46_code (3 : Nat) (Option.some Jvm.ClassFile.FieldType.boolean)) ∈ sa_Ts := tv_m7 101 rfl rfl
set_option maxRecDepth 20000 in
theorem tv_1542 : (Jvm.Cond.methodLink "OffThenOnModel" (215 : Nat) ({ cls := "OffThenOnModel", name := "isNumbered", desc := "(I)Z" } : Jvm.MethodName)) ∈ sa_Ts := tv_m7 102 rfl rfl
set_option maxRecDepth 20000 in
theorem tv_1544 : (Jvm.Cond.instanceMethod ({ cls := "OffThenOnModel", name := "isNumbered", desc := "(I)Z" } : Jvm.MethodName)) ∈ sa_Ts := tv_m7 104 rfl rfl
set_option maxRecDepth 20000 in
theorem tv_1545 : (Jvm.Cond.code ({ cls := "OffThenOnModel", name := "isNumbered", desc := "(I)Z" } : Jvm.MethodName) prog_14_method_42_code (2 : Nat) (Option.some Jvm.ClassFile.FieldType.boolean)) ∈ sa_Ts := tv_m7 105 rfl rfl
set_option maxRecDepth 20000 in
theorem tv_1550 : (Jvm.Cond.methodLink "OffThenOnModel" (230 : Nat) ({ cls := "OffThenOnModel", name := "isFault", desc := "(I)Z" } : Jvm.MethodName)) ∈ sa_Ts := tv_m7 110 rfl rfl
set_option maxRecDepth 20000 in
theorem tv_1552 : (Jvm.Cond.instanceMethod ({ cls := "OffThenOnModel", name := "isFault", desc := "(I)Z" } : Jvm.MethodName)) ∈ sa_Ts := tv_m7 112 rfl rfl
set_option maxRecDepth 20000 in
theorem tv_1553 : (Jvm.Cond.code ({ cls := "OffThenOnModel", name := "isFault", desc := "(I)Z" } : Jvm.MethodName) prog_14_method_40_code (2 : Nat) (Option.some Jvm.ClassFile.FieldType.boolean)) ∈ sa_Ts := tv_m7 113 rfl rfl
set_option maxRecDepth 20000 in
theorem tv_1562 : (Jvm.Cond.methodLink "OffThenOnModel" (233 : Nat) ({ cls := "OffThenOnModel", name := "working", desc := "()I" } : Jvm.MethodName)) ∈ sa_Ts := tv_m7 122 rfl rfl
set_option maxRecDepth 20000 in
theorem tv_1564 : (Jvm.Cond.instanceMethod ({ cls := "OffThenOnModel", name := "working", desc := "()I" } : Jvm.MethodName)) ∈ sa_Ts := tv_m7 124 rfl rfl
set_option maxRecDepth 20000 in
theorem tv_1565 : (Jvm.Cond.code ({ cls := "OffThenOnModel", name := "working", desc := "()I" } : Jvm.MethodName) prog_14_method_47_code (3 : Nat) (Option.some Jvm.ClassFile.FieldType.int)) ∈ sa_Ts := tv_m7 125 rfl rfl
set_option maxRecDepth 20000 in
theorem tv_1570 : (Jvm.Cond.methodLink "OffThenOnModel" (269 : Nat) ({ cls := "OffThenOnModel", name := "act", desc := "(III)I" } : Jvm.MethodName)) ∈ sa_Ts := tv_m7 130 rfl rfl
set_option maxRecDepth 20000 in
theorem tv_1572 : (Jvm.Cond.instanceMethod ({ cls := "OffThenOnModel", name := "act", desc := "(III)I" } : Jvm.MethodName)) ∈ sa_Ts := tv_m7 132 rfl rfl
set_option maxRecDepth 20000 in
theorem tv_1573 : (Jvm.Cond.code ({ cls := "OffThenOnModel", name := "act", desc := "(III)I" } : Jvm.MethodName) prog_14_method_60_code (5 : Nat) (Option.some Jvm.ClassFile.FieldType.int)) ∈ sa_Ts := tv_m7 133 rfl rfl
set_option maxRecDepth 20000 in
theorem tv_1574 : (Jvm.Cond.methodLink "OffThenOnModel" (259 : Nat) ({ cls := "OffThenOnModel", name := "why", desc := "(II)I" } : Jvm.MethodName)) ∈ sa_Ts := tv_m7 134 rfl rfl
set_option maxRecDepth 20000 in
theorem tv_1576 : (Jvm.Cond.instanceMethod ({ cls := "OffThenOnModel", name := "why", desc := "(II)I" } : Jvm.MethodName)) ∈ sa_Ts := tv_m7 136 rfl rfl
set_option maxRecDepth 20000 in
theorem tv_1577 : (Jvm.Cond.code ({ cls := "OffThenOnModel", name := "why", desc := "(II)I" } : Jvm.MethodName) prog_14_method_58_code (3 : Nat) (Option.some Jvm.ClassFile.FieldType.int)) ∈ sa_Ts := tv_m7 137 rfl rfl
set_option maxRecDepth 20000 in
theorem tv_1578 : (Jvm.Cond.methodLink "OffThenOnModel" (263 : Nat) ({ cls := "OffThenOnModel", name := "snap", desc := "()V" } : Jvm.MethodName)) ∈ sa_Ts := tv_m7 138 rfl rfl
set_option maxRecDepth 20000 in
theorem tv_1580 : (Jvm.Cond.instanceMethod ({ cls := "OffThenOnModel", name := "snap", desc := "()V" } : Jvm.MethodName)) ∈ sa_Ts := tv_m7 140 rfl rfl
set_option maxRecDepth 20000 in
theorem tv_1581 : (Jvm.Cond.code ({ cls := "OffThenOnModel", name := "snap", desc := "()V" } : Jvm.MethodName) prog_14_method_52_code (2 : Nat) (Option.none : Option Jvm.ClassFile.FieldType)) ∈ sa_Ts := tv_m7 141 rfl rfl
set_option maxRecDepth 20000 in
theorem tv_1582 : (Jvm.Cond.methodLink "OffThenOnModel" (266 : Nat) ({ cls := "OffThenOnModel", name := "live", desc := "(II)V" } : Jvm.MethodName)) ∈ sa_Ts := tv_m7 142 rfl rfl
set_option maxRecDepth 20000 in
theorem tv_1584 : (Jvm.Cond.instanceMethod ({ cls := "OffThenOnModel", name := "live", desc := "(II)V" } : Jvm.MethodName)) ∈ sa_Ts := tv_m7 144 rfl rfl
set_option maxRecDepth 20000 in
theorem tv_1585 : (Jvm.Cond.code ({ cls := "OffThenOnModel", name := "live", desc := "(II)V" } : Jvm.MethodName) prog_14_method_59_code (3 : Nat) (Option.none : Option Jvm.ClassFile.FieldType)) ∈ sa_Ts := tv_m7 145 rfl rfl
set_option maxRecDepth 20000 in
theorem tv_1586 : (Jvm.Cond.methodLink "OffThenOnModel" (248 : Nat) ({ cls := "OffThenOnModel", name := "set", desc := "(III)V" } : Jvm.MethodName)) ∈ sa_Ts := tv_m7 146 rfl rfl
set_option maxRecDepth 20000 in
theorem tv_1588 : (Jvm.Cond.instanceMethod ({ cls := "OffThenOnModel", name := "set", desc := "(III)V" } : Jvm.MethodName)) ∈ sa_Ts := tv_m7 148 rfl rfl
set_option maxRecDepth 20000 in
theorem tv_1589 : (Jvm.Cond.code ({ cls := "OffThenOnModel", name := "set", desc := "(III)V" } : Jvm.MethodName) prog_14_method_57_code (4 : Nat) (Option.none : Option Jvm.ClassFile.FieldType)) ∈ sa_Ts := tv_m7 149 rfl rfl
set_option maxRecDepth 20000 in
theorem tv_1590 : (Jvm.Cond.methodLink "OffThenOnModel" (252 : Nat) ({ cls := "OffThenOnModel", name := "unnumber", desc := "(I)V" } : Jvm.MethodName)) ∈ sa_Ts := tv_m7 150 rfl rfl
set_option maxRecDepth 20000 in
theorem tv_1592 : (Jvm.Cond.instanceMethod ({ cls := "OffThenOnModel", name := "unnumber", desc := "(I)V" } : Jvm.MethodName)) ∈ sa_Ts := tv_m7 152 rfl rfl
set_option maxRecDepth 20000 in
theorem tv_1593 : (Jvm.Cond.code ({ cls := "OffThenOnModel", name := "unnumber", desc := "(I)V" } : Jvm.MethodName) prog_14_method_56_code (3 : Nat) (Option.none : Option Jvm.ClassFile.FieldType)) ∈ sa_Ts := tv_m7 153 rfl rfl
set_option maxRecDepth 20000 in
theorem tv_1594 : (Jvm.Cond.methodLink "OffThenOnModel" (245 : Nat) ({ cls := "OffThenOnModel", name := "isBehind", desc := "(II)Z" } : Jvm.MethodName)) ∈ sa_Ts := tv_m7 154 rfl rfl
set_option maxRecDepth 20000 in
theorem tv_1596 : (Jvm.Cond.instanceMethod ({ cls := "OffThenOnModel", name := "isBehind", desc := "(II)Z" } : Jvm.MethodName)) ∈ sa_Ts := tv_m7 156 rfl rfl
set_option maxRecDepth 20000 in
theorem tv_1597 : (Jvm.Cond.code ({ cls := "OffThenOnModel", name := "isBehind", desc := "(II)Z" } : Jvm.MethodName) prog_14_method_43_code (4 : Nat) (Option.some Jvm.ClassFile.FieldType.boolean)) ∈ sa_Ts := tv_m7 157 rfl rfl
set_option maxRecDepth 20000 in
theorem tv_1598 : (Jvm.Cond.methodLink "OffThenOnModel" (255 : Nat) ({ cls := "OffThenOnModel", name := "deed", desc := "(II)V" } : Jvm.MethodName)) ∈ sa_Ts := tv_m7 158 rfl rfl
set_option maxRecDepth 20000 in
theorem tv_1600 : (Jvm.Cond.instanceMethod ({ cls := "OffThenOnModel", name := "deed", desc := "(II)V" } : Jvm.MethodName)) ∈ sa_Ts := tv_m7 160 rfl rfl
set_option maxRecDepth 20000 in
theorem tv_1601 : (Jvm.Cond.code ({ cls := "OffThenOnModel", name := "deed", desc := "(II)V" } : Jvm.MethodName) prog_14_method_55_code (5 : Nat) (Option.none : Option Jvm.ClassFile.FieldType)) ∈ sa_Ts := tv_m7 161 rfl rfl
set_option maxRecDepth 20000 in
theorem tv_1602 : (Jvm.Cond.methodLink "OffThenOnModel" (240 : Nat) ({ cls := "OffThenOnModel", name := "draw", desc := "(I)I" } : Jvm.MethodName)) ∈ sa_Ts := tv_m7 162 rfl rfl
set_option maxRecDepth 20000 in
theorem tv_1604 : (Jvm.Cond.instanceMethod ({ cls := "OffThenOnModel", name := "draw", desc := "(I)I" } : Jvm.MethodName)) ∈ sa_Ts := tv_m7 164 rfl rfl
set_option maxRecDepth 20000 in
theorem tv_1605 : (Jvm.Cond.code ({ cls := "OffThenOnModel", name := "draw", desc := "(I)I" } : Jvm.MethodName) prog_14_method_53_code (2 : Nat) (Option.some Jvm.ClassFile.FieldType.int)) ∈ sa_Ts := tv_m7 165 rfl rfl
set_option maxRecDepth 20000 in
theorem tv_1606 : (Jvm.Cond.constant "OffThenOnModel" (239 : Nat) (1103515245 : Int32)) ∈ sa_Ts := tv_m7 166 rfl rfl
set_option maxRecDepth 20000 in
theorem tv_1607 : (Jvm.Cond.methodLink "OffThenOnModel" (243 : Nat) ({ cls := "OffThenOnModel", name := "go", desc := "(I)V" } : Jvm.MethodName)) ∈ sa_Ts := tv_m7 167 rfl rfl
set_option maxRecDepth 20000 in
theorem tv_1609 : (Jvm.Cond.instanceMethod ({ cls := "OffThenOnModel", name := "go", desc := "(I)V" } : Jvm.MethodName)) ∈ sa_Ts := tv_m7 169 rfl rfl
set_option maxRecDepth 20000 in
theorem tv_1610 : (Jvm.Cond.code ({ cls := "OffThenOnModel", name := "go", desc := "(I)V" } : Jvm.MethodName) prog_14_method_54_code (2 : Nat) (Option.none : Option Jvm.ClassFile.FieldType)) ∈ sa_Ts := tv_m7 170 rfl rfl
set_option maxRecDepth 20000 in
theorem tv_1635 : (Jvm.Cond.methodLink "OffThenOnModel" (279 : Nat) ({ cls := "OffThenOnModel", name := "passMinutes", desc := "(I)I" } : Jvm.MethodName)) ∈ sa_Ts := tv_m7 195 rfl rfl
set_option maxRecDepth 20000 in
theorem tv_1637 : (Jvm.Cond.instanceMethod ({ cls := "OffThenOnModel", name := "passMinutes", desc := "(I)I" } : Jvm.MethodName)) ∈ sa_Ts := tv_m7 197 rfl rfl
set_option maxRecDepth 20000 in
theorem tv_1638 : (Jvm.Cond.code ({ cls := "OffThenOnModel", name := "passMinutes", desc := "(I)I" } : Jvm.MethodName) prog_14_method_68_code (4 : Nat) (Option.some Jvm.ClassFile.FieldType.int)) ∈ sa_Ts := tv_m7 198 rfl rfl
set_option maxRecDepth 20000 in
theorem tv_1639 : (Jvm.Cond.methodLink "OffThenOnModel" (273 : Nat) ({ cls := "OffThenOnModel", name := "least", desc := "(II)I" } : Jvm.MethodName)) ∈ sa_Ts := tv_m7 199 rfl rfl
set_option maxRecDepth 20000 in
theorem tv_1640 : (Jvm.Cond.static ({ cls := "OffThenOnModel", name := "least", desc := "(II)I" } : Jvm.MethodName)) ∈ sa_Ts := tv_m7 200 rfl rfl
set_option maxRecDepth 20000 in
theorem tv_1641 : (Jvm.Cond.code ({ cls := "OffThenOnModel", name := "least", desc := "(II)I" } : Jvm.MethodName) prog_14_method_11_code (2 : Nat) (Option.some Jvm.ClassFile.FieldType.int)) ∈ sa_Ts := tv_m7 201 rfl rfl
set_option maxRecDepth 20000 in
theorem tv_1642 : (Jvm.Cond.methodLink "OffThenOnModel" (276 : Nat) ({ cls := "OffThenOnModel", name := "oneMinute", desc := "()V" } : Jvm.MethodName)) ∈ sa_Ts := tv_m7 202 rfl rfl
set_option maxRecDepth 20000 in
theorem tv_1644 : (Jvm.Cond.instanceMethod ({ cls := "OffThenOnModel", name := "oneMinute", desc := "()V" } : Jvm.MethodName)) ∈ sa_Ts := tv_m7 204 rfl rfl
set_option maxRecDepth 20000 in
theorem tv_1645 : (Jvm.Cond.code ({ cls := "OffThenOnModel", name := "oneMinute", desc := "()V" } : Jvm.MethodName) prog_14_method_67_code (2 : Nat) (Option.none : Option Jvm.ClassFile.FieldType)) ∈ sa_Ts := tv_m7 205 rfl rfl
set_option maxRecDepth 20000 in
theorem tv_1650 : (Jvm.Cond.methodLink "OffThenOnModel" (282 : Nat) ({ cls := "OffThenOnModel", name := "showsSo", desc := "(II)Z" } : Jvm.MethodName)) ∈ sa_Ts := tv_m7 210 rfl rfl
set_option maxRecDepth 20000 in
theorem tv_1652 : (Jvm.Cond.instanceMethod ({ cls := "OffThenOnModel", name := "showsSo", desc := "(II)Z" } : Jvm.MethodName)) ∈ sa_Ts := tv_m7 212 rfl rfl
set_option maxRecDepth 20000 in
theorem tv_1653 : (Jvm.Cond.code ({ cls := "OffThenOnModel", name := "showsSo", desc := "(II)Z" } : Jvm.MethodName) prog_14_method_70_code (4 : Nat) (Option.some Jvm.ClassFile.FieldType.boolean)) ∈ sa_Ts := tv_m7 213 rfl rfl
set_option maxRecDepth 20000 in
theorem tv_1658 : (Jvm.Cond.methodLink "OffThenOnModel" (288 : Nat) ({ cls := "OffThenOnModel", name := "has", desc := "(II)Z" } : Jvm.MethodName)) ∈ sa_Ts := tv_m7 218 rfl rfl
set_option maxRecDepth 20000 in
theorem tv_1659 : (Jvm.Cond.static ({ cls := "OffThenOnModel", name := "has", desc := "(II)Z" } : Jvm.MethodName)) ∈ sa_Ts := tv_m7 219 rfl rfl
set_option maxRecDepth 20000 in
theorem tv_1660 : (Jvm.Cond.code ({ cls := "OffThenOnModel", name := "has", desc := "(II)Z" } : Jvm.MethodName) prog_14_method_9_code (2 : Nat) (Option.some Jvm.ClassFile.FieldType.boolean)) ∈ sa_Ts := tv_m7 220 rfl rfl
set_option maxRecDepth 20000 in
theorem tv_1661 : (Jvm.Cond.methodLink "OffThenOnModel" (291 : Nat) ({ cls := "OffThenOnModel", name := "common", desc := "(II)I" } : Jvm.MethodName)) ∈ sa_Ts := tv_m7 221 rfl rfl
set_option maxRecDepth 20000 in
theorem tv_1662 : (Jvm.Cond.static ({ cls := "OffThenOnModel", name := "common", desc := "(II)I" } : Jvm.MethodName)) ∈ sa_Ts := tv_m7 222 rfl rfl
set_option maxRecDepth 20000 in
theorem tv_1663 : (Jvm.Cond.code ({ cls := "OffThenOnModel", name := "common", desc := "(II)I" } : Jvm.MethodName) prog_14_method_13_code (5 : Nat) (Option.some Jvm.ClassFile.FieldType.int)) ∈ sa_Ts := tv_m7 223 rfl rfl
set_option maxRecDepth 20000 in
theorem tv_1668 : (Jvm.Cond.methodLink "OffThenOnModel" (300 : Nat) ({ cls := "OffThenOnModel", name := "leftAt", desc := "(I)I" } : Jvm.MethodName)) ∈ sa_Ts := tv_m7 228 rfl rfl
set_option maxRecDepth 20000 in
theorem tv_1670 : (Jvm.Cond.instanceMethod ({ cls := "OffThenOnModel", name := "leftAt", desc := "(I)I" } : Jvm.MethodName)) ∈ sa_Ts := tv_m7 230 rfl rfl
set_option maxRecDepth 20000 in
theorem tv_1671 : (Jvm.Cond.code ({ cls := "OffThenOnModel", name := "leftAt", desc := "(I)I" } : Jvm.MethodName) prog_14_method_74_code (4 : Nat) (Option.some Jvm.ClassFile.FieldType.int)) ∈ sa_Ts := tv_m7 231 rfl rfl
set_option maxRecDepth 20000 in
theorem tv_1672 : (Jvm.Cond.constant "OffThenOnModel" (313 : Nat) (2000000000 : Int32)) ∈ sa_Ts := tv_m7 232 rfl rfl
set_option maxRecDepth 20000 in
theorem tv_1673 : (Jvm.Cond.methodLink "OffThenOnModel" (309 : Nat) ({ cls := "OffThenOnModel", name := "planFrom", desc := "(IIII)V" } : Jvm.MethodName)) ∈ sa_Ts := tv_m7 233 rfl rfl
set_option maxRecDepth 20000 in
theorem tv_1675 : (Jvm.Cond.instanceMethod ({ cls := "OffThenOnModel", name := "planFrom", desc := "(IIII)V" } : Jvm.MethodName)) ∈ sa_Ts := tv_m7 235 rfl rfl
set_option maxRecDepth 20000 in
theorem tv_1676 : (Jvm.Cond.code ({ cls := "OffThenOnModel", name := "planFrom", desc := "(IIII)V" } : Jvm.MethodName) prog_14_method_76_code (8 : Nat) (Option.none : Option Jvm.ClassFile.FieldType)) ∈ sa_Ts := tv_m7 236 rfl rfl
set_option maxRecDepth 20000 in
theorem tv_1677 : (Jvm.Cond.methodLink "OffThenOnModel" (303 : Nat) ({ cls := "OffThenOnModel", name := "keepPlan", desc := "(II)V" } : Jvm.MethodName)) ∈ sa_Ts := tv_m7 237 rfl rfl
set_option maxRecDepth 20000 in
theorem tv_1679 : (Jvm.Cond.instanceMethod ({ cls := "OffThenOnModel", name := "keepPlan", desc := "(II)V" } : Jvm.MethodName)) ∈ sa_Ts := tv_m7 239 rfl rfl
set_option maxRecDepth 20000 in
theorem tv_1680 : (Jvm.Cond.code ({ cls := "OffThenOnModel", name := "keepPlan", desc := "(II)V" } : Jvm.MethodName) prog_14_method_75_code (4 : Nat) (Option.none : Option Jvm.ClassFile.FieldType)) ∈ sa_Ts := tv_m8 0 rfl rfl
set_option maxRecDepth 20000 in
theorem tv_1681 : (Jvm.Cond.methodLink "OffThenOnModel" (306 : Nat) ({ cls := "OffThenOnModel", name := "minutesOf", desc := "(II)I" } : Jvm.MethodName)) ∈ sa_Ts := tv_m8 1 rfl rfl
set_option maxRecDepth 20000 in
theorem tv_1683 : (Jvm.Cond.instanceMethod ({ cls := "OffThenOnModel", name := "minutesOf", desc := "(II)I" } : Jvm.MethodName)) ∈ sa_Ts := tv_m8 3 rfl rfl
set_option maxRecDepth 20000 in
theorem tv_1684 : (Jvm.Cond.code ({ cls := "OffThenOnModel", name := "minutesOf", desc := "(II)I" } : Jvm.MethodName) prog_14_method_73_code (3 : Nat) (Option.some Jvm.ClassFile.FieldType.int)) ∈ sa_Ts := tv_m8 4 rfl rfl
set_option maxRecDepth 20000 in
theorem tv_1693 : (Jvm.Cond.methodLink "OffThenOnModel" (314 : Nat) ({ cls := "OffThenOnModel", name := "startOf", desc := "(I)I" } : Jvm.MethodName)) ∈ sa_Ts := tv_m8 13 rfl rfl
set_option maxRecDepth 20000 in
theorem tv_1695 : (Jvm.Cond.instanceMethod ({ cls := "OffThenOnModel", name := "startOf", desc := "(I)I" } : Jvm.MethodName)) ∈ sa_Ts := tv_m8 15 rfl rfl
set_option maxRecDepth 20000 in
theorem tv_1696 : (Jvm.Cond.code ({ cls := "OffThenOnModel", name := "startOf", desc := "(I)I" } : Jvm.MethodName) prog_14_method_79_code (5 : Nat) (Option.some Jvm.ClassFile.FieldType.int)) ∈ sa_Ts := tv_m8 16 rfl rfl
set_option maxRecDepth 20000 in
theorem tv_1705 : (Jvm.Cond.methodLink "OffThenOnModel" (317 : Nat) ({ cls := "OffThenOnModel", name := "bits", desc := "(I)I" } : Jvm.MethodName)) ∈ sa_Ts := tv_m8 25 rfl rfl
set_option maxRecDepth 20000 in
theorem tv_1706 : (Jvm.Cond.static ({ cls := "OffThenOnModel", name := "bits", desc := "(I)I" } : Jvm.MethodName)) ∈ sa_Ts := tv_m8 26 rfl rfl
set_option maxRecDepth 20000 in
theorem tv_1707 : (Jvm.Cond.code ({ cls := "OffThenOnModel", name := "bits", desc := "(I)I" } : Jvm.MethodName) prog_14_method_10_code (3 : Nat) (Option.some Jvm.ClassFile.FieldType.int)) ∈ sa_Ts := tv_m8 27 rfl rfl
set_option maxRecDepth 20000 in
theorem tv_1716 : (Jvm.Cond.methodLink "OffThenOnModel" (320 : Nat) ({ cls := "OffThenOnModel", name := "areAlike", desc := "(II)Z" } : Jvm.MethodName)) ∈ sa_Ts := tv_m8 36 rfl rfl
set_option maxRecDepth 20000 in
theorem tv_1718 : (Jvm.Cond.instanceMethod ({ cls := "OffThenOnModel", name := "areAlike", desc := "(II)Z" } : Jvm.MethodName)) ∈ sa_Ts := tv_m8 38 rfl rfl
set_option maxRecDepth 20000 in
theorem tv_1719 : (Jvm.Cond.code ({ cls := "OffThenOnModel", name := "areAlike", desc := "(II)Z" } : Jvm.MethodName) prog_14_method_84_code (3 : Nat) (Option.some Jvm.ClassFile.FieldType.boolean)) ∈ sa_Ts := tv_m8 39 rfl rfl
set_option maxRecDepth 20000 in
theorem tv_1728 : (Jvm.Cond.methodLink "OffThenOnModel" (323 : Nat) ({ cls := "OffThenOnModel", name := "groupAt", desc := "(II)I" } : Jvm.MethodName)) ∈ sa_Ts := tv_m8 48 rfl rfl
set_option maxRecDepth 20000 in
theorem tv_1730 : (Jvm.Cond.instanceMethod ({ cls := "OffThenOnModel", name := "groupAt", desc := "(II)I" } : Jvm.MethodName)) ∈ sa_Ts := tv_m8 50 rfl rfl
set_option maxRecDepth 20000 in
theorem tv_1731 : (Jvm.Cond.code ({ cls := "OffThenOnModel", name := "groupAt", desc := "(II)I" } : Jvm.MethodName) prog_14_method_87_code (7 : Nat) (Option.some Jvm.ClassFile.FieldType.int)) ∈ sa_Ts := tv_m8 51 rfl rfl
set_option maxRecDepth 20000 in
theorem tv_1740 : (Jvm.Cond.methodLink "OffThenOnModel" (329 : Nat) ({ cls := "OffThenOnModel", name := "layAside", desc := "()V" } : Jvm.MethodName)) ∈ sa_Ts := tv_m8 60 rfl rfl
set_option maxRecDepth 20000 in
theorem tv_1742 : (Jvm.Cond.instanceMethod ({ cls := "OffThenOnModel", name := "layAside", desc := "()V" } : Jvm.MethodName)) ∈ sa_Ts := tv_m8 62 rfl rfl
set_option maxRecDepth 20000 in
theorem tv_1743 : (Jvm.Cond.code ({ cls := "OffThenOnModel", name := "layAside", desc := "()V" } : Jvm.MethodName) prog_14_method_90_code (2 : Nat) (Option.none : Option Jvm.ClassFile.FieldType)) ∈ sa_Ts := tv_m8 63 rfl rfl
set_option maxRecDepth 20000 in
theorem tv_1744 : (Jvm.Cond.methodLink "OffThenOnModel" (332 : Nat) ({ cls := "OffThenOnModel", name := "showsOn", desc := "(III)Z" } : Jvm.MethodName)) ∈ sa_Ts := tv_m8 64 rfl rfl
set_option maxRecDepth 20000 in
theorem tv_1746 : (Jvm.Cond.instanceMethod ({ cls := "OffThenOnModel", name := "showsOn", desc := "(III)Z" } : Jvm.MethodName)) ∈ sa_Ts := tv_m8 66 rfl rfl
set_option maxRecDepth 20000 in
theorem tv_1747 : (Jvm.Cond.code ({ cls := "OffThenOnModel", name := "showsOn", desc := "(III)Z" } : Jvm.MethodName) prog_14_method_92_code (6 : Nat) (Option.some Jvm.ClassFile.FieldType.boolean)) ∈ sa_Ts := tv_m8 67 rfl rfl
set_option maxRecDepth 20000 in
theorem tv_1748 : (Jvm.Cond.methodLink "OffThenOnModel" (326 : Nat) ({ cls := "OffThenOnModel", name := "takeBack", desc := "()V" } : Jvm.MethodName)) ∈ sa_Ts := tv_m8 68 rfl rfl
set_option maxRecDepth 20000 in
theorem tv_1750 : (Jvm.Cond.instanceMethod ({ cls := "OffThenOnModel", name := "takeBack", desc := "()V" } : Jvm.MethodName)) ∈ sa_Ts := tv_m8 70 rfl rfl
set_option maxRecDepth 20000 in
theorem tv_1751 : (Jvm.Cond.code ({ cls := "OffThenOnModel", name := "takeBack", desc := "()V" } : Jvm.MethodName) prog_14_method_91_code (2 : Nat) (Option.none : Option Jvm.ClassFile.FieldType)) ∈ sa_Ts := tv_m8 71 rfl rfl
set_option maxRecDepth 20000 in
theorem tv_1764 : (Jvm.Cond.methodLink "OffThenOnModel" (338 : Nat) ({ cls := "OffThenOnModel", name := "writeWord", desc := "(J)V" } : Jvm.MethodName)) ∈ sa_Ts := tv_m8 84 rfl rfl
set_option maxRecDepth 20000 in
theorem tv_1766 : (Jvm.Cond.instanceMethod ({ cls := "OffThenOnModel", name := "writeWord", desc := "(J)V" } : Jvm.MethodName)) ∈ sa_Ts := tv_m8 86 rfl rfl
set_option maxRecDepth 20000 in
theorem tv_1767 : (Jvm.Cond.code ({ cls := "OffThenOnModel", name := "writeWord", desc := "(J)V" } : Jvm.MethodName) prog_14_method_97_code (3 : Nat) (Option.none : Option Jvm.ClassFile.FieldType)) ∈ sa_Ts := tv_m8 87 rfl rfl
set_option maxRecDepth 20000 in
theorem tv_1768 : (Jvm.Cond.methodLink "OffThenOnModel" (342 : Nat) ({ cls := "OffThenOnModel", name := "write", desc := "(I)V" } : Jvm.MethodName)) ∈ sa_Ts := tv_m8 88 rfl rfl
set_option maxRecDepth 20000 in
theorem tv_1770 : (Jvm.Cond.instanceMethod ({ cls := "OffThenOnModel", name := "write", desc := "(I)V" } : Jvm.MethodName)) ∈ sa_Ts := tv_m8 90 rfl rfl
set_option maxRecDepth 20000 in
theorem tv_1771 : (Jvm.Cond.code ({ cls := "OffThenOnModel", name := "write", desc := "(I)V" } : Jvm.MethodName) prog_14_method_96_code (2 : Nat) (Option.none : Option Jvm.ClassFile.FieldType)) ∈ sa_Ts := tv_m8 91 rfl rfl
set_option maxRecDepth 20000 in
theorem tv_1772 : (Jvm.Cond.methodLink "OffThenOnModel" (348 : Nat) ({ cls := "OffThenOnModel", name := "writeNext", desc := "(J)V" } : Jvm.MethodName)) ∈ sa_Ts := tv_m8 92 rfl rfl
set_option maxRecDepth 20000 in
theorem tv_1774 : (Jvm.Cond.instanceMethod ({ cls := "OffThenOnModel", name := "writeNext", desc := "(J)V" } : Jvm.MethodName)) ∈ sa_Ts := tv_m8 94 rfl rfl
set_option maxRecDepth 20000 in
theorem tv_1775 : (Jvm.Cond.code ({ cls := "OffThenOnModel", name := "writeNext", desc := "(J)V" } : Jvm.MethodName) prog_14_method_99_code (3 : Nat) (Option.none : Option Jvm.ClassFile.FieldType)) ∈ sa_Ts := tv_m8 95 rfl rfl
set_option maxRecDepth 20000 in
theorem tv_1776 : (Jvm.Cond.methodLink "OffThenOnModel" (345 : Nat) ({ cls := "OffThenOnModel", name := "writeNumber", desc := "(I)V" } : Jvm.MethodName)) ∈ sa_Ts := tv_m8 96 rfl rfl
set_option maxRecDepth 20000 in
theorem tv_1778 : (Jvm.Cond.instanceMethod ({ cls := "OffThenOnModel", name := "writeNumber", desc := "(I)V" } : Jvm.MethodName)) ∈ sa_Ts := tv_m8 98 rfl rfl
set_option maxRecDepth 20000 in
theorem tv_1779 : (Jvm.Cond.code ({ cls := "OffThenOnModel", name := "writeNumber", desc := "(I)V" } : Jvm.MethodName) prog_14_method_98_code (2 : Nat) (Option.none : Option Jvm.ClassFile.FieldType)) ∈ sa_Ts := tv_m8 99 rfl rfl
set_option maxRecDepth 20000 in
theorem tv_1788 : (Jvm.Cond.methodLink "OffThenOnModel" (354 : Nat) ({ cls := "OffThenOnModel", name := "drawMinutes", desc := "(II)I" } : Jvm.MethodName)) ∈ sa_Ts := tv_m8 108 rfl rfl
set_option maxRecDepth 20000 in
theorem tv_1790 : (Jvm.Cond.instanceMethod ({ cls := "OffThenOnModel", name := "drawMinutes", desc := "(II)I" } : Jvm.MethodName)) ∈ sa_Ts := tv_m8 110 rfl rfl
set_option maxRecDepth 20000 in
theorem tv_1791 : (Jvm.Cond.code ({ cls := "OffThenOnModel", name := "drawMinutes", desc := "(II)I" } : Jvm.MethodName) prog_14_method_103_code (7 : Nat) (Option.some Jvm.ClassFile.FieldType.int)) ∈ sa_Ts := tv_m8 111 rfl rfl
set_option maxRecDepth 20000 in
theorem tv_1792 : (Jvm.Cond.methodLink "OffThenOnModel" (351 : Nat) ({ cls := "OffThenOnModel", name := "tryTo", desc := "(II)V" } : Jvm.MethodName)) ∈ sa_Ts := tv_m8 112 rfl rfl
set_option maxRecDepth 20000 in
theorem tv_1794 : (Jvm.Cond.instanceMethod ({ cls := "OffThenOnModel", name := "tryTo", desc := "(II)V" } : Jvm.MethodName)) ∈ sa_Ts := tv_m8 114 rfl rfl
set_option maxRecDepth 20000 in
theorem tv_1795 : (Jvm.Cond.code ({ cls := "OffThenOnModel", name := "tryTo", desc := "(II)V" } : Jvm.MethodName) prog_14_method_102_code (3 : Nat) (Option.none : Option Jvm.ClassFile.FieldType)) ∈ sa_Ts := tv_m8 115 rfl rfl
set_option maxRecDepth 20000 in
theorem tv_1804 : (Jvm.Cond.methodLink "OffThenOnModel" (366 : Nat) ({ cls := "OffThenOnModel", name := "readLogLine", desc := "()Z" } : Jvm.MethodName)) ∈ sa_Ts := tv_m8 124 rfl rfl
set_option maxRecDepth 20000 in
theorem tv_1806 : (Jvm.Cond.instanceMethod ({ cls := "OffThenOnModel", name := "readLogLine", desc := "()Z" } : Jvm.MethodName)) ∈ sa_Ts := tv_m8 126 rfl rfl
set_option maxRecDepth 20000 in
theorem tv_1807 : (Jvm.Cond.code ({ cls := "OffThenOnModel", name := "readLogLine", desc := "()Z" } : Jvm.MethodName) prog_14_method_108_code (1 : Nat) (Option.some Jvm.ClassFile.FieldType.boolean)) ∈ sa_Ts := tv_m8 127 rfl rfl
set_option maxRecDepth 20000 in
theorem tv_1808 : (Jvm.Cond.methodLink "OffThenOnModel" (363 : Nat) ({ cls := "OffThenOnModel", name := "readDoes", desc := "(I)Z" } : Jvm.MethodName)) ∈ sa_Ts := tv_m8 128 rfl rfl
set_option maxRecDepth 20000 in
theorem tv_1810 : (Jvm.Cond.instanceMethod ({ cls := "OffThenOnModel", name := "readDoes", desc := "(I)Z" } : Jvm.MethodName)) ∈ sa_Ts := tv_m8 130 rfl rfl
set_option maxRecDepth 20000 in
theorem tv_1811 : (Jvm.Cond.code ({ cls := "OffThenOnModel", name := "readDoes", desc := "(I)Z" } : Jvm.MethodName) prog_14_method_107_code (4 : Nat) (Option.some Jvm.ClassFile.FieldType.boolean)) ∈ sa_Ts := tv_m8 131 rfl rfl
set_option maxRecDepth 20000 in
theorem tv_1812 : (Jvm.Cond.methodLink "OffThenOnModel" (357 : Nat) ({ cls := "OffThenOnModel", name := "readNamed", desc := "(II)Z" } : Jvm.MethodName)) ∈ sa_Ts := tv_m8 132 rfl rfl
set_option maxRecDepth 20000 in
theorem tv_1814 : (Jvm.Cond.instanceMethod ({ cls := "OffThenOnModel", name := "readNamed", desc := "(II)Z" } : Jvm.MethodName)) ∈ sa_Ts := tv_m8 134 rfl rfl
set_option maxRecDepth 20000 in
theorem tv_1815 : (Jvm.Cond.code ({ cls := "OffThenOnModel", name := "readNamed", desc := "(II)Z" } : Jvm.MethodName) prog_14_method_106_code (3 : Nat) (Option.some Jvm.ClassFile.FieldType.boolean)) ∈ sa_Ts := tv_m8 135 rfl rfl
set_option maxRecDepth 20000 in
theorem tv_1816 : (Jvm.Cond.methodLink "OffThenOnModel" (369 : Nat) ({ cls := "OffThenOnModel", name := "goBy", desc := "(I)I" } : Jvm.MethodName)) ∈ sa_Ts := tv_m8 136 rfl rfl
set_option maxRecDepth 20000 in
theorem tv_1818 : (Jvm.Cond.instanceMethod ({ cls := "OffThenOnModel", name := "goBy", desc := "(I)I" } : Jvm.MethodName)) ∈ sa_Ts := tv_m8 138 rfl rfl
set_option maxRecDepth 20000 in
theorem tv_1819 : (Jvm.Cond.code ({ cls := "OffThenOnModel", name := "goBy", desc := "(I)I" } : Jvm.MethodName) prog_14_method_109_code (4 : Nat) (Option.some Jvm.ClassFile.FieldType.int)) ∈ sa_Ts := tv_m8 139 rfl rfl
set_option maxRecDepth 20000 in
theorem tv_1820 : (Jvm.Cond.methodLink "OffThenOnModel" (376 : Nat) ({ cls := "OffThenOnModel", name := "stay", desc := "(Z)V" } : Jvm.MethodName)) ∈ sa_Ts := tv_m8 140 rfl rfl
set_option maxRecDepth 20000 in
theorem tv_1822 : (Jvm.Cond.instanceMethod ({ cls := "OffThenOnModel", name := "stay", desc := "(Z)V" } : Jvm.MethodName)) ∈ sa_Ts := tv_m8 142 rfl rfl
set_option maxRecDepth 20000 in
theorem tv_1823 : (Jvm.Cond.code ({ cls := "OffThenOnModel", name := "stay", desc := "(Z)V" } : Jvm.MethodName) prog_14_method_111_code (4 : Nat) (Option.none : Option Jvm.ClassFile.FieldType)) ∈ sa_Ts := tv_m8 143 rfl rfl
set_option maxRecDepth 20000 in
theorem tv_1832 : (Jvm.Cond.methodLink "OffThenOnModel" (414 : Nat) ({ cls := "OffThenOnModel", name := "readOr", desc := "()Z" } : Jvm.MethodName)) ∈ sa_Ts := tv_m8 152 rfl rfl
set_option maxRecDepth 20000 in
theorem tv_1834 : (Jvm.Cond.instanceMethod ({ cls := "OffThenOnModel", name := "readOr", desc := "()Z" } : Jvm.MethodName)) ∈ sa_Ts := tv_m8 154 rfl rfl
set_option maxRecDepth 20000 in
theorem tv_1835 : (Jvm.Cond.code ({ cls := "OffThenOnModel", name := "readOr", desc := "()Z" } : Jvm.MethodName) prog_14_method_114_code (2 : Nat) (Option.some Jvm.ClassFile.FieldType.boolean)) ∈ sa_Ts := tv_m8 155 rfl rfl
set_option maxRecDepth 20000 in
theorem tv_1836 : (Jvm.Cond.methodLink "OffThenOnModel" (383 : Nat) ({ cls := "OffThenOnModel", name := "readAnd", desc := "()Z" } : Jvm.MethodName)) ∈ sa_Ts := tv_m8 156 rfl rfl
set_option maxRecDepth 20000 in
theorem tv_1838 : (Jvm.Cond.instanceMethod ({ cls := "OffThenOnModel", name := "readAnd", desc := "()Z" } : Jvm.MethodName)) ∈ sa_Ts := tv_m8 158 rfl rfl
set_option maxRecDepth 20000 in
theorem tv_1839 : (Jvm.Cond.code ({ cls := "OffThenOnModel", name := "readAnd", desc := "()Z" } : Jvm.MethodName) prog_14_method_115_code (2 : Nat) (Option.some Jvm.ClassFile.FieldType.boolean)) ∈ sa_Ts := tv_m8 159 rfl rfl
set_option maxRecDepth 20000 in
theorem tv_1840 : (Jvm.Cond.methodLink "OffThenOnModel" (393 : Nat) ({ cls := "OffThenOnModel", name := "readSaid", desc := "()Z" } : Jvm.MethodName)) ∈ sa_Ts := tv_m8 160 rfl rfl
set_option maxRecDepth 20000 in
theorem tv_1842 : (Jvm.Cond.instanceMethod ({ cls := "OffThenOnModel", name := "readSaid", desc := "()Z" } : Jvm.MethodName)) ∈ sa_Ts := tv_m8 162 rfl rfl
set_option maxRecDepth 20000 in
theorem tv_1843 : (Jvm.Cond.code ({ cls := "OffThenOnModel", name := "readSaid", desc := "()Z" } : Jvm.MethodName) prog_14_method_116_code (4 : Nat) (Option.some Jvm.ClassFile.FieldType.boolean)) ∈ sa_Ts := tv_m8 163 rfl rfl
set_option maxRecDepth 20000 in
theorem tv_1844 : (Jvm.Cond.methodLink "OffThenOnModel" (402 : Nat) ({ cls := "OffThenOnModel", name := "readBracket", desc := "()Z" } : Jvm.MethodName)) ∈ sa_Ts := tv_m8 164 rfl rfl
set_option maxRecDepth 20000 in
theorem tv_1846 : (Jvm.Cond.instanceMethod ({ cls := "OffThenOnModel", name := "readBracket", desc := "()Z" } : Jvm.MethodName)) ∈ sa_Ts := tv_m8 166 rfl rfl
set_option maxRecDepth 20000 in
theorem tv_1847 : (Jvm.Cond.code ({ cls := "OffThenOnModel", name := "readBracket", desc := "()Z" } : Jvm.MethodName) prog_14_method_118_code (1 : Nat) (Option.some Jvm.ClassFile.FieldType.boolean)) ∈ sa_Ts := tv_m8 167 rfl rfl
set_option maxRecDepth 20000 in
theorem tv_1848 : (Jvm.Cond.methodLink "OffThenOnModel" (405 : Nat) ({ cls := "OffThenOnModel", name := "readNot", desc := "()Z" } : Jvm.MethodName)) ∈ sa_Ts := tv_m8 168 rfl rfl
set_option maxRecDepth 20000 in
theorem tv_1850 : (Jvm.Cond.instanceMethod ({ cls := "OffThenOnModel", name := "readNot", desc := "()Z" } : Jvm.MethodName)) ∈ sa_Ts := tv_m8 170 rfl rfl
set_option maxRecDepth 20000 in
theorem tv_1851 : (Jvm.Cond.code ({ cls := "OffThenOnModel", name := "readNot", desc := "()Z" } : Jvm.MethodName) prog_14_method_117_code (1 : Nat) (Option.some Jvm.ClassFile.FieldType.boolean)) ∈ sa_Ts := tv_m8 171 rfl rfl
set_option maxRecDepth 20000 in
theorem tv_1852 : (Jvm.Cond.methodLink "OffThenOnModel" (389 : Nat) ({ cls := "OffThenOnModel", name := "saysOne", desc := "(IIII)I" } : Jvm.MethodName)) ∈ sa_Ts := tv_m8 172 rfl rfl
set_option maxRecDepth 20000 in
theorem tv_1854 : (Jvm.Cond.instanceMethod ({ cls := "OffThenOnModel", name := "saysOne", desc := "(IIII)I" } : Jvm.MethodName)) ∈ sa_Ts := tv_m8 174 rfl rfl
set_option maxRecDepth 20000 in
theorem tv_1855 : (Jvm.Cond.code ({ cls := "OffThenOnModel", name := "saysOne", desc := "(IIII)I" } : Jvm.MethodName) prog_14_method_113_code (6 : Nat) (Option.some Jvm.ClassFile.FieldType.int)) ∈ sa_Ts := tv_m8 175 rfl rfl
set_option maxRecDepth 20000 in
theorem tv_1856 : (Jvm.Cond.methodLink "OffThenOnModel" (408 : Nat) ({ cls := "OffThenOnModel", name := "readOf", desc := "(I)Z" } : Jvm.MethodName)) ∈ sa_Ts := tv_m8 176 rfl rfl
set_option maxRecDepth 20000 in
theorem tv_1858 : (Jvm.Cond.instanceMethod ({ cls := "OffThenOnModel", name := "readOf", desc := "(I)Z" } : Jvm.MethodName)) ∈ sa_Ts := tv_m8 178 rfl rfl
set_option maxRecDepth 20000 in
theorem tv_1859 : (Jvm.Cond.code ({ cls := "OffThenOnModel", name := "readOf", desc := "(I)Z" } : Jvm.MethodName) prog_14_method_119_code (2 : Nat) (Option.some Jvm.ClassFile.FieldType.boolean)) ∈ sa_Ts := tv_m8 179 rfl rfl
set_option maxRecDepth 20000 in
theorem tv_1860 : (Jvm.Cond.methodLink "OffThenOnModel" (411 : Nat) ({ cls := "OffThenOnModel", name := "readCompare", desc := "(I)Z" } : Jvm.MethodName)) ∈ sa_Ts := tv_m8 180 rfl rfl
set_option maxRecDepth 20000 in
theorem tv_1862 : (Jvm.Cond.instanceMethod ({ cls := "OffThenOnModel", name := "readCompare", desc := "(I)Z" } : Jvm.MethodName)) ∈ sa_Ts := tv_m8 182 rfl rfl
set_option maxRecDepth 20000 in
theorem tv_1863 : (Jvm.Cond.code ({ cls := "OffThenOnModel", name := "readCompare", desc := "(I)Z" } : Jvm.MethodName) prog_14_method_120_code (3 : Nat) (Option.some Jvm.ClassFile.FieldType.boolean)) ∈ sa_Ts := tv_m8 183 rfl rfl
set_option maxRecDepth 20000 in
theorem tv_1868 : (Jvm.Cond.methodLink "OffThenOnModel" (417 : Nat) ({ cls := "OffThenOnModel", name := "holds", desc := "(II)Z" } : Jvm.MethodName)) ∈ sa_Ts := tv_m8 188 rfl rfl
set_option maxRecDepth 20000 in
theorem tv_1870 : (Jvm.Cond.instanceMethod ({ cls := "OffThenOnModel", name := "holds", desc := "(II)Z" } : Jvm.MethodName)) ∈ sa_Ts := tv_m8 190 rfl rfl
set_option maxRecDepth 20000 in
theorem tv_1871 : (Jvm.Cond.code ({ cls := "OffThenOnModel", name := "holds", desc := "(II)Z" } : Jvm.MethodName) prog_14_method_122_code (8 : Nat) (Option.some Jvm.ClassFile.FieldType.boolean)) ∈ sa_Ts := tv_m8 191 rfl rfl
set_option maxRecDepth 20000 in
theorem tv_1901 : (Jvm.Cond.fieldLink "java/lang/String" (9 : Nat) "java/lang/String" "value" "[B") ∈ sa_Ts := tv_m8 221 rfl rfl
set_option maxRecDepth 20000 in
theorem tv_1902 : (Jvm.Cond.fieldLink "java/lang/String" (15 : Nat) "java/lang/String" "coder" "B") ∈ sa_Ts := tv_m8 222 rfl rfl
theorem tq_X12_come : Cond.selects "OffThenOnModel" ⟨"OffThenOnModel", "come", "(I)V"⟩ ⟨"OffThenOnModel", "come", "(I)V"⟩ ∈ sa_Ts := List.mem_filter.mpr ⟨List.mem_append_left _ (by decide +kernel), by decide +kernel⟩
theorem tq_X6_readRun : Cond.selects "OffThenOn$Reader" ⟨"OffThenOn$Reader", "readRun", "(I)V"⟩ ⟨"OffThenOn$Reader", "readRun", "(I)V"⟩ ∈ sa_Ts := List.mem_filter.mpr ⟨List.mem_append_left _ (by decide +kernel), by decide +kernel⟩
theorem tq_X3_isNewName : Cond.selects "OffThenOn$HouseReader" ⟨"OffThenOn$HouseReader", "isNewName", "()Z"⟩ ⟨"OffThenOn$HouseReader", "isNewName", "()Z"⟩ ∈ sa_Ts := List.mem_filter.mpr ⟨List.mem_append_left _ (by decide +kernel), by decide +kernel⟩
theorem tq_X3_deedHere : Cond.selects "OffThenOn$HouseReader" ⟨"OffThenOn$HouseReader", "deedHere", "()I"⟩ ⟨"OffThenOn$HouseReader", "deedHere", "()I"⟩ ∈ sa_Ts := List.mem_filter.mpr ⟨List.mem_append_left _ (by decide +kernel), by decide +kernel⟩
theorem tq_X3_readThing : Cond.selects "OffThenOn$HouseReader" ⟨"OffThenOn$HouseReader", "readThing", "()Z"⟩ ⟨"OffThenOn$HouseReader", "readThing", "()Z"⟩ ∈ sa_Ts := List.mem_filter.mpr ⟨List.mem_append_left _ (by decide +kernel), by decide +kernel⟩
theorem tq_X3_readFault : Cond.selects "OffThenOn$HouseReader" ⟨"OffThenOn$HouseReader", "readFault", "()Z"⟩ ⟨"OffThenOn$HouseReader", "readFault", "()Z"⟩ ∈ sa_Ts := List.mem_filter.mpr ⟨List.mem_append_left _ (by decide +kernel), by decide +kernel⟩
theorem tq_X3_readCure : Cond.selects "OffThenOn$HouseReader" ⟨"OffThenOn$HouseReader", "readCure", "()Z"⟩ ⟨"OffThenOn$HouseReader", "readCure", "()Z"⟩ ∈ sa_Ts := List.mem_filter.mpr ⟨List.mem_append_left _ (by decide +kernel), by decide +kernel⟩
theorem tq_X3_readLine : Cond.selects "OffThenOn$HouseReader" ⟨"OffThenOn$HouseReader", "readLine", "()Z"⟩ ⟨"OffThenOn$HouseReader", "readLine", "()Z"⟩ ∈ sa_Ts := List.mem_filter.mpr ⟨List.mem_append_left _ (by decide +kernel), by decide +kernel⟩
theorem tq_X11_takeText : Cond.selects "OffThenOn" ⟨"OffThenOn", "takeText", "(LOffThenOn$Reader;)V"⟩ ⟨"OffThenOn", "takeText", "(LOffThenOn$Reader;)V"⟩ ∈ sa_Ts := List.mem_filter.mpr ⟨List.mem_append_left _ (by decide +kernel), by decide +kernel⟩
theorem tq_X12_tapeAt : Cond.selects "OffThenOnModel" ⟨"OffThenOnModel", "tapeAt", "(I)I"⟩ ⟨"OffThenOnModel", "tapeAt", "(I)I"⟩ ∈ sa_Ts := List.mem_filter.mpr ⟨List.mem_append_left _ (by decide +kernel), by decide +kernel⟩
theorem tq_X12_take : Cond.selects "OffThenOnModel" ⟨"OffThenOnModel", "take", "()I"⟩ ⟨"OffThenOnModel", "take", "()I"⟩ ∈ sa_Ts := List.mem_filter.mpr ⟨List.mem_append_left _ (by decide +kernel), by decide +kernel⟩
theorem tq_X12_go : Cond.selects "OffThenOnModel" ⟨"OffThenOnModel", "go", "()V"⟩ ⟨"OffThenOnModel", "go", "()V"⟩ ∈ sa_Ts := List.mem_filter.mpr ⟨List.mem_append_left _ (by decide +kernel), by decide +kernel⟩
theorem tq_X12_bad : Cond.selects "OffThenOnModel" ⟨"OffThenOnModel", "bad", "(I)Z"⟩ ⟨"OffThenOnModel", "bad", "(I)Z"⟩ ∈ sa_Ts := List.mem_filter.mpr ⟨List.mem_append_left _ (by decide +kernel), by decide +kernel⟩
theorem tq_X12_isName : Cond.selects "OffThenOnModel" ⟨"OffThenOnModel", "isName", "()Z"⟩ ⟨"OffThenOnModel", "isName", "()Z"⟩ ∈ sa_Ts := List.mem_filter.mpr ⟨List.mem_append_left _ (by decide +kernel), by decide +kernel⟩
theorem tq_X12_readFirst : Cond.selects "OffThenOnModel" ⟨"OffThenOnModel", "readFirst", "(II)Z"⟩ ⟨"OffThenOnModel", "readFirst", "(II)Z"⟩ ∈ sa_Ts := List.mem_filter.mpr ⟨List.mem_append_left _ (by decide +kernel), by decide +kernel⟩
theorem tq_X12_readOne : Cond.selects "OffThenOnModel" ⟨"OffThenOnModel", "readOne", "(II)Z"⟩ ⟨"OffThenOnModel", "readOne", "(II)Z"⟩ ∈ sa_Ts := List.mem_filter.mpr ⟨List.mem_append_left _ (by decide +kernel), by decide +kernel⟩
theorem tq_X12_isWord : Cond.selects "OffThenOnModel" ⟨"OffThenOnModel", "isWord", "(I)Z"⟩ ⟨"OffThenOnModel", "isWord", "(I)Z"⟩ ∈ sa_Ts := List.mem_filter.mpr ⟨List.mem_append_left _ (by decide +kernel), by decide +kernel⟩
theorem tq_X12_readNumber : Cond.selects "OffThenOnModel" ⟨"OffThenOnModel", "readNumber", "(II)Z"⟩ ⟨"OffThenOnModel", "readNumber", "(II)Z"⟩ ∈ sa_Ts := List.mem_filter.mpr ⟨List.mem_append_left _ (by decide +kernel), by decide +kernel⟩
theorem tq_X12_put : Cond.selects "OffThenOnModel" ⟨"OffThenOnModel", "put", "(IZ)Z"⟩ ⟨"OffThenOnModel", "put", "(IZ)Z"⟩ ∈ sa_Ts := List.mem_filter.mpr ⟨List.mem_append_left _ (by decide +kernel), by decide +kernel⟩
theorem tq_X12_readNew : Cond.selects "OffThenOnModel" ⟨"OffThenOnModel", "readNew", "(I)Z"⟩ ⟨"OffThenOnModel", "readNew", "(I)Z"⟩ ∈ sa_Ts := List.mem_filter.mpr ⟨List.mem_append_left _ (by decide +kernel), by decide +kernel⟩
theorem tq_X12_readThing : Cond.selects "OffThenOnModel" ⟨"OffThenOnModel", "readThing", "()Z"⟩ ⟨"OffThenOnModel", "readThing", "()Z"⟩ ∈ sa_Ts := List.mem_filter.mpr ⟨List.mem_append_left _ (by decide +kernel), by decide +kernel⟩
theorem tq_X12_readFault : Cond.selects "OffThenOnModel" ⟨"OffThenOnModel", "readFault", "()Z"⟩ ⟨"OffThenOnModel", "readFault", "()Z"⟩ ∈ sa_Ts := List.mem_filter.mpr ⟨List.mem_append_left _ (by decide +kernel), by decide +kernel⟩
theorem tq_X12_readCures : Cond.selects "OffThenOnModel" ⟨"OffThenOnModel", "readCures", "()Z"⟩ ⟨"OffThenOnModel", "readCures", "()Z"⟩ ∈ sa_Ts := List.mem_filter.mpr ⟨List.mem_append_left _ (by decide +kernel), by decide +kernel⟩
theorem tq_X12_isSign : Cond.selects "OffThenOnModel" ⟨"OffThenOnModel", "isSign", "(I)Z"⟩ ⟨"OffThenOnModel", "isSign", "(I)Z"⟩ ∈ sa_Ts := List.mem_filter.mpr ⟨List.mem_append_left _ (by decide +kernel), by decide +kernel⟩
theorem tq_X12_begin : Cond.selects "OffThenOnModel" ⟨"OffThenOnModel", "begin", "(I)V"⟩ ⟨"OffThenOnModel", "begin", "(I)V"⟩ ∈ sa_Ts := List.mem_filter.mpr ⟨List.mem_append_left _ (by decide +kernel), by decide +kernel⟩
theorem tq_X12_readLine : Cond.selects "OffThenOnModel" ⟨"OffThenOnModel", "readLine", "()Z"⟩ ⟨"OffThenOnModel", "readLine", "()Z"⟩ ∈ sa_Ts := List.mem_filter.mpr ⟨List.mem_append_left _ (by decide +kernel), by decide +kernel⟩
theorem tq_X12_readEnd : Cond.selects "OffThenOnModel" ⟨"OffThenOnModel", "readEnd", "()Z"⟩ ⟨"OffThenOnModel", "readEnd", "()Z"⟩ ∈ sa_Ts := List.mem_filter.mpr ⟨List.mem_append_left _ (by decide +kernel), by decide +kernel⟩
theorem tq_X12_startSo : Cond.selects "OffThenOnModel" ⟨"OffThenOnModel", "startSo", "()V"⟩ ⟨"OffThenOnModel", "startSo", "()V"⟩ ∈ sa_Ts := List.mem_filter.mpr ⟨List.mem_append_left _ (by decide +kernel), by decide +kernel⟩
theorem tq_X12_isThere : Cond.selects "OffThenOnModel" ⟨"OffThenOnModel", "isThere", "(I)Z"⟩ ⟨"OffThenOnModel", "isThere", "(I)Z"⟩ ∈ sa_Ts := List.mem_filter.mpr ⟨List.mem_append_left _ (by decide +kernel), by decide +kernel⟩
theorem tq_X12_worst : Cond.selects "OffThenOnModel" ⟨"OffThenOnModel", "worst", "(I)I"⟩ ⟨"OffThenOnModel", "worst", "(I)I"⟩ ∈ sa_Ts := List.mem_filter.mpr ⟨List.mem_append_left _ (by decide +kernel), by decide +kernel⟩
theorem tq_X12_isNumbered : Cond.selects "OffThenOnModel" ⟨"OffThenOnModel", "isNumbered", "(I)Z"⟩ ⟨"OffThenOnModel", "isNumbered", "(I)Z"⟩ ∈ sa_Ts := List.mem_filter.mpr ⟨List.mem_append_left _ (by decide +kernel), by decide +kernel⟩
theorem tq_X12_isThing : Cond.selects "OffThenOnModel" ⟨"OffThenOnModel", "isThing", "(I)Z"⟩ ⟨"OffThenOnModel", "isThing", "(I)Z"⟩ ∈ sa_Ts := List.mem_filter.mpr ⟨List.mem_append_left _ (by decide +kernel), by decide +kernel⟩
theorem tq_X12_refuse : Cond.selects "OffThenOnModel" ⟨"OffThenOnModel", "refuse", "()I"⟩ ⟨"OffThenOnModel", "refuse", "()I"⟩ ∈ sa_Ts := List.mem_filter.mpr ⟨List.mem_append_left _ (by decide +kernel), by decide +kernel⟩
theorem tq_X12_lamp : Cond.selects "OffThenOnModel" ⟨"OffThenOnModel", "lamp", "(I)I"⟩ ⟨"OffThenOnModel", "lamp", "(I)I"⟩ ∈ sa_Ts := List.mem_filter.mpr ⟨List.mem_append_left _ (by decide +kernel), by decide +kernel⟩
theorem tq_X12_works : Cond.selects "OffThenOnModel" ⟨"OffThenOnModel", "works", "(I)Z"⟩ ⟨"OffThenOnModel", "works", "(I)Z"⟩ ∈ sa_Ts := List.mem_filter.mpr ⟨List.mem_append_left _ (by decide +kernel), by decide +kernel⟩
theorem tq_X12_isFault : Cond.selects "OffThenOnModel" ⟨"OffThenOnModel", "isFault", "(I)Z"⟩ ⟨"OffThenOnModel", "isFault", "(I)Z"⟩ ∈ sa_Ts := List.mem_filter.mpr ⟨List.mem_append_left _ (by decide +kernel), by decide +kernel⟩
theorem tq_X11_isFault : Cond.selects "OffThenOn" ⟨"OffThenOn", "isFault", "(I)Z"⟩ ⟨"OffThenOn", "isFault", "(I)Z"⟩ ∈ sa_Ts := List.mem_filter.mpr ⟨List.mem_append_left _ (by decide +kernel), by decide +kernel⟩
theorem tq_X12_working : Cond.selects "OffThenOnModel" ⟨"OffThenOnModel", "working", "()I"⟩ ⟨"OffThenOnModel", "working", "()I"⟩ ∈ sa_Ts := List.mem_filter.mpr ⟨List.mem_append_left _ (by decide +kernel), by decide +kernel⟩
theorem tq_X9_cutOff : Cond.selects "OffThenOn$State" ⟨"OffThenOn$State", "cutOff", "(LOffThenOn$House;I)V"⟩ ⟨"OffThenOn$State", "cutOff", "(LOffThenOn$House;I)V"⟩ ∈ sa_Ts := List.mem_filter.mpr ⟨List.mem_append_left _ (by decide +kernel), by decide +kernel⟩
theorem tq_X11_isThing : Cond.selects "OffThenOn" ⟨"OffThenOn", "isThing", "(I)Z"⟩ ⟨"OffThenOn", "isThing", "(I)Z"⟩ ∈ sa_Ts := List.mem_filter.mpr ⟨List.mem_append_left _ (by decide +kernel), by decide +kernel⟩
theorem tq_X11_settle : Cond.selects "OffThenOn" ⟨"OffThenOn", "settle", "(I)I"⟩ ⟨"OffThenOn", "settle", "(I)I"⟩ ∈ sa_Ts := List.mem_filter.mpr ⟨List.mem_append_left _ (by decide +kernel), by decide +kernel⟩
theorem tq_X12_isBehind : Cond.selects "OffThenOnModel" ⟨"OffThenOnModel", "isBehind", "(II)Z"⟩ ⟨"OffThenOnModel", "isBehind", "(II)Z"⟩ ∈ sa_Ts := List.mem_filter.mpr ⟨List.mem_append_left _ (by decide +kernel), by decide +kernel⟩
theorem tq_X12_set : Cond.selects "OffThenOnModel" ⟨"OffThenOnModel", "set", "(III)V"⟩ ⟨"OffThenOnModel", "set", "(III)V"⟩ ∈ sa_Ts := List.mem_filter.mpr ⟨List.mem_append_left _ (by decide +kernel), by decide +kernel⟩
theorem tq_X12_unnumber : Cond.selects "OffThenOnModel" ⟨"OffThenOnModel", "unnumber", "(I)V"⟩ ⟨"OffThenOnModel", "unnumber", "(I)V"⟩ ∈ sa_Ts := List.mem_filter.mpr ⟨List.mem_append_left _ (by decide +kernel), by decide +kernel⟩
theorem tq_X12_deed : Cond.selects "OffThenOnModel" ⟨"OffThenOnModel", "deed", "(II)V"⟩ ⟨"OffThenOnModel", "deed", "(II)V"⟩ ∈ sa_Ts := List.mem_filter.mpr ⟨List.mem_append_left _ (by decide +kernel), by decide +kernel⟩
theorem tq_X12_why : Cond.selects "OffThenOnModel" ⟨"OffThenOnModel", "why", "(II)I"⟩ ⟨"OffThenOnModel", "why", "(II)I"⟩ ∈ sa_Ts := List.mem_filter.mpr ⟨List.mem_append_left _ (by decide +kernel), by decide +kernel⟩
theorem tq_X12_snap : Cond.selects "OffThenOnModel" ⟨"OffThenOnModel", "snap", "()V"⟩ ⟨"OffThenOnModel", "snap", "()V"⟩ ∈ sa_Ts := List.mem_filter.mpr ⟨List.mem_append_left _ (by decide +kernel), by decide +kernel⟩
theorem tq_X12_live : Cond.selects "OffThenOnModel" ⟨"OffThenOnModel", "live", "(II)V"⟩ ⟨"OffThenOnModel", "live", "(II)V"⟩ ∈ sa_Ts := List.mem_filter.mpr ⟨List.mem_append_left _ (by decide +kernel), by decide +kernel⟩
theorem tq_X12_act : Cond.selects "OffThenOnModel" ⟨"OffThenOnModel", "act", "(III)I"⟩ ⟨"OffThenOnModel", "act", "(III)I"⟩ ∈ sa_Ts := List.mem_filter.mpr ⟨List.mem_append_left _ (by decide +kernel), by decide +kernel⟩
theorem tq_X9_draw : Cond.selects "OffThenOn$State" ⟨"OffThenOn$State", "draw", "(I)I"⟩ ⟨"OffThenOn$State", "draw", "(I)I"⟩ ∈ sa_Ts := List.mem_filter.mpr ⟨List.mem_append_left _ (by decide +kernel), by decide +kernel⟩
theorem tq_X9_takeAway : Cond.selects "OffThenOn$State" ⟨"OffThenOn$State", "takeAway", "(I)V"⟩ ⟨"OffThenOn$State", "takeAway", "(I)V"⟩ ∈ sa_Ts := List.mem_filter.mpr ⟨List.mem_append_left _ (by decide +kernel), by decide +kernel⟩
theorem tq_X9_startBoot : Cond.selects "OffThenOn$State" ⟨"OffThenOn$State", "startBoot", "(LOffThenOn$House;I)V"⟩ ⟨"OffThenOn$State", "startBoot", "(LOffThenOn$House;I)V"⟩ ∈ sa_Ts := List.mem_filter.mpr ⟨List.mem_append_left _ (by decide +kernel), by decide +kernel⟩
theorem tq_X9_doDeed : Cond.selects "OffThenOn$State" ⟨"OffThenOn$State", "doDeed", "(LOffThenOn$House;II)V"⟩ ⟨"OffThenOn$State", "doDeed", "(LOffThenOn$House;II)V"⟩ ∈ sa_Ts := List.mem_filter.mpr ⟨List.mem_append_left _ (by decide +kernel), by decide +kernel⟩
theorem tq_X12_draw : Cond.selects "OffThenOnModel" ⟨"OffThenOnModel", "draw", "(I)I"⟩ ⟨"OffThenOnModel", "draw", "(I)I"⟩ ∈ sa_Ts := List.mem_filter.mpr ⟨List.mem_append_left _ (by decide +kernel), by decide +kernel⟩
theorem tq_X12_go_ : Cond.selects "OffThenOnModel" ⟨"OffThenOnModel", "go", "(I)V"⟩ ⟨"OffThenOnModel", "go", "(I)V"⟩ ∈ sa_Ts := List.mem_filter.mpr ⟨List.mem_append_left _ (by decide +kernel), by decide +kernel⟩
theorem tq_X9_comeUp : Cond.selects "OffThenOn$State" ⟨"OffThenOn$State", "comeUp", "(LOffThenOn$House;I)V"⟩ ⟨"OffThenOn$State", "comeUp", "(LOffThenOn$House;I)V"⟩ ∈ sa_Ts := List.mem_filter.mpr ⟨List.mem_append_left _ (by decide +kernel), by decide +kernel⟩
theorem tq_X9_passMinute : Cond.selects "OffThenOn$State" ⟨"OffThenOn$State", "passMinute", "(LOffThenOn$House;)V"⟩ ⟨"OffThenOn$State", "passMinute", "(LOffThenOn$House;)V"⟩ ∈ sa_Ts := List.mem_filter.mpr ⟨List.mem_append_left _ (by decide +kernel), by decide +kernel⟩
theorem tq_X12_oneMinute : Cond.selects "OffThenOnModel" ⟨"OffThenOnModel", "oneMinute", "()V"⟩ ⟨"OffThenOnModel", "oneMinute", "()V"⟩ ∈ sa_Ts := List.mem_filter.mpr ⟨List.mem_append_left _ (by decide +kernel), by decide +kernel⟩
theorem tq_X12_passMinutes : Cond.selects "OffThenOnModel" ⟨"OffThenOnModel", "passMinutes", "(I)I"⟩ ⟨"OffThenOnModel", "passMinutes", "(I)I"⟩ ∈ sa_Ts := List.mem_filter.mpr ⟨List.mem_append_left _ (by decide +kernel), by decide +kernel⟩
theorem tq_X11_faultsByLamps : Cond.selects "OffThenOn" ⟨"OffThenOn", "faultsByLamps", "()I"⟩ ⟨"OffThenOn", "faultsByLamps", "()I"⟩ ∈ sa_Ts := List.mem_filter.mpr ⟨List.mem_append_left _ (by decide +kernel), by decide +kernel⟩
theorem tq_X12_showsSo : Cond.selects "OffThenOnModel" ⟨"OffThenOnModel", "showsSo", "(II)Z"⟩ ⟨"OffThenOnModel", "showsSo", "(II)Z"⟩ ∈ sa_Ts := List.mem_filter.mpr ⟨List.mem_append_left _ (by decide +kernel), by decide +kernel⟩
theorem tq_X12_leftAt : Cond.selects "OffThenOnModel" ⟨"OffThenOnModel", "leftAt", "(I)I"⟩ ⟨"OffThenOnModel", "leftAt", "(I)I"⟩ ∈ sa_Ts := List.mem_filter.mpr ⟨List.mem_append_left _ (by decide +kernel), by decide +kernel⟩
theorem tq_X12_keepPlan : Cond.selects "OffThenOnModel" ⟨"OffThenOnModel", "keepPlan", "(II)V"⟩ ⟨"OffThenOnModel", "keepPlan", "(II)V"⟩ ∈ sa_Ts := List.mem_filter.mpr ⟨List.mem_append_left _ (by decide +kernel), by decide +kernel⟩
theorem tq_X12_minutesOf : Cond.selects "OffThenOnModel" ⟨"OffThenOnModel", "minutesOf", "(II)I"⟩ ⟨"OffThenOnModel", "minutesOf", "(II)I"⟩ ∈ sa_Ts := List.mem_filter.mpr ⟨List.mem_append_left _ (by decide +kernel), by decide +kernel⟩
theorem tq_X12_planFrom : Cond.selects "OffThenOnModel" ⟨"OffThenOnModel", "planFrom", "(IIII)V"⟩ ⟨"OffThenOnModel", "planFrom", "(IIII)V"⟩ ∈ sa_Ts := List.mem_filter.mpr ⟨List.mem_append_left _ (by decide +kernel), by decide +kernel⟩
theorem tq_X12_startOf : Cond.selects "OffThenOnModel" ⟨"OffThenOnModel", "startOf", "(I)I"⟩ ⟨"OffThenOnModel", "startOf", "(I)I"⟩ ∈ sa_Ts := List.mem_filter.mpr ⟨List.mem_append_left _ (by decide +kernel), by decide +kernel⟩
theorem tq_X12_areAlike : Cond.selects "OffThenOnModel" ⟨"OffThenOnModel", "areAlike", "(II)Z"⟩ ⟨"OffThenOnModel", "areAlike", "(II)Z"⟩ ∈ sa_Ts := List.mem_filter.mpr ⟨List.mem_append_left _ (by decide +kernel), by decide +kernel⟩
theorem tq_X12_groupAt : Cond.selects "OffThenOnModel" ⟨"OffThenOnModel", "groupAt", "(II)I"⟩ ⟨"OffThenOnModel", "groupAt", "(II)I"⟩ ∈ sa_Ts := List.mem_filter.mpr ⟨List.mem_append_left _ (by decide +kernel), by decide +kernel⟩
theorem tq_X11_faultsByMinutes : Cond.selects "OffThenOn" ⟨"OffThenOn", "faultsByMinutes", "(I)I"⟩ ⟨"OffThenOn", "faultsByMinutes", "(I)I"⟩ ∈ sa_Ts := List.mem_filter.mpr ⟨List.mem_append_left _ (by decide +kernel), by decide +kernel⟩
theorem tq_X12_takeBack : Cond.selects "OffThenOnModel" ⟨"OffThenOnModel", "takeBack", "()V"⟩ ⟨"OffThenOnModel", "takeBack", "()V"⟩ ∈ sa_Ts := List.mem_filter.mpr ⟨List.mem_append_left _ (by decide +kernel), by decide +kernel⟩
theorem tq_X12_layAside : Cond.selects "OffThenOnModel" ⟨"OffThenOnModel", "layAside", "()V"⟩ ⟨"OffThenOnModel", "layAside", "()V"⟩ ∈ sa_Ts := List.mem_filter.mpr ⟨List.mem_append_left _ (by decide +kernel), by decide +kernel⟩
theorem tq_X12_showsOn : Cond.selects "OffThenOnModel" ⟨"OffThenOnModel", "showsOn", "(III)Z"⟩ ⟨"OffThenOnModel", "showsOn", "(III)Z"⟩ ∈ sa_Ts := List.mem_filter.mpr ⟨List.mem_append_left _ (by decide +kernel), by decide +kernel⟩
theorem tq_X11_shownFault : Cond.selects "OffThenOn" ⟨"OffThenOn", "shownFault", "(I)I"⟩ ⟨"OffThenOn", "shownFault", "(I)I"⟩ ∈ sa_Ts := List.mem_filter.mpr ⟨List.mem_append_left _ (by decide +kernel), by decide +kernel⟩
theorem tq_X12_writeWord : Cond.selects "OffThenOnModel" ⟨"OffThenOnModel", "writeWord", "(J)V"⟩ ⟨"OffThenOnModel", "writeWord", "(J)V"⟩ ∈ sa_Ts := List.mem_filter.mpr ⟨List.mem_append_left _ (by decide +kernel), by decide +kernel⟩
theorem tq_X12_write : Cond.selects "OffThenOnModel" ⟨"OffThenOnModel", "write", "(I)V"⟩ ⟨"OffThenOnModel", "write", "(I)V"⟩ ∈ sa_Ts := List.mem_filter.mpr ⟨List.mem_append_left _ (by decide +kernel), by decide +kernel⟩
theorem tq_X12_writeNumber : Cond.selects "OffThenOnModel" ⟨"OffThenOnModel", "writeNumber", "(I)V"⟩ ⟨"OffThenOnModel", "writeNumber", "(I)V"⟩ ∈ sa_Ts := List.mem_filter.mpr ⟨List.mem_append_left _ (by decide +kernel), by decide +kernel⟩
theorem tq_X12_writeNext : Cond.selects "OffThenOnModel" ⟨"OffThenOnModel", "writeNext", "(J)V"⟩ ⟨"OffThenOnModel", "writeNext", "(J)V"⟩ ∈ sa_Ts := List.mem_filter.mpr ⟨List.mem_append_left _ (by decide +kernel), by decide +kernel⟩
theorem tq_X12_tryTo : Cond.selects "OffThenOnModel" ⟨"OffThenOnModel", "tryTo", "(II)V"⟩ ⟨"OffThenOnModel", "tryTo", "(II)V"⟩ ∈ sa_Ts := List.mem_filter.mpr ⟨List.mem_append_left _ (by decide +kernel), by decide +kernel⟩
theorem tq_X12_drawMinutes : Cond.selects "OffThenOnModel" ⟨"OffThenOnModel", "drawMinutes", "(II)I"⟩ ⟨"OffThenOnModel", "drawMinutes", "(II)I"⟩ ∈ sa_Ts := List.mem_filter.mpr ⟨List.mem_append_left _ (by decide +kernel), by decide +kernel⟩
theorem tq_X4_keepLine : Cond.selects "OffThenOn$LogReader" ⟨"OffThenOn$LogReader", "keepLine", "(III)Z"⟩ ⟨"OffThenOn$LogReader", "keepLine", "(III)Z"⟩ ∈ sa_Ts := List.mem_filter.mpr ⟨List.mem_append_left _ (by decide +kernel), by decide +kernel⟩
theorem tq_X4_readAct : Cond.selects "OffThenOn$LogReader" ⟨"OffThenOn$LogReader", "readAct", "(LOffThenOn$House;)Z"⟩ ⟨"OffThenOn$LogReader", "readAct", "(LOffThenOn$House;)Z"⟩ ∈ sa_Ts := List.mem_filter.mpr ⟨List.mem_append_left _ (by decide +kernel), by decide +kernel⟩
theorem tq_X4_readEvent : Cond.selects "OffThenOn$LogReader" ⟨"OffThenOn$LogReader", "readEvent", "(LOffThenOn$House;)Z"⟩ ⟨"OffThenOn$LogReader", "readEvent", "(LOffThenOn$House;)Z"⟩ ∈ sa_Ts := List.mem_filter.mpr ⟨List.mem_append_left _ (by decide +kernel), by decide +kernel⟩
theorem tq_X4_readLine : Cond.selects "OffThenOn$LogReader" ⟨"OffThenOn$LogReader", "readLine", "(LOffThenOn$House;)Z"⟩ ⟨"OffThenOn$LogReader", "readLine", "(LOffThenOn$House;)Z"⟩ ∈ sa_Ts := List.mem_filter.mpr ⟨List.mem_append_left _ (by decide +kernel), by decide +kernel⟩
theorem tq_X4_liveLine : Cond.selects "OffThenOn$LogReader" ⟨"OffThenOn$LogReader", "liveLine", "(LOffThenOn$House;LOffThenOn$State;I)I"⟩ ⟨"OffThenOn$LogReader", "liveLine", "(LOffThenOn$House;LOffThenOn$State;I)I"⟩ ∈ sa_Ts := List.mem_filter.mpr ⟨List.mem_append_left _ (by decide +kernel), by decide +kernel⟩
theorem tq_X12_readLogLine : Cond.selects "OffThenOnModel" ⟨"OffThenOnModel", "readLogLine", "()Z"⟩ ⟨"OffThenOnModel", "readLogLine", "()Z"⟩ ∈ sa_Ts := List.mem_filter.mpr ⟨List.mem_append_left _ (by decide +kernel), by decide +kernel⟩
theorem tq_X12_goBy : Cond.selects "OffThenOnModel" ⟨"OffThenOnModel", "goBy", "(I)I"⟩ ⟨"OffThenOnModel", "goBy", "(I)I"⟩ ∈ sa_Ts := List.mem_filter.mpr ⟨List.mem_append_left _ (by decide +kernel), by decide +kernel⟩
theorem tq_X12_stay : Cond.selects "OffThenOnModel" ⟨"OffThenOnModel", "stay", "(Z)V"⟩ ⟨"OffThenOnModel", "stay", "(Z)V"⟩ ∈ sa_Ts := List.mem_filter.mpr ⟨List.mem_append_left _ (by decide +kernel), by decide +kernel⟩
theorem tq_X12_readDoes : Cond.selects "OffThenOnModel" ⟨"OffThenOnModel", "readDoes", "(I)Z"⟩ ⟨"OffThenOnModel", "readDoes", "(I)Z"⟩ ∈ sa_Ts := List.mem_filter.mpr ⟨List.mem_append_left _ (by decide +kernel), by decide +kernel⟩
theorem tq_X12_readNamed : Cond.selects "OffThenOnModel" ⟨"OffThenOnModel", "readNamed", "(II)Z"⟩ ⟨"OffThenOnModel", "readNamed", "(II)Z"⟩ ∈ sa_Ts := List.mem_filter.mpr ⟨List.mem_append_left _ (by decide +kernel), by decide +kernel⟩
theorem tq_X8_isOneHere : Cond.selects "OffThenOn$SentenceReader" ⟨"OffThenOn$SentenceReader", "isOneHere", "()Z"⟩ ⟨"OffThenOn$SentenceReader", "isOneHere", "()Z"⟩ ∈ sa_Ts := List.mem_filter.mpr ⟨List.mem_append_left _ (by decide +kernel), by decide +kernel⟩
theorem tq_X8_readCond : Cond.selects "OffThenOn$SentenceReader" ⟨"OffThenOn$SentenceReader", "readCond", "(LOffThenOn$House;I)Z"⟩ ⟨"OffThenOn$SentenceReader", "readCond", "(LOffThenOn$House;I)Z"⟩ ∈ sa_Ts := List.mem_filter.mpr ⟨List.mem_append_left _ (by decide +kernel), by decide +kernel⟩
theorem tq_X8_readNot : Cond.selects "OffThenOn$SentenceReader" ⟨"OffThenOn$SentenceReader", "readNot", "(LOffThenOn$House;I)Z"⟩ ⟨"OffThenOn$SentenceReader", "readNot", "(LOffThenOn$House;I)Z"⟩ ∈ sa_Ts := List.mem_filter.mpr ⟨List.mem_append_left _ (by decide +kernel), by decide +kernel⟩
theorem tq_X8_addNumbered : Cond.selects "OffThenOn$SentenceReader" ⟨"OffThenOn$SentenceReader", "addNumbered", "(III)Z"⟩ ⟨"OffThenOn$SentenceReader", "addNumbered", "(III)Z"⟩ ∈ sa_Ts := List.mem_filter.mpr ⟨List.mem_append_left _ (by decide +kernel), by decide +kernel⟩
theorem tq_X8_readCompared : Cond.selects "OffThenOn$SentenceReader" ⟨"OffThenOn$SentenceReader", "readCompared", "(I)Z"⟩ ⟨"OffThenOn$SentenceReader", "readCompared", "(I)Z"⟩ ∈ sa_Ts := List.mem_filter.mpr ⟨List.mem_append_left _ (by decide +kernel), by decide +kernel⟩
theorem tq_X8_readOne : Cond.selects "OffThenOn$SentenceReader" ⟨"OffThenOn$SentenceReader", "readOne", "(LOffThenOn$House;I)Z"⟩ ⟨"OffThenOn$SentenceReader", "readOne", "(LOffThenOn$House;I)Z"⟩ ∈ sa_Ts := List.mem_filter.mpr ⟨List.mem_append_left _ (by decide +kernel), by decide +kernel⟩
theorem tq_X8_readAll : Cond.selects "OffThenOn$SentenceReader" ⟨"OffThenOn$SentenceReader", "readAll", "(LOffThenOn$House;I)Z"⟩ ⟨"OffThenOn$SentenceReader", "readAll", "(LOffThenOn$House;I)Z"⟩ ∈ sa_Ts := List.mem_filter.mpr ⟨List.mem_append_left _ (by decide +kernel), by decide +kernel⟩
theorem tq_X12_readBracket : Cond.selects "OffThenOnModel" ⟨"OffThenOnModel", "readBracket", "()Z"⟩ ⟨"OffThenOnModel", "readBracket", "()Z"⟩ ∈ sa_Ts := List.mem_filter.mpr ⟨List.mem_append_left _ (by decide +kernel), by decide +kernel⟩
theorem tq_X12_readNot : Cond.selects "OffThenOnModel" ⟨"OffThenOnModel", "readNot", "()Z"⟩ ⟨"OffThenOnModel", "readNot", "()Z"⟩ ∈ sa_Ts := List.mem_filter.mpr ⟨List.mem_append_left _ (by decide +kernel), by decide +kernel⟩
theorem tq_X12_saysOne : Cond.selects "OffThenOnModel" ⟨"OffThenOnModel", "saysOne", "(IIII)I"⟩ ⟨"OffThenOnModel", "saysOne", "(IIII)I"⟩ ∈ sa_Ts := List.mem_filter.mpr ⟨List.mem_append_left _ (by decide +kernel), by decide +kernel⟩
theorem tq_X12_readOf : Cond.selects "OffThenOnModel" ⟨"OffThenOnModel", "readOf", "(I)Z"⟩ ⟨"OffThenOnModel", "readOf", "(I)Z"⟩ ∈ sa_Ts := List.mem_filter.mpr ⟨List.mem_append_left _ (by decide +kernel), by decide +kernel⟩
theorem tq_X12_readCompare : Cond.selects "OffThenOnModel" ⟨"OffThenOnModel", "readCompare", "(I)Z"⟩ ⟨"OffThenOnModel", "readCompare", "(I)Z"⟩ ∈ sa_Ts := List.mem_filter.mpr ⟨List.mem_append_left _ (by decide +kernel), by decide +kernel⟩
theorem tq_X12_readSaid : Cond.selects "OffThenOnModel" ⟨"OffThenOnModel", "readSaid", "()Z"⟩ ⟨"OffThenOnModel", "readSaid", "()Z"⟩ ∈ sa_Ts := List.mem_filter.mpr ⟨List.mem_append_left _ (by decide +kernel), by decide +kernel⟩
theorem tq_X12_readAnd : Cond.selects "OffThenOnModel" ⟨"OffThenOnModel", "readAnd", "()Z"⟩ ⟨"OffThenOnModel", "readAnd", "()Z"⟩ ∈ sa_Ts := List.mem_filter.mpr ⟨List.mem_append_left _ (by decide +kernel), by decide +kernel⟩
theorem tq_X12_readOr : Cond.selects "OffThenOnModel" ⟨"OffThenOnModel", "readOr", "()Z"⟩ ⟨"OffThenOnModel", "readOr", "()Z"⟩ ∈ sa_Ts := List.mem_filter.mpr ⟨List.mem_append_left _ (by decide +kernel), by decide +kernel⟩
theorem tq_X7_valueOf : Cond.selects "OffThenOn$Sentence" ⟨"OffThenOn$Sentence", "valueOf", "(LOffThenOn$House;LOffThenOn$State;II)I"⟩ ⟨"OffThenOn$Sentence", "valueOf", "(LOffThenOn$House;LOffThenOn$State;II)I"⟩ ∈ sa_Ts := List.mem_filter.mpr ⟨List.mem_append_left _ (by decide +kernel), by decide +kernel⟩
theorem tq_X7_thingsCompared : Cond.selects "OffThenOn$Sentence" ⟨"OffThenOn$Sentence", "thingsCompared", "(LOffThenOn$House;LOffThenOn$State;I)I"⟩ ⟨"OffThenOn$Sentence", "thingsCompared", "(LOffThenOn$House;LOffThenOn$State;I)I"⟩ ∈ sa_Ts := List.mem_filter.mpr ⟨List.mem_append_left _ (by decide +kernel), by decide +kernel⟩
theorem tq_X7_thingsOfStep : Cond.selects "OffThenOn$Sentence" ⟨"OffThenOn$Sentence", "thingsOfStep", "(LOffThenOn$House;LOffThenOn$State;I)I"⟩ ⟨"OffThenOn$Sentence", "thingsOfStep", "(LOffThenOn$House;LOffThenOn$State;I)I"⟩ ∈ sa_Ts := List.mem_filter.mpr ⟨List.mem_append_left _ (by decide +kernel), by decide +kernel⟩
theorem tq_X12_holds : Cond.selects "OffThenOnModel" ⟨"OffThenOnModel", "holds", "(II)Z"⟩ ⟨"OffThenOnModel", "holds", "(II)Z"⟩ ∈ sa_Ts := List.mem_filter.mpr ⟨List.mem_append_left _ (by decide +kernel), by decide +kernel⟩
theorem tq_X5_weightBehind : Cond.selects "OffThenOn$Planner" ⟨"OffThenOn$Planner", "weightBehind", "(I)I"⟩ ⟨"OffThenOn$Planner", "weightBehind", "(I)I"⟩ ∈ sa_Ts := List.mem_filter.mpr ⟨List.mem_append_left _ (by decide +kernel), by decide +kernel⟩
theorem tq_X5_keepBetter : Cond.selects "OffThenOn$Planner" ⟨"OffThenOn$Planner", "keepBetter", "(II)V"⟩ ⟨"OffThenOn$Planner", "keepBetter", "(II)V"⟩ ∈ sa_Ts := List.mem_filter.mpr ⟨List.mem_append_left _ (by decide +kernel), by decide +kernel⟩
theorem tq_X5_tryDeed : Cond.selects "OffThenOn$Planner" ⟨"OffThenOn$Planner", "tryDeed", "(LOffThenOn$House;IIII)V"⟩ ⟨"OffThenOn$Planner", "tryDeed", "(LOffThenOn$House;IIII)V"⟩ ∈ sa_Ts := List.mem_filter.mpr ⟨List.mem_append_left _ (by decide +kernel), by decide +kernel⟩
theorem tq_X5_weighDeed : Cond.selects "OffThenOn$Planner" ⟨"OffThenOn$Planner", "weighDeed", "(LOffThenOn$House;II)V"⟩ ⟨"OffThenOn$Planner", "weighDeed", "(LOffThenOn$House;II)V"⟩ ∈ sa_Ts := List.mem_filter.mpr ⟨List.mem_append_left _ (by decide +kernel), by decide +kernel⟩
theorem tq_X5_tryRows : Cond.selects "OffThenOn$Planner" ⟨"OffThenOn$Planner", "tryRows", "(LOffThenOn$House;III)V"⟩ ⟨"OffThenOn$Planner", "tryRows", "(LOffThenOn$House;III)V"⟩ ∈ sa_Ts := List.mem_filter.mpr ⟨List.mem_append_left _ (by decide +kernel), by decide +kernel⟩
theorem tq_X11_minutesOfWay : Cond.selects "OffThenOn" ⟨"OffThenOn", "minutesOfWay", "(II)I"⟩ ⟨"OffThenOn", "minutesOfWay", "(II)I"⟩ ∈ sa_Ts := List.mem_filter.mpr ⟨List.mem_append_left _ (by decide +kernel), by decide +kernel⟩
theorem tq_X11_eveningsWithDeed : Cond.selects "OffThenOn" ⟨"OffThenOn", "eveningsWithDeed", "()I"⟩ ⟨"OffThenOn", "eveningsWithDeed", "()I"⟩ ∈ sa_Ts := List.mem_filter.mpr ⟨List.mem_append_left _ (by decide +kernel), by decide +kernel⟩
theorem tq_X11_countWays : Cond.selects "OffThenOn" ⟨"OffThenOn", "countWays", "(II)I"⟩ ⟨"OffThenOn", "countWays", "(II)I"⟩ ∈ sa_Ts := List.mem_filter.mpr ⟨List.mem_append_left _ (by decide +kernel), by decide +kernel⟩
theorem yb_X0_add : sa_arg yX0_add 1 := ⟨by decide +kernel, by decide +kernel, by decide +kernel⟩
theorem yb_X0_addInt : sa_arg yX0_addInt 1 := ⟨by decide +kernel, by decide +kernel, by decide +kernel⟩
theorem yb_X12_come : sa_arg yX12_come 1 := ⟨by decide +kernel, by decide +kernel, by decide +kernel⟩
theorem yb_X0_at : sa_arg yX0_at 1 := ⟨by decide +kernel, by decide +kernel, by decide +kernel⟩
theorem yb_X6_isLetter : sa_arg yX6_isLetter 1 := ⟨by decide +kernel, by decide +kernel, by decide +kernel⟩
theorem yb_X6_isDigit : sa_arg yX6_isDigit 1 := ⟨by decide +kernel, by decide +kernel, by decide +kernel⟩
theorem yb_X6_keywordOf : sa_arg yX6_keywordOf 1 := ⟨by decide +kernel, by decide +kernel, by decide +kernel⟩
theorem yb_X6_isBlank : sa_arg yX6_isBlank 1 := ⟨by decide +kernel, by decide +kernel, by decide +kernel⟩
theorem yb_X6_readRun : sa_arg yX6_readRun 1 := ⟨by decide +kernel, by decide +kernel, by decide +kernel⟩
theorem yb_X6_isSign : sa_arg yX6_isSign 1 := ⟨by decide +kernel, by decide +kernel, by decide +kernel⟩
theorem yb_X6_step : sa_arg yX6_step 0 := ⟨by decide +kernel, by decide +kernel, by decide +kernel⟩
theorem yb_X6_refuse : sa_arg yX6_refuse 1 := ⟨by decide +kernel, by decide +kernel, by decide +kernel⟩
theorem yb_X6_isName : sa_arg yX6_isName 0 := ⟨by decide +kernel, by decide +kernel, by decide +kernel⟩
theorem yb_X2_findThing : sa_arg yX2_findThing 1 := ⟨by decide +kernel, by decide +kernel, by decide +kernel⟩
theorem yb_X2_findFault : sa_arg yX2_findFault 1 := ⟨by decide +kernel, by decide +kernel, by decide +kernel⟩
theorem yb_X6_isSignNow : sa_arg yX6_isSignNow 1 := ⟨by decide +kernel, by decide +kernel, by decide +kernel⟩
theorem yb_X11_bit : sa_arg yX11_bit 2 := ⟨by decide +kernel, by decide +kernel, by decide +kernel⟩
theorem yb_X3_isNewName : sa_arg yX3_isNewName 0 := ⟨by decide +kernel, by decide +kernel, by decide +kernel⟩
theorem yb_X6_takeNumber : sa_arg yX6_takeNumber 2 := ⟨by decide +kernel, by decide +kernel, by decide +kernel⟩
theorem yb_X6_takeThing : sa_arg yX6_takeThing 1 := ⟨by decide +kernel, by decide +kernel, by decide +kernel⟩
theorem yb_X6_takeSign : sa_arg yX6_takeSign 1 := ⟨by decide +kernel, by decide +kernel, by decide +kernel⟩
theorem yb_X2_addThing : sa_arg yX2_addThing 4 := ⟨by decide +kernel, by decide +kernel, by decide +kernel⟩
theorem yb_X2_addFault : sa_arg yX2_addFault 5 := ⟨by decide +kernel, by decide +kernel, by decide +kernel⟩
theorem yb_X6_takeFault : sa_arg yX6_takeFault 1 := ⟨by decide +kernel, by decide +kernel, by decide +kernel⟩
theorem yb_X3_deedHere : sa_arg yX3_deedHere 0 := ⟨by decide +kernel, by decide +kernel, by decide +kernel⟩
theorem yb_X2_cureOf : sa_arg yX2_cureOf 2 := ⟨by decide +kernel, by decide +kernel, by decide +kernel⟩
theorem yb_X2_addCure : sa_arg yX2_addCure 3 := ⟨by decide +kernel, by decide +kernel, by decide +kernel⟩
theorem yb_X3_readThing : sa_arg yX3_readThing 0 := ⟨by decide +kernel, by decide +kernel, by decide +kernel⟩
theorem yb_X3_readFault : sa_arg yX3_readFault 0 := ⟨by decide +kernel, by decide +kernel, by decide +kernel⟩
theorem yb_X3_readCure : sa_arg yX3_readCure 0 := ⟨by decide +kernel, by decide +kernel, by decide +kernel⟩
theorem yb_X2_clear : sa_arg yX2_clear 0 := ⟨by decide +kernel, by decide +kernel, by decide +kernel⟩
theorem yb_X6_start : sa_arg yX6_start 2 := ⟨by decide +kernel, by decide +kernel, by decide +kernel⟩
theorem yb_X3_readLine : sa_arg yX3_readLine 0 := ⟨by decide +kernel, by decide +kernel, by decide +kernel⟩
theorem yb_X3_readHouse : sa_arg yX3_readHouse 1 := ⟨by decide +kernel, by decide +kernel, by decide +kernel⟩
theorem yb_X11_takeText : sa_arg yX11_takeText 1 := ⟨by decide +kernel, by decide +kernel, by decide +kernel⟩
theorem yb_X2_copyFrom : sa_arg yX2_copyFrom 1 := ⟨by decide +kernel, by decide +kernel, by decide +kernel⟩
theorem yb_X9_makeNew : sa_arg yX9_makeNew 0 := ⟨by decide +kernel, by decide +kernel, by decide +kernel⟩
theorem yb_X7_clear : sa_arg yX7_clear 0 := ⟨by decide +kernel, by decide +kernel, by decide +kernel⟩
theorem yb_X1_clear : sa_arg yX1_clear 0 := ⟨by decide +kernel, by decide +kernel, by decide +kernel⟩
theorem yb_X12_isLetter : sa_arg yX12_isLetter 1 := ⟨by decide +kernel, by decide +kernel, by decide +kernel⟩
theorem yb_X12_isDigit : sa_arg yX12_isDigit 1 := ⟨by decide +kernel, by decide +kernel, by decide +kernel⟩
theorem yb_X12_tapeAt : sa_arg yX12_tapeAt 1 := ⟨by decide +kernel, by decide +kernel, by decide +kernel⟩
theorem yb_X12_take : sa_arg yX12_take 0 := ⟨by decide +kernel, by decide +kernel, by decide +kernel⟩
theorem yb_X12_go : sa_arg yX12_go 0 := ⟨by decide +kernel, by decide +kernel, by decide +kernel⟩
theorem yb_X12_spelt : sa_arg yX12_spelt 7 := ⟨by decide +kernel, by decide +kernel, by decide +kernel⟩
theorem yb_X12_wordOf : sa_arg yX12_wordOf 1 := ⟨by decide +kernel, by decide +kernel, by decide +kernel⟩
theorem yb_X12_bad : sa_arg yX12_bad 1 := ⟨by decide +kernel, by decide +kernel, by decide +kernel⟩
theorem yb_X12_isName : sa_arg yX12_isName 0 := ⟨by decide +kernel, by decide +kernel, by decide +kernel⟩
theorem yb_X12_findIn : sa_arg yX12_findIn 4 := ⟨by decide +kernel, by decide +kernel, by decide +kernel⟩
theorem yb_X12_isIn : sa_arg yX12_isIn 3 := ⟨by decide +kernel, by decide +kernel, by decide +kernel⟩
theorem yb_X12_readFirst : sa_arg yX12_readFirst 2 := ⟨by decide +kernel, by decide +kernel, by decide +kernel⟩
theorem yb_X12_readOne : sa_arg yX12_readOne 2 := ⟨by decide +kernel, by decide +kernel, by decide +kernel⟩
theorem yb_X12_isWord : sa_arg yX12_isWord 1 := ⟨by decide +kernel, by decide +kernel, by decide +kernel⟩
theorem yb_X12_readNumber : sa_arg yX12_readNumber 2 := ⟨by decide +kernel, by decide +kernel, by decide +kernel⟩
theorem yb_X12_put : sa_arg yX12_put 2 := ⟨by decide +kernel, by decide +kernel, by decide +kernel⟩
theorem yb_X12_readNew : sa_arg yX12_readNew 1 := ⟨by decide +kernel, by decide +kernel, by decide +kernel⟩
theorem yb_X12_readThing : sa_arg yX12_readThing 0 := ⟨by decide +kernel, by decide +kernel, by decide +kernel⟩
theorem yb_X12_readFault : sa_arg yX12_readFault 0 := ⟨by decide +kernel, by decide +kernel, by decide +kernel⟩
theorem yb_X12_readCures : sa_arg yX12_readCures 0 := ⟨by decide +kernel, by decide +kernel, by decide +kernel⟩
theorem yb_X12_isSign : sa_arg yX12_isSign 1 := ⟨by decide +kernel, by decide +kernel, by decide +kernel⟩
theorem yb_X12_begin : sa_arg yX12_begin 1 := ⟨by decide +kernel, by decide +kernel, by decide +kernel⟩
theorem yb_X12_readLine : sa_arg yX12_readLine 0 := ⟨by decide +kernel, by decide +kernel, by decide +kernel⟩
theorem yb_X12_readEnd : sa_arg yX12_readEnd 0 := ⟨by decide +kernel, by decide +kernel, by decide +kernel⟩
theorem yb_X12_startSo : sa_arg yX12_startSo 0 := ⟨by decide +kernel, by decide +kernel, by decide +kernel⟩
theorem yb_X12_isThere : sa_arg yX12_isThere 1 := ⟨by decide +kernel, by decide +kernel, by decide +kernel⟩
theorem yb_X12_worst : sa_arg yX12_worst 1 := ⟨by decide +kernel, by decide +kernel, by decide +kernel⟩
theorem yb_X12_isNumbered : sa_arg yX12_isNumbered 1 := ⟨by decide +kernel, by decide +kernel, by decide +kernel⟩
theorem yb_X12_isThing : sa_arg yX12_isThing 1 := ⟨by decide +kernel, by decide +kernel, by decide +kernel⟩
theorem yb_X12_refuse : sa_arg yX12_refuse 0 := ⟨by decide +kernel, by decide +kernel, by decide +kernel⟩
theorem yb_X12_lamp : sa_arg yX12_lamp 1 := ⟨by decide +kernel, by decide +kernel, by decide +kernel⟩
theorem yb_X12_works : sa_arg yX12_works 1 := ⟨by decide +kernel, by decide +kernel, by decide +kernel⟩
theorem yb_X12_isFault : sa_arg yX12_isFault 1 := ⟨by decide +kernel, by decide +kernel, by decide +kernel⟩
theorem yb_X11_isFault : sa_arg yX11_isFault 1 := ⟨by decide +kernel, by decide +kernel, by decide +kernel⟩
theorem yb_X9_working : sa_arg yX9_working 1 := ⟨by decide +kernel, by decide +kernel, by decide +kernel⟩
theorem yb_X9_thingsIn : sa_arg yX9_thingsIn 2 := ⟨by decide +kernel, by decide +kernel, by decide +kernel⟩
theorem yb_X12_working : sa_arg yX12_working 0 := ⟨by decide +kernel, by decide +kernel, by decide +kernel⟩
theorem yb_X9_copyFrom : sa_arg yX9_copyFrom 1 := ⟨by decide +kernel, by decide +kernel, by decide +kernel⟩
theorem yb_X9_cutOff : sa_arg yX9_cutOff 2 := ⟨by decide +kernel, by decide +kernel, by decide +kernel⟩
theorem yb_X1_commit : sa_arg yX1_commit 0 := ⟨by decide +kernel, by decide +kernel, by decide +kernel⟩
theorem yb_X11_isThing : sa_arg yX11_isThing 1 := ⟨by decide +kernel, by decide +kernel, by decide +kernel⟩
theorem yb_X1_prepare : sa_arg yX1_prepare 1 := ⟨by decide +kernel, by decide +kernel, by decide +kernel⟩
theorem yb_X9_switchOff : sa_arg yX9_switchOff 2 := ⟨by decide +kernel, by decide +kernel, by decide +kernel⟩
theorem yb_X11_settle : sa_arg yX11_settle 1 := ⟨by decide +kernel, by decide +kernel, by decide +kernel⟩
theorem yb_X12_isBehind : sa_arg yX12_isBehind 2 := ⟨by decide +kernel, by decide +kernel, by decide +kernel⟩
theorem yb_X12_set : sa_arg yX12_set 3 := ⟨by decide +kernel, by decide +kernel, by decide +kernel⟩
theorem yb_X12_unnumber : sa_arg yX12_unnumber 1 := ⟨by decide +kernel, by decide +kernel, by decide +kernel⟩
theorem yb_X12_deed : sa_arg yX12_deed 2 := ⟨by decide +kernel, by decide +kernel, by decide +kernel⟩
theorem yb_X12_why : sa_arg yX12_why 2 := ⟨by decide +kernel, by decide +kernel, by decide +kernel⟩
theorem yb_X12_snap : sa_arg yX12_snap 0 := ⟨by decide +kernel, by decide +kernel, by decide +kernel⟩
theorem yb_X12_live : sa_arg yX12_live 2 := ⟨by decide +kernel, by decide +kernel, by decide +kernel⟩
theorem yb_X12_act : sa_arg yX12_act 3 := ⟨by decide +kernel, by decide +kernel, by decide +kernel⟩
theorem yb_X9_draw : sa_arg yX9_draw 1 := ⟨by decide +kernel, by decide +kernel, by decide +kernel⟩
theorem yb_X9_takeAway : sa_arg yX9_takeAway 1 := ⟨by decide +kernel, by decide +kernel, by decide +kernel⟩
theorem yb_X9_startBoot : sa_arg yX9_startBoot 2 := ⟨by decide +kernel, by decide +kernel, by decide +kernel⟩
theorem yb_X9_doDeed : sa_arg yX9_doDeed 3 := ⟨by decide +kernel, by decide +kernel, by decide +kernel⟩
theorem yb_X9_switchOn : sa_arg yX9_switchOn 2 := ⟨by decide +kernel, by decide +kernel, by decide +kernel⟩
theorem yb_X12_draw : sa_arg yX12_draw 1 := ⟨by decide +kernel, by decide +kernel, by decide +kernel⟩
theorem yb_X12_go_ : sa_arg yX12_go_ 1 := ⟨by decide +kernel, by decide +kernel, by decide +kernel⟩
theorem yb_X9_pullCable : sa_arg yX9_pullCable 2 := ⟨by decide +kernel, by decide +kernel, by decide +kernel⟩
theorem yb_X9_pushPin : sa_arg yX9_pushPin 2 := ⟨by decide +kernel, by decide +kernel, by decide +kernel⟩
theorem yb_X9_letStrike : sa_arg yX9_letStrike 1 := ⟨by decide +kernel, by decide +kernel, by decide +kernel⟩
theorem yb_X9_comeUp : sa_arg yX9_comeUp 2 := ⟨by decide +kernel, by decide +kernel, by decide +kernel⟩
theorem yb_X9_passMinute : sa_arg yX9_passMinute 1 := ⟨by decide +kernel, by decide +kernel, by decide +kernel⟩
theorem yb_X9_passMinutes : sa_arg yX9_passMinutes 2 := ⟨by decide +kernel, by decide +kernel, by decide +kernel⟩
theorem yb_X12_least : sa_arg yX12_least 2 := ⟨by decide +kernel, by decide +kernel, by decide +kernel⟩
theorem yb_X12_oneMinute : sa_arg yX12_oneMinute 0 := ⟨by decide +kernel, by decide +kernel, by decide +kernel⟩
theorem yb_X12_passMinutes : sa_arg yX12_passMinutes 1 := ⟨by decide +kernel, by decide +kernel, by decide +kernel⟩
theorem yb_X1_takeBack : sa_arg yX1_takeBack 1 := ⟨by decide +kernel, by decide +kernel, by decide +kernel⟩
theorem yb_X2_faultsShowing : sa_arg yX2_faultsShowing 2 := ⟨by decide +kernel, by decide +kernel, by decide +kernel⟩
theorem yb_X11_faultsByLamps : sa_arg yX11_faultsByLamps 0 := ⟨by decide +kernel, by decide +kernel, by decide +kernel⟩
theorem yb_X12_showsSo : sa_arg yX12_showsSo 2 := ⟨by decide +kernel, by decide +kernel, by decide +kernel⟩
theorem yb_X12_has : sa_arg yX12_has 2 := ⟨by decide +kernel, by decide +kernel, by decide +kernel⟩
theorem yb_X12_common : sa_arg yX12_common 2 := ⟨by decide +kernel, by decide +kernel, by decide +kernel⟩
theorem yb_X12_leftAt : sa_arg yX12_leftAt 1 := ⟨by decide +kernel, by decide +kernel, by decide +kernel⟩
theorem yb_X12_keepPlan : sa_arg yX12_keepPlan 2 := ⟨by decide +kernel, by decide +kernel, by decide +kernel⟩
theorem yb_X12_minutesOf : sa_arg yX12_minutesOf 2 := ⟨by decide +kernel, by decide +kernel, by decide +kernel⟩
theorem yb_X12_planFrom : sa_arg yX12_planFrom 4 := ⟨by decide +kernel, by decide +kernel, by decide +kernel⟩
theorem yb_X2_minutesTillUp : sa_arg yX2_minutesTillUp 1 := ⟨by decide +kernel, by decide +kernel, by decide +kernel⟩
theorem yb_X12_startOf : sa_arg yX12_startOf 1 := ⟨by decide +kernel, by decide +kernel, by decide +kernel⟩
theorem yb_X12_bits : sa_arg yX12_bits 1 := ⟨by decide +kernel, by decide +kernel, by decide +kernel⟩
theorem yb_X2_lookingLike : sa_arg yX2_lookingLike 1 := ⟨by decide +kernel, by decide +kernel, by decide +kernel⟩
theorem yb_X12_areAlike : sa_arg yX12_areAlike 2 := ⟨by decide +kernel, by decide +kernel, by decide +kernel⟩
theorem yb_J_bitCount : sa_arg yJ_bitCount 1 := ⟨by decide +kernel, by decide +kernel, by decide +kernel⟩
theorem yb_X2_mostLeft : sa_arg yX2_mostLeft 2 := ⟨by decide +kernel, by decide +kernel, by decide +kernel⟩
theorem yb_X12_groupAt : sa_arg yX12_groupAt 2 := ⟨by decide +kernel, by decide +kernel, by decide +kernel⟩
theorem yb_X9_lampOf : sa_arg yX9_lampOf 3 := ⟨by decide +kernel, by decide +kernel, by decide +kernel⟩
theorem yb_X11_faultsByMinutes : sa_arg yX11_faultsByMinutes 1 := ⟨by decide +kernel, by decide +kernel, by decide +kernel⟩
theorem yb_X12_takeBack : sa_arg yX12_takeBack 0 := ⟨by decide +kernel, by decide +kernel, by decide +kernel⟩
theorem yb_X12_layAside : sa_arg yX12_layAside 0 := ⟨by decide +kernel, by decide +kernel, by decide +kernel⟩
theorem yb_X12_showsOn : sa_arg yX12_showsOn 3 := ⟨by decide +kernel, by decide +kernel, by decide +kernel⟩
theorem yb_X0_addWord : sa_arg yX0_addWord 1 := ⟨by decide +kernel, by decide +kernel, by decide +kernel⟩
theorem yb_X0_addText : sa_arg yX0_addText 1 := ⟨by decide +kernel, by decide +kernel, by decide +kernel⟩
theorem yb_X0_addNumber : sa_arg yX0_addNumber 1 := ⟨by decide +kernel, by decide +kernel, by decide +kernel⟩
theorem yb_X11_shownFault : sa_arg yX11_shownFault 1 := ⟨by decide +kernel, by decide +kernel, by decide +kernel⟩
theorem yb_X12_writeWord : sa_arg yX12_writeWord 1 := ⟨by decide +kernel, by decide +kernel, by decide +kernel⟩
theorem yb_X12_write : sa_arg yX12_write 1 := ⟨by decide +kernel, by decide +kernel, by decide +kernel⟩
theorem yb_X12_writeNumber : sa_arg yX12_writeNumber 1 := ⟨by decide +kernel, by decide +kernel, by decide +kernel⟩
theorem yb_X12_writeNext : sa_arg yX12_writeNext 1 := ⟨by decide +kernel, by decide +kernel, by decide +kernel⟩
theorem yb_X9_drawMinutes : sa_arg yX9_drawMinutes 2 := ⟨by decide +kernel, by decide +kernel, by decide +kernel⟩
theorem yb_X12_tryTo : sa_arg yX12_tryTo 2 := ⟨by decide +kernel, by decide +kernel, by decide +kernel⟩
theorem yb_X12_drawMinutes : sa_arg yX12_drawMinutes 2 := ⟨by decide +kernel, by decide +kernel, by decide +kernel⟩
theorem yb_X4_readLog : sa_arg yX4_readLog 2 := ⟨by decide +kernel, by decide +kernel, by decide +kernel⟩
theorem yb_X4_live : sa_arg yX4_live 2 := ⟨by decide +kernel, by decide +kernel, by decide +kernel⟩
theorem yb_X4_keepLine : sa_arg yX4_keepLine 3 := ⟨by decide +kernel, by decide +kernel, by decide +kernel⟩
theorem yb_X4_readAct : sa_arg yX4_readAct 1 := ⟨by decide +kernel, by decide +kernel, by decide +kernel⟩
theorem yb_X4_readEvent : sa_arg yX4_readEvent 1 := ⟨by decide +kernel, by decide +kernel, by decide +kernel⟩
theorem yb_X4_readLine : sa_arg yX4_readLine 1 := ⟨by decide +kernel, by decide +kernel, by decide +kernel⟩
theorem yb_X4_whyOf : sa_arg yX4_whyOf 2 := ⟨by decide +kernel, by decide +kernel, by decide +kernel⟩
theorem yb_X4_liveLine : sa_arg yX4_liveLine 3 := ⟨by decide +kernel, by decide +kernel, by decide +kernel⟩
theorem yb_X12_readLogLine : sa_arg yX12_readLogLine 0 := ⟨by decide +kernel, by decide +kernel, by decide +kernel⟩
theorem yb_X12_goBy : sa_arg yX12_goBy 1 := ⟨by decide +kernel, by decide +kernel, by decide +kernel⟩
theorem yb_X12_stay : sa_arg yX12_stay 1 := ⟨by decide +kernel, by decide +kernel, by decide +kernel⟩
theorem yb_X12_readDoes : sa_arg yX12_readDoes 1 := ⟨by decide +kernel, by decide +kernel, by decide +kernel⟩
theorem yb_X12_readNamed : sa_arg yX12_readNamed 2 := ⟨by decide +kernel, by decide +kernel, by decide +kernel⟩
theorem yb_X8_isOneHere : sa_arg yX8_isOneHere 0 := ⟨by decide +kernel, by decide +kernel, by decide +kernel⟩
theorem yb_X8_readCond : sa_arg yX8_readCond 2 := ⟨by decide +kernel, by decide +kernel, by decide +kernel⟩
theorem yb_X8_readNot : sa_arg yX8_readNot 2 := ⟨by decide +kernel, by decide +kernel, by decide +kernel⟩
theorem yb_X8_addNumbered : sa_arg yX8_addNumbered 3 := ⟨by decide +kernel, by decide +kernel, by decide +kernel⟩
theorem yb_X8_readCompared : sa_arg yX8_readCompared 1 := ⟨by decide +kernel, by decide +kernel, by decide +kernel⟩
theorem yb_X7_addStep : sa_arg yX7_addStep 3 := ⟨by decide +kernel, by decide +kernel, by decide +kernel⟩
theorem yb_X8_readOne : sa_arg yX8_readOne 2 := ⟨by decide +kernel, by decide +kernel, by decide +kernel⟩
theorem yb_X8_readAll : sa_arg yX8_readAll 2 := ⟨by decide +kernel, by decide +kernel, by decide +kernel⟩
theorem yb_X8_readSentence : sa_arg yX8_readSentence 2 := ⟨by decide +kernel, by decide +kernel, by decide +kernel⟩
theorem yb_X7_copyFrom : sa_arg yX7_copyFrom 1 := ⟨by decide +kernel, by decide +kernel, by decide +kernel⟩
theorem yb_X12_readBracket : sa_arg yX12_readBracket 0 := ⟨by decide +kernel, by decide +kernel, by decide +kernel⟩
theorem yb_X12_readNot : sa_arg yX12_readNot 0 := ⟨by decide +kernel, by decide +kernel, by decide +kernel⟩
theorem yb_X12_saysOne : sa_arg yX12_saysOne 4 := ⟨by decide +kernel, by decide +kernel, by decide +kernel⟩
theorem yb_X12_readOf : sa_arg yX12_readOf 1 := ⟨by decide +kernel, by decide +kernel, by decide +kernel⟩
theorem yb_X12_readCompare : sa_arg yX12_readCompare 1 := ⟨by decide +kernel, by decide +kernel, by decide +kernel⟩
theorem yb_X12_readSaid : sa_arg yX12_readSaid 0 := ⟨by decide +kernel, by decide +kernel, by decide +kernel⟩
theorem yb_X12_readAnd : sa_arg yX12_readAnd 0 := ⟨by decide +kernel, by decide +kernel, by decide +kernel⟩
theorem yb_X12_readOr : sa_arg yX12_readOr 0 := ⟨by decide +kernel, by decide +kernel, by decide +kernel⟩
theorem yb_X7_valueOf : sa_arg yX7_valueOf 4 := ⟨by decide +kernel, by decide +kernel, by decide +kernel⟩
theorem yb_X7_holds : sa_arg yX7_holds 3 := ⟨by decide +kernel, by decide +kernel, by decide +kernel⟩
theorem yb_X7_thingsCompared : sa_arg yX7_thingsCompared 3 := ⟨by decide +kernel, by decide +kernel, by decide +kernel⟩
theorem yb_X7_thingsOfStep : sa_arg yX7_thingsOfStep 3 := ⟨by decide +kernel, by decide +kernel, by decide +kernel⟩
theorem yb_X7_thingsOf : sa_arg yX7_thingsOf 2 := ⟨by decide +kernel, by decide +kernel, by decide +kernel⟩
theorem yb_X12_holds : sa_arg yX12_holds 2 := ⟨by decide +kernel, by decide +kernel, by decide +kernel⟩
theorem yb_X10_copyFrom : sa_arg yX10_copyFrom 1 := ⟨by decide +kernel, by decide +kernel, by decide +kernel⟩
theorem yb_X11_leastTerm : sa_arg yX11_leastTerm 3 := ⟨by decide +kernel, by decide +kernel, by decide +kernel⟩
theorem yb_X5_weightBehind : sa_arg yX5_weightBehind 1 := ⟨by decide +kernel, by decide +kernel, by decide +kernel⟩
theorem yb_X5_keepBetter : sa_arg yX5_keepBetter 2 := ⟨by decide +kernel, by decide +kernel, by decide +kernel⟩
theorem yb_X5_tryDeed : sa_arg yX5_tryDeed 5 := ⟨by decide +kernel, by decide +kernel, by decide +kernel⟩
theorem yb_X5_weighDeed : sa_arg yX5_weighDeed 3 := ⟨by decide +kernel, by decide +kernel, by decide +kernel⟩
theorem yb_X5_tryRows : sa_arg yX5_tryRows 4 := ⟨by decide +kernel, by decide +kernel, by decide +kernel⟩
theorem yb_X5_makePlan : sa_arg yX5_makePlan 3 := ⟨by decide +kernel, by decide +kernel, by decide +kernel⟩
theorem yb_X11_minutesOfWay : sa_arg yX11_minutesOfWay 2 := ⟨by decide +kernel, by decide +kernel, by decide +kernel⟩
theorem yb_X11_eveningsWithDeed : sa_arg yX11_eveningsWithDeed 0 := ⟨by decide +kernel, by decide +kernel, by decide +kernel⟩
theorem yb_X11_countWays : sa_arg yX11_countWays 2 := ⟨by decide +kernel, by decide +kernel, by decide +kernel⟩
