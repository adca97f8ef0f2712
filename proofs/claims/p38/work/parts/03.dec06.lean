theorem dX8_readCond_20 : decode cX8_readCond 20 = .ok (.getfield 12, 3) := by decide +kernel
theorem dX8_readCond_23 : decode cX8_readCond 23 = .ok (.getfield 47, 3) := by decide +kernel
theorem dX8_readCond_26 : decode cX8_readCond 26 = .ok (.bipush 10, 2) := by decide +kernel
theorem dX8_readCond_28 : decode cX8_readCond 28 = .ok (.if_icmp .ne 39, 3) := by decide +kernel
theorem dX8_readCond_31 : decode cX8_readCond 31 = .ok (.aload_n 0, 1) := by decide +kernel
theorem dX8_readCond_32 : decode cX8_readCond 32 = .ok (.getfield 12, 3) := by decide +kernel
theorem dX8_readCond_35 : decode cX8_readCond 35 = .ok (.invokevirtual 50, 3) := by decide +kernel
theorem dX8_readCond_38 : decode cX8_readCond 38 = .ok (.aload_n 0, 1) := by decide +kernel
theorem dX8_readCond_39 : decode cX8_readCond 39 = .ok (.aload_n 1, 1) := by decide +kernel
theorem dX8_readCond_40 : decode cX8_readCond 40 = .ok (.iload_n 2, 1) := by decide +kernel
theorem dX8_readCond_41 : decode cX8_readCond 41 = .ok (.invokevirtual 44, 3) := by decide +kernel
theorem dX8_readCond_44 : decode cX8_readCond 44 = .ok (.ifCond .ne 5, 3) := by decide +kernel
theorem dX8_readCond_47 : decode cX8_readCond 47 = .ok (.iconst 0, 1) := by decide +kernel
theorem dX8_readCond_48 : decode cX8_readCond 48 = .ok (.ireturn, 1) := by decide +kernel
theorem dX8_readCond_49 : decode cX8_readCond 49 = .ok (.aload_n 0, 1) := by decide +kernel
theorem dX8_readCond_50 : decode cX8_readCond 50 = .ok (.getfield 21, 3) := by decide +kernel
theorem dX8_readCond_53 : decode cX8_readCond 53 = .ok (.bipush 10, 2) := by decide +kernel
theorem dX8_readCond_55 : decode cX8_readCond 55 = .ok (.iconst 0, 1) := by decide +kernel
theorem dX8_readCond_56 : decode cX8_readCond 56 = .ok (.iconst 0, 1) := by decide +kernel
theorem dX8_readCond_57 : decode cX8_readCond 57 = .ok (.invokevirtual 53, 3) := by decide +kernel
theorem dX8_readCond_60 : decode cX8_readCond 60 = .ok (.pop, 1) := by decide +kernel
theorem dX8_readCond_61 : decode cX8_readCond 61 = .ok (.iinc 3 1, 3) := by decide +kernel
theorem dX8_readCond_64 : decode cX8_readCond 64 = .ok (.goto (-51), 3) := by decide +kernel
theorem dX8_readCond_67 : decode cX8_readCond 67 = .ok (.iconst 1, 1) := by decide +kernel
theorem dX8_readCond_68 : decode cX8_readCond 68 = .ok (.ireturn, 1) := by decide +kernel
theorem dX8_readAll_0 : decode cX8_readAll 0 = .ok (.aload_n 0, 1) := by decide +kernel
theorem dX8_readAll_1 : decode cX8_readAll 1 = .ok (.aload_n 1, 1) := by decide +kernel
theorem dX8_readAll_2 : decode cX8_readAll 2 = .ok (.iload_n 2, 1) := by decide +kernel
theorem dX8_readAll_3 : decode cX8_readAll 3 = .ok (.invokevirtual 57, 3) := by decide +kernel
theorem dX8_readAll_6 : decode cX8_readAll 6 = .ok (.ifCond .ne 5, 3) := by decide +kernel
theorem dX8_readAll_9 : decode cX8_readAll 9 = .ok (.iconst 0, 1) := by decide +kernel
theorem dX8_readAll_10 : decode cX8_readAll 10 = .ok (.ireturn, 1) := by decide +kernel
theorem dX8_readAll_11 : decode cX8_readAll 11 = .ok (.iconst 0, 1) := by decide +kernel
theorem dX8_readAll_12 : decode cX8_readAll 12 = .ok (.istore_n 3, 1) := by decide +kernel
theorem dX8_readAll_13 : decode cX8_readAll 13 = .ok (.iload_n 3, 1) := by decide +kernel
theorem dX8_readAll_14 : decode cX8_readAll 14 = .ok (.bipush 20, 2) := by decide +kernel
theorem dX8_readAll_16 : decode cX8_readAll 16 = .ok (.if_icmp .ge 51, 3) := by decide +kernel
theorem dX8_readAll_19 : decode cX8_readAll 19 = .ok (.aload_n 0, 1) := by decide +kernel
theorem dX8_readAll_20 : decode cX8_readAll 20 = .ok (.getfield 12, 3) := by decide +kernel
theorem dX8_readAll_23 : decode cX8_readAll 23 = .ok (.getfield 47, 3) := by decide +kernel
theorem dX8_readAll_26 : decode cX8_readAll 26 = .ok (.bipush 11, 2) := by decide +kernel
theorem dX8_readAll_28 : decode cX8_readAll 28 = .ok (.if_icmp .ne 39, 3) := by decide +kernel
theorem dX8_readAll_31 : decode cX8_readAll 31 = .ok (.aload_n 0, 1) := by decide +kernel
theorem dX8_readAll_32 : decode cX8_readAll 32 = .ok (.getfield 12, 3) := by decide +kernel
theorem dX8_readAll_35 : decode cX8_readAll 35 = .ok (.invokevirtual 50, 3) := by decide +kernel
theorem dX8_readAll_38 : decode cX8_readAll 38 = .ok (.aload_n 0, 1) := by decide +kernel
theorem dX8_readAll_39 : decode cX8_readAll 39 = .ok (.aload_n 1, 1) := by decide +kernel
theorem dX8_readAll_40 : decode cX8_readAll 40 = .ok (.iload_n 2, 1) := by decide +kernel
theorem dX8_readAll_41 : decode cX8_readAll 41 = .ok (.invokevirtual 57, 3) := by decide +kernel
theorem dX8_readAll_44 : decode cX8_readAll 44 = .ok (.ifCond .ne 5, 3) := by decide +kernel
theorem dX8_readAll_47 : decode cX8_readAll 47 = .ok (.iconst 0, 1) := by decide +kernel
theorem dX8_readAll_48 : decode cX8_readAll 48 = .ok (.ireturn, 1) := by decide +kernel
theorem dX8_readAll_49 : decode cX8_readAll 49 = .ok (.aload_n 0, 1) := by decide +kernel
theorem dX8_readAll_50 : decode cX8_readAll 50 = .ok (.getfield 21, 3) := by decide +kernel
theorem dX8_readAll_53 : decode cX8_readAll 53 = .ok (.bipush 11, 2) := by decide +kernel
theorem dX8_readAll_55 : decode cX8_readAll 55 = .ok (.iconst 0, 1) := by decide +kernel
theorem dX8_readAll_56 : decode cX8_readAll 56 = .ok (.iconst 0, 1) := by decide +kernel
theorem dX8_readAll_57 : decode cX8_readAll 57 = .ok (.invokevirtual 53, 3) := by decide +kernel
theorem dX8_readAll_60 : decode cX8_readAll 60 = .ok (.pop, 1) := by decide +kernel
theorem dX8_readAll_61 : decode cX8_readAll 61 = .ok (.iinc 3 1, 3) := by decide +kernel
theorem dX8_readAll_64 : decode cX8_readAll 64 = .ok (.goto (-51), 3) := by decide +kernel
theorem dX8_readAll_67 : decode cX8_readAll 67 = .ok (.iconst 1, 1) := by decide +kernel
theorem dX8_readAll_68 : decode cX8_readAll 68 = .ok (.ireturn, 1) := by decide +kernel
theorem dX8_readOne_0 : decode cX8_readOne 0 = .ok (.aload_n 0, 1) := by decide +kernel
theorem dX8_readOne_1 : decode cX8_readOne 1 = .ok (.invokevirtual 60, 3) := by decide +kernel
theorem dX8_readOne_4 : decode cX8_readOne 4 = .ok (.ifCond .ne 12, 3) := by decide +kernel
theorem dX8_readOne_7 : decode cX8_readOne 7 = .ok (.aload_n 0, 1) := by decide +kernel
theorem dX8_readOne_8 : decode cX8_readOne 8 = .ok (.getfield 12, 3) := by decide +kernel
theorem dX8_readOne_11 : decode cX8_readOne 11 = .ok (.iconst 1, 1) := by decide +kernel
theorem dX8_readOne_12 : decode cX8_readOne 12 = .ok (.invokevirtual 40, 3) := by decide +kernel
theorem dX8_readOne_15 : decode cX8_readOne 15 = .ok (.ireturn, 1) := by decide +kernel
theorem dX8_readOne_16 : decode cX8_readOne 16 = .ok (.aload_n 0, 1) := by decide +kernel
theorem dX8_readOne_17 : decode cX8_readOne 17 = .ok (.getfield 21, 3) := by decide +kernel
theorem dX8_readOne_20 : decode cX8_readOne 20 = .ok (.getfield 64, 3) := by decide +kernel
theorem dX8_readOne_23 : decode cX8_readOne 23 = .ok (.bipush 20, 2) := by decide +kernel
theorem dX8_readOne_25 : decode cX8_readOne 25 = .ok (.if_icmp .ge 9, 3) := by decide +kernel
theorem dX8_readOne_28 : decode cX8_readOne 28 = .ok (.iload_n 2, 1) := by decide +kernel
theorem dX8_readOne_29 : decode cX8_readOne 29 = .ok (.bipush 8, 2) := by decide +kernel
theorem dX8_readOne_31 : decode cX8_readOne 31 = .ok (.if_icmp .lt 12, 3) := by decide +kernel
theorem dX8_readOne_34 : decode cX8_readOne 34 = .ok (.aload_n 0, 1) := by decide +kernel
theorem dX8_readOne_35 : decode cX8_readOne 35 = .ok (.getfield 12, 3) := by decide +kernel
theorem dX8_readOne_38 : decode cX8_readOne 38 = .ok (.iconst 4, 1) := by decide +kernel
theorem dX8_readOne_39 : decode cX8_readOne 39 = .ok (.invokevirtual 40, 3) := by decide +kernel
theorem dX8_readOne_42 : decode cX8_readOne 42 = .ok (.ireturn, 1) := by decide +kernel
theorem dX8_readOne_43 : decode cX8_readOne 43 = .ok (.aload_n 0, 1) := by decide +kernel
theorem dX8_readOne_44 : decode cX8_readOne 44 = .ok (.getfield 21, 3) := by decide +kernel
theorem dX8_readOne_47 : decode cX8_readOne 47 = .ok (.dup, 1) := by decide +kernel
theorem dX8_readOne_48 : decode cX8_readOne 48 = .ok (.getfield 64, 3) := by decide +kernel
theorem dX8_readOne_51 : decode cX8_readOne 51 = .ok (.iconst 1, 1) := by decide +kernel
theorem dX8_readOne_52 : decode cX8_readOne 52 = .ok (.iadd, 1) := by decide +kernel
theorem dX8_readOne_53 : decode cX8_readOne 53 = .ok (.putfield 64, 3) := by decide +kernel
theorem dX8_readOne_56 : decode cX8_readOne 56 = .ok (.aload_n 0, 1) := by decide +kernel
theorem dX8_readOne_57 : decode cX8_readOne 57 = .ok (.getfield 12, 3) := by decide +kernel
theorem dX8_readOne_60 : decode cX8_readOne 60 = .ok (.getfield 47, 3) := by decide +kernel
theorem dX8_readOne_63 : decode cX8_readOne 63 = .ok (.istore_n 3, 1) := by decide +kernel
theorem dX8_readOne_64 : decode cX8_readOne 64 = .ok (.aload_n 0, 1) := by decide +kernel
theorem dX8_readOne_65 : decode cX8_readOne 65 = .ok (.getfield 12, 3) := by decide +kernel
theorem dX8_readOne_68 : decode cX8_readOne 68 = .ok (.invokevirtual 50, 3) := by decide +kernel
theorem dX8_readOne_71 : decode cX8_readOne 71 = .ok (.iload_n 3, 1) := by decide +kernel
theorem dX8_readOne_72 : decode cX8_readOne 72 = .ok (.tableswitch 172 (-1) 19 #[100, 172, 151, 172, 172, 172, 172, 172, 172, 172, 172, 172, 172, 129, 172, 172, 172, 136, 166, 166, 166], 100) := by decide +kernel
theorem dX8_readOne_172 : decode cX8_readOne 172 = .ok (.aload_n 0, 1) := by decide +kernel
theorem dX8_readOne_173 : decode cX8_readOne 173 = .ok (.aload_n 1, 1) := by decide +kernel
theorem dX8_readOne_174 : decode cX8_readOne 174 = .ok (.iload_n 2, 1) := by decide +kernel
theorem dX8_readOne_175 : decode cX8_readOne 175 = .ok (.iconst 1, 1) := by decide +kernel
theorem dX8_readOne_176 : decode cX8_readOne 176 = .ok (.iadd, 1) := by decide +kernel
theorem dX8_readOne_177 : decode cX8_readOne 177 = .ok (.invokevirtual 32, 3) := by decide +kernel
theorem dX8_readOne_180 : decode cX8_readOne 180 = .ok (.ifCond .eq 19, 3) := by decide +kernel
theorem dX8_readOne_183 : decode cX8_readOne 183 = .ok (.aload_n 0, 1) := by decide +kernel
theorem dX8_readOne_184 : decode cX8_readOne 184 = .ok (.getfield 12, 3) := by decide +kernel
theorem dX8_readOne_187 : decode cX8_readOne 187 = .ok (.bipush 41, 2) := by decide +kernel
theorem dX8_readOne_189 : decode cX8_readOne 189 = .ok (.invokevirtual 67, 3) := by decide +kernel
theorem dX8_readOne_192 : decode cX8_readOne 192 = .ok (.ifCond .eq 7, 3) := by decide +kernel
theorem dX8_readOne_195 : decode cX8_readOne 195 = .ok (.iconst 1, 1) := by decide +kernel
theorem dX8_readOne_196 : decode cX8_readOne 196 = .ok (.goto 4, 3) := by decide +kernel
theorem dX8_readOne_199 : decode cX8_readOne 199 = .ok (.iconst 0, 1) := by decide +kernel
theorem dX8_readOne_200 : decode cX8_readOne 200 = .ok (.ireturn, 1) := by decide +kernel
theorem dX8_readOne_201 : decode cX8_readOne 201 = .ok (.aload_n 0, 1) := by decide +kernel
theorem dX8_readOne_202 : decode cX8_readOne 202 = .ok (.aload_n 1, 1) := by decide +kernel
theorem dX8_readOne_203 : decode cX8_readOne 203 = .ok (.iload_n 2, 1) := by decide +kernel
theorem dX8_readOne_204 : decode cX8_readOne 204 = .ok (.invokevirtual 70, 3) := by decide +kernel
theorem dX8_readOne_207 : decode cX8_readOne 207 = .ok (.ireturn, 1) := by decide +kernel
theorem dX8_readOne_208 : decode cX8_readOne 208 = .ok (.aload_n 0, 1) := by decide +kernel
theorem dX8_readOne_209 : decode cX8_readOne 209 = .ok (.iload_n 3, 1) := by decide +kernel
theorem dX8_readOne_210 : decode cX8_readOne 210 = .ok (.iconst 0, 1) := by decide +kernel
theorem dX8_readOne_211 : decode cX8_readOne 211 = .ok (.aload_n 0, 1) := by decide +kernel
theorem dX8_readOne_212 : decode cX8_readOne 212 = .ok (.getfield 12, 3) := by decide +kernel
theorem dX8_readOne_215 : decode cX8_readOne 215 = .ok (.aload_n 1, 1) := by decide +kernel
theorem dX8_readOne_216 : decode cX8_readOne 216 = .ok (.invokevirtual 73, 3) := by decide +kernel
theorem dX8_readOne_219 : decode cX8_readOne 219 = .ok (.invokevirtual 77, 3) := by decide +kernel
theorem dX8_readOne_222 : decode cX8_readOne 222 = .ok (.ireturn, 1) := by decide +kernel
theorem dX8_readOne_223 : decode cX8_readOne 223 = .ok (.aload_n 0, 1) := by decide +kernel
theorem dX8_readOne_224 : decode cX8_readOne 224 = .ok (.iload_n 3, 1) := by decide +kernel
theorem dX8_readOne_225 : decode cX8_readOne 225 = .ok (.iconst 0, 1) := by decide +kernel
theorem dX8_readOne_226 : decode cX8_readOne 226 = .ok (.aload_n 0, 1) := by decide +kernel
theorem dX8_readOne_227 : decode cX8_readOne 227 = .ok (.getfield 12, 3) := by decide +kernel
theorem dX8_readOne_230 : decode cX8_readOne 230 = .ok (.aload_n 1, 1) := by decide +kernel
theorem dX8_readOne_231 : decode cX8_readOne 231 = .ok (.invokevirtual 80, 3) := by decide +kernel
theorem dX8_readOne_234 : decode cX8_readOne 234 = .ok (.invokevirtual 77, 3) := by decide +kernel
theorem dX8_readOne_237 : decode cX8_readOne 237 = .ok (.ireturn, 1) := by decide +kernel
theorem dX8_readOne_238 : decode cX8_readOne 238 = .ok (.aload_n 0, 1) := by decide +kernel
theorem dX8_readOne_239 : decode cX8_readOne 239 = .ok (.iload_n 3, 1) := by decide +kernel
theorem dX8_readOne_240 : decode cX8_readOne 240 = .ok (.invokevirtual 83, 3) := by decide +kernel
theorem dX8_readOne_243 : decode cX8_readOne 243 = .ok (.ireturn, 1) := by decide +kernel
theorem dX8_readOne_244 : decode cX8_readOne 244 = .ok (.aload_n 0, 1) := by decide +kernel
theorem dX8_readOne_245 : decode cX8_readOne 245 = .ok (.getfield 21, 3) := by decide +kernel
theorem dX8_readOne_248 : decode cX8_readOne 248 = .ok (.iload_n 3, 1) := by decide +kernel
theorem dX8_readOne_249 : decode cX8_readOne 249 = .ok (.iconst 0, 1) := by decide +kernel
theorem dX8_readOne_250 : decode cX8_readOne 250 = .ok (.iconst 0, 1) := by decide +kernel
theorem dX8_readOne_251 : decode cX8_readOne 251 = .ok (.invokevirtual 53, 3) := by decide +kernel
theorem dX8_readOne_254 : decode cX8_readOne 254 = .ok (.ireturn, 1) := by decide +kernel
theorem dX8_readNot_0 : decode cX8_readNot 0 = .ok (.aload_n 0, 1) := by decide +kernel
theorem dX8_readNot_1 : decode cX8_readNot 1 = .ok (.aload_n 1, 1) := by decide +kernel
theorem dX8_readNot_2 : decode cX8_readNot 2 = .ok (.iload_n 2, 1) := by decide +kernel
theorem dX8_readNot_3 : decode cX8_readNot 3 = .ok (.iconst 1, 1) := by decide +kernel
theorem dX8_readNot_4 : decode cX8_readNot 4 = .ok (.iadd, 1) := by decide +kernel
theorem dX8_readNot_5 : decode cX8_readNot 5 = .ok (.invokevirtual 57, 3) := by decide +kernel
theorem dX8_readNot_8 : decode cX8_readNot 8 = .ok (.ifCond .eq 21, 3) := by decide +kernel
theorem dX8_readNot_11 : decode cX8_readNot 11 = .ok (.aload_n 0, 1) := by decide +kernel
theorem dX8_readNot_12 : decode cX8_readNot 12 = .ok (.getfield 21, 3) := by decide +kernel
theorem dX8_readNot_15 : decode cX8_readNot 15 = .ok (.bipush 12, 2) := by decide +kernel
theorem dX8_readNot_17 : decode cX8_readNot 17 = .ok (.iconst 0, 1) := by decide +kernel
theorem dX8_readNot_18 : decode cX8_readNot 18 = .ok (.iconst 0, 1) := by decide +kernel
theorem dX8_readNot_19 : decode cX8_readNot 19 = .ok (.invokevirtual 53, 3) := by decide +kernel
theorem dX8_readNot_22 : decode cX8_readNot 22 = .ok (.ifCond .eq 7, 3) := by decide +kernel
theorem dX8_readNot_25 : decode cX8_readNot 25 = .ok (.iconst 1, 1) := by decide +kernel
theorem dX8_readNot_26 : decode cX8_readNot 26 = .ok (.goto 4, 3) := by decide +kernel
theorem dX8_readNot_29 : decode cX8_readNot 29 = .ok (.iconst 0, 1) := by decide +kernel
theorem dX8_readNot_30 : decode cX8_readNot 30 = .ok (.ireturn, 1) := by decide +kernel
theorem dX8_isOneHere_0 : decode cX8_isOneHere 0 = .ok (.aload_n 0, 1) := by decide +kernel
theorem dX8_isOneHere_1 : decode cX8_isOneHere 1 = .ok (.getfield 12, 3) := by decide +kernel
theorem dX8_isOneHere_4 : decode cX8_isOneHere 4 = .ok (.getfield 47, 3) := by decide +kernel
theorem dX8_isOneHere_7 : decode cX8_isOneHere 7 = .ok (.tableswitch 91 1 19 #[89, 91, 91, 91, 91, 91, 91, 91, 91, 91, 91, 89, 89, 89, 89, 89, 89, 89, 89], 89) := by decide +kernel
theorem dX8_isOneHere_96 : decode cX8_isOneHere 96 = .ok (.iconst 1, 1) := by decide +kernel
theorem dX8_isOneHere_97 : decode cX8_isOneHere 97 = .ok (.ireturn, 1) := by decide +kernel
theorem dX8_isOneHere_98 : decode cX8_isOneHere 98 = .ok (.aload_n 0, 1) := by decide +kernel
theorem dX8_isOneHere_99 : decode cX8_isOneHere 99 = .ok (.getfield 12, 3) := by decide +kernel
theorem dX8_isOneHere_102 : decode cX8_isOneHere 102 = .ok (.bipush 40, 2) := by decide +kernel
theorem dX8_isOneHere_104 : decode cX8_isOneHere 104 = .ok (.invokevirtual 86, 3) := by decide +kernel
theorem dX8_isOneHere_107 : decode cX8_isOneHere 107 = .ok (.ireturn, 1) := by decide +kernel
theorem dX8_readCompared_0 : decode cX8_readCompared 0 = .ok (.aload_n 0, 1) := by decide +kernel
theorem dX8_readCompared_1 : decode cX8_readCompared 1 = .ok (.getfield 12, 3) := by decide +kernel
theorem dX8_readCompared_4 : decode cX8_readCompared 4 = .ok (.getfield 89, 3) := by decide +kernel
theorem dX8_readCompared_7 : decode cX8_readCompared 7 = .ok (.istore_n 2, 1) := by decide +kernel
theorem dX8_readCompared_8 : decode cX8_readCompared 8 = .ok (.aload_n 0, 1) := by decide +kernel
theorem dX8_readCompared_9 : decode cX8_readCompared 9 = .ok (.getfield 12, 3) := by decide +kernel
theorem dX8_readCompared_12 : decode cX8_readCompared 12 = .ok (.bipush 60, 2) := by decide +kernel
theorem dX8_readCompared_14 : decode cX8_readCompared 14 = .ok (.invokevirtual 86, 3) := by decide +kernel
theorem dX8_readCompared_17 : decode cX8_readCompared 17 = .ok (.ifCond .ne 36, 3) := by decide +kernel
theorem dX8_readCompared_20 : decode cX8_readCompared 20 = .ok (.aload_n 0, 1) := by decide +kernel
theorem dX8_readCompared_21 : decode cX8_readCompared 21 = .ok (.getfield 12, 3) := by decide +kernel
theorem dX8_readCompared_24 : decode cX8_readCompared 24 = .ok (.bipush 61, 2) := by decide +kernel
theorem dX8_readCompared_26 : decode cX8_readCompared 26 = .ok (.invokevirtual 86, 3) := by decide +kernel
theorem dX8_readCompared_29 : decode cX8_readCompared 29 = .ok (.ifCond .ne 24, 3) := by decide +kernel
theorem dX8_readCompared_32 : decode cX8_readCompared 32 = .ok (.aload_n 0, 1) := by decide +kernel
theorem dX8_readCompared_33 : decode cX8_readCompared 33 = .ok (.getfield 12, 3) := by decide +kernel
theorem dX8_readCompared_36 : decode cX8_readCompared 36 = .ok (.bipush 62, 2) := by decide +kernel
theorem dX8_readCompared_38 : decode cX8_readCompared 38 = .ok (.invokevirtual 86, 3) := by decide +kernel
theorem dX8_readCompared_41 : decode cX8_readCompared 41 = .ok (.ifCond .ne 12, 3) := by decide +kernel
theorem dX8_readCompared_44 : decode cX8_readCompared 44 = .ok (.aload_n 0, 1) := by decide +kernel
theorem dX8_readCompared_45 : decode cX8_readCompared 45 = .ok (.getfield 12, 3) := by decide +kernel
theorem dX8_readCompared_48 : decode cX8_readCompared 48 = .ok (.iconst 1, 1) := by decide +kernel
theorem dX8_readCompared_49 : decode cX8_readCompared 49 = .ok (.invokevirtual 40, 3) := by decide +kernel
theorem dX8_readCompared_52 : decode cX8_readCompared 52 = .ok (.ireturn, 1) := by decide +kernel
theorem dX8_readCompared_53 : decode cX8_readCompared 53 = .ok (.aload_n 0, 1) := by decide +kernel
theorem dX8_readCompared_54 : decode cX8_readCompared 54 = .ok (.getfield 12, 3) := by decide +kernel
theorem dX8_readCompared_57 : decode cX8_readCompared 57 = .ok (.invokevirtual 50, 3) := by decide +kernel
theorem dX8_readCompared_60 : decode cX8_readCompared 60 = .ok (.aload_n 0, 1) := by decide +kernel
theorem dX8_readCompared_61 : decode cX8_readCompared 61 = .ok (.iload_n 1, 1) := by decide +kernel
theorem dX8_readCompared_62 : decode cX8_readCompared 62 = .ok (.iload_n 2, 1) := by decide +kernel
theorem dX8_readCompared_63 : decode cX8_readCompared 63 = .ok (.aload_n 0, 1) := by decide +kernel
theorem dX8_readCompared_64 : decode cX8_readCompared 64 = .ok (.getfield 12, 3) := by decide +kernel
theorem dX8_readCompared_67 : decode cX8_readCompared 67 = .ok (.iconst 0, 1) := by decide +kernel
theorem dX8_readCompared_68 : decode cX8_readCompared 68 = .ok (.sipush 999, 3) := by decide +kernel
theorem dX8_readCompared_71 : decode cX8_readCompared 71 = .ok (.invokevirtual 92, 3) := by decide +kernel
theorem dX8_readCompared_74 : decode cX8_readCompared 74 = .ok (.invokevirtual 77, 3) := by decide +kernel
theorem dX8_readCompared_77 : decode cX8_readCompared 77 = .ok (.ireturn, 1) := by decide +kernel
theorem dX8_addNumbered_0 : decode cX8_addNumbered 0 = .ok (.iload_n 3, 1) := by decide +kernel
theorem dX8_addNumbered_1 : decode cX8_addNumbered 1 = .ok (.iconst (-1), 1) := by decide +kernel
theorem dX8_addNumbered_2 : decode cX8_addNumbered 2 = .ok (.if_icmp .eq 20, 3) := by decide +kernel
theorem dX8_addNumbered_5 : decode cX8_addNumbered 5 = .ok (.aload_n 0, 1) := by decide +kernel
theorem dX8_addNumbered_6 : decode cX8_addNumbered 6 = .ok (.getfield 21, 3) := by decide +kernel
theorem dX8_addNumbered_9 : decode cX8_addNumbered 9 = .ok (.iload_n 1, 1) := by decide +kernel
theorem dX8_addNumbered_10 : decode cX8_addNumbered 10 = .ok (.iload_n 2, 1) := by decide +kernel
theorem dX8_addNumbered_11 : decode cX8_addNumbered 11 = .ok (.iload_n 3, 1) := by decide +kernel
theorem dX8_addNumbered_12 : decode cX8_addNumbered 12 = .ok (.invokevirtual 53, 3) := by decide +kernel
theorem dX8_addNumbered_15 : decode cX8_addNumbered 15 = .ok (.ifCond .eq 7, 3) := by decide +kernel
theorem dX8_addNumbered_18 : decode cX8_addNumbered 18 = .ok (.iconst 1, 1) := by decide +kernel
theorem dX8_addNumbered_19 : decode cX8_addNumbered 19 = .ok (.goto 4, 3) := by decide +kernel
theorem dX8_addNumbered_22 : decode cX8_addNumbered 22 = .ok (.iconst 0, 1) := by decide +kernel
theorem dX8_addNumbered_23 : decode cX8_addNumbered 23 = .ok (.ireturn, 1) := by decide +kernel
theorem dX9_init_0 : decode cX9_init 0 = .ok (.aload_n 0, 1) := by decide +kernel
theorem dX9_init_1 : decode cX9_init 1 = .ok (.invokespecial 3, 3) := by decide +kernel
theorem dX9_init_4 : decode cX9_init 4 = .ok (.aload_n 0, 1) := by decide +kernel
theorem dX9_init_5 : decode cX9_init 5 = .ok (.bipush 6, 2) := by decide +kernel
theorem dX9_init_7 : decode cX9_init 7 = .ok (.newarray .int, 2) := by decide +kernel
theorem dX9_init_9 : decode cX9_init 9 = .ok (.putfield 9, 3) := by decide +kernel
theorem dX9_init_12 : decode cX9_init 12 = .ok (.aload_n 0, 1) := by decide +kernel
theorem dX9_init_13 : decode cX9_init 13 = .ok (.bipush 6, 2) := by decide +kernel
theorem dX9_init_15 : decode cX9_init 15 = .ok (.newarray .int, 2) := by decide +kernel
theorem dX9_init_17 : decode cX9_init 17 = .ok (.putfield 15, 3) := by decide +kernel
theorem dX9_init_20 : decode cX9_init 20 = .ok (.aload_n 0, 1) := by decide +kernel
theorem dX9_init_21 : decode cX9_init 21 = .ok (.bipush 6, 2) := by decide +kernel
theorem dX9_init_23 : decode cX9_init 23 = .ok (.newarray .int, 2) := by decide +kernel
theorem dX9_init_25 : decode cX9_init 25 = .ok (.putfield 18, 3) := by decide +kernel
theorem dX9_init_28 : decode cX9_init 28 = .ok (.aload_n 0, 1) := by decide +kernel
theorem dX9_init_29 : decode cX9_init 29 = .ok (.bipush 8, 2) := by decide +kernel
theorem dX9_init_31 : decode cX9_init 31 = .ok (.newarray .int, 2) := by decide +kernel
theorem dX9_init_33 : decode cX9_init 33 = .ok (.putfield 21, 3) := by decide +kernel
theorem dX9_init_36 : decode cX9_init 36 = .ok (.aload_n 0, 1) := by decide +kernel
theorem dX9_init_37 : decode cX9_init 37 = .ok (.bipush 8, 2) := by decide +kernel
theorem dX9_init_39 : decode cX9_init 39 = .ok (.newarray .int, 2) := by decide +kernel
theorem dX9_init_41 : decode cX9_init 41 = .ok (.putfield 24, 3) := by decide +kernel
theorem dX9_init_44 : decode cX9_init 44 = .ok (.aload_n 0, 1) := by decide +kernel
theorem dX9_init_45 : decode cX9_init 45 = .ok (.bipush 8, 2) := by decide +kernel
theorem dX9_init_47 : decode cX9_init 47 = .ok (.newarray .int, 2) := by decide +kernel
theorem dX9_init_49 : decode cX9_init 49 = .ok (.putfield 27, 3) := by decide +kernel
theorem dX9_init_52 : decode cX9_init 52 = .ok (.return_, 1) := by decide +kernel
theorem dX9_makeNew_0 : decode cX9_makeNew 0 = .ok (.iconst 0, 1) := by decide +kernel
theorem dX9_makeNew_1 : decode cX9_makeNew 1 = .ok (.istore_n 1, 1) := by decide +kernel
theorem dX9_makeNew_2 : decode cX9_makeNew 2 = .ok (.iload_n 1, 1) := by decide +kernel
theorem dX9_makeNew_3 : decode cX9_makeNew 3 = .ok (.bipush 6, 2) := by decide +kernel
theorem dX9_makeNew_5 : decode cX9_makeNew 5 = .ok (.if_icmp .ge 30, 3) := by decide +kernel
theorem dX9_makeNew_8 : decode cX9_makeNew 8 = .ok (.aload_n 0, 1) := by decide +kernel
theorem dX9_makeNew_9 : decode cX9_makeNew 9 = .ok (.getfield 9, 3) := by decide +kernel
theorem dX9_makeNew_12 : decode cX9_makeNew 12 = .ok (.iload_n 1, 1) := by decide +kernel
theorem dX9_makeNew_13 : decode cX9_makeNew 13 = .ok (.iconst 2, 1) := by decide +kernel
theorem dX9_makeNew_14 : decode cX9_makeNew 14 = .ok (.iastore, 1) := by decide +kernel
theorem dX9_makeNew_15 : decode cX9_makeNew 15 = .ok (.aload_n 0, 1) := by decide +kernel
theorem dX9_makeNew_16 : decode cX9_makeNew 16 = .ok (.getfield 15, 3) := by decide +kernel
theorem dX9_makeNew_19 : decode cX9_makeNew 19 = .ok (.iload_n 1, 1) := by decide +kernel
theorem dX9_makeNew_20 : decode cX9_makeNew 20 = .ok (.iconst 0, 1) := by decide +kernel
theorem dX9_makeNew_21 : decode cX9_makeNew 21 = .ok (.iastore, 1) := by decide +kernel
theorem dX9_makeNew_22 : decode cX9_makeNew 22 = .ok (.aload_n 0, 1) := by decide +kernel
theorem dX9_makeNew_23 : decode cX9_makeNew 23 = .ok (.getfield 18, 3) := by decide +kernel
theorem dX9_makeNew_26 : decode cX9_makeNew 26 = .ok (.iload_n 1, 1) := by decide +kernel
theorem dX9_makeNew_27 : decode cX9_makeNew 27 = .ok (.iconst 0, 1) := by decide +kernel
theorem dX9_makeNew_28 : decode cX9_makeNew 28 = .ok (.iastore, 1) := by decide +kernel
theorem dX9_makeNew_29 : decode cX9_makeNew 29 = .ok (.iinc 1 1, 3) := by decide +kernel
theorem dX9_makeNew_32 : decode cX9_makeNew 32 = .ok (.goto (-30), 3) := by decide +kernel
theorem dX9_makeNew_35 : decode cX9_makeNew 35 = .ok (.iconst 0, 1) := by decide +kernel
theorem dX9_makeNew_36 : decode cX9_makeNew 36 = .ok (.istore_n 1, 1) := by decide +kernel
theorem dX9_makeNew_37 : decode cX9_makeNew 37 = .ok (.iload_n 1, 1) := by decide +kernel
theorem dX9_makeNew_38 : decode cX9_makeNew 38 = .ok (.bipush 8, 2) := by decide +kernel
theorem dX9_makeNew_40 : decode cX9_makeNew 40 = .ok (.if_icmp .ge 30, 3) := by decide +kernel
theorem dX9_makeNew_43 : decode cX9_makeNew 43 = .ok (.aload_n 0, 1) := by decide +kernel
theorem dX9_makeNew_44 : decode cX9_makeNew 44 = .ok (.getfield 21, 3) := by decide +kernel
theorem dX9_makeNew_47 : decode cX9_makeNew 47 = .ok (.iload_n 1, 1) := by decide +kernel
theorem dX9_makeNew_48 : decode cX9_makeNew 48 = .ok (.iconst 0, 1) := by decide +kernel
theorem dX9_makeNew_49 : decode cX9_makeNew 49 = .ok (.iastore, 1) := by decide +kernel
theorem dX9_makeNew_50 : decode cX9_makeNew 50 = .ok (.aload_n 0, 1) := by decide +kernel
theorem dX9_makeNew_51 : decode cX9_makeNew 51 = .ok (.getfield 24, 3) := by decide +kernel
theorem dX9_makeNew_54 : decode cX9_makeNew 54 = .ok (.iload_n 1, 1) := by decide +kernel
theorem dX9_makeNew_55 : decode cX9_makeNew 55 = .ok (.iconst 0, 1) := by decide +kernel
theorem dX9_makeNew_56 : decode cX9_makeNew 56 = .ok (.iastore, 1) := by decide +kernel
theorem dX9_makeNew_57 : decode cX9_makeNew 57 = .ok (.aload_n 0, 1) := by decide +kernel
theorem dX9_makeNew_58 : decode cX9_makeNew 58 = .ok (.getfield 27, 3) := by decide +kernel
theorem dX9_makeNew_61 : decode cX9_makeNew 61 = .ok (.iload_n 1, 1) := by decide +kernel
theorem dX9_makeNew_62 : decode cX9_makeNew 62 = .ok (.iconst 0, 1) := by decide +kernel
theorem dX9_makeNew_63 : decode cX9_makeNew 63 = .ok (.iastore, 1) := by decide +kernel
theorem dX9_makeNew_64 : decode cX9_makeNew 64 = .ok (.iinc 1 1, 3) := by decide +kernel
theorem dX9_makeNew_67 : decode cX9_makeNew 67 = .ok (.goto (-30), 3) := by decide +kernel
theorem dX9_makeNew_70 : decode cX9_makeNew 70 = .ok (.aload_n 0, 1) := by decide +kernel
theorem dX9_makeNew_71 : decode cX9_makeNew 71 = .ok (.bipush 63, 2) := by decide +kernel
theorem dX9_makeNew_73 : decode cX9_makeNew 73 = .ok (.putfield 30, 3) := by decide +kernel
theorem dX9_makeNew_76 : decode cX9_makeNew 76 = .ok (.aload_n 0, 1) := by decide +kernel
theorem dX9_makeNew_77 : decode cX9_makeNew 77 = .ok (.iconst 0, 1) := by decide +kernel
theorem dX9_makeNew_78 : decode cX9_makeNew 78 = .ok (.putfield 34, 3) := by decide +kernel
theorem dX9_makeNew_81 : decode cX9_makeNew 81 = .ok (.aload_n 0, 1) := by decide +kernel
theorem dX9_makeNew_82 : decode cX9_makeNew 82 = .ok (.iconst 0, 1) := by decide +kernel
theorem dX9_makeNew_83 : decode cX9_makeNew 83 = .ok (.putfield 37, 3) := by decide +kernel
theorem dX9_makeNew_86 : decode cX9_makeNew 86 = .ok (.aload_n 0, 1) := by decide +kernel
theorem dX9_makeNew_87 : decode cX9_makeNew 87 = .ok (.iconst 0, 1) := by decide +kernel
theorem dX9_makeNew_88 : decode cX9_makeNew 88 = .ok (.putfield 40, 3) := by decide +kernel
theorem dX9_makeNew_91 : decode cX9_makeNew 91 = .ok (.aload_n 0, 1) := by decide +kernel
theorem dX9_makeNew_92 : decode cX9_makeNew 92 = .ok (.iconst 0, 1) := by decide +kernel
theorem dX9_makeNew_93 : decode cX9_makeNew 93 = .ok (.putfield 43, 3) := by decide +kernel
theorem dX9_makeNew_96 : decode cX9_makeNew 96 = .ok (.aload_n 0, 1) := by decide +kernel
theorem dX9_makeNew_97 : decode cX9_makeNew 97 = .ok (.iconst 0, 1) := by decide +kernel
theorem dX9_makeNew_98 : decode cX9_makeNew 98 = .ok (.putfield 46, 3) := by decide +kernel
theorem dX9_makeNew_101 : decode cX9_makeNew 101 = .ok (.return_, 1) := by decide +kernel
theorem dX9_copyFrom_0 : decode cX9_copyFrom 0 = .ok (.aload_n 1, 1) := by decide +kernel
theorem dX9_copyFrom_1 : decode cX9_copyFrom 1 = .ok (.getfield 9, 3) := by decide +kernel
theorem dX9_copyFrom_4 : decode cX9_copyFrom 4 = .ok (.iconst 0, 1) := by decide +kernel
theorem dX9_copyFrom_5 : decode cX9_copyFrom 5 = .ok (.aload_n 0, 1) := by decide +kernel
theorem dX9_copyFrom_6 : decode cX9_copyFrom 6 = .ok (.getfield 9, 3) := by decide +kernel
theorem dX9_copyFrom_9 : decode cX9_copyFrom 9 = .ok (.iconst 0, 1) := by decide +kernel
theorem dX9_copyFrom_10 : decode cX9_copyFrom 10 = .ok (.bipush 6, 2) := by decide +kernel
theorem dX9_copyFrom_12 : decode cX9_copyFrom 12 = .ok (.invokestatic 49, 3) := by decide +kernel
theorem dX9_copyFrom_15 : decode cX9_copyFrom 15 = .ok (.aload_n 1, 1) := by decide +kernel
theorem dX9_copyFrom_16 : decode cX9_copyFrom 16 = .ok (.getfield 15, 3) := by decide +kernel
theorem dX9_copyFrom_19 : decode cX9_copyFrom 19 = .ok (.iconst 0, 1) := by decide +kernel
theorem dX9_copyFrom_20 : decode cX9_copyFrom 20 = .ok (.aload_n 0, 1) := by decide +kernel
theorem dX9_copyFrom_21 : decode cX9_copyFrom 21 = .ok (.getfield 15, 3) := by decide +kernel
theorem dX9_copyFrom_24 : decode cX9_copyFrom 24 = .ok (.iconst 0, 1) := by decide +kernel
theorem dX9_copyFrom_25 : decode cX9_copyFrom 25 = .ok (.bipush 6, 2) := by decide +kernel
theorem dX9_copyFrom_27 : decode cX9_copyFrom 27 = .ok (.invokestatic 49, 3) := by decide +kernel
theorem dX9_copyFrom_30 : decode cX9_copyFrom 30 = .ok (.aload_n 1, 1) := by decide +kernel
theorem dX9_copyFrom_31 : decode cX9_copyFrom 31 = .ok (.getfield 18, 3) := by decide +kernel
theorem dX9_copyFrom_34 : decode cX9_copyFrom 34 = .ok (.iconst 0, 1) := by decide +kernel
theorem dX9_copyFrom_35 : decode cX9_copyFrom 35 = .ok (.aload_n 0, 1) := by decide +kernel
theorem dX9_copyFrom_36 : decode cX9_copyFrom 36 = .ok (.getfield 18, 3) := by decide +kernel
theorem dX9_copyFrom_39 : decode cX9_copyFrom 39 = .ok (.iconst 0, 1) := by decide +kernel
theorem dX9_copyFrom_40 : decode cX9_copyFrom 40 = .ok (.bipush 6, 2) := by decide +kernel
theorem dX9_copyFrom_42 : decode cX9_copyFrom 42 = .ok (.invokestatic 49, 3) := by decide +kernel
theorem dX9_copyFrom_45 : decode cX9_copyFrom 45 = .ok (.aload_n 1, 1) := by decide +kernel
theorem dX9_copyFrom_46 : decode cX9_copyFrom 46 = .ok (.getfield 21, 3) := by decide +kernel
theorem dX9_copyFrom_49 : decode cX9_copyFrom 49 = .ok (.iconst 0, 1) := by decide +kernel
theorem dX9_copyFrom_50 : decode cX9_copyFrom 50 = .ok (.aload_n 0, 1) := by decide +kernel
theorem dX9_copyFrom_51 : decode cX9_copyFrom 51 = .ok (.getfield 21, 3) := by decide +kernel
theorem dX9_copyFrom_54 : decode cX9_copyFrom 54 = .ok (.iconst 0, 1) := by decide +kernel
theorem dX9_copyFrom_55 : decode cX9_copyFrom 55 = .ok (.bipush 8, 2) := by decide +kernel
theorem dX9_copyFrom_57 : decode cX9_copyFrom 57 = .ok (.invokestatic 49, 3) := by decide +kernel
theorem dX9_copyFrom_60 : decode cX9_copyFrom 60 = .ok (.aload_n 1, 1) := by decide +kernel
theorem dX9_copyFrom_61 : decode cX9_copyFrom 61 = .ok (.getfield 24, 3) := by decide +kernel
theorem dX9_copyFrom_64 : decode cX9_copyFrom 64 = .ok (.iconst 0, 1) := by decide +kernel
theorem dX9_copyFrom_65 : decode cX9_copyFrom 65 = .ok (.aload_n 0, 1) := by decide +kernel
theorem dX9_copyFrom_66 : decode cX9_copyFrom 66 = .ok (.getfield 24, 3) := by decide +kernel
theorem dX9_copyFrom_69 : decode cX9_copyFrom 69 = .ok (.iconst 0, 1) := by decide +kernel
theorem dX9_copyFrom_70 : decode cX9_copyFrom 70 = .ok (.bipush 8, 2) := by decide +kernel
theorem dX9_copyFrom_72 : decode cX9_copyFrom 72 = .ok (.invokestatic 49, 3) := by decide +kernel
theorem dX9_copyFrom_75 : decode cX9_copyFrom 75 = .ok (.aload_n 1, 1) := by decide +kernel
theorem dX9_copyFrom_76 : decode cX9_copyFrom 76 = .ok (.getfield 27, 3) := by decide +kernel
theorem dX9_copyFrom_79 : decode cX9_copyFrom 79 = .ok (.iconst 0, 1) := by decide +kernel
theorem dX9_copyFrom_80 : decode cX9_copyFrom 80 = .ok (.aload_n 0, 1) := by decide +kernel
theorem dX9_copyFrom_81 : decode cX9_copyFrom 81 = .ok (.getfield 27, 3) := by decide +kernel
theorem dX9_copyFrom_84 : decode cX9_copyFrom 84 = .ok (.iconst 0, 1) := by decide +kernel
theorem dX9_copyFrom_85 : decode cX9_copyFrom 85 = .ok (.bipush 8, 2) := by decide +kernel
theorem dX9_copyFrom_87 : decode cX9_copyFrom 87 = .ok (.invokestatic 49, 3) := by decide +kernel
theorem dX9_copyFrom_90 : decode cX9_copyFrom 90 = .ok (.aload_n 0, 1) := by decide +kernel
theorem dX9_copyFrom_91 : decode cX9_copyFrom 91 = .ok (.aload_n 1, 1) := by decide +kernel
theorem dX9_copyFrom_92 : decode cX9_copyFrom 92 = .ok (.getfield 30, 3) := by decide +kernel
theorem dX9_copyFrom_95 : decode cX9_copyFrom 95 = .ok (.putfield 30, 3) := by decide +kernel
theorem dX9_copyFrom_98 : decode cX9_copyFrom 98 = .ok (.aload_n 0, 1) := by decide +kernel
theorem dX9_copyFrom_99 : decode cX9_copyFrom 99 = .ok (.aload_n 1, 1) := by decide +kernel
theorem dX9_copyFrom_100 : decode cX9_copyFrom 100 = .ok (.getfield 34, 3) := by decide +kernel
theorem dX9_copyFrom_103 : decode cX9_copyFrom 103 = .ok (.putfield 34, 3) := by decide +kernel
theorem dX9_copyFrom_106 : decode cX9_copyFrom 106 = .ok (.aload_n 0, 1) := by decide +kernel
theorem dX9_copyFrom_107 : decode cX9_copyFrom 107 = .ok (.aload_n 1, 1) := by decide +kernel
theorem dX9_copyFrom_108 : decode cX9_copyFrom 108 = .ok (.getfield 37, 3) := by decide +kernel
theorem dX9_copyFrom_111 : decode cX9_copyFrom 111 = .ok (.putfield 37, 3) := by decide +kernel
theorem dX9_copyFrom_114 : decode cX9_copyFrom 114 = .ok (.aload_n 0, 1) := by decide +kernel
theorem dX9_copyFrom_115 : decode cX9_copyFrom 115 = .ok (.aload_n 1, 1) := by decide +kernel
theorem dX9_copyFrom_116 : decode cX9_copyFrom 116 = .ok (.getfield 40, 3) := by decide +kernel
theorem dX9_copyFrom_119 : decode cX9_copyFrom 119 = .ok (.putfield 40, 3) := by decide +kernel
theorem dX9_copyFrom_122 : decode cX9_copyFrom 122 = .ok (.aload_n 0, 1) := by decide +kernel
theorem dX9_copyFrom_123 : decode cX9_copyFrom 123 = .ok (.aload_n 1, 1) := by decide +kernel
theorem dX9_copyFrom_124 : decode cX9_copyFrom 124 = .ok (.getfield 43, 3) := by decide +kernel
theorem dX9_copyFrom_127 : decode cX9_copyFrom 127 = .ok (.putfield 43, 3) := by decide +kernel
theorem dX9_copyFrom_130 : decode cX9_copyFrom 130 = .ok (.aload_n 0, 1) := by decide +kernel
theorem dX9_copyFrom_131 : decode cX9_copyFrom 131 = .ok (.aload_n 1, 1) := by decide +kernel
theorem dX9_copyFrom_132 : decode cX9_copyFrom 132 = .ok (.getfield 46, 3) := by decide +kernel
theorem dX9_copyFrom_135 : decode cX9_copyFrom 135 = .ok (.putfield 46, 3) := by decide +kernel
theorem dX9_copyFrom_138 : decode cX9_copyFrom 138 = .ok (.return_, 1) := by decide +kernel
theorem dX9_lampOf_0 : decode cX9_lampOf 0 = .ok (.aload_n 0, 1) := by decide +kernel
theorem dX9_lampOf_1 : decode cX9_lampOf 1 = .ok (.getfield 9, 3) := by decide +kernel
theorem dX9_lampOf_4 : decode cX9_lampOf 4 = .ok (.iload_n 2, 1) := by decide +kernel
theorem dX9_lampOf_5 : decode cX9_lampOf 5 = .ok (.iaload, 1) := by decide +kernel
theorem dX9_lampOf_6 : decode cX9_lampOf 6 = .ok (.ifCond .ne 5, 3) := by decide +kernel
theorem dX9_lampOf_9 : decode cX9_lampOf 9 = .ok (.iconst 0, 1) := by decide +kernel
theorem dX9_lampOf_10 : decode cX9_lampOf 10 = .ok (.ireturn, 1) := by decide +kernel
