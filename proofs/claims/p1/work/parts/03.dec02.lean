theorem dX8_readOne_7 : decode cX8_readOne 7 = .ok (.aload_n 0, 1) := by decide +kernel
theorem dX8_readOne_8 : decode cX8_readOne 8 = .ok (.getfield 12, 3) := by decide +kernel
theorem dX8_readOne_11 : decode cX8_readOne 11 = .ok (.iconst 1, 1) := by decide +kernel
theorem dX8_readOne_12 : decode cX8_readOne 12 = .ok (.invokevirtual 40, 3) := by decide +kernel
theorem dX8_readOne_15 : decode cX8_readOne 15 = .ok (.ireturn, 1) := by decide +kernel
theorem dX8_readOne_16 : decode cX8_readOne 16 = .ok (.aload_n 0, 1) := by decide +kernel
theorem dX8_readOne_17 : decode cX8_readOne 17 = .ok (.getfield 21, 3) := by decide +kernel
theorem dX8_readOne_20 : decode cX8_readOne 20 = .ok (.getfield 64, 3) := by decide +kernel
theorem dX8_readOne_23 : decode cX8_readOne 23 = .ok (.bipush 20, 2) := by decide +kernel
theorem dX8_readOne_25 : decode cX8_readOne 25 = .ok (.if_icmp .ge 9, 3) := by decide +kernel
theorem dX8_readOne_28 : decode cX8_readOne 28 = .ok (.iload_n 2, 1) := by decide +kernel
theorem dX8_readOne_29 : decode cX8_readOne 29 = .ok (.bipush 8, 2) := by decide +kernel
theorem dX8_readOne_31 : decode cX8_readOne 31 = .ok (.if_icmp .lt 12, 3) := by decide +kernel
theorem dX8_readOne_34 : decode cX8_readOne 34 = .ok (.aload_n 0, 1) := by decide +kernel
theorem dX8_readOne_35 : decode cX8_readOne 35 = .ok (.getfield 12, 3) := by decide +kernel
theorem dX8_readOne_38 : decode cX8_readOne 38 = .ok (.iconst 4, 1) := by decide +kernel
theorem dX8_readOne_39 : decode cX8_readOne 39 = .ok (.invokevirtual 40, 3) := by decide +kernel
theorem dX8_readOne_42 : decode cX8_readOne 42 = .ok (.ireturn, 1) := by decide +kernel
theorem dX8_readOne_43 : decode cX8_readOne 43 = .ok (.aload_n 0, 1) := by decide +kernel
theorem dX8_readOne_44 : decode cX8_readOne 44 = .ok (.getfield 21, 3) := by decide +kernel
theorem dX8_readOne_47 : decode cX8_readOne 47 = .ok (.dup, 1) := by decide +kernel
theorem dX8_readOne_48 : decode cX8_readOne 48 = .ok (.getfield 64, 3) := by decide +kernel
theorem dX8_readOne_51 : decode cX8_readOne 51 = .ok (.iconst 1, 1) := by decide +kernel
theorem dX8_readOne_52 : decode cX8_readOne 52 = .ok (.iadd, 1) := by decide +kernel
theorem dX8_readOne_53 : decode cX8_readOne 53 = .ok (.putfield 64, 3) := by decide +kernel
theorem dX8_readOne_56 : decode cX8_readOne 56 = .ok (.aload_n 0, 1) := by decide +kernel
theorem dX8_readOne_57 : decode cX8_readOne 57 = .ok (.getfield 12, 3) := by decide +kernel
theorem dX8_readOne_60 : decode cX8_readOne 60 = .ok (.getfield 47, 3) := by decide +kernel
theorem dX8_readOne_63 : decode cX8_readOne 63 = .ok (.istore_n 3, 1) := by decide +kernel
theorem dX8_readOne_64 : decode cX8_readOne 64 = .ok (.aload_n 0, 1) := by decide +kernel
theorem dX8_readOne_65 : decode cX8_readOne 65 = .ok (.getfield 12, 3) := by decide +kernel
theorem dX8_readOne_68 : decode cX8_readOne 68 = .ok (.invokevirtual 50, 3) := by decide +kernel
theorem dX8_readOne_71 : decode cX8_readOne 71 = .ok (.iload_n 3, 1) := by decide +kernel
theorem dX8_readOne_72 : decode cX8_readOne 72 = .ok (.tableswitch 172 (-1) 19 #[100, 172, 151, 172, 172, 172, 172, 172, 172, 172, 172, 172, 172, 129, 172, 172, 172, 136, 166, 166, 166], 100) := by decide +kernel
theorem dX8_readOne_172 : decode cX8_readOne 172 = .ok (.aload_n 0, 1) := by decide +kernel
theorem dX8_readOne_173 : decode cX8_readOne 173 = .ok (.aload_n 1, 1) := by decide +kernel
theorem dX8_readOne_174 : decode cX8_readOne 174 = .ok (.iload_n 2, 1) := by decide +kernel
theorem dX8_readOne_175 : decode cX8_readOne 175 = .ok (.iconst 1, 1) := by decide +kernel
theorem dX8_readOne_176 : decode cX8_readOne 176 = .ok (.iadd, 1) := by decide +kernel
theorem dX8_readOne_177 : decode cX8_readOne 177 = .ok (.invokevirtual 32, 3) := by decide +kernel
theorem dX8_readOne_180 : decode cX8_readOne 180 = .ok (.ifCond .eq 19, 3) := by decide +kernel
theorem dX8_readOne_183 : decode cX8_readOne 183 = .ok (.aload_n 0, 1) := by decide +kernel
theorem dX8_readOne_184 : decode cX8_readOne 184 = .ok (.getfield 12, 3) := by decide +kernel
theorem dX8_readOne_187 : decode cX8_readOne 187 = .ok (.bipush 41, 2) := by decide +kernel
theorem dX8_readOne_189 : decode cX8_readOne 189 = .ok (.invokevirtual 67, 3) := by decide +kernel
theorem dX8_readOne_192 : decode cX8_readOne 192 = .ok (.ifCond .eq 7, 3) := by decide +kernel
theorem dX8_readOne_195 : decode cX8_readOne 195 = .ok (.iconst 1, 1) := by decide +kernel
theorem dX8_readOne_196 : decode cX8_readOne 196 = .ok (.goto 4, 3) := by decide +kernel
theorem dX8_readOne_199 : decode cX8_readOne 199 = .ok (.iconst 0, 1) := by decide +kernel
theorem dX8_readOne_200 : decode cX8_readOne 200 = .ok (.ireturn, 1) := by decide +kernel
theorem dX8_readOne_201 : decode cX8_readOne 201 = .ok (.aload_n 0, 1) := by decide +kernel
theorem dX8_readOne_202 : decode cX8_readOne 202 = .ok (.aload_n 1, 1) := by decide +kernel
theorem dX8_readOne_203 : decode cX8_readOne 203 = .ok (.iload_n 2, 1) := by decide +kernel
theorem dX8_readOne_204 : decode cX8_readOne 204 = .ok (.invokevirtual 70, 3) := by decide +kernel
theorem dX8_readOne_207 : decode cX8_readOne 207 = .ok (.ireturn, 1) := by decide +kernel
theorem dX8_readOne_208 : decode cX8_readOne 208 = .ok (.aload_n 0, 1) := by decide +kernel
theorem dX8_readOne_209 : decode cX8_readOne 209 = .ok (.iload_n 3, 1) := by decide +kernel
theorem dX8_readOne_210 : decode cX8_readOne 210 = .ok (.iconst 0, 1) := by decide +kernel
theorem dX8_readOne_211 : decode cX8_readOne 211 = .ok (.aload_n 0, 1) := by decide +kernel
theorem dX8_readOne_212 : decode cX8_readOne 212 = .ok (.getfield 12, 3) := by decide +kernel
theorem dX8_readOne_215 : decode cX8_readOne 215 = .ok (.aload_n 1, 1) := by decide +kernel
theorem dX8_readOne_216 : decode cX8_readOne 216 = .ok (.invokevirtual 73, 3) := by decide +kernel
theorem dX8_readOne_219 : decode cX8_readOne 219 = .ok (.invokevirtual 77, 3) := by decide +kernel
theorem dX8_readOne_222 : decode cX8_readOne 222 = .ok (.ireturn, 1) := by decide +kernel
theorem dX8_readOne_223 : decode cX8_readOne 223 = .ok (.aload_n 0, 1) := by decide +kernel
theorem dX8_readOne_224 : decode cX8_readOne 224 = .ok (.iload_n 3, 1) := by decide +kernel
theorem dX8_readOne_225 : decode cX8_readOne 225 = .ok (.iconst 0, 1) := by decide +kernel
theorem dX8_readOne_226 : decode cX8_readOne 226 = .ok (.aload_n 0, 1) := by decide +kernel
theorem dX8_readOne_227 : decode cX8_readOne 227 = .ok (.getfield 12, 3) := by decide +kernel
theorem dX8_readOne_230 : decode cX8_readOne 230 = .ok (.aload_n 1, 1) := by decide +kernel
theorem dX8_readOne_231 : decode cX8_readOne 231 = .ok (.invokevirtual 80, 3) := by decide +kernel
theorem dX8_readOne_234 : decode cX8_readOne 234 = .ok (.invokevirtual 77, 3) := by decide +kernel
theorem dX8_readOne_237 : decode cX8_readOne 237 = .ok (.ireturn, 1) := by decide +kernel
theorem dX8_readOne_238 : decode cX8_readOne 238 = .ok (.aload_n 0, 1) := by decide +kernel
theorem dX8_readOne_239 : decode cX8_readOne 239 = .ok (.iload_n 3, 1) := by decide +kernel
theorem dX8_readOne_240 : decode cX8_readOne 240 = .ok (.invokevirtual 83, 3) := by decide +kernel
theorem dX8_readOne_243 : decode cX8_readOne 243 = .ok (.ireturn, 1) := by decide +kernel
theorem dX8_readOne_244 : decode cX8_readOne 244 = .ok (.aload_n 0, 1) := by decide +kernel
theorem dX8_readOne_245 : decode cX8_readOne 245 = .ok (.getfield 21, 3) := by decide +kernel
theorem dX8_readOne_248 : decode cX8_readOne 248 = .ok (.iload_n 3, 1) := by decide +kernel
theorem dX8_readOne_249 : decode cX8_readOne 249 = .ok (.iconst 0, 1) := by decide +kernel
theorem dX8_readOne_250 : decode cX8_readOne 250 = .ok (.iconst 0, 1) := by decide +kernel
theorem dX8_readOne_251 : decode cX8_readOne 251 = .ok (.invokevirtual 53, 3) := by decide +kernel
theorem dX8_readOne_254 : decode cX8_readOne 254 = .ok (.ireturn, 1) := by decide +kernel
theorem dX8_isOneHere_0 : decode cX8_isOneHere 0 = .ok (.aload_n 0, 1) := by decide +kernel
theorem dX8_isOneHere_1 : decode cX8_isOneHere 1 = .ok (.getfield 12, 3) := by decide +kernel
theorem dX8_isOneHere_4 : decode cX8_isOneHere 4 = .ok (.getfield 47, 3) := by decide +kernel
theorem dX8_isOneHere_7 : decode cX8_isOneHere 7 = .ok (.tableswitch 91 1 19 #[89, 91, 91, 91, 91, 91, 91, 91, 91, 91, 91, 89, 89, 89, 89, 89, 89, 89, 89], 89) := by decide +kernel
theorem dX8_isOneHere_96 : decode cX8_isOneHere 96 = .ok (.iconst 1, 1) := by decide +kernel
theorem dX8_isOneHere_97 : decode cX8_isOneHere 97 = .ok (.ireturn, 1) := by decide +kernel
theorem dX8_isOneHere_98 : decode cX8_isOneHere 98 = .ok (.aload_n 0, 1) := by decide +kernel
theorem dX8_isOneHere_99 : decode cX8_isOneHere 99 = .ok (.getfield 12, 3) := by decide +kernel
theorem dX8_isOneHere_102 : decode cX8_isOneHere 102 = .ok (.bipush 40, 2) := by decide +kernel
theorem dX8_isOneHere_104 : decode cX8_isOneHere 104 = .ok (.invokevirtual 86, 3) := by decide +kernel
theorem dX8_isOneHere_107 : decode cX8_isOneHere 107 = .ok (.ireturn, 1) := by decide +kernel
theorem dX9_init_0 : decode cX9_init 0 = .ok (.aload_n 0, 1) := by decide +kernel
theorem dX9_init_1 : decode cX9_init 1 = .ok (.invokespecial 3, 3) := by decide +kernel
theorem dX9_init_4 : decode cX9_init 4 = .ok (.aload_n 0, 1) := by decide +kernel
theorem dX9_init_5 : decode cX9_init 5 = .ok (.bipush 6, 2) := by decide +kernel
theorem dX9_init_7 : decode cX9_init 7 = .ok (.newarray .int, 2) := by decide +kernel
theorem dX9_init_9 : decode cX9_init 9 = .ok (.putfield 9, 3) := by decide +kernel
theorem dX9_init_12 : decode cX9_init 12 = .ok (.aload_n 0, 1) := by decide +kernel
theorem dX9_init_13 : decode cX9_init 13 = .ok (.bipush 6, 2) := by decide +kernel
theorem dX9_init_15 : decode cX9_init 15 = .ok (.newarray .int, 2) := by decide +kernel
theorem dX9_init_17 : decode cX9_init 17 = .ok (.putfield 15, 3) := by decide +kernel
theorem dX9_init_20 : decode cX9_init 20 = .ok (.aload_n 0, 1) := by decide +kernel
theorem dX9_init_21 : decode cX9_init 21 = .ok (.bipush 6, 2) := by decide +kernel
theorem dX9_init_23 : decode cX9_init 23 = .ok (.newarray .int, 2) := by decide +kernel
theorem dX9_init_25 : decode cX9_init 25 = .ok (.putfield 18, 3) := by decide +kernel
theorem dX9_init_28 : decode cX9_init 28 = .ok (.aload_n 0, 1) := by decide +kernel
theorem dX9_init_29 : decode cX9_init 29 = .ok (.bipush 8, 2) := by decide +kernel
theorem dX9_init_31 : decode cX9_init 31 = .ok (.newarray .int, 2) := by decide +kernel
theorem dX9_init_33 : decode cX9_init 33 = .ok (.putfield 21, 3) := by decide +kernel
theorem dX9_init_36 : decode cX9_init 36 = .ok (.aload_n 0, 1) := by decide +kernel
theorem dX9_init_37 : decode cX9_init 37 = .ok (.bipush 8, 2) := by decide +kernel
theorem dX9_init_39 : decode cX9_init 39 = .ok (.newarray .int, 2) := by decide +kernel
theorem dX9_init_41 : decode cX9_init 41 = .ok (.putfield 24, 3) := by decide +kernel
theorem dX9_init_44 : decode cX9_init 44 = .ok (.aload_n 0, 1) := by decide +kernel
theorem dX9_init_45 : decode cX9_init 45 = .ok (.bipush 8, 2) := by decide +kernel
theorem dX9_init_47 : decode cX9_init 47 = .ok (.newarray .int, 2) := by decide +kernel
theorem dX9_init_49 : decode cX9_init 49 = .ok (.putfield 27, 3) := by decide +kernel
theorem dX9_init_52 : decode cX9_init 52 = .ok (.return_, 1) := by decide +kernel
theorem dX9_makeNew_0 : decode cX9_makeNew 0 = .ok (.iconst 0, 1) := by decide +kernel
theorem dX9_makeNew_1 : decode cX9_makeNew 1 = .ok (.istore_n 1, 1) := by decide +kernel
theorem dX9_makeNew_2 : decode cX9_makeNew 2 = .ok (.iload_n 1, 1) := by decide +kernel
theorem dX9_makeNew_3 : decode cX9_makeNew 3 = .ok (.bipush 6, 2) := by decide +kernel
theorem dX9_makeNew_5 : decode cX9_makeNew 5 = .ok (.if_icmp .ge 30, 3) := by decide +kernel
theorem dX9_makeNew_8 : decode cX9_makeNew 8 = .ok (.aload_n 0, 1) := by decide +kernel
theorem dX9_makeNew_9 : decode cX9_makeNew 9 = .ok (.getfield 9, 3) := by decide +kernel
theorem dX9_makeNew_12 : decode cX9_makeNew 12 = .ok (.iload_n 1, 1) := by decide +kernel
theorem dX9_makeNew_13 : decode cX9_makeNew 13 = .ok (.iconst 2, 1) := by decide +kernel
theorem dX9_makeNew_14 : decode cX9_makeNew 14 = .ok (.iastore, 1) := by decide +kernel
theorem dX9_makeNew_15 : decode cX9_makeNew 15 = .ok (.aload_n 0, 1) := by decide +kernel
theorem dX9_makeNew_16 : decode cX9_makeNew 16 = .ok (.getfield 15, 3) := by decide +kernel
theorem dX9_makeNew_19 : decode cX9_makeNew 19 = .ok (.iload_n 1, 1) := by decide +kernel
theorem dX9_makeNew_20 : decode cX9_makeNew 20 = .ok (.iconst 0, 1) := by decide +kernel
theorem dX9_makeNew_21 : decode cX9_makeNew 21 = .ok (.iastore, 1) := by decide +kernel
theorem dX9_makeNew_22 : decode cX9_makeNew 22 = .ok (.aload_n 0, 1) := by decide +kernel
theorem dX9_makeNew_23 : decode cX9_makeNew 23 = .ok (.getfield 18, 3) := by decide +kernel
theorem dX9_makeNew_26 : decode cX9_makeNew 26 = .ok (.iload_n 1, 1) := by decide +kernel
theorem dX9_makeNew_27 : decode cX9_makeNew 27 = .ok (.iconst 0, 1) := by decide +kernel
theorem dX9_makeNew_28 : decode cX9_makeNew 28 = .ok (.iastore, 1) := by decide +kernel
theorem dX9_makeNew_29 : decode cX9_makeNew 29 = .ok (.iinc 1 1, 3) := by decide +kernel
theorem dX9_makeNew_32 : decode cX9_makeNew 32 = .ok (.goto (-30), 3) := by decide +kernel
theorem dX9_makeNew_35 : decode cX9_makeNew 35 = .ok (.iconst 0, 1) := by decide +kernel
theorem dX9_makeNew_36 : decode cX9_makeNew 36 = .ok (.istore_n 1, 1) := by decide +kernel
theorem dX9_makeNew_37 : decode cX9_makeNew 37 = .ok (.iload_n 1, 1) := by decide +kernel
theorem dX9_makeNew_38 : decode cX9_makeNew 38 = .ok (.bipush 8, 2) := by decide +kernel
theorem dX9_makeNew_40 : decode cX9_makeNew 40 = .ok (.if_icmp .ge 30, 3) := by decide +kernel
theorem dX9_makeNew_43 : decode cX9_makeNew 43 = .ok (.aload_n 0, 1) := by decide +kernel
theorem dX9_makeNew_44 : decode cX9_makeNew 44 = .ok (.getfield 21, 3) := by decide +kernel
theorem dX9_makeNew_47 : decode cX9_makeNew 47 = .ok (.iload_n 1, 1) := by decide +kernel
theorem dX9_makeNew_48 : decode cX9_makeNew 48 = .ok (.iconst 0, 1) := by decide +kernel
theorem dX9_makeNew_49 : decode cX9_makeNew 49 = .ok (.iastore, 1) := by decide +kernel
theorem dX9_makeNew_50 : decode cX9_makeNew 50 = .ok (.aload_n 0, 1) := by decide +kernel
theorem dX9_makeNew_51 : decode cX9_makeNew 51 = .ok (.getfield 24, 3) := by decide +kernel
theorem dX9_makeNew_54 : decode cX9_makeNew 54 = .ok (.iload_n 1, 1) := by decide +kernel
theorem dX9_makeNew_55 : decode cX9_makeNew 55 = .ok (.iconst 0, 1) := by decide +kernel
theorem dX9_makeNew_56 : decode cX9_makeNew 56 = .ok (.iastore, 1) := by decide +kernel
theorem dX9_makeNew_57 : decode cX9_makeNew 57 = .ok (.aload_n 0, 1) := by decide +kernel
theorem dX9_makeNew_58 : decode cX9_makeNew 58 = .ok (.getfield 27, 3) := by decide +kernel
theorem dX9_makeNew_61 : decode cX9_makeNew 61 = .ok (.iload_n 1, 1) := by decide +kernel
theorem dX9_makeNew_62 : decode cX9_makeNew 62 = .ok (.iconst 0, 1) := by decide +kernel
theorem dX9_makeNew_63 : decode cX9_makeNew 63 = .ok (.iastore, 1) := by decide +kernel
theorem dX9_makeNew_64 : decode cX9_makeNew 64 = .ok (.iinc 1 1, 3) := by decide +kernel
theorem dX9_makeNew_67 : decode cX9_makeNew 67 = .ok (.goto (-30), 3) := by decide +kernel
theorem dX9_makeNew_70 : decode cX9_makeNew 70 = .ok (.aload_n 0, 1) := by decide +kernel
theorem dX9_makeNew_71 : decode cX9_makeNew 71 = .ok (.bipush 63, 2) := by decide +kernel
theorem dX9_makeNew_73 : decode cX9_makeNew 73 = .ok (.putfield 30, 3) := by decide +kernel
theorem dX9_makeNew_76 : decode cX9_makeNew 76 = .ok (.aload_n 0, 1) := by decide +kernel
theorem dX9_makeNew_77 : decode cX9_makeNew 77 = .ok (.iconst 0, 1) := by decide +kernel
theorem dX9_makeNew_78 : decode cX9_makeNew 78 = .ok (.putfield 34, 3) := by decide +kernel
theorem dX9_makeNew_81 : decode cX9_makeNew 81 = .ok (.aload_n 0, 1) := by decide +kernel
theorem dX9_makeNew_82 : decode cX9_makeNew 82 = .ok (.iconst 0, 1) := by decide +kernel
theorem dX9_makeNew_83 : decode cX9_makeNew 83 = .ok (.putfield 37, 3) := by decide +kernel
theorem dX9_makeNew_86 : decode cX9_makeNew 86 = .ok (.aload_n 0, 1) := by decide +kernel
theorem dX9_makeNew_87 : decode cX9_makeNew 87 = .ok (.iconst 0, 1) := by decide +kernel
theorem dX9_makeNew_88 : decode cX9_makeNew 88 = .ok (.putfield 40, 3) := by decide +kernel
theorem dX9_makeNew_91 : decode cX9_makeNew 91 = .ok (.aload_n 0, 1) := by decide +kernel
theorem dX9_makeNew_92 : decode cX9_makeNew 92 = .ok (.iconst 0, 1) := by decide +kernel
theorem dX9_makeNew_93 : decode cX9_makeNew 93 = .ok (.putfield 43, 3) := by decide +kernel
theorem dX9_makeNew_96 : decode cX9_makeNew 96 = .ok (.aload_n 0, 1) := by decide +kernel
theorem dX9_makeNew_97 : decode cX9_makeNew 97 = .ok (.iconst 0, 1) := by decide +kernel
theorem dX9_makeNew_98 : decode cX9_makeNew 98 = .ok (.putfield 46, 3) := by decide +kernel
theorem dX9_makeNew_101 : decode cX9_makeNew 101 = .ok (.return_, 1) := by decide +kernel
theorem dX9_copyFrom_0 : decode cX9_copyFrom 0 = .ok (.aload_n 1, 1) := by decide +kernel
theorem dX9_copyFrom_1 : decode cX9_copyFrom 1 = .ok (.getfield 9, 3) := by decide +kernel
theorem dX9_copyFrom_4 : decode cX9_copyFrom 4 = .ok (.iconst 0, 1) := by decide +kernel
theorem dX9_copyFrom_5 : decode cX9_copyFrom 5 = .ok (.aload_n 0, 1) := by decide +kernel
theorem dX9_copyFrom_6 : decode cX9_copyFrom 6 = .ok (.getfield 9, 3) := by decide +kernel
theorem dX9_copyFrom_9 : decode cX9_copyFrom 9 = .ok (.iconst 0, 1) := by decide +kernel
theorem dX9_copyFrom_10 : decode cX9_copyFrom 10 = .ok (.bipush 6, 2) := by decide +kernel
theorem dX9_copyFrom_12 : decode cX9_copyFrom 12 = .ok (.invokestatic 49, 3) := by decide +kernel
theorem dX9_copyFrom_15 : decode cX9_copyFrom 15 = .ok (.aload_n 1, 1) := by decide +kernel
theorem dX9_copyFrom_16 : decode cX9_copyFrom 16 = .ok (.getfield 15, 3) := by decide +kernel
theorem dX9_copyFrom_19 : decode cX9_copyFrom 19 = .ok (.iconst 0, 1) := by decide +kernel
theorem dX9_copyFrom_20 : decode cX9_copyFrom 20 = .ok (.aload_n 0, 1) := by decide +kernel
theorem dX9_copyFrom_21 : decode cX9_copyFrom 21 = .ok (.getfield 15, 3) := by decide +kernel
theorem dX9_copyFrom_24 : decode cX9_copyFrom 24 = .ok (.iconst 0, 1) := by decide +kernel
theorem dX9_copyFrom_25 : decode cX9_copyFrom 25 = .ok (.bipush 6, 2) := by decide +kernel
theorem dX9_copyFrom_27 : decode cX9_copyFrom 27 = .ok (.invokestatic 49, 3) := by decide +kernel
theorem dX9_copyFrom_30 : decode cX9_copyFrom 30 = .ok (.aload_n 1, 1) := by decide +kernel
theorem dX9_copyFrom_31 : decode cX9_copyFrom 31 = .ok (.getfield 18, 3) := by decide +kernel
theorem dX9_copyFrom_34 : decode cX9_copyFrom 34 = .ok (.iconst 0, 1) := by decide +kernel
theorem dX9_copyFrom_35 : decode cX9_copyFrom 35 = .ok (.aload_n 0, 1) := by decide +kernel
theorem dX9_copyFrom_36 : decode cX9_copyFrom 36 = .ok (.getfield 18, 3) := by decide +kernel
theorem dX9_copyFrom_39 : decode cX9_copyFrom 39 = .ok (.iconst 0, 1) := by decide +kernel
theorem dX9_copyFrom_40 : decode cX9_copyFrom 40 = .ok (.bipush 6, 2) := by decide +kernel
theorem dX9_copyFrom_42 : decode cX9_copyFrom 42 = .ok (.invokestatic 49, 3) := by decide +kernel
theorem dX9_copyFrom_45 : decode cX9_copyFrom 45 = .ok (.aload_n 1, 1) := by decide +kernel
theorem dX9_copyFrom_46 : decode cX9_copyFrom 46 = .ok (.getfield 21, 3) := by decide +kernel
theorem dX9_copyFrom_49 : decode cX9_copyFrom 49 = .ok (.iconst 0, 1) := by decide +kernel
theorem dX9_copyFrom_50 : decode cX9_copyFrom 50 = .ok (.aload_n 0, 1) := by decide +kernel
theorem dX9_copyFrom_51 : decode cX9_copyFrom 51 = .ok (.getfield 21, 3) := by decide +kernel
theorem dX9_copyFrom_54 : decode cX9_copyFrom 54 = .ok (.iconst 0, 1) := by decide +kernel
theorem dX9_copyFrom_55 : decode cX9_copyFrom 55 = .ok (.bipush 8, 2) := by decide +kernel
theorem dX9_copyFrom_57 : decode cX9_copyFrom 57 = .ok (.invokestatic 49, 3) := by decide +kernel
theorem dX9_copyFrom_60 : decode cX9_copyFrom 60 = .ok (.aload_n 1, 1) := by decide +kernel
theorem dX9_copyFrom_61 : decode cX9_copyFrom 61 = .ok (.getfield 24, 3) := by decide +kernel
theorem dX9_copyFrom_64 : decode cX9_copyFrom 64 = .ok (.iconst 0, 1) := by decide +kernel
theorem dX9_copyFrom_65 : decode cX9_copyFrom 65 = .ok (.aload_n 0, 1) := by decide +kernel
theorem dX9_copyFrom_66 : decode cX9_copyFrom 66 = .ok (.getfield 24, 3) := by decide +kernel
theorem dX9_copyFrom_69 : decode cX9_copyFrom 69 = .ok (.iconst 0, 1) := by decide +kernel
theorem dX9_copyFrom_70 : decode cX9_copyFrom 70 = .ok (.bipush 8, 2) := by decide +kernel
theorem dX9_copyFrom_72 : decode cX9_copyFrom 72 = .ok (.invokestatic 49, 3) := by decide +kernel
theorem dX9_copyFrom_75 : decode cX9_copyFrom 75 = .ok (.aload_n 1, 1) := by decide +kernel
theorem dX9_copyFrom_76 : decode cX9_copyFrom 76 = .ok (.getfield 27, 3) := by decide +kernel
theorem dX9_copyFrom_79 : decode cX9_copyFrom 79 = .ok (.iconst 0, 1) := by decide +kernel
theorem dX9_copyFrom_80 : decode cX9_copyFrom 80 = .ok (.aload_n 0, 1) := by decide +kernel
theorem dX9_copyFrom_81 : decode cX9_copyFrom 81 = .ok (.getfield 27, 3) := by decide +kernel
theorem dX9_copyFrom_84 : decode cX9_copyFrom 84 = .ok (.iconst 0, 1) := by decide +kernel
theorem dX9_copyFrom_85 : decode cX9_copyFrom 85 = .ok (.bipush 8, 2) := by decide +kernel
theorem dX9_copyFrom_87 : decode cX9_copyFrom 87 = .ok (.invokestatic 49, 3) := by decide +kernel
theorem dX9_copyFrom_90 : decode cX9_copyFrom 90 = .ok (.aload_n 0, 1) := by decide +kernel
theorem dX9_copyFrom_91 : decode cX9_copyFrom 91 = .ok (.aload_n 1, 1) := by decide +kernel
theorem dX9_copyFrom_92 : decode cX9_copyFrom 92 = .ok (.getfield 30, 3) := by decide +kernel
theorem dX9_copyFrom_95 : decode cX9_copyFrom 95 = .ok (.putfield 30, 3) := by decide +kernel
theorem dX9_copyFrom_98 : decode cX9_copyFrom 98 = .ok (.aload_n 0, 1) := by decide +kernel
theorem dX9_copyFrom_99 : decode cX9_copyFrom 99 = .ok (.aload_n 1, 1) := by decide +kernel
theorem dX9_copyFrom_100 : decode cX9_copyFrom 100 = .ok (.getfield 34, 3) := by decide +kernel
theorem dX9_copyFrom_103 : decode cX9_copyFrom 103 = .ok (.putfield 34, 3) := by decide +kernel
theorem dX9_copyFrom_106 : decode cX9_copyFrom 106 = .ok (.aload_n 0, 1) := by decide +kernel
theorem dX9_copyFrom_107 : decode cX9_copyFrom 107 = .ok (.aload_n 1, 1) := by decide +kernel
theorem dX9_copyFrom_108 : decode cX9_copyFrom 108 = .ok (.getfield 37, 3) := by decide +kernel
theorem dX9_copyFrom_111 : decode cX9_copyFrom 111 = .ok (.putfield 37, 3) := by decide +kernel
theorem dX9_copyFrom_114 : decode cX9_copyFrom 114 = .ok (.aload_n 0, 1) := by decide +kernel
theorem dX9_copyFrom_115 : decode cX9_copyFrom 115 = .ok (.aload_n 1, 1) := by decide +kernel
theorem dX9_copyFrom_116 : decode cX9_copyFrom 116 = .ok (.getfield 40, 3) := by decide +kernel
theorem dX9_copyFrom_119 : decode cX9_copyFrom 119 = .ok (.putfield 40, 3) := by decide +kernel
theorem dX9_copyFrom_122 : decode cX9_copyFrom 122 = .ok (.aload_n 0, 1) := by decide +kernel
theorem dX9_copyFrom_123 : decode cX9_copyFrom 123 = .ok (.aload_n 1, 1) := by decide +kernel
theorem dX9_copyFrom_124 : decode cX9_copyFrom 124 = .ok (.getfield 43, 3) := by decide +kernel
theorem dX9_copyFrom_127 : decode cX9_copyFrom 127 = .ok (.putfield 43, 3) := by decide +kernel
theorem dX9_copyFrom_130 : decode cX9_copyFrom 130 = .ok (.aload_n 0, 1) := by decide +kernel
theorem dX9_copyFrom_131 : decode cX9_copyFrom 131 = .ok (.aload_n 1, 1) := by decide +kernel
theorem dX9_copyFrom_132 : decode cX9_copyFrom 132 = .ok (.getfield 46, 3) := by decide +kernel
theorem dX9_copyFrom_135 : decode cX9_copyFrom 135 = .ok (.putfield 46, 3) := by decide +kernel
theorem dX9_copyFrom_138 : decode cX9_copyFrom 138 = .ok (.return_, 1) := by decide +kernel
theorem dX9_working_0 : decode cX9_working 0 = .ok (.iconst 0, 1) := by decide +kernel
theorem dX9_working_1 : decode cX9_working 1 = .ok (.istore_n 2, 1) := by decide +kernel
theorem dX9_working_2 : decode cX9_working 2 = .ok (.iconst 0, 1) := by decide +kernel
theorem dX9_working_3 : decode cX9_working 3 = .ok (.istore_n 3, 1) := by decide +kernel
theorem dX9_working_4 : decode cX9_working 4 = .ok (.iload_n 3, 1) := by decide +kernel
theorem dX9_working_5 : decode cX9_working 5 = .ok (.aload_n 1, 1) := by decide +kernel
theorem dX9_working_6 : decode cX9_working 6 = .ok (.getfield 75, 3) := by decide +kernel
theorem dX9_working_9 : decode cX9_working 9 = .ok (.if_icmp .ge 87, 3) := by decide +kernel
theorem dX9_working_12 : decode cX9_working 12 = .ok (.aload_n 0, 1) := by decide +kernel
theorem dX9_working_13 : decode cX9_working 13 = .ok (.getfield 9, 3) := by decide +kernel
theorem dX9_working_16 : decode cX9_working 16 = .ok (.iload_n 3, 1) := by decide +kernel
theorem dX9_working_17 : decode cX9_working 17 = .ok (.iaload, 1) := by decide +kernel
theorem dX9_working_18 : decode cX9_working 18 = .ok (.iconst 2, 1) := by decide +kernel
theorem dX9_working_19 : decode cX9_working 19 = .ok (.if_icmp .ne 33, 3) := by decide +kernel
theorem dX9_working_22 : decode cX9_working 22 = .ok (.aload_n 0, 1) := by decide +kernel
theorem dX9_working_23 : decode cX9_working 23 = .ok (.getfield 30, 3) := by decide +kernel
theorem dX9_working_26 : decode cX9_working 26 = .ok (.iload_n 3, 1) := by decide +kernel
theorem dX9_working_27 : decode cX9_working 27 = .ok (.invokestatic 63, 3) := by decide +kernel
theorem dX9_working_30 : decode cX9_working 30 = .ok (.iconst 1, 1) := by decide +kernel
theorem dX9_working_31 : decode cX9_working 31 = .ok (.if_icmp .ne 21, 3) := by decide +kernel
theorem dX9_working_34 : decode cX9_working 34 = .ok (.aload_n 0, 1) := by decide +kernel
theorem dX9_working_35 : decode cX9_working 35 = .ok (.getfield 34, 3) := by decide +kernel
theorem dX9_working_38 : decode cX9_working 38 = .ok (.aload_n 1, 1) := by decide +kernel
theorem dX9_working_39 : decode cX9_working 39 = .ok (.getfield 60, 3) := by decide +kernel
theorem dX9_working_42 : decode cX9_working 42 = .ok (.iload_n 3, 1) := by decide +kernel
theorem dX9_working_43 : decode cX9_working 43 = .ok (.iaload, 1) := by decide +kernel
theorem dX9_working_44 : decode cX9_working 44 = .ok (.iand, 1) := by decide +kernel
theorem dX9_working_45 : decode cX9_working 45 = .ok (.ifCond .ne 7, 3) := by decide +kernel
theorem dX9_working_48 : decode cX9_working 48 = .ok (.iconst 1, 1) := by decide +kernel
theorem dX9_working_49 : decode cX9_working 49 = .ok (.goto 4, 3) := by decide +kernel
theorem dX9_working_52 : decode cX9_working 52 = .ok (.iconst 0, 1) := by decide +kernel
theorem dX9_working_53 : decode cX9_working 53 = .ok (.istore 4, 2) := by decide +kernel
theorem dX9_working_55 : decode cX9_working 55 = .ok (.iload 4, 2) := by decide +kernel
theorem dX9_working_57 : decode cX9_working 57 = .ok (.ifCond .eq 33, 3) := by decide +kernel
theorem dX9_working_60 : decode cX9_working 60 = .ok (.aload_n 1, 1) := by decide +kernel
theorem dX9_working_61 : decode cX9_working 61 = .ok (.getfield 78, 3) := by decide +kernel
theorem dX9_working_64 : decode cX9_working 64 = .ok (.iload_n 3, 1) := by decide +kernel
theorem dX9_working_65 : decode cX9_working 65 = .ok (.iaload, 1) := by decide +kernel
theorem dX9_working_66 : decode cX9_working 66 = .ok (.iconst (-1), 1) := by decide +kernel
theorem dX9_working_67 : decode cX9_working 67 = .ok (.if_icmp .eq 17, 3) := by decide +kernel
theorem dX9_working_70 : decode cX9_working 70 = .ok (.iload_n 2, 1) := by decide +kernel
theorem dX9_working_71 : decode cX9_working 71 = .ok (.aload_n 1, 1) := by decide +kernel
theorem dX9_working_72 : decode cX9_working 72 = .ok (.getfield 78, 3) := by decide +kernel
theorem dX9_working_75 : decode cX9_working 75 = .ok (.iload_n 3, 1) := by decide +kernel
theorem dX9_working_76 : decode cX9_working 76 = .ok (.iaload, 1) := by decide +kernel
theorem dX9_working_77 : decode cX9_working 77 = .ok (.invokestatic 63, 3) := by decide +kernel
theorem dX9_working_80 : decode cX9_working 80 = .ok (.iconst 1, 1) := by decide +kernel
theorem dX9_working_81 : decode cX9_working 81 = .ok (.if_icmp .ne 9, 3) := by decide +kernel
theorem dX9_working_84 : decode cX9_working 84 = .ok (.iload_n 2, 1) := by decide +kernel
theorem dX9_working_85 : decode cX9_working 85 = .ok (.iconst 1, 1) := by decide +kernel
theorem dX9_working_86 : decode cX9_working 86 = .ok (.iload_n 3, 1) := by decide +kernel
theorem dX9_working_87 : decode cX9_working 87 = .ok (.ishl, 1) := by decide +kernel
theorem dX9_working_88 : decode cX9_working 88 = .ok (.ior, 1) := by decide +kernel
theorem dX9_working_89 : decode cX9_working 89 = .ok (.istore_n 2, 1) := by decide +kernel
theorem dX9_working_90 : decode cX9_working 90 = .ok (.iinc 3 1, 3) := by decide +kernel
theorem dX9_working_93 : decode cX9_working 93 = .ok (.goto (-89), 3) := by decide +kernel
theorem dX9_working_96 : decode cX9_working 96 = .ok (.iload_n 2, 1) := by decide +kernel
theorem dX9_working_97 : decode cX9_working 97 = .ok (.ireturn, 1) := by decide +kernel
theorem dX9_thingsIn_0 : decode cX9_thingsIn 0 = .ok (.iconst 0, 1) := by decide +kernel
theorem dX9_thingsIn_1 : decode cX9_thingsIn 1 = .ok (.istore_n 3, 1) := by decide +kernel
theorem dX9_thingsIn_2 : decode cX9_thingsIn 2 = .ok (.iconst 0, 1) := by decide +kernel
theorem dX9_thingsIn_3 : decode cX9_thingsIn 3 = .ok (.istore 4, 2) := by decide +kernel
theorem dX9_thingsIn_5 : decode cX9_thingsIn 5 = .ok (.iload 4, 2) := by decide +kernel
theorem dX9_thingsIn_7 : decode cX9_thingsIn 7 = .ok (.aload_n 1, 1) := by decide +kernel
theorem dX9_thingsIn_8 : decode cX9_thingsIn 8 = .ok (.getfield 75, 3) := by decide +kernel
theorem dX9_thingsIn_11 : decode cX9_thingsIn 11 = .ok (.if_icmp .ge 27, 3) := by decide +kernel
theorem dX9_thingsIn_14 : decode cX9_thingsIn 14 = .ok (.aload_n 0, 1) := by decide +kernel
theorem dX9_thingsIn_15 : decode cX9_thingsIn 15 = .ok (.getfield 9, 3) := by decide +kernel
theorem dX9_thingsIn_18 : decode cX9_thingsIn 18 = .ok (.iload 4, 2) := by decide +kernel
theorem dX9_thingsIn_20 : decode cX9_thingsIn 20 = .ok (.iaload, 1) := by decide +kernel
theorem dX9_thingsIn_21 : decode cX9_thingsIn 21 = .ok (.iload_n 2, 1) := by decide +kernel
theorem dX9_thingsIn_22 : decode cX9_thingsIn 22 = .ok (.if_icmp .ne 10, 3) := by decide +kernel
theorem dX9_thingsIn_25 : decode cX9_thingsIn 25 = .ok (.iload_n 3, 1) := by decide +kernel
theorem dX9_thingsIn_26 : decode cX9_thingsIn 26 = .ok (.iconst 1, 1) := by decide +kernel
theorem dX9_thingsIn_27 : decode cX9_thingsIn 27 = .ok (.iload 4, 2) := by decide +kernel
theorem dX9_thingsIn_29 : decode cX9_thingsIn 29 = .ok (.ishl, 1) := by decide +kernel
theorem dX9_thingsIn_30 : decode cX9_thingsIn 30 = .ok (.ior, 1) := by decide +kernel
theorem dX9_thingsIn_31 : decode cX9_thingsIn 31 = .ok (.istore_n 3, 1) := by decide +kernel
theorem dX9_thingsIn_32 : decode cX9_thingsIn 32 = .ok (.iinc 4 1, 3) := by decide +kernel
theorem dX9_thingsIn_35 : decode cX9_thingsIn 35 = .ok (.goto (-30), 3) := by decide +kernel
theorem dX9_thingsIn_38 : decode cX9_thingsIn 38 = .ok (.iload_n 3, 1) := by decide +kernel
theorem dX9_thingsIn_39 : decode cX9_thingsIn 39 = .ok (.ireturn, 1) := by decide +kernel
theorem dX9_passMinutes_0 : decode cX9_passMinutes 0 = .ok (.iconst 0, 1) := by decide +kernel
theorem dX9_passMinutes_1 : decode cX9_passMinutes 1 = .ok (.istore_n 3, 1) := by decide +kernel
theorem dX9_passMinutes_2 : decode cX9_passMinutes 2 = .ok (.iload_n 3, 1) := by decide +kernel
theorem dX9_passMinutes_3 : decode cX9_passMinutes 3 = .ok (.iload_n 2, 1) := by decide +kernel
theorem dX9_passMinutes_4 : decode cX9_passMinutes 4 = .ok (.if_icmp .ge 24, 3) := by decide +kernel
theorem dX9_passMinutes_7 : decode cX9_passMinutes 7 = .ok (.aload_n 0, 1) := by decide +kernel
theorem dX9_passMinutes_8 : decode cX9_passMinutes 8 = .ok (.getfield 37, 3) := by decide +kernel
theorem dX9_passMinutes_11 : decode cX9_passMinutes 11 = .ok (.sipush 1000, 3) := by decide +kernel
theorem dX9_passMinutes_14 : decode cX9_passMinutes 14 = .ok (.if_icmp .ge 14, 3) := by decide +kernel
theorem dX9_passMinutes_17 : decode cX9_passMinutes 17 = .ok (.aload_n 0, 1) := by decide +kernel
theorem dX9_passMinutes_18 : decode cX9_passMinutes 18 = .ok (.aload_n 1, 1) := by decide +kernel
theorem dX9_passMinutes_19 : decode cX9_passMinutes 19 = .ok (.invokevirtual 116, 3) := by decide +kernel
theorem dX9_passMinutes_22 : decode cX9_passMinutes 22 = .ok (.iinc 3 1, 3) := by decide +kernel
theorem dX9_passMinutes_25 : decode cX9_passMinutes 25 = .ok (.goto (-23), 3) := by decide +kernel
theorem dX9_passMinutes_28 : decode cX9_passMinutes 28 = .ok (.iload_n 3, 1) := by decide +kernel
theorem dX9_passMinutes_29 : decode cX9_passMinutes 29 = .ok (.ireturn, 1) := by decide +kernel
theorem dX9_passMinute_0 : decode cX9_passMinute 0 = .ok (.iconst 0, 1) := by decide +kernel
theorem dX9_passMinute_1 : decode cX9_passMinute 1 = .ok (.istore_n 2, 1) := by decide +kernel
theorem dX9_passMinute_2 : decode cX9_passMinute 2 = .ok (.iload_n 2, 1) := by decide +kernel
theorem dX9_passMinute_3 : decode cX9_passMinute 3 = .ok (.aload_n 1, 1) := by decide +kernel
theorem dX9_passMinute_4 : decode cX9_passMinute 4 = .ok (.getfield 75, 3) := by decide +kernel
theorem dX9_passMinute_7 : decode cX9_passMinute 7 = .ok (.if_icmp .ge 76, 3) := by decide +kernel
theorem dX9_passMinute_10 : decode cX9_passMinute 10 = .ok (.aload_n 0, 1) := by decide +kernel
theorem dX9_passMinute_11 : decode cX9_passMinute 11 = .ok (.getfield 9, 3) := by decide +kernel
theorem dX9_passMinute_14 : decode cX9_passMinute 14 = .ok (.iload_n 2, 1) := by decide +kernel
theorem dX9_passMinute_15 : decode cX9_passMinute 15 = .ok (.iaload, 1) := by decide +kernel
theorem dX9_passMinute_16 : decode cX9_passMinute 16 = .ok (.ifCond .ne 26, 3) := by decide +kernel
theorem dX9_passMinute_19 : decode cX9_passMinute 19 = .ok (.aload_n 0, 1) := by decide +kernel
theorem dX9_passMinute_20 : decode cX9_passMinute 20 = .ok (.getfield 15, 3) := by decide +kernel
theorem dX9_passMinute_23 : decode cX9_passMinute 23 = .ok (.iload_n 2, 1) := by decide +kernel
theorem dX9_passMinute_24 : decode cX9_passMinute 24 = .ok (.dup2, 1) := by decide +kernel
theorem dX9_passMinute_25 : decode cX9_passMinute 25 = .ok (.iaload, 1) := by decide +kernel
theorem dX9_passMinute_26 : decode cX9_passMinute 26 = .ok (.iconst 1, 1) := by decide +kernel
theorem dX9_passMinute_27 : decode cX9_passMinute 27 = .ok (.iadd, 1) := by decide +kernel
theorem dX9_passMinute_28 : decode cX9_passMinute 28 = .ok (.iastore, 1) := by decide +kernel
theorem dX9_passMinute_29 : decode cX9_passMinute 29 = .ok (.aload_n 0, 1) := by decide +kernel
theorem dX9_passMinute_30 : decode cX9_passMinute 30 = .ok (.getfield 18, 3) := by decide +kernel
theorem dX9_passMinute_33 : decode cX9_passMinute 33 = .ok (.iload_n 2, 1) := by decide +kernel
theorem dX9_passMinute_34 : decode cX9_passMinute 34 = .ok (.dup2, 1) := by decide +kernel
theorem dX9_passMinute_35 : decode cX9_passMinute 35 = .ok (.iaload, 1) := by decide +kernel
theorem dX9_passMinute_36 : decode cX9_passMinute 36 = .ok (.iconst 1, 1) := by decide +kernel
theorem dX9_passMinute_37 : decode cX9_passMinute 37 = .ok (.iadd, 1) := by decide +kernel
theorem dX9_passMinute_38 : decode cX9_passMinute 38 = .ok (.iastore, 1) := by decide +kernel
theorem dX9_passMinute_39 : decode cX9_passMinute 39 = .ok (.goto 38, 3) := by decide +kernel
theorem dX9_passMinute_42 : decode cX9_passMinute 42 = .ok (.aload_n 0, 1) := by decide +kernel
theorem dX9_passMinute_43 : decode cX9_passMinute 43 = .ok (.getfield 9, 3) := by decide +kernel
theorem dX9_passMinute_46 : decode cX9_passMinute 46 = .ok (.iload_n 2, 1) := by decide +kernel
theorem dX9_passMinute_47 : decode cX9_passMinute 47 = .ok (.iaload, 1) := by decide +kernel
theorem dX9_passMinute_48 : decode cX9_passMinute 48 = .ok (.iconst 1, 1) := by decide +kernel
theorem dX9_passMinute_49 : decode cX9_passMinute 49 = .ok (.if_icmp .ne 28, 3) := by decide +kernel
theorem dX9_passMinute_52 : decode cX9_passMinute 52 = .ok (.aload_n 0, 1) := by decide +kernel
theorem dX9_passMinute_53 : decode cX9_passMinute 53 = .ok (.getfield 15, 3) := by decide +kernel
theorem dX9_passMinute_56 : decode cX9_passMinute 56 = .ok (.iload_n 2, 1) := by decide +kernel
theorem dX9_passMinute_57 : decode cX9_passMinute 57 = .ok (.dup2, 1) := by decide +kernel
theorem dX9_passMinute_58 : decode cX9_passMinute 58 = .ok (.iaload, 1) := by decide +kernel
theorem dX9_passMinute_59 : decode cX9_passMinute 59 = .ok (.iconst 1, 1) := by decide +kernel
theorem dX9_passMinute_60 : decode cX9_passMinute 60 = .ok (.isub, 1) := by decide +kernel
theorem dX9_passMinute_61 : decode cX9_passMinute 61 = .ok (.iastore, 1) := by decide +kernel
theorem dX9_passMinute_62 : decode cX9_passMinute 62 = .ok (.aload_n 0, 1) := by decide +kernel
theorem dX9_passMinute_63 : decode cX9_passMinute 63 = .ok (.getfield 15, 3) := by decide +kernel
