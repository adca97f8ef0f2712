theorem dX12_holds_202 : decode cX12_holds 202 = .ok (.getfield 13, 3) := by decide +kernel
theorem dX12_holds_205 : decode cX12_holds 205 = .ok (.bipush 81, 2) := by decide +kernel
theorem dX12_holds_207 : decode cX12_holds 207 = .ok (.iload_n 2, 1) := by decide +kernel
theorem dX12_holds_208 : decode cX12_holds 208 = .ok (.iadd, 1) := by decide +kernel
theorem dX12_holds_209 : decode cX12_holds 209 = .ok (.iaload, 1) := by decide +kernel
theorem dX12_holds_210 : decode cX12_holds 210 = .ok (.iconst 1, 1) := by decide +kernel
theorem dX12_holds_211 : decode cX12_holds 211 = .ok (.if_icmp .ne 7, 3) := by decide +kernel
theorem dX12_holds_214 : decode cX12_holds 214 = .ok (.iconst 1, 1) := by decide +kernel
theorem dX12_holds_215 : decode cX12_holds 215 = .ok (.goto 4, 3) := by decide +kernel
theorem dX12_holds_218 : decode cX12_holds 218 = .ok (.iconst 0, 1) := by decide +kernel
theorem dX12_holds_219 : decode cX12_holds 219 = .ok (.ireturn, 1) := by decide +kernel
theorem dX12_holds_220 : decode cX12_holds 220 = .ok (.aload_n 0, 1) := by decide +kernel
theorem dX12_holds_221 : decode cX12_holds 221 = .ok (.iload 4, 2) := by decide +kernel
theorem dX12_holds_223 : decode cX12_holds 223 = .ok (.invokevirtual 209, 3) := by decide +kernel
theorem dX12_holds_226 : decode cX12_holds 226 = .ok (.ifCond .eq 21, 3) := by decide +kernel
theorem dX12_holds_229 : decode cX12_holds 229 = .ok (.aload_n 0, 1) := by decide +kernel
theorem dX12_holds_230 : decode cX12_holds 230 = .ok (.getfield 13, 3) := by decide +kernel
theorem dX12_holds_233 : decode cX12_holds 233 = .ok (.bipush 21, 2) := by decide +kernel
theorem dX12_holds_235 : decode cX12_holds 235 = .ok (.iload 4, 2) := by decide +kernel
theorem dX12_holds_237 : decode cX12_holds 237 = .ok (.iadd, 1) := by decide +kernel
theorem dX12_holds_238 : decode cX12_holds 238 = .ok (.iaload, 1) := by decide +kernel
theorem dX12_holds_239 : decode cX12_holds 239 = .ok (.iload_n 2, 1) := by decide +kernel
theorem dX12_holds_240 : decode cX12_holds 240 = .ok (.if_icmp .ne 7, 3) := by decide +kernel
theorem dX12_holds_243 : decode cX12_holds 243 = .ok (.iconst 1, 1) := by decide +kernel
theorem dX12_holds_244 : decode cX12_holds 244 = .ok (.goto 4, 3) := by decide +kernel
theorem dX12_holds_247 : decode cX12_holds 247 = .ok (.iconst 0, 1) := by decide +kernel
theorem dX12_holds_248 : decode cX12_holds 248 = .ok (.ireturn, 1) := by decide +kernel
theorem dX12_holds_249 : decode cX12_holds 249 = .ok (.aload_n 0, 1) := by decide +kernel
theorem dX12_holds_250 : decode cX12_holds 250 = .ok (.iload_n 2, 1) := by decide +kernel
theorem dX12_holds_251 : decode cX12_holds 251 = .ok (.iload 4, 2) := by decide +kernel
theorem dX12_holds_253 : decode cX12_holds 253 = .ok (.invokevirtual 245, 3) := by decide +kernel
theorem dX12_holds_256 : decode cX12_holds 256 = .ok (.ireturn, 1) := by decide +kernel
theorem dX12_holds_257 : decode cX12_holds 257 = .ok (.aload_n 0, 1) := by decide +kernel
theorem dX12_holds_258 : decode cX12_holds 258 = .ok (.getfield 13, 3) := by decide +kernel
theorem dX12_holds_261 : decode cX12_holds 261 = .ok (.iload_n 3, 1) := by decide +kernel
theorem dX12_holds_262 : decode cX12_holds 262 = .ok (.iaload, 1) := by decide +kernel
theorem dX12_holds_263 : decode cX12_holds 263 = .ok (.bipush 50, 2) := by decide +kernel
theorem dX12_holds_265 : decode cX12_holds 265 = .ok (.isub, 1) := by decide +kernel
theorem dX12_holds_266 : decode cX12_holds 266 = .ok (.istore 6, 2) := by decide +kernel
theorem dX12_holds_268 : decode cX12_holds 268 = .ok (.iload 6, 2) := by decide +kernel
theorem dX12_holds_270 : decode cX12_holds 270 = .ok (.bipush 17, 2) := by decide +kernel
theorem dX12_holds_272 : decode cX12_holds 272 = .ok (.if_icmp .ne 11, 3) := by decide +kernel
theorem dX12_holds_275 : decode cX12_holds 275 = .ok (.aload_n 0, 1) := by decide +kernel
theorem dX12_holds_276 : decode cX12_holds 276 = .ok (.iload_n 2, 1) := by decide +kernel
theorem dX12_holds_277 : decode cX12_holds 277 = .ok (.invokevirtual 227, 3) := by decide +kernel
theorem dX12_holds_280 : decode cX12_holds 280 = .ok (.goto 23, 3) := by decide +kernel
theorem dX12_holds_283 : decode cX12_holds 283 = .ok (.iload 6, 2) := by decide +kernel
theorem dX12_holds_285 : decode cX12_holds 285 = .ok (.bipush 18, 2) := by decide +kernel
theorem dX12_holds_287 : decode cX12_holds 287 = .ok (.if_icmp .ne 15, 3) := by decide +kernel
theorem dX12_holds_290 : decode cX12_holds 290 = .ok (.aload_n 0, 1) := by decide +kernel
theorem dX12_holds_291 : decode cX12_holds 291 = .ok (.getfield 13, 3) := by decide +kernel
theorem dX12_holds_294 : decode cX12_holds 294 = .ok (.bipush 99, 2) := by decide +kernel
theorem dX12_holds_296 : decode cX12_holds 296 = .ok (.iload_n 2, 1) := by decide +kernel
theorem dX12_holds_297 : decode cX12_holds 297 = .ok (.iadd, 1) := by decide +kernel
theorem dX12_holds_298 : decode cX12_holds 298 = .ok (.iaload, 1) := by decide +kernel
theorem dX12_holds_299 : decode cX12_holds 299 = .ok (.goto 4, 3) := by decide +kernel
theorem dX12_holds_302 : decode cX12_holds 302 = .ok (.iload_n 2, 1) := by decide +kernel
theorem dX12_holds_303 : decode cX12_holds 303 = .ok (.istore 7, 2) := by decide +kernel
theorem dX12_holds_305 : decode cX12_holds 305 = .ok (.aload_n 0, 1) := by decide +kernel
theorem dX12_holds_306 : decode cX12_holds 306 = .ok (.getfield 13, 3) := by decide +kernel
theorem dX12_holds_309 : decode cX12_holds 309 = .ok (.iload_n 3, 1) := by decide +kernel
theorem dX12_holds_310 : decode cX12_holds 310 = .ok (.iconst 3, 1) := by decide +kernel
theorem dX12_holds_311 : decode cX12_holds 311 = .ok (.iadd, 1) := by decide +kernel
theorem dX12_holds_312 : decode cX12_holds 312 = .ok (.iaload, 1) := by decide +kernel
theorem dX12_holds_313 : decode cX12_holds 313 = .ok (.bipush 60, 2) := by decide +kernel
theorem dX12_holds_315 : decode cX12_holds 315 = .ok (.if_icmp .ne 18, 3) := by decide +kernel
theorem dX12_holds_318 : decode cX12_holds 318 = .ok (.iload 7, 2) := by decide +kernel
theorem dX12_holds_320 : decode cX12_holds 320 = .ok (.iload 5, 2) := by decide +kernel
theorem dX12_holds_322 : decode cX12_holds 322 = .ok (.if_icmp .ge 7, 3) := by decide +kernel
theorem dX12_holds_325 : decode cX12_holds 325 = .ok (.iconst 1, 1) := by decide +kernel
theorem dX12_holds_326 : decode cX12_holds 326 = .ok (.goto 47, 3) := by decide +kernel
theorem dX12_holds_329 : decode cX12_holds 329 = .ok (.iconst 0, 1) := by decide +kernel
theorem dX12_holds_330 : decode cX12_holds 330 = .ok (.goto 43, 3) := by decide +kernel
theorem dX12_holds_333 : decode cX12_holds 333 = .ok (.aload_n 0, 1) := by decide +kernel
theorem dX12_holds_334 : decode cX12_holds 334 = .ok (.getfield 13, 3) := by decide +kernel
theorem dX12_holds_337 : decode cX12_holds 337 = .ok (.iload_n 3, 1) := by decide +kernel
theorem dX12_holds_338 : decode cX12_holds 338 = .ok (.iconst 3, 1) := by decide +kernel
theorem dX12_holds_339 : decode cX12_holds 339 = .ok (.iadd, 1) := by decide +kernel
theorem dX12_holds_340 : decode cX12_holds 340 = .ok (.iaload, 1) := by decide +kernel
theorem dX12_holds_341 : decode cX12_holds 341 = .ok (.bipush 61, 2) := by decide +kernel
theorem dX12_holds_343 : decode cX12_holds 343 = .ok (.if_icmp .ne 18, 3) := by decide +kernel
theorem dX12_holds_346 : decode cX12_holds 346 = .ok (.iload 7, 2) := by decide +kernel
theorem dX12_holds_348 : decode cX12_holds 348 = .ok (.iload 5, 2) := by decide +kernel
theorem dX12_holds_350 : decode cX12_holds 350 = .ok (.if_icmp .ne 7, 3) := by decide +kernel
theorem dX12_holds_353 : decode cX12_holds 353 = .ok (.iconst 1, 1) := by decide +kernel
theorem dX12_holds_354 : decode cX12_holds 354 = .ok (.goto 19, 3) := by decide +kernel
theorem dX12_holds_357 : decode cX12_holds 357 = .ok (.iconst 0, 1) := by decide +kernel
theorem dX12_holds_358 : decode cX12_holds 358 = .ok (.goto 15, 3) := by decide +kernel
theorem dX12_holds_361 : decode cX12_holds 361 = .ok (.iload 7, 2) := by decide +kernel
theorem dX12_holds_363 : decode cX12_holds 363 = .ok (.iload 5, 2) := by decide +kernel
theorem dX12_holds_365 : decode cX12_holds 365 = .ok (.if_icmp .le 7, 3) := by decide +kernel
theorem dX12_holds_368 : decode cX12_holds 368 = .ok (.iconst 1, 1) := by decide +kernel
theorem dX12_holds_369 : decode cX12_holds 369 = .ok (.goto 4, 3) := by decide +kernel
theorem dX12_holds_372 : decode cX12_holds 372 = .ok (.iconst 0, 1) := by decide +kernel
theorem dX12_holds_373 : decode cX12_holds 373 = .ok (.ireturn, 1) := by decide +kernel
theorem dX12_said_0 : decode cX12_said 0 = .ok (.aload_n 0, 1) := by decide +kernel
theorem dX12_said_1 : decode cX12_said 1 = .ok (.iconst 0, 1) := by decide +kernel
theorem dX12_said_2 : decode cX12_said 2 = .ok (.putfield 73, 3) := by decide +kernel
theorem dX12_said_5 : decode cX12_said 5 = .ok (.aload_n 0, 1) := by decide +kernel
theorem dX12_said_6 : decode cX12_said 6 = .ok (.getfield 13, 3) := by decide +kernel
theorem dX12_said_9 : decode cX12_said 9 = .ok (.sipush 137, 3) := by decide +kernel
theorem dX12_said_12 : decode cX12_said 12 = .ok (.iaload, 1) := by decide +kernel
theorem dX12_said_13 : decode cX12_said 13 = .ok (.ifCond .ne 5, 3) := by decide +kernel
theorem dX12_said_16 : decode cX12_said 16 = .ok (.iconst (-1), 1) := by decide +kernel
theorem dX12_said_17 : decode cX12_said 17 = .ok (.ireturn, 1) := by decide +kernel
theorem dX12_said_18 : decode cX12_said 18 = .ok (.iconst 0, 1) := by decide +kernel
theorem dX12_said_19 : decode cX12_said 19 = .ok (.istore_n 2, 1) := by decide +kernel
theorem dX12_said_20 : decode cX12_said 20 = .ok (.iconst 0, 1) := by decide +kernel
theorem dX12_said_21 : decode cX12_said 21 = .ok (.istore_n 3, 1) := by decide +kernel
theorem dX12_said_22 : decode cX12_said 22 = .ok (.iload_n 3, 1) := by decide +kernel
theorem dX12_said_23 : decode cX12_said 23 = .ok (.aload_n 0, 1) := by decide +kernel
theorem dX12_said_24 : decode cX12_said 24 = .ok (.getfield 13, 3) := by decide +kernel
theorem dX12_said_27 : decode cX12_said 27 = .ok (.iconst 0, 1) := by decide +kernel
theorem dX12_said_28 : decode cX12_said 28 = .ok (.iaload, 1) := by decide +kernel
theorem dX12_said_29 : decode cX12_said 29 = .ok (.if_icmp .ge 38, 3) := by decide +kernel
theorem dX12_said_32 : decode cX12_said 32 = .ok (.aload_n 0, 1) := by decide +kernel
theorem dX12_said_33 : decode cX12_said 33 = .ok (.aload_n 0, 1) := by decide +kernel
theorem dX12_said_34 : decode cX12_said 34 = .ok (.getfield 13, 3) := by decide +kernel
theorem dX12_said_37 : decode cX12_said 37 = .ok (.sipush 138, 3) := by decide +kernel
theorem dX12_said_40 : decode cX12_said 40 = .ok (.iaload, 1) := by decide +kernel
theorem dX12_said_41 : decode cX12_said 41 = .ok (.iload_n 3, 1) := by decide +kernel
theorem dX12_said_42 : decode cX12_said 42 = .ok (.invokevirtual 417, 3) := by decide +kernel
theorem dX12_said_45 : decode cX12_said 45 = .ok (.ifCond .ne 6, 3) := by decide +kernel
theorem dX12_said_48 : decode cX12_said 48 = .ok (.goto 13, 3) := by decide +kernel
theorem dX12_said_51 : decode cX12_said 51 = .ok (.iload_n 2, 1) := by decide +kernel
theorem dX12_said_52 : decode cX12_said 52 = .ok (.iload_n 1, 1) := by decide +kernel
theorem dX12_said_53 : decode cX12_said 53 = .ok (.if_icmp .ne 5, 3) := by decide +kernel
theorem dX12_said_56 : decode cX12_said 56 = .ok (.iload_n 3, 1) := by decide +kernel
theorem dX12_said_57 : decode cX12_said 57 = .ok (.ireturn, 1) := by decide +kernel
theorem dX12_said_58 : decode cX12_said 58 = .ok (.iinc 2 1, 3) := by decide +kernel
theorem dX12_said_61 : decode cX12_said 61 = .ok (.iinc 3 1, 3) := by decide +kernel
theorem dX12_said_64 : decode cX12_said 64 = .ok (.goto (-42), 3) := by decide +kernel
theorem dX12_said_67 : decode cX12_said 67 = .ok (.iload_n 1, 1) := by decide +kernel
theorem dX12_said_68 : decode cX12_said 68 = .ok (.iconst (-1), 1) := by decide +kernel
theorem dX12_said_69 : decode cX12_said 69 = .ok (.if_icmp .ne 7, 3) := by decide +kernel
theorem dX12_said_72 : decode cX12_said 72 = .ok (.iload_n 2, 1) := by decide +kernel
theorem dX12_said_73 : decode cX12_said 73 = .ok (.goto 4, 3) := by decide +kernel
theorem dX12_said_76 : decode cX12_said 76 = .ok (.iconst (-1), 1) := by decide +kernel
theorem dX12_said_77 : decode cX12_said 77 = .ok (.ireturn, 1) := by decide +kernel
theorem dX12_image_0 : decode cX12_image 0 = .ok (.aload_n 0, 1) := by decide +kernel
theorem dX12_image_1 : decode cX12_image 1 = .ok (.iconst 0, 1) := by decide +kernel
theorem dX12_image_2 : decode cX12_image 2 = .ok (.putfield 73, 3) := by decide +kernel
theorem dX12_image_5 : decode cX12_image 5 = .ok (.iload_n 1, 1) := by decide +kernel
theorem dX12_image_6 : decode cX12_image 6 = .ok (.iconst 0, 1) := by decide +kernel
theorem dX12_image_7 : decode cX12_image 7 = .ok (.iconst 1, 1) := by decide +kernel
theorem dX12_image_8 : decode cX12_image 8 = .ok (.invokestatic 140, 3) := by decide +kernel
theorem dX12_image_11 : decode cX12_image 11 = .ok (.ifCond .ne 5, 3) := by decide +kernel
theorem dX12_image_14 : decode cX12_image 14 = .ok (.iconst 0, 1) := by decide +kernel
theorem dX12_image_15 : decode cX12_image 15 = .ok (.ireturn, 1) := by decide +kernel
theorem dX12_image_16 : decode cX12_image 16 = .ok (.iconst 0, 1) := by decide +kernel
theorem dX12_image_17 : decode cX12_image 17 = .ok (.istore_n 2, 1) := by decide +kernel
theorem dX12_image_18 : decode cX12_image 18 = .ok (.iload_n 2, 1) := by decide +kernel
theorem dX12_image_19 : decode cX12_image 19 = .ok (.sipush 379, 3) := by decide +kernel
theorem dX12_image_22 : decode cX12_image 22 = .ok (.if_icmp .ge 27, 3) := by decide +kernel
theorem dX12_image_25 : decode cX12_image 25 = .ok (.aload_n 0, 1) := by decide +kernel
theorem dX12_image_26 : decode cX12_image 26 = .ok (.getfield 19, 3) := by decide +kernel
theorem dX12_image_29 : decode cX12_image 29 = .ok (.sipush 379, 3) := by decide +kernel
theorem dX12_image_32 : decode cX12_image 32 = .ok (.iload_n 1, 1) := by decide +kernel
theorem dX12_image_33 : decode cX12_image 33 = .ok (.imul, 1) := by decide +kernel
theorem dX12_image_34 : decode cX12_image 34 = .ok (.iload_n 2, 1) := by decide +kernel
theorem dX12_image_35 : decode cX12_image 35 = .ok (.iadd, 1) := by decide +kernel
theorem dX12_image_36 : decode cX12_image 36 = .ok (.aload_n 0, 1) := by decide +kernel
theorem dX12_image_37 : decode cX12_image 37 = .ok (.getfield 13, 3) := by decide +kernel
theorem dX12_image_40 : decode cX12_image 40 = .ok (.iload_n 2, 1) := by decide +kernel
theorem dX12_image_41 : decode cX12_image 41 = .ok (.iaload, 1) := by decide +kernel
theorem dX12_image_42 : decode cX12_image 42 = .ok (.iastore, 1) := by decide +kernel
theorem dX12_image_43 : decode cX12_image 43 = .ok (.iinc 2 1, 3) := by decide +kernel
theorem dX12_image_46 : decode cX12_image 46 = .ok (.goto (-28), 3) := by decide +kernel
theorem dX12_image_49 : decode cX12_image 49 = .ok (.iconst 0, 1) := by decide +kernel
theorem dX12_image_50 : decode cX12_image 50 = .ok (.istore_n 2, 1) := by decide +kernel
theorem dX12_image_51 : decode cX12_image 51 = .ok (.iload_n 2, 1) := by decide +kernel
theorem dX12_image_52 : decode cX12_image 52 = .ok (.bipush 14, 2) := by decide +kernel
theorem dX12_image_54 : decode cX12_image 54 = .ok (.if_icmp .ge 26, 3) := by decide +kernel
theorem dX12_image_57 : decode cX12_image 57 = .ok (.aload_n 0, 1) := by decide +kernel
theorem dX12_image_58 : decode cX12_image 58 = .ok (.getfield 35, 3) := by decide +kernel
theorem dX12_image_61 : decode cX12_image 61 = .ok (.bipush 14, 2) := by decide +kernel
theorem dX12_image_63 : decode cX12_image 63 = .ok (.iload_n 1, 1) := by decide +kernel
theorem dX12_image_64 : decode cX12_image 64 = .ok (.imul, 1) := by decide +kernel
theorem dX12_image_65 : decode cX12_image 65 = .ok (.iload_n 2, 1) := by decide +kernel
theorem dX12_image_66 : decode cX12_image 66 = .ok (.iadd, 1) := by decide +kernel
theorem dX12_image_67 : decode cX12_image 67 = .ok (.aload_n 0, 1) := by decide +kernel
theorem dX12_image_68 : decode cX12_image 68 = .ok (.getfield 28, 3) := by decide +kernel
theorem dX12_image_71 : decode cX12_image 71 = .ok (.iload_n 2, 1) := by decide +kernel
theorem dX12_image_72 : decode cX12_image 72 = .ok (.laload, 1) := by decide +kernel
theorem dX12_image_73 : decode cX12_image 73 = .ok (.lastore, 1) := by decide +kernel
theorem dX12_image_74 : decode cX12_image 74 = .ok (.iinc 2 1, 3) := by decide +kernel
theorem dX12_image_77 : decode cX12_image 77 = .ok (.goto (-26), 3) := by decide +kernel
theorem dX12_image_80 : decode cX12_image 80 = .ok (.aload_n 0, 1) := by decide +kernel
theorem dX12_image_81 : decode cX12_image 81 = .ok (.getfield 38, 3) := by decide +kernel
theorem dX12_image_84 : decode cX12_image 84 = .ok (.iload_n 1, 1) := by decide +kernel
theorem dX12_image_85 : decode cX12_image 85 = .ok (.iconst 1, 1) := by decide +kernel
theorem dX12_image_86 : decode cX12_image 86 = .ok (.bastore, 1) := by decide +kernel
theorem dX12_image_87 : decode cX12_image 87 = .ok (.iconst 1, 1) := by decide +kernel
theorem dX12_image_88 : decode cX12_image 88 = .ok (.ireturn, 1) := by decide +kernel
theorem dX12_restore_0 : decode cX12_restore 0 = .ok (.aload_n 0, 1) := by decide +kernel
theorem dX12_restore_1 : decode cX12_restore 1 = .ok (.iconst 0, 1) := by decide +kernel
theorem dX12_restore_2 : decode cX12_restore 2 = .ok (.putfield 73, 3) := by decide +kernel
theorem dX12_restore_5 : decode cX12_restore 5 = .ok (.iload_n 1, 1) := by decide +kernel
theorem dX12_restore_6 : decode cX12_restore 6 = .ok (.iconst 0, 1) := by decide +kernel
theorem dX12_restore_7 : decode cX12_restore 7 = .ok (.iconst 1, 1) := by decide +kernel
theorem dX12_restore_8 : decode cX12_restore 8 = .ok (.invokestatic 140, 3) := by decide +kernel
theorem dX12_restore_11 : decode cX12_restore 11 = .ok (.ifCond .eq 12, 3) := by decide +kernel
theorem dX12_restore_14 : decode cX12_restore 14 = .ok (.aload_n 0, 1) := by decide +kernel
theorem dX12_restore_15 : decode cX12_restore 15 = .ok (.getfield 38, 3) := by decide +kernel
theorem dX12_restore_18 : decode cX12_restore 18 = .ok (.iload_n 1, 1) := by decide +kernel
theorem dX12_restore_19 : decode cX12_restore 19 = .ok (.baload, 1) := by decide +kernel
theorem dX12_restore_20 : decode cX12_restore 20 = .ok (.ifCond .ne 5, 3) := by decide +kernel
theorem dX12_restore_23 : decode cX12_restore 23 = .ok (.iconst 0, 1) := by decide +kernel
theorem dX12_restore_24 : decode cX12_restore 24 = .ok (.ireturn, 1) := by decide +kernel
theorem dX12_restore_25 : decode cX12_restore 25 = .ok (.iconst 0, 1) := by decide +kernel
theorem dX12_restore_26 : decode cX12_restore 26 = .ok (.istore_n 2, 1) := by decide +kernel
theorem dX12_restore_27 : decode cX12_restore 27 = .ok (.iload_n 2, 1) := by decide +kernel
theorem dX12_restore_28 : decode cX12_restore 28 = .ok (.sipush 379, 3) := by decide +kernel
theorem dX12_restore_31 : decode cX12_restore 31 = .ok (.if_icmp .ge 27, 3) := by decide +kernel
theorem dX12_restore_34 : decode cX12_restore 34 = .ok (.aload_n 0, 1) := by decide +kernel
theorem dX12_restore_35 : decode cX12_restore 35 = .ok (.getfield 13, 3) := by decide +kernel
theorem dX12_restore_38 : decode cX12_restore 38 = .ok (.iload_n 2, 1) := by decide +kernel
theorem dX12_restore_39 : decode cX12_restore 39 = .ok (.aload_n 0, 1) := by decide +kernel
theorem dX12_restore_40 : decode cX12_restore 40 = .ok (.getfield 19, 3) := by decide +kernel
theorem dX12_restore_43 : decode cX12_restore 43 = .ok (.sipush 379, 3) := by decide +kernel
theorem dX12_restore_46 : decode cX12_restore 46 = .ok (.iload_n 1, 1) := by decide +kernel
theorem dX12_restore_47 : decode cX12_restore 47 = .ok (.imul, 1) := by decide +kernel
theorem dX12_restore_48 : decode cX12_restore 48 = .ok (.iload_n 2, 1) := by decide +kernel
theorem dX12_restore_49 : decode cX12_restore 49 = .ok (.iadd, 1) := by decide +kernel
theorem dX12_restore_50 : decode cX12_restore 50 = .ok (.iaload, 1) := by decide +kernel
theorem dX12_restore_51 : decode cX12_restore 51 = .ok (.iastore, 1) := by decide +kernel
theorem dX12_restore_52 : decode cX12_restore 52 = .ok (.iinc 2 1, 3) := by decide +kernel
theorem dX12_restore_55 : decode cX12_restore 55 = .ok (.goto (-28), 3) := by decide +kernel
theorem dX12_restore_58 : decode cX12_restore 58 = .ok (.iconst 0, 1) := by decide +kernel
theorem dX12_restore_59 : decode cX12_restore 59 = .ok (.istore_n 2, 1) := by decide +kernel
theorem dX12_restore_60 : decode cX12_restore 60 = .ok (.iload_n 2, 1) := by decide +kernel
theorem dX12_restore_61 : decode cX12_restore 61 = .ok (.bipush 14, 2) := by decide +kernel
theorem dX12_restore_63 : decode cX12_restore 63 = .ok (.if_icmp .ge 26, 3) := by decide +kernel
theorem dX12_restore_66 : decode cX12_restore 66 = .ok (.aload_n 0, 1) := by decide +kernel
theorem dX12_restore_67 : decode cX12_restore 67 = .ok (.getfield 28, 3) := by decide +kernel
theorem dX12_restore_70 : decode cX12_restore 70 = .ok (.iload_n 2, 1) := by decide +kernel
theorem dX12_restore_71 : decode cX12_restore 71 = .ok (.aload_n 0, 1) := by decide +kernel
theorem dX12_restore_72 : decode cX12_restore 72 = .ok (.getfield 35, 3) := by decide +kernel
theorem dX12_restore_75 : decode cX12_restore 75 = .ok (.bipush 14, 2) := by decide +kernel
theorem dX12_restore_77 : decode cX12_restore 77 = .ok (.iload_n 1, 1) := by decide +kernel
theorem dX12_restore_78 : decode cX12_restore 78 = .ok (.imul, 1) := by decide +kernel
theorem dX12_restore_79 : decode cX12_restore 79 = .ok (.iload_n 2, 1) := by decide +kernel
theorem dX12_restore_80 : decode cX12_restore 80 = .ok (.iadd, 1) := by decide +kernel
theorem dX12_restore_81 : decode cX12_restore 81 = .ok (.laload, 1) := by decide +kernel
theorem dX12_restore_82 : decode cX12_restore 82 = .ok (.lastore, 1) := by decide +kernel
theorem dX12_restore_83 : decode cX12_restore 83 = .ok (.iinc 2 1, 3) := by decide +kernel
theorem dX12_restore_86 : decode cX12_restore 86 = .ok (.goto (-26), 3) := by decide +kernel
theorem dX12_restore_89 : decode cX12_restore 89 = .ok (.aload_n 0, 1) := by decide +kernel
theorem dX12_restore_90 : decode cX12_restore 90 = .ok (.iconst 0, 1) := by decide +kernel
theorem dX12_restore_91 : decode cX12_restore 91 = .ok (.putfield 206, 3) := by decide +kernel
theorem dX12_restore_94 : decode cX12_restore 94 = .ok (.iconst 1, 1) := by decide +kernel
theorem dX12_restore_95 : decode cX12_restore 95 = .ok (.ireturn, 1) := by decide +kernel
theorem dX12_count_0 : decode cX12_count 0 = .ok (.aload_n 0, 1) := by decide +kernel
theorem dX12_count_1 : decode cX12_count 1 = .ok (.iconst 0, 1) := by decide +kernel
theorem dX12_count_2 : decode cX12_count 2 = .ok (.putfield 73, 3) := by decide +kernel
theorem dX12_count_5 : decode cX12_count 5 = .ok (.iload_n 1, 1) := by decide +kernel
theorem dX12_count_6 : decode cX12_count 6 = .ok (.tableswitch 56 0 3 #[30, 37, 44, 51], 30) := by decide +kernel
theorem dX12_count_36 : decode cX12_count 36 = .ok (.aload_n 0, 1) := by decide +kernel
theorem dX12_count_37 : decode cX12_count 37 = .ok (.getfield 13, 3) := by decide +kernel
theorem dX12_count_40 : decode cX12_count 40 = .ok (.iconst 0, 1) := by decide +kernel
theorem dX12_count_41 : decode cX12_count 41 = .ok (.iaload, 1) := by decide +kernel
theorem dX12_count_42 : decode cX12_count 42 = .ok (.ireturn, 1) := by decide +kernel
theorem dX12_count_43 : decode cX12_count 43 = .ok (.aload_n 0, 1) := by decide +kernel
theorem dX12_count_44 : decode cX12_count 44 = .ok (.getfield 13, 3) := by decide +kernel
theorem dX12_count_47 : decode cX12_count 47 = .ok (.iconst 1, 1) := by decide +kernel
theorem dX12_count_48 : decode cX12_count 48 = .ok (.iaload, 1) := by decide +kernel
theorem dX12_count_49 : decode cX12_count 49 = .ok (.ireturn, 1) := by decide +kernel
theorem dX12_count_50 : decode cX12_count 50 = .ok (.aload_n 0, 1) := by decide +kernel
theorem dX12_count_51 : decode cX12_count 51 = .ok (.getfield 13, 3) := by decide +kernel
theorem dX12_count_54 : decode cX12_count 54 = .ok (.iconst 2, 1) := by decide +kernel
theorem dX12_count_55 : decode cX12_count 55 = .ok (.iaload, 1) := by decide +kernel
theorem dX12_count_56 : decode cX12_count 56 = .ok (.ireturn, 1) := by decide +kernel
theorem dX12_count_57 : decode cX12_count 57 = .ok (.aload_n 0, 1) := by decide +kernel
theorem dX12_count_58 : decode cX12_count 58 = .ok (.getfield 76, 3) := by decide +kernel
theorem dX12_count_61 : decode cX12_count 61 = .ok (.ireturn, 1) := by decide +kernel
theorem dX12_count_62 : decode cX12_count 62 = .ok (.iconst (-1), 1) := by decide +kernel
theorem dX12_count_63 : decode cX12_count 63 = .ok (.ireturn, 1) := by decide +kernel
theorem dL_thing_0 : decode cL_thing 0 = .ok (.aload_n 3, 1) := by decide +kernel
theorem dL_thing_1 : decode cL_thing 1 = .ok (.iconst 0, 1) := by decide +kernel
theorem dL_thing_2 : decode cL_thing 2 = .ok (.aload_n 0, 1) := by decide +kernel
theorem dL_thing_3 : decode cL_thing 3 = .ok (.iload_n 1, 1) := by decide +kernel
theorem dL_thing_4 : decode cL_thing 4 = .ok (.iload_n 2, 1) := by decide +kernel
theorem dL_thing_5 : decode cL_thing 5 = .ok (.invokevirtual 7, 3) := by decide +kernel
theorem dL_thing_8 : decode cL_thing 8 = .ok (.i2l, 1) := by decide +kernel
theorem dL_thing_9 : decode cL_thing 9 = .ok (.lastore, 1) := by decide +kernel
theorem dL_thing_10 : decode cL_thing 10 = .ok (.goto 7, 3) := by decide +kernel
theorem dL_thing_13 : decode cL_thing 13 = .ok (.astore 4, 2) := by decide +kernel
theorem dL_thing_15 : decode cL_thing 15 = .ok (.iconst 1, 1) := by decide +kernel
theorem dL_thing_16 : decode cL_thing 16 = .ok (.ireturn, 1) := by decide +kernel
theorem dL_thing_17 : decode cL_thing 17 = .ok (.iconst 0, 1) := by decide +kernel
theorem dL_thing_18 : decode cL_thing 18 = .ok (.ireturn, 1) := by decide +kernel
theorem dL_trouble_0 : decode cL_trouble 0 = .ok (.aload_n 3, 1) := by decide +kernel
theorem dL_trouble_1 : decode cL_trouble 1 = .ok (.iconst 0, 1) := by decide +kernel
theorem dL_trouble_2 : decode cL_trouble 2 = .ok (.aload_n 0, 1) := by decide +kernel
theorem dL_trouble_3 : decode cL_trouble 3 = .ok (.iload_n 1, 1) := by decide +kernel
theorem dL_trouble_4 : decode cL_trouble 4 = .ok (.iload_n 2, 1) := by decide +kernel
theorem dL_trouble_5 : decode cL_trouble 5 = .ok (.invokevirtual 15, 3) := by decide +kernel
theorem dL_trouble_8 : decode cL_trouble 8 = .ok (.i2l, 1) := by decide +kernel
theorem dL_trouble_9 : decode cL_trouble 9 = .ok (.lastore, 1) := by decide +kernel
theorem dL_trouble_10 : decode cL_trouble 10 = .ok (.goto 7, 3) := by decide +kernel
theorem dL_trouble_13 : decode cL_trouble 13 = .ok (.astore 4, 2) := by decide +kernel
theorem dL_trouble_15 : decode cL_trouble 15 = .ok (.iconst 1, 1) := by decide +kernel
theorem dL_trouble_16 : decode cL_trouble 16 = .ok (.ireturn, 1) := by decide +kernel
theorem dL_trouble_17 : decode cL_trouble 17 = .ok (.iconst 0, 1) := by decide +kernel
theorem dL_trouble_18 : decode cL_trouble 18 = .ok (.ireturn, 1) := by decide +kernel
theorem dL_likely_0 : decode cL_likely 0 = .ok (.aload_n 3, 1) := by decide +kernel
theorem dL_likely_1 : decode cL_likely 1 = .ok (.iconst 0, 1) := by decide +kernel
theorem dL_likely_2 : decode cL_likely 2 = .ok (.aload_n 0, 1) := by decide +kernel
theorem dL_likely_3 : decode cL_likely 3 = .ok (.iload_n 1, 1) := by decide +kernel
theorem dL_likely_4 : decode cL_likely 4 = .ok (.iload_n 2, 1) := by decide +kernel
theorem dL_likely_5 : decode cL_likely 5 = .ok (.invokevirtual 18, 3) := by decide +kernel
theorem dL_likely_8 : decode cL_likely 8 = .ok (.i2l, 1) := by decide +kernel
theorem dL_likely_9 : decode cL_likely 9 = .ok (.lastore, 1) := by decide +kernel
theorem dL_likely_10 : decode cL_likely 10 = .ok (.goto 7, 3) := by decide +kernel
theorem dL_likely_13 : decode cL_likely 13 = .ok (.astore 4, 2) := by decide +kernel
theorem dL_likely_15 : decode cL_likely 15 = .ok (.iconst 1, 1) := by decide +kernel
theorem dL_likely_16 : decode cL_likely 16 = .ok (.ireturn, 1) := by decide +kernel
theorem dL_likely_17 : decode cL_likely 17 = .ok (.iconst 0, 1) := by decide +kernel
theorem dL_likely_18 : decode cL_likely 18 = .ok (.ireturn, 1) := by decide +kernel
theorem dL_plan_0 : decode cL_plan 0 = .ok (.aload 4, 2) := by decide +kernel
theorem dL_plan_2 : decode cL_plan 2 = .ok (.iconst 0, 1) := by decide +kernel
theorem dL_plan_3 : decode cL_plan 3 = .ok (.aload_n 0, 1) := by decide +kernel
theorem dL_plan_4 : decode cL_plan 4 = .ok (.iload_n 1, 1) := by decide +kernel
theorem dL_plan_5 : decode cL_plan 5 = .ok (.iload_n 2, 1) := by decide +kernel
theorem dL_plan_6 : decode cL_plan 6 = .ok (.iload_n 3, 1) := by decide +kernel
theorem dL_plan_7 : decode cL_plan 7 = .ok (.invokevirtual 21, 3) := by decide +kernel
theorem dL_plan_10 : decode cL_plan 10 = .ok (.i2l, 1) := by decide +kernel
theorem dL_plan_11 : decode cL_plan 11 = .ok (.lastore, 1) := by decide +kernel
theorem dL_plan_12 : decode cL_plan 12 = .ok (.goto 7, 3) := by decide +kernel
theorem dL_plan_15 : decode cL_plan 15 = .ok (.astore 5, 2) := by decide +kernel
theorem dL_plan_17 : decode cL_plan 17 = .ok (.iconst 1, 1) := by decide +kernel
theorem dL_plan_18 : decode cL_plan 18 = .ok (.ireturn, 1) := by decide +kernel
theorem dL_plan_19 : decode cL_plan 19 = .ok (.iconst 0, 1) := by decide +kernel
theorem dL_plan_20 : decode cL_plan 20 = .ok (.ireturn, 1) := by decide +kernel
theorem dL_helped_0 : decode cL_helped 0 = .ok (.aload_n 1, 1) := by decide +kernel
theorem dL_helped_1 : decode cL_helped 1 = .ok (.iconst 0, 1) := by decide +kernel
theorem dL_helped_2 : decode cL_helped 2 = .ok (.aload_n 0, 1) := by decide +kernel
theorem dL_helped_3 : decode cL_helped 3 = .ok (.invokevirtual 25, 3) := by decide +kernel
theorem dL_helped_6 : decode cL_helped 6 = .ok (.i2l, 1) := by decide +kernel
theorem dL_helped_7 : decode cL_helped 7 = .ok (.lastore, 1) := by decide +kernel
theorem dL_helped_8 : decode cL_helped 8 = .ok (.goto 6, 3) := by decide +kernel
theorem dL_helped_11 : decode cL_helped 11 = .ok (.astore_n 2, 1) := by decide +kernel
theorem dL_helped_12 : decode cL_helped 12 = .ok (.iconst 1, 1) := by decide +kernel
theorem dL_helped_13 : decode cL_helped 13 = .ok (.ireturn, 1) := by decide +kernel
theorem dL_helped_14 : decode cL_helped 14 = .ok (.iconst 0, 1) := by decide +kernel
theorem dL_helped_15 : decode cL_helped 15 = .ok (.ireturn, 1) := by decide +kernel
theorem dL_law_0 : decode cL_law 0 = .ok (.new 8, 3) := by decide +kernel
theorem dL_law_3 : decode cL_law 3 = .ok (.dup, 1) := by decide +kernel
theorem dL_law_4 : decode cL_law 4 = .ok (.invokespecial 29, 3) := by decide +kernel
theorem dL_law_7 : decode cL_law 7 = .ok (.astore_n 1, 1) := by decide +kernel
theorem dL_law_8 : decode cL_law 8 = .ok (.new 30, 3) := by decide +kernel
theorem dL_law_11 : decode cL_law 11 = .ok (.dup, 1) := by decide +kernel
theorem dL_law_12 : decode cL_law 12 = .ok (.invokespecial 32, 3) := by decide +kernel
theorem dL_law_15 : decode cL_law 15 = .ok (.astore_n 2, 1) := by decide +kernel
theorem dL_law_16 : decode cL_law 16 = .ok (.iconst 1, 1) := by decide +kernel
theorem dL_law_17 : decode cL_law 17 = .ok (.newarray .long, 2) := by decide +kernel
theorem dL_law_19 : decode cL_law 19 = .ok (.astore_n 3, 1) := by decide +kernel
theorem dL_law_20 : decode cL_law 20 = .ok (.iconst 0, 1) := by decide +kernel
theorem dL_law_21 : decode cL_law 21 = .ok (.istore 4, 2) := by decide +kernel
theorem dL_law_23 : decode cL_law 23 = .ok (.iload 4, 2) := by decide +kernel
theorem dL_law_25 : decode cL_law 25 = .ok (.aload_n 0, 1) := by decide +kernel
theorem dL_law_26 : decode cL_law 26 = .ok (.arraylength, 1) := by decide +kernel
theorem dL_law_27 : decode cL_law 27 = .ok (.bipush 6, 2) := by decide +kernel
theorem dL_law_29 : decode cL_law 29 = .ok (.isub, 1) := by decide +kernel
theorem dL_law_30 : decode cL_law 30 = .ok (.if_icmp .gt 1320, 3) := by decide +kernel
theorem dL_law_33 : decode cL_law 33 = .ok (.aload_n 0, 1) := by decide +kernel
theorem dL_law_34 : decode cL_law 34 = .ok (.iload 4, 2) := by decide +kernel
theorem dL_law_36 : decode cL_law 36 = .ok (.iaload, 1) := by decide +kernel
theorem dL_law_37 : decode cL_law 37 = .ok (.bipush 63, 2) := by decide +kernel
theorem dL_law_39 : decode cL_law 39 = .ok (.iand, 1) := by decide +kernel
theorem dL_law_40 : decode cL_law 40 = .ok (.tableswitch 1304 0 40 #[180, 253, 278, 291, 304, 344, 384, 421, 446, 471, 508, 545, 582, 607, 632, 645, 658, 698, 750, 775, 800, 825, 841, 854, 879, 892, 917, 930, 955, 980, 1005, 1030, 1055, 1092, 1141, 1166, 1191, 1204, 1229, 1254, 1279], 180) := by decide +kernel
theorem dL_law_220 : decode cL_law 220 = .ok (.aload_n 1, 1) := by decide +kernel
theorem dL_law_221 : decode cL_law 221 = .ok (.aload_n 0, 1) := by decide +kernel
theorem dL_law_222 : decode cL_law 222 = .ok (.iload 4, 2) := by decide +kernel
theorem dL_law_224 : decode cL_law 224 = .ok (.iconst 1, 1) := by decide +kernel
theorem dL_law_225 : decode cL_law 225 = .ok (.iadd, 1) := by decide +kernel
theorem dL_law_226 : decode cL_law 226 = .ok (.iaload, 1) := by decide +kernel
theorem dL_law_227 : decode cL_law 227 = .ok (.aload_n 0, 1) := by decide +kernel
theorem dL_law_228 : decode cL_law 228 = .ok (.iload 4, 2) := by decide +kernel
theorem dL_law_230 : decode cL_law 230 = .ok (.iconst 2, 1) := by decide +kernel
theorem dL_law_231 : decode cL_law 231 = .ok (.iadd, 1) := by decide +kernel
theorem dL_law_232 : decode cL_law 232 = .ok (.iaload, 1) := by decide +kernel
theorem dL_law_233 : decode cL_law 233 = .ok (.aload_n 0, 1) := by decide +kernel
theorem dL_law_234 : decode cL_law 234 = .ok (.iload 4, 2) := by decide +kernel
theorem dL_law_236 : decode cL_law 236 = .ok (.iconst 3, 1) := by decide +kernel
theorem dL_law_237 : decode cL_law 237 = .ok (.iadd, 1) := by decide +kernel
theorem dL_law_238 : decode cL_law 238 = .ok (.iaload, 1) := by decide +kernel
theorem dL_law_239 : decode cL_law 239 = .ok (.aload_n 0, 1) := by decide +kernel
theorem dL_law_240 : decode cL_law 240 = .ok (.iload 4, 2) := by decide +kernel
theorem dL_law_242 : decode cL_law 242 = .ok (.iconst 4, 1) := by decide +kernel
theorem dL_law_243 : decode cL_law 243 = .ok (.iadd, 1) := by decide +kernel
theorem dL_law_244 : decode cL_law 244 = .ok (.iaload, 1) := by decide +kernel
theorem dL_law_245 : decode cL_law 245 = .ok (.aload_n 0, 1) := by decide +kernel
theorem dL_law_246 : decode cL_law 246 = .ok (.iload 4, 2) := by decide +kernel
theorem dL_law_248 : decode cL_law 248 = .ok (.iconst 5, 1) := by decide +kernel
theorem dL_law_249 : decode cL_law 249 = .ok (.iadd, 1) := by decide +kernel
theorem dL_law_250 : decode cL_law 250 = .ok (.iaload, 1) := by decide +kernel
theorem dL_law_251 : decode cL_law 251 = .ok (.invokevirtual 33, 3) := by decide +kernel
theorem dL_law_254 : decode cL_law 254 = .ok (.pop, 1) := by decide +kernel
theorem dL_law_255 : decode cL_law 255 = .ok (.aload_n 2, 1) := by decide +kernel
