theorem dX12_read_227 : decode cX12_read 227 = .ok (.getfield 192, 3) := by decide +kernel
theorem dX12_read_230 : decode cX12_read 230 = .ok (.ifCond .le 10, 3) := by decide +kernel
theorem dX12_read_233 : decode cX12_read 233 = .ok (.aload_n 0, 1) := by decide +kernel
theorem dX12_read_234 : decode cX12_read 234 = .ok (.getfield 198, 3) := by decide +kernel
theorem dX12_read_237 : decode cX12_read 237 = .ok (.goto 18, 3) := by decide +kernel
theorem dX12_read_240 : decode cX12_read 240 = .ok (.aload_n 0, 1) := by decide +kernel
theorem dX12_read_241 : decode cX12_read 241 = .ok (.getfield 201, 3) := by decide +kernel
theorem dX12_read_244 : decode cX12_read 244 = .ok (.ifCond .le 10, 3) := by decide +kernel
theorem dX12_read_247 : decode cX12_read 247 = .ok (.aload_n 0, 1) := by decide +kernel
theorem dX12_read_248 : decode cX12_read 248 = .ok (.getfield 204, 3) := by decide +kernel
theorem dX12_read_251 : decode cX12_read 251 = .ok (.goto 4, 3) := by decide +kernel
theorem dX12_read_254 : decode cX12_read 254 = .ok (.iconst (-1), 1) := by decide +kernel
theorem dX12_read_255 : decode cX12_read 255 = .ok (.putfield 37, 3) := by decide +kernel
theorem dX12_read_258 : decode cX12_read 258 = .ok (.aload_n 0, 1) := by decide +kernel
theorem dX12_read_259 : decode cX12_read 259 = .ok (.getfield 192, 3) := by decide +kernel
theorem dX12_read_262 : decode cX12_read 262 = .ok (.ifCond .le 8, 3) := by decide +kernel
theorem dX12_read_265 : decode cX12_read 265 = .ok (.aload_n 0, 1) := by decide +kernel
theorem dX12_read_266 : decode cX12_read 266 = .ok (.getfield 192, 3) := by decide +kernel
theorem dX12_read_269 : decode cX12_read 269 = .ok (.ireturn, 1) := by decide +kernel
theorem dX12_read_270 : decode cX12_read 270 = .ok (.aload_n 0, 1) := by decide +kernel
theorem dX12_read_271 : decode cX12_read 271 = .ok (.getfield 201, 3) := by decide +kernel
theorem dX12_read_274 : decode cX12_read 274 = .ok (.ifCond .le 8, 3) := by decide +kernel
theorem dX12_read_277 : decode cX12_read 277 = .ok (.aload_n 0, 1) := by decide +kernel
theorem dX12_read_278 : decode cX12_read 278 = .ok (.getfield 201, 3) := by decide +kernel
theorem dX12_read_281 : decode cX12_read 281 = .ok (.ireturn, 1) := by decide +kernel
theorem dX12_read_282 : decode cX12_read 282 = .ok (.aload_n 0, 1) := by decide +kernel
theorem dX12_read_283 : decode cX12_read 283 = .ok (.aload_n 0, 1) := by decide +kernel
theorem dX12_read_284 : decode cX12_read 284 = .ok (.getfield 225, 3) := by decide +kernel
theorem dX12_read_287 : decode cX12_read 287 = .ok (.putfield 222, 3) := by decide +kernel
theorem dX12_read_290 : decode cX12_read 290 = .ok (.aload_n 0, 1) := by decide +kernel
theorem dX12_read_291 : decode cX12_read 291 = .ok (.invokevirtual 237, 3) := by decide +kernel
theorem dX12_read_294 : decode cX12_read 294 = .ok (.iconst 0, 1) := by decide +kernel
theorem dX12_read_295 : decode cX12_read 295 = .ok (.istore_n 1, 1) := by decide +kernel
theorem dX12_read_296 : decode cX12_read 296 = .ok (.iload_n 1, 1) := by decide +kernel
theorem dX12_read_297 : decode cX12_read 297 = .ok (.bipush 40, 2) := by decide +kernel
theorem dX12_read_299 : decode cX12_read 299 = .ok (.if_icmp .ge 21, 3) := by decide +kernel
theorem dX12_read_302 : decode cX12_read 302 = .ok (.aload_n 0, 1) := by decide +kernel
theorem dX12_read_303 : decode cX12_read 303 = .ok (.getfield 116, 3) := by decide +kernel
theorem dX12_read_306 : decode cX12_read 306 = .ok (.iload_n 1, 1) := by decide +kernel
theorem dX12_read_307 : decode cX12_read 307 = .ok (.aload_n 0, 1) := by decide +kernel
theorem dX12_read_308 : decode cX12_read 308 = .ok (.getfield 119, 3) := by decide +kernel
theorem dX12_read_311 : decode cX12_read 311 = .ok (.iload_n 1, 1) := by decide +kernel
theorem dX12_read_312 : decode cX12_read 312 = .ok (.iaload, 1) := by decide +kernel
theorem dX12_read_313 : decode cX12_read 313 = .ok (.iastore, 1) := by decide +kernel
theorem dX12_read_314 : decode cX12_read 314 = .ok (.iinc 1 1, 3) := by decide +kernel
theorem dX12_read_317 : decode cX12_read 317 = .ok (.goto (-21), 3) := by decide +kernel
theorem dX12_read_320 : decode cX12_read 320 = .ok (.aload_n 0, 1) := by decide +kernel
theorem dX12_read_321 : decode cX12_read 321 = .ok (.iconst 0, 1) := by decide +kernel
theorem dX12_read_322 : decode cX12_read 322 = .ok (.putfield 240, 3) := by decide +kernel
theorem dX12_read_325 : decode cX12_read 325 = .ok (.aload_n 0, 1) := by decide +kernel
theorem dX12_read_326 : decode cX12_read 326 = .ok (.iconst 0, 1) := by decide +kernel
theorem dX12_read_327 : decode cX12_read 327 = .ok (.putfield 243, 3) := by decide +kernel
theorem dX12_read_330 : decode cX12_read 330 = .ok (.iconst 0, 1) := by decide +kernel
theorem dX12_read_331 : decode cX12_read 331 = .ok (.istore_n 1, 1) := by decide +kernel
theorem dX12_read_332 : decode cX12_read 332 = .ok (.iload_n 1, 1) := by decide +kernel
theorem dX12_read_333 : decode cX12_read 333 = .ok (.iconst 3, 1) := by decide +kernel
theorem dX12_read_334 : decode cX12_read 334 = .ok (.if_icmp .ge 16, 3) := by decide +kernel
theorem dX12_read_337 : decode cX12_read 337 = .ok (.aload_n 0, 1) := by decide +kernel
theorem dX12_read_338 : decode cX12_read 338 = .ok (.getfield 144, 3) := by decide +kernel
theorem dX12_read_341 : decode cX12_read 341 = .ok (.iload_n 1, 1) := by decide +kernel
theorem dX12_read_342 : decode cX12_read 342 = .ok (.iconst 0, 1) := by decide +kernel
theorem dX12_read_343 : decode cX12_read 343 = .ok (.bastore, 1) := by decide +kernel
theorem dX12_read_344 : decode cX12_read 344 = .ok (.iinc 1 1, 3) := by decide +kernel
theorem dX12_read_347 : decode cX12_read 347 = .ok (.goto (-15), 3) := by decide +kernel
theorem dX12_read_350 : decode cX12_read 350 = .ok (.iconst 0, 1) := by decide +kernel
theorem dX12_read_351 : decode cX12_read 351 = .ok (.ireturn, 1) := by decide +kernel
theorem dX12_restore_0 : decode cX12_restore 0 = .ok (.iload_n 1, 1) := by decide +kernel
theorem dX12_restore_1 : decode cX12_restore 1 = .ok (.iconst 0, 1) := by decide +kernel
theorem dX12_restore_2 : decode cX12_restore 2 = .ok (.iconst 2, 1) := by decide +kernel
theorem dX12_restore_3 : decode cX12_restore 3 = .ok (.invokestatic 323, 3) := by decide +kernel
theorem dX12_restore_6 : decode cX12_restore 6 = .ok (.ifCond .eq 12, 3) := by decide +kernel
theorem dX12_restore_9 : decode cX12_restore 9 = .ok (.aload_n 0, 1) := by decide +kernel
theorem dX12_restore_10 : decode cX12_restore 10 = .ok (.getfield 144, 3) := by decide +kernel
theorem dX12_restore_13 : decode cX12_restore 13 = .ok (.iload_n 1, 1) := by decide +kernel
theorem dX12_restore_14 : decode cX12_restore 14 = .ok (.baload, 1) := by decide +kernel
theorem dX12_restore_15 : decode cX12_restore 15 = .ok (.ifCond .ne 5, 3) := by decide +kernel
theorem dX12_restore_18 : decode cX12_restore 18 = .ok (.iconst 0, 1) := by decide +kernel
theorem dX12_restore_19 : decode cX12_restore 19 = .ok (.ireturn, 1) := by decide +kernel
theorem dX12_restore_20 : decode cX12_restore 20 = .ok (.iconst 0, 1) := by decide +kernel
theorem dX12_restore_21 : decode cX12_restore 21 = .ok (.istore_n 2, 1) := by decide +kernel
theorem dX12_restore_22 : decode cX12_restore 22 = .ok (.iload_n 2, 1) := by decide +kernel
theorem dX12_restore_23 : decode cX12_restore 23 = .ok (.bipush 40, 2) := by decide +kernel
theorem dX12_restore_25 : decode cX12_restore 25 = .ok (.if_icmp .ge 26, 3) := by decide +kernel
theorem dX12_restore_28 : decode cX12_restore 28 = .ok (.aload_n 0, 1) := by decide +kernel
theorem dX12_restore_29 : decode cX12_restore 29 = .ok (.getfield 116, 3) := by decide +kernel
theorem dX12_restore_32 : decode cX12_restore 32 = .ok (.iload_n 2, 1) := by decide +kernel
theorem dX12_restore_33 : decode cX12_restore 33 = .ok (.aload_n 0, 1) := by decide +kernel
theorem dX12_restore_34 : decode cX12_restore 34 = .ok (.getfield 147, 3) := by decide +kernel
theorem dX12_restore_37 : decode cX12_restore 37 = .ok (.bipush 40, 2) := by decide +kernel
theorem dX12_restore_39 : decode cX12_restore 39 = .ok (.iload_n 1, 1) := by decide +kernel
theorem dX12_restore_40 : decode cX12_restore 40 = .ok (.imul, 1) := by decide +kernel
theorem dX12_restore_41 : decode cX12_restore 41 = .ok (.iload_n 2, 1) := by decide +kernel
theorem dX12_restore_42 : decode cX12_restore 42 = .ok (.iadd, 1) := by decide +kernel
theorem dX12_restore_43 : decode cX12_restore 43 = .ok (.iaload, 1) := by decide +kernel
theorem dX12_restore_44 : decode cX12_restore 44 = .ok (.iastore, 1) := by decide +kernel
theorem dX12_restore_45 : decode cX12_restore 45 = .ok (.iinc 2 1, 3) := by decide +kernel
theorem dX12_restore_48 : decode cX12_restore 48 = .ok (.goto (-26), 3) := by decide +kernel
theorem dX12_restore_51 : decode cX12_restore 51 = .ok (.aload_n 0, 1) := by decide +kernel
theorem dX12_restore_52 : decode cX12_restore 52 = .ok (.iconst 0, 1) := by decide +kernel
theorem dX12_restore_53 : decode cX12_restore 53 = .ok (.putfield 240, 3) := by decide +kernel
theorem dX12_restore_56 : decode cX12_restore 56 = .ok (.iconst 1, 1) := by decide +kernel
theorem dX12_restore_57 : decode cX12_restore 57 = .ok (.ireturn, 1) := by decide +kernel
theorem dX12_roomFor_0 : decode cX12_roomFor 0 = .ok (.iload_n 1, 1) := by decide +kernel
theorem dX12_roomFor_1 : decode cX12_roomFor 1 = .ok (.iload_n 2, 1) := by decide +kernel
theorem dX12_roomFor_2 : decode cX12_roomFor 2 = .ok (.if_icmp .ne 8, 3) := by decide +kernel
theorem dX12_roomFor_5 : decode cX12_roomFor 5 = .ok (.aload_n 0, 1) := by decide +kernel
theorem dX12_roomFor_6 : decode cX12_roomFor 6 = .ok (.iconst 2, 1) := by decide +kernel
theorem dX12_roomFor_7 : decode cX12_roomFor 7 = .ok (.invokevirtual 207, 3) := by decide +kernel
theorem dX12_roomFor_10 : decode cX12_roomFor 10 = .ok (.aload_n 0, 1) := by decide +kernel
theorem dX12_roomFor_11 : decode cX12_roomFor 11 = .ok (.getfield 192, 3) := by decide +kernel
theorem dX12_roomFor_14 : decode cX12_roomFor 14 = .ok (.ifCond .ne 7, 3) := by decide +kernel
theorem dX12_roomFor_17 : decode cX12_roomFor 17 = .ok (.aload_n 0, 1) := by decide +kernel
theorem dX12_roomFor_18 : decode cX12_roomFor 18 = .ok (.invokevirtual 213, 3) := by decide +kernel
theorem dX12_roomFor_21 : decode cX12_roomFor 21 = .ok (.return_, 1) := by decide +kernel
theorem dX12_say_0 : decode cX12_say 0 = .ok (.aload_n 0, 1) := by decide +kernel
theorem dX12_say_1 : decode cX12_say 1 = .ok (.iload_n 1, 1) := by decide +kernel
theorem dX12_say_2 : decode cX12_say 2 = .ok (.invokevirtual 371, 3) := by decide +kernel
theorem dX12_say_5 : decode cX12_say 5 = .ok (.ifCond .ne 5, 3) := by decide +kernel
theorem dX12_say_8 : decode cX12_say 8 = .ok (.iconst (-1), 1) := by decide +kernel
theorem dX12_say_9 : decode cX12_say 9 = .ok (.ireturn, 1) := by decide +kernel
theorem dX12_say_10 : decode cX12_say 10 = .ok (.aload_n 0, 1) := by decide +kernel
theorem dX12_say_11 : decode cX12_say 11 = .ok (.invokevirtual 384, 3) := by decide +kernel
theorem dX12_say_14 : decode cX12_say 14 = .ok (.aload_n 0, 1) := by decide +kernel
theorem dX12_say_15 : decode cX12_say 15 = .ok (.iload_n 1, 1) := by decide +kernel
theorem dX12_say_16 : decode cX12_say 16 = .ok (.invokevirtual 391, 3) := by decide +kernel
theorem dX12_say_19 : decode cX12_say 19 = .ok (.istore_n 2, 1) := by decide +kernel
theorem dX12_say_20 : decode cX12_say 20 = .ok (.aload_n 0, 1) := by decide +kernel
theorem dX12_say_21 : decode cX12_say 21 = .ok (.invokevirtual 394, 3) := by decide +kernel
theorem dX12_say_24 : decode cX12_say 24 = .ok (.iload_n 2, 1) := by decide +kernel
theorem dX12_say_25 : decode cX12_say 25 = .ok (.ireturn, 1) := by decide +kernel
theorem dX12_sayNow_0 : decode cX12_sayNow 0 = .ok (.aload_n 0, 1) := by decide +kernel
theorem dX12_sayNow_1 : decode cX12_sayNow 1 = .ok (.iconst 1, 1) := by decide +kernel
theorem dX12_sayNow_2 : decode cX12_sayNow 2 = .ok (.invokevirtual 365, 3) := by decide +kernel
theorem dX12_sayNow_5 : decode cX12_sayNow 5 = .ok (.aload_n 0, 1) := by decide +kernel
theorem dX12_sayNow_6 : decode cX12_sayNow 6 = .ok (.getfield 64, 3) := by decide +kernel
theorem dX12_sayNow_9 : decode cX12_sayNow 9 = .ok (.bipush 16, 2) := by decide +kernel
theorem dX12_sayNow_11 : decode cX12_sayNow 11 = .ok (.aload_n 0, 1) := by decide +kernel
theorem dX12_sayNow_12 : decode cX12_sayNow 12 = .ok (.getfield 222, 3) := by decide +kernel
theorem dX12_sayNow_15 : decode cX12_sayNow 15 = .ok (.imul, 1) := by decide +kernel
theorem dX12_sayNow_16 : decode cX12_sayNow 16 = .ok (.iload_n 1, 1) := by decide +kernel
theorem dX12_sayNow_17 : decode cX12_sayNow 17 = .ok (.iadd, 1) := by decide +kernel
theorem dX12_sayNow_18 : decode cX12_sayNow 18 = .ok (.iaload, 1) := by decide +kernel
theorem dX12_sayNow_19 : decode cX12_sayNow 19 = .ok (.istore_n 2, 1) := by decide +kernel
theorem dX12_sayNow_20 : decode cX12_sayNow 20 = .ok (.aload_n 0, 1) := by decide +kernel
theorem dX12_sayNow_21 : decode cX12_sayNow 21 = .ok (.getfield 119, 3) := by decide +kernel
theorem dX12_sayNow_24 : decode cX12_sayNow 24 = .ok (.iconst 1, 1) := by decide +kernel
theorem dX12_sayNow_25 : decode cX12_sayNow 25 = .ok (.iaload, 1) := by decide +kernel
theorem dX12_sayNow_26 : decode cX12_sayNow 26 = .ok (.iload_n 1, 1) := by decide +kernel
theorem dX12_sayNow_27 : decode cX12_sayNow 27 = .ok (.ishr, 1) := by decide +kernel
theorem dX12_sayNow_28 : decode cX12_sayNow 28 = .ok (.iconst 1, 1) := by decide +kernel
theorem dX12_sayNow_29 : decode cX12_sayNow 29 = .ok (.iand, 1) := by decide +kernel
theorem dX12_sayNow_30 : decode cX12_sayNow 30 = .ok (.iconst 1, 1) := by decide +kernel
theorem dX12_sayNow_31 : decode cX12_sayNow 31 = .ok (.if_icmp .ne 7, 3) := by decide +kernel
theorem dX12_sayNow_34 : decode cX12_sayNow 34 = .ok (.iconst 1, 1) := by decide +kernel
theorem dX12_sayNow_35 : decode cX12_sayNow 35 = .ok (.goto 4, 3) := by decide +kernel
theorem dX12_sayNow_38 : decode cX12_sayNow 38 = .ok (.iconst 0, 1) := by decide +kernel
theorem dX12_sayNow_39 : decode cX12_sayNow 39 = .ok (.istore_n 3, 1) := by decide +kernel
theorem dX12_sayNow_40 : decode cX12_sayNow 40 = .ok (.aload_n 0, 1) := by decide +kernel
theorem dX12_sayNow_41 : decode cX12_sayNow 41 = .ok (.getfield 119, 3) := by decide +kernel
theorem dX12_sayNow_44 : decode cX12_sayNow 44 = .ok (.iconst 1, 1) := by decide +kernel
theorem dX12_sayNow_45 : decode cX12_sayNow 45 = .ok (.dup2, 1) := by decide +kernel
theorem dX12_sayNow_46 : decode cX12_sayNow 46 = .ok (.iaload, 1) := by decide +kernel
theorem dX12_sayNow_47 : decode cX12_sayNow 47 = .ok (.iconst 1, 1) := by decide +kernel
theorem dX12_sayNow_48 : decode cX12_sayNow 48 = .ok (.iload_n 1, 1) := by decide +kernel
theorem dX12_sayNow_49 : decode cX12_sayNow 49 = .ok (.ishl, 1) := by decide +kernel
theorem dX12_sayNow_50 : decode cX12_sayNow 50 = .ok (.ior, 1) := by decide +kernel
theorem dX12_sayNow_51 : decode cX12_sayNow 51 = .ok (.iastore, 1) := by decide +kernel
theorem dX12_sayNow_52 : decode cX12_sayNow 52 = .ok (.aload_n 0, 1) := by decide +kernel
theorem dX12_sayNow_53 : decode cX12_sayNow 53 = .ok (.getfield 67, 3) := by decide +kernel
theorem dX12_sayNow_56 : decode cX12_sayNow 56 = .ok (.bipush 16, 2) := by decide +kernel
theorem dX12_sayNow_58 : decode cX12_sayNow 58 = .ok (.aload_n 0, 1) := by decide +kernel
theorem dX12_sayNow_59 : decode cX12_sayNow 59 = .ok (.getfield 222, 3) := by decide +kernel
theorem dX12_sayNow_62 : decode cX12_sayNow 62 = .ok (.imul, 1) := by decide +kernel
theorem dX12_sayNow_63 : decode cX12_sayNow 63 = .ok (.iload_n 1, 1) := by decide +kernel
theorem dX12_sayNow_64 : decode cX12_sayNow 64 = .ok (.iadd, 1) := by decide +kernel
theorem dX12_sayNow_65 : decode cX12_sayNow 65 = .ok (.baload, 1) := by decide +kernel
theorem dX12_sayNow_66 : decode cX12_sayNow 66 = .ok (.ifCond .eq 19, 3) := by decide +kernel
theorem dX12_sayNow_69 : decode cX12_sayNow 69 = .ok (.aload_n 0, 1) := by decide +kernel
theorem dX12_sayNow_70 : decode cX12_sayNow 70 = .ok (.iload_n 1, 1) := by decide +kernel
theorem dX12_sayNow_71 : decode cX12_sayNow 71 = .ok (.invokevirtual 358, 3) := by decide +kernel
theorem dX12_sayNow_74 : decode cX12_sayNow 74 = .ok (.ifCond .eq 11, 3) := by decide +kernel
theorem dX12_sayNow_77 : decode cX12_sayNow 77 = .ok (.iload_n 3, 1) := by decide +kernel
theorem dX12_sayNow_78 : decode cX12_sayNow 78 = .ok (.ifCond .ne 7, 3) := by decide +kernel
theorem dX12_sayNow_81 : decode cX12_sayNow 81 = .ok (.iconst 1, 1) := by decide +kernel
theorem dX12_sayNow_82 : decode cX12_sayNow 82 = .ok (.goto 4, 3) := by decide +kernel
theorem dX12_sayNow_85 : decode cX12_sayNow 85 = .ok (.iconst 0, 1) := by decide +kernel
theorem dX12_sayNow_86 : decode cX12_sayNow 86 = .ok (.istore 4, 2) := by decide +kernel
theorem dX12_sayNow_88 : decode cX12_sayNow 88 = .ok (.iload 4, 2) := by decide +kernel
theorem dX12_sayNow_90 : decode cX12_sayNow 90 = .ok (.ifCond .eq 31, 3) := by decide +kernel
theorem dX12_sayNow_93 : decode cX12_sayNow 93 = .ok (.aload_n 0, 1) := by decide +kernel
theorem dX12_sayNow_94 : decode cX12_sayNow 94 = .ok (.iconst 1, 1) := by decide +kernel
theorem dX12_sayNow_95 : decode cX12_sayNow 95 = .ok (.iload_n 2, 1) := by decide +kernel
theorem dX12_sayNow_96 : decode cX12_sayNow 96 = .ok (.invokevirtual 361, 3) := by decide +kernel
theorem dX12_sayNow_99 : decode cX12_sayNow 99 = .ok (.istore 5, 2) := by decide +kernel
theorem dX12_sayNow_101 : decode cX12_sayNow 101 = .ok (.aload_n 0, 1) := by decide +kernel
theorem dX12_sayNow_102 : decode cX12_sayNow 102 = .ok (.getfield 119, 3) := by decide +kernel
theorem dX12_sayNow_105 : decode cX12_sayNow 105 = .ok (.bipush 20, 2) := by decide +kernel
theorem dX12_sayNow_107 : decode cX12_sayNow 107 = .ok (.iload_n 2, 1) := by decide +kernel
theorem dX12_sayNow_108 : decode cX12_sayNow 108 = .ok (.iadd, 1) := by decide +kernel
theorem dX12_sayNow_109 : decode cX12_sayNow 109 = .ok (.dup2, 1) := by decide +kernel
theorem dX12_sayNow_110 : decode cX12_sayNow 110 = .ok (.iaload, 1) := by decide +kernel
theorem dX12_sayNow_111 : decode cX12_sayNow 111 = .ok (.iload 5, 2) := by decide +kernel
theorem dX12_sayNow_113 : decode cX12_sayNow 113 = .ok (.iadd, 1) := by decide +kernel
theorem dX12_sayNow_114 : decode cX12_sayNow 114 = .ok (.iastore, 1) := by decide +kernel
theorem dX12_sayNow_115 : decode cX12_sayNow 115 = .ok (.aload_n 0, 1) := by decide +kernel
theorem dX12_sayNow_116 : decode cX12_sayNow 116 = .ok (.iload 5, 2) := by decide +kernel
theorem dX12_sayNow_118 : decode cX12_sayNow 118 = .ok (.invokevirtual 365, 3) := by decide +kernel
theorem dX12_sayNow_121 : decode cX12_sayNow 121 = .ok (.aload_n 0, 1) := by decide +kernel
theorem dX12_sayNow_122 : decode cX12_sayNow 122 = .ok (.iload_n 2, 1) := by decide +kernel
theorem dX12_sayNow_123 : decode cX12_sayNow 123 = .ok (.invokevirtual 368, 3) := by decide +kernel
theorem dX12_sayNow_126 : decode cX12_sayNow 126 = .ok (.ifCond .le 7, 3) := by decide +kernel
theorem dX12_sayNow_129 : decode cX12_sayNow 129 = .ok (.iconst 1, 1) := by decide +kernel
theorem dX12_sayNow_130 : decode cX12_sayNow 130 = .ok (.goto 13, 3) := by decide +kernel
theorem dX12_sayNow_133 : decode cX12_sayNow 133 = .ok (.iload 4, 2) := by decide +kernel
theorem dX12_sayNow_135 : decode cX12_sayNow 135 = .ok (.ifCond .eq 7, 3) := by decide +kernel
theorem dX12_sayNow_138 : decode cX12_sayNow 138 = .ok (.iconst 2, 1) := by decide +kernel
theorem dX12_sayNow_139 : decode cX12_sayNow 139 = .ok (.goto 4, 3) := by decide +kernel
theorem dX12_sayNow_142 : decode cX12_sayNow 142 = .ok (.iconst 0, 1) := by decide +kernel
theorem dX12_sayNow_143 : decode cX12_sayNow 143 = .ok (.ireturn, 1) := by decide +kernel
theorem dX12_settled_0 : decode cX12_settled 0 = .ok (.aload_n 0, 1) := by decide +kernel
theorem dX12_settled_1 : decode cX12_settled 1 = .ok (.iload_n 1, 1) := by decide +kernel
theorem dX12_settled_2 : decode cX12_settled 2 = .ok (.invokevirtual 388, 3) := by decide +kernel
theorem dX12_settled_5 : decode cX12_settled 5 = .ok (.ifCond .ne 5, 3) := by decide +kernel
theorem dX12_settled_8 : decode cX12_settled 8 = .ok (.iconst (-1), 1) := by decide +kernel
theorem dX12_settled_9 : decode cX12_settled 9 = .ok (.ireturn, 1) := by decide +kernel
theorem dX12_settled_10 : decode cX12_settled 10 = .ok (.iconst 0, 1) := by decide +kernel
theorem dX12_settled_11 : decode cX12_settled 11 = .ok (.istore_n 2, 1) := by decide +kernel
theorem dX12_settled_12 : decode cX12_settled 12 = .ok (.iconst 0, 1) := by decide +kernel
theorem dX12_settled_13 : decode cX12_settled 13 = .ok (.istore_n 3, 1) := by decide +kernel
theorem dX12_settled_14 : decode cX12_settled 14 = .ok (.iload_n 3, 1) := by decide +kernel
theorem dX12_settled_15 : decode cX12_settled 15 = .ok (.aload_n 0, 1) := by decide +kernel
theorem dX12_settled_16 : decode cX12_settled 16 = .ok (.getfield 61, 3) := by decide +kernel
theorem dX12_settled_19 : decode cX12_settled 19 = .ok (.aload_n 0, 1) := by decide +kernel
theorem dX12_settled_20 : decode cX12_settled 20 = .ok (.getfield 222, 3) := by decide +kernel
theorem dX12_settled_23 : decode cX12_settled 23 = .ok (.iaload, 1) := by decide +kernel
theorem dX12_settled_24 : decode cX12_settled 24 = .ok (.if_icmp .ge 23, 3) := by decide +kernel
theorem dX12_settled_27 : decode cX12_settled 27 = .ok (.aload_n 0, 1) := by decide +kernel
theorem dX12_settled_28 : decode cX12_settled 28 = .ok (.iload_n 3, 1) := by decide +kernel
theorem dX12_settled_29 : decode cX12_settled 29 = .ok (.invokevirtual 358, 3) := by decide +kernel
theorem dX12_settled_32 : decode cX12_settled 32 = .ok (.ifCond .eq 9, 3) := by decide +kernel
theorem dX12_settled_35 : decode cX12_settled 35 = .ok (.iload_n 2, 1) := by decide +kernel
theorem dX12_settled_36 : decode cX12_settled 36 = .ok (.iconst 1, 1) := by decide +kernel
theorem dX12_settled_37 : decode cX12_settled 37 = .ok (.iload_n 3, 1) := by decide +kernel
theorem dX12_settled_38 : decode cX12_settled 38 = .ok (.ishl, 1) := by decide +kernel
theorem dX12_settled_39 : decode cX12_settled 39 = .ok (.ior, 1) := by decide +kernel
theorem dX12_settled_40 : decode cX12_settled 40 = .ok (.istore_n 2, 1) := by decide +kernel
theorem dX12_settled_41 : decode cX12_settled 41 = .ok (.iinc 3 1, 3) := by decide +kernel
theorem dX12_settled_44 : decode cX12_settled 44 = .ok (.goto (-30), 3) := by decide +kernel
theorem dX12_settled_47 : decode cX12_settled 47 = .ok (.aload_n 0, 1) := by decide +kernel
theorem dX12_settled_48 : decode cX12_settled 48 = .ok (.iload_n 2, 1) := by decide +kernel
theorem dX12_settled_49 : decode cX12_settled 49 = .ok (.invokevirtual 429, 3) := by decide +kernel
theorem dX12_settled_52 : decode cX12_settled 52 = .ok (.aload_n 0, 1) := by decide +kernel
theorem dX12_settled_53 : decode cX12_settled 53 = .ok (.getfield 80, 3) := by decide +kernel
theorem dX12_settled_56 : decode cX12_settled 56 = .ok (.bipush 8, 2) := by decide +kernel
theorem dX12_settled_58 : decode cX12_settled 58 = .ok (.aload_n 0, 1) := by decide +kernel
theorem dX12_settled_59 : decode cX12_settled 59 = .ok (.getfield 222, 3) := by decide +kernel
theorem dX12_settled_62 : decode cX12_settled 62 = .ok (.imul, 1) := by decide +kernel
theorem dX12_settled_63 : decode cX12_settled 63 = .ok (.iload_n 1, 1) := by decide +kernel
theorem dX12_settled_64 : decode cX12_settled 64 = .ok (.iadd, 1) := by decide +kernel
theorem dX12_settled_65 : decode cX12_settled 65 = .ok (.laload, 1) := by decide +kernel
theorem dX12_settled_66 : decode cX12_settled 66 = .ok (.lstore_n 3, 1) := by decide +kernel
theorem dX12_settled_67 : decode cX12_settled 67 = .ok (.bipush (-2), 2) := by decide +kernel
theorem dX12_settled_69 : decode cX12_settled 69 = .ok (.istore 5, 2) := by decide +kernel
theorem dX12_settled_71 : decode cX12_settled 71 = .ok (.iconst 0, 1) := by decide +kernel
theorem dX12_settled_72 : decode cX12_settled 72 = .ok (.istore 6, 2) := by decide +kernel
theorem dX12_settled_74 : decode cX12_settled 74 = .ok (.iload 6, 2) := by decide +kernel
theorem dX12_settled_76 : decode cX12_settled 76 = .ok (.iconst 1, 1) := by decide +kernel
theorem dX12_settled_77 : decode cX12_settled 77 = .ok (.aload_n 0, 1) := by decide +kernel
theorem dX12_settled_78 : decode cX12_settled 78 = .ok (.getfield 61, 3) := by decide +kernel
theorem dX12_settled_81 : decode cX12_settled 81 = .ok (.aload_n 0, 1) := by decide +kernel
theorem dX12_settled_82 : decode cX12_settled 82 = .ok (.getfield 222, 3) := by decide +kernel
theorem dX12_settled_85 : decode cX12_settled 85 = .ok (.iaload, 1) := by decide +kernel
theorem dX12_settled_86 : decode cX12_settled 86 = .ok (.ishl, 1) := by decide +kernel
theorem dX12_settled_87 : decode cX12_settled 87 = .ok (.if_icmp .ge 71, 3) := by decide +kernel
theorem dX12_settled_90 : decode cX12_settled 90 = .ok (.iload 6, 2) := by decide +kernel
theorem dX12_settled_92 : decode cX12_settled 92 = .ok (.iload_n 2, 1) := by decide +kernel
theorem dX12_settled_93 : decode cX12_settled 93 = .ok (.iconst (-1), 1) := by decide +kernel
theorem dX12_settled_94 : decode cX12_settled 94 = .ok (.ixor, 1) := by decide +kernel
theorem dX12_settled_95 : decode cX12_settled 95 = .ok (.iand, 1) := by decide +kernel
theorem dX12_settled_96 : decode cX12_settled 96 = .ok (.ifCond .ne 56, 3) := by decide +kernel
theorem dX12_settled_99 : decode cX12_settled 99 = .ok (.iload 5, 2) := by decide +kernel
theorem dX12_settled_101 : decode cX12_settled 101 = .ok (.ifCond .lt 19, 3) := by decide +kernel
theorem dX12_settled_104 : decode cX12_settled 104 = .ok (.iload 6, 2) := by decide +kernel
theorem dX12_settled_106 : decode cX12_settled 106 = .ok (.invokestatic 346, 3) := by decide +kernel
theorem dX12_settled_109 : decode cX12_settled 109 = .ok (.iload 5, 2) := by decide +kernel
theorem dX12_settled_111 : decode cX12_settled 111 = .ok (.invokestatic 346, 3) := by decide +kernel
theorem dX12_settled_114 : decode cX12_settled 114 = .ok (.if_icmp .lt 6, 3) := by decide +kernel
theorem dX12_settled_117 : decode cX12_settled 117 = .ok (.goto 35, 3) := by decide +kernel
theorem dX12_settled_120 : decode cX12_settled 120 = .ok (.aload_n 0, 1) := by decide +kernel
theorem dX12_settled_121 : decode cX12_settled 121 = .ok (.getfield 135, 3) := by decide +kernel
theorem dX12_settled_124 : decode cX12_settled 124 = .ok (.iload 6, 2) := by decide +kernel
theorem dX12_settled_126 : decode cX12_settled 126 = .ok (.laload, 1) := by decide +kernel
theorem dX12_settled_127 : decode cX12_settled 127 = .ok (.lstore 7, 2) := by decide +kernel
theorem dX12_settled_129 : decode cX12_settled 129 = .ok (.lload 7, 2) := by decide +kernel
theorem dX12_settled_131 : decode cX12_settled 131 = .ok (.lload_n 3, 1) := by decide +kernel
theorem dX12_settled_132 : decode cX12_settled 132 = .ok (.land, 1) := by decide +kernel
theorem dX12_settled_133 : decode cX12_settled 133 = .ok (.lload 7, 2) := by decide +kernel
theorem dX12_settled_135 : decode cX12_settled 135 = .ok (.lcmp, 1) := by decide +kernel
theorem dX12_settled_136 : decode cX12_settled 136 = .ok (.ifCond .eq 12, 3) := by decide +kernel
theorem dX12_settled_139 : decode cX12_settled 139 = .ok (.lload 7, 2) := by decide +kernel
theorem dX12_settled_141 : decode cX12_settled 141 = .ok (.lload_n 3, 1) := by decide +kernel
theorem dX12_settled_142 : decode cX12_settled 142 = .ok (.land, 1) := by decide +kernel
theorem dX12_settled_143 : decode cX12_settled 143 = .ok (.lconst 0, 1) := by decide +kernel
theorem dX12_settled_144 : decode cX12_settled 144 = .ok (.lcmp, 1) := by decide +kernel
theorem dX12_settled_145 : decode cX12_settled 145 = .ok (.ifCond .ne 7, 3) := by decide +kernel
theorem dX12_settled_148 : decode cX12_settled 148 = .ok (.iload 6, 2) := by decide +kernel
theorem dX12_settled_150 : decode cX12_settled 150 = .ok (.istore 5, 2) := by decide +kernel
theorem dX12_settled_152 : decode cX12_settled 152 = .ok (.iinc 6 1, 3) := by decide +kernel
theorem dX12_settled_155 : decode cX12_settled 155 = .ok (.goto (-81), 3) := by decide +kernel
theorem dX12_settled_158 : decode cX12_settled 158 = .ok (.iload 5, 2) := by decide +kernel
theorem dX12_settled_160 : decode cX12_settled 160 = .ok (.ireturn, 1) := by decide +kernel
theorem dX12_share_0 : decode cX12_share 0 = .ok (.aload_n 0, 1) := by decide +kernel
theorem dX12_share_1 : decode cX12_share 1 = .ok (.iload_n 1, 1) := by decide +kernel
theorem dX12_share_2 : decode cX12_share 2 = .ok (.invokevirtual 381, 3) := by decide +kernel
theorem dX12_share_5 : decode cX12_share 5 = .ok (.ifCond .eq 15, 3) := by decide +kernel
theorem dX12_share_8 : decode cX12_share 8 = .ok (.aload_n 0, 1) := by decide +kernel
theorem dX12_share_9 : decode cX12_share 9 = .ok (.getfield 116, 3) := by decide +kernel
theorem dX12_share_12 : decode cX12_share 12 = .ok (.bipush 20, 2) := by decide +kernel
theorem dX12_share_14 : decode cX12_share 14 = .ok (.iload_n 1, 1) := by decide +kernel
theorem dX12_share_15 : decode cX12_share 15 = .ok (.iadd, 1) := by decide +kernel
theorem dX12_share_16 : decode cX12_share 16 = .ok (.iaload, 1) := by decide +kernel
theorem dX12_share_17 : decode cX12_share 17 = .ok (.goto 6, 3) := by decide +kernel
theorem dX12_share_20 : decode cX12_share 20 = .ok (.ldc_w 387, 3) := by decide +kernel
theorem dX12_share_23 : decode cX12_share 23 = .ok (.ireturn, 1) := by decide +kernel
theorem dX12_sign_0 : decode cX12_sign 0 = .ok (.iload_n 2, 1) := by decide +kernel
theorem dX12_sign_1 : decode cX12_sign 1 = .ok (.bipush 59, 2) := by decide +kernel
theorem dX12_sign_3 : decode cX12_sign 3 = .ok (.if_icmp .ne 7, 3) := by decide +kernel
theorem dX12_sign_6 : decode cX12_sign 6 = .ok (.iconst 4, 1) := by decide +kernel
theorem dX12_sign_7 : decode cX12_sign 7 = .ok (.goto 36, 3) := by decide +kernel
theorem dX12_sign_10 : decode cX12_sign 10 = .ok (.iload_n 2, 1) := by decide +kernel
theorem dX12_sign_11 : decode cX12_sign 11 = .ok (.bipush 61, 2) := by decide +kernel
theorem dX12_sign_13 : decode cX12_sign 13 = .ok (.if_icmp .ne 7, 3) := by decide +kernel
theorem dX12_sign_16 : decode cX12_sign 16 = .ok (.iconst 5, 1) := by decide +kernel
theorem dX12_sign_17 : decode cX12_sign 17 = .ok (.goto 26, 3) := by decide +kernel
theorem dX12_sign_20 : decode cX12_sign 20 = .ok (.iload_n 2, 1) := by decide +kernel
theorem dX12_sign_21 : decode cX12_sign 21 = .ok (.bipush 40, 2) := by decide +kernel
theorem dX12_sign_23 : decode cX12_sign 23 = .ok (.if_icmp .ne 8, 3) := by decide +kernel
theorem dX12_sign_26 : decode cX12_sign 26 = .ok (.bipush 6, 2) := by decide +kernel
theorem dX12_sign_28 : decode cX12_sign 28 = .ok (.goto 15, 3) := by decide +kernel
theorem dX12_sign_31 : decode cX12_sign 31 = .ok (.iload_n 2, 1) := by decide +kernel
theorem dX12_sign_32 : decode cX12_sign 32 = .ok (.bipush 41, 2) := by decide +kernel
theorem dX12_sign_34 : decode cX12_sign 34 = .ok (.if_icmp .ne 8, 3) := by decide +kernel
theorem dX12_sign_37 : decode cX12_sign 37 = .ok (.bipush 7, 2) := by decide +kernel
theorem dX12_sign_39 : decode cX12_sign 39 = .ok (.goto 4, 3) := by decide +kernel
theorem dX12_sign_42 : decode cX12_sign 42 = .ok (.iconst 3, 1) := by decide +kernel
theorem dX12_sign_43 : decode cX12_sign 43 = .ok (.istore 4, 2) := by decide +kernel
theorem dX12_sign_45 : decode cX12_sign 45 = .ok (.iload_n 2, 1) := by decide +kernel
theorem dX12_sign_46 : decode cX12_sign 46 = .ok (.bipush 43, 2) := by decide +kernel
theorem dX12_sign_48 : decode cX12_sign 48 = .ok (.if_icmp .ne 7, 3) := by decide +kernel
theorem dX12_sign_51 : decode cX12_sign 51 = .ok (.bipush 8, 2) := by decide +kernel
theorem dX12_sign_53 : decode cX12_sign 53 = .ok (.istore 4, 2) := by decide +kernel
theorem dX12_sign_55 : decode cX12_sign 55 = .ok (.iload_n 2, 1) := by decide +kernel
theorem dX12_sign_56 : decode cX12_sign 56 = .ok (.bipush 45, 2) := by decide +kernel
theorem dX12_sign_58 : decode cX12_sign 58 = .ok (.if_icmp .ne 7, 3) := by decide +kernel
theorem dX12_sign_61 : decode cX12_sign 61 = .ok (.bipush 9, 2) := by decide +kernel
theorem dX12_sign_63 : decode cX12_sign 63 = .ok (.istore 4, 2) := by decide +kernel
theorem dX12_sign_65 : decode cX12_sign 65 = .ok (.iload_n 2, 1) := by decide +kernel
theorem dX12_sign_66 : decode cX12_sign 66 = .ok (.bipush 42, 2) := by decide +kernel
theorem dX12_sign_68 : decode cX12_sign 68 = .ok (.if_icmp .ne 7, 3) := by decide +kernel
theorem dX12_sign_71 : decode cX12_sign 71 = .ok (.bipush 10, 2) := by decide +kernel
theorem dX12_sign_73 : decode cX12_sign 73 = .ok (.istore 4, 2) := by decide +kernel
theorem dX12_sign_75 : decode cX12_sign 75 = .ok (.iload_n 2, 1) := by decide +kernel
theorem dX12_sign_76 : decode cX12_sign 76 = .ok (.bipush 47, 2) := by decide +kernel
theorem dX12_sign_78 : decode cX12_sign 78 = .ok (.if_icmp .ne 7, 3) := by decide +kernel
theorem dX12_sign_81 : decode cX12_sign 81 = .ok (.bipush 15, 2) := by decide +kernel
theorem dX12_sign_83 : decode cX12_sign 83 = .ok (.istore 4, 2) := by decide +kernel
theorem dX12_sign_85 : decode cX12_sign 85 = .ok (.aload_n 0, 1) := by decide +kernel
theorem dX12_sign_86 : decode cX12_sign 86 = .ok (.iload 4, 2) := by decide +kernel
theorem dX12_sign_88 : decode cX12_sign 88 = .ok (.iload_n 1, 1) := by decide +kernel
theorem dX12_sign_89 : decode cX12_sign 89 = .ok (.iconst 0, 1) := by decide +kernel
theorem dX12_sign_90 : decode cX12_sign 90 = .ok (.lconst 0, 1) := by decide +kernel
theorem dX12_sign_91 : decode cX12_sign 91 = .ok (.invokevirtual 177, 3) := by decide +kernel
theorem dX12_sign_94 : decode cX12_sign 94 = .ok (.iconst 1, 1) := by decide +kernel
theorem dX12_sign_95 : decode cX12_sign 95 = .ok (.ireturn, 1) := by decide +kernel
theorem dX12_smallest_0 : decode cX12_smallest 0 = .ok (.aload_n 0, 1) := by decide +kernel
theorem dX12_smallest_1 : decode cX12_smallest 1 = .ok (.ldc_w 428, 3) := by decide +kernel
theorem dX12_smallest_4 : decode cX12_smallest 4 = .ok (.invokevirtual 429, 3) := by decide +kernel
theorem dX12_smallest_7 : decode cX12_smallest 7 = .ok (.bipush (-2), 2) := by decide +kernel
theorem dX12_smallest_9 : decode cX12_smallest 9 = .ok (.istore_n 1, 1) := by decide +kernel
theorem dX12_smallest_10 : decode cX12_smallest 10 = .ok (.iconst 1, 1) := by decide +kernel
theorem dX12_smallest_11 : decode cX12_smallest 11 = .ok (.istore_n 2, 1) := by decide +kernel
theorem dX12_smallest_12 : decode cX12_smallest 12 = .ok (.iload_n 2, 1) := by decide +kernel
theorem dX12_smallest_13 : decode cX12_smallest 13 = .ok (.iconst 1, 1) := by decide +kernel
theorem dX12_smallest_14 : decode cX12_smallest 14 = .ok (.aload_n 0, 1) := by decide +kernel
theorem dX12_smallest_15 : decode cX12_smallest 15 = .ok (.getfield 61, 3) := by decide +kernel
theorem dX12_smallest_18 : decode cX12_smallest 18 = .ok (.aload_n 0, 1) := by decide +kernel
theorem dX12_smallest_19 : decode cX12_smallest 19 = .ok (.getfield 222, 3) := by decide +kernel
theorem dX12_smallest_22 : decode cX12_smallest 22 = .ok (.iaload, 1) := by decide +kernel
theorem dX12_smallest_23 : decode cX12_smallest 23 = .ok (.ishl, 1) := by decide +kernel
theorem dX12_smallest_24 : decode cX12_smallest 24 = .ok (.if_icmp .ge 37, 3) := by decide +kernel
theorem dX12_smallest_27 : decode cX12_smallest 27 = .ok (.aload_n 0, 1) := by decide +kernel
theorem dX12_smallest_28 : decode cX12_smallest 28 = .ok (.getfield 135, 3) := by decide +kernel
theorem dX12_smallest_31 : decode cX12_smallest 31 = .ok (.iload_n 2, 1) := by decide +kernel
theorem dX12_smallest_32 : decode cX12_smallest 32 = .ok (.laload, 1) := by decide +kernel
theorem dX12_smallest_33 : decode cX12_smallest 33 = .ok (.lconst 0, 1) := by decide +kernel
theorem dX12_smallest_34 : decode cX12_smallest 34 = .ok (.lcmp, 1) := by decide +kernel
theorem dX12_smallest_35 : decode cX12_smallest 35 = .ok (.ifCond .ne 20, 3) := by decide +kernel
theorem dX12_smallest_38 : decode cX12_smallest 38 = .ok (.iload_n 1, 1) := by decide +kernel
theorem dX12_smallest_39 : decode cX12_smallest 39 = .ok (.ifCond .lt 14, 3) := by decide +kernel
theorem dX12_smallest_42 : decode cX12_smallest 42 = .ok (.iload_n 2, 1) := by decide +kernel
theorem dX12_smallest_43 : decode cX12_smallest 43 = .ok (.invokestatic 346, 3) := by decide +kernel
theorem dX12_smallest_46 : decode cX12_smallest 46 = .ok (.iload_n 1, 1) := by decide +kernel
theorem dX12_smallest_47 : decode cX12_smallest 47 = .ok (.invokestatic 346, 3) := by decide +kernel
theorem dX12_smallest_50 : decode cX12_smallest 50 = .ok (.if_icmp .ge 5, 3) := by decide +kernel
theorem dX12_smallest_53 : decode cX12_smallest 53 = .ok (.iload_n 2, 1) := by decide +kernel
theorem dX12_smallest_54 : decode cX12_smallest 54 = .ok (.istore_n 1, 1) := by decide +kernel
theorem dX12_smallest_55 : decode cX12_smallest 55 = .ok (.iinc 2 1, 3) := by decide +kernel
theorem dX12_smallest_58 : decode cX12_smallest 58 = .ok (.goto (-46), 3) := by decide +kernel
theorem dX12_smallest_61 : decode cX12_smallest 61 = .ok (.iload_n 1, 1) := by decide +kernel
theorem dX12_smallest_62 : decode cX12_smallest 62 = .ok (.ireturn, 1) := by decide +kernel
theorem dX12_stand_0 : decode cX12_stand 0 = .ok (.aload_n 0, 1) := by decide +kernel
theorem dX12_stand_1 : decode cX12_stand 1 = .ok (.aload_n 0, 1) := by decide +kernel
theorem dX12_stand_2 : decode cX12_stand 2 = .ok (.getfield 119, 3) := by decide +kernel
theorem dX12_stand_5 : decode cX12_stand 5 = .ok (.iconst 3, 1) := by decide +kernel
theorem dX12_stand_6 : decode cX12_stand 6 = .ok (.iaload, 1) := by decide +kernel
theorem dX12_stand_7 : decode cX12_stand 7 = .ok (.invokevirtual 330, 3) := by decide +kernel
theorem dX12_stand_10 : decode cX12_stand 10 = .ok (.lstore_n 2, 1) := by decide +kernel
theorem dX12_stand_11 : decode cX12_stand 11 = .ok (.iconst 0, 1) := by decide +kernel
theorem dX12_stand_12 : decode cX12_stand 12 = .ok (.istore 4, 2) := by decide +kernel
theorem dX12_stand_14 : decode cX12_stand 14 = .ok (.iload 4, 2) := by decide +kernel
theorem dX12_stand_16 : decode cX12_stand 16 = .ok (.aload_n 0, 1) := by decide +kernel
theorem dX12_stand_17 : decode cX12_stand 17 = .ok (.getfield 61, 3) := by decide +kernel
theorem dX12_stand_20 : decode cX12_stand 20 = .ok (.aload_n 0, 1) := by decide +kernel
theorem dX12_stand_21 : decode cX12_stand 21 = .ok (.getfield 222, 3) := by decide +kernel
theorem dX12_stand_24 : decode cX12_stand 24 = .ok (.iaload, 1) := by decide +kernel
theorem dX12_stand_25 : decode cX12_stand 25 = .ok (.if_icmp .ge 47, 3) := by decide +kernel
theorem dX12_stand_28 : decode cX12_stand 28 = .ok (.aload_n 0, 1) := by decide +kernel
theorem dX12_stand_29 : decode cX12_stand 29 = .ok (.getfield 119, 3) := by decide +kernel
theorem dX12_stand_32 : decode cX12_stand 32 = .ok (.iconst 1, 1) := by decide +kernel
theorem dX12_stand_33 : decode cX12_stand 33 = .ok (.iaload, 1) := by decide +kernel
theorem dX12_stand_34 : decode cX12_stand 34 = .ok (.aload_n 0, 1) := by decide +kernel
theorem dX12_stand_35 : decode cX12_stand 35 = .ok (.getfield 119, 3) := by decide +kernel
theorem dX12_stand_38 : decode cX12_stand 38 = .ok (.iconst 2, 1) := by decide +kernel
theorem dX12_stand_39 : decode cX12_stand 39 = .ok (.iaload, 1) := by decide +kernel
theorem dX12_stand_40 : decode cX12_stand 40 = .ok (.iconst (-1), 1) := by decide +kernel
theorem dX12_stand_41 : decode cX12_stand 41 = .ok (.ixor, 1) := by decide +kernel
theorem dX12_stand_42 : decode cX12_stand 42 = .ok (.iand, 1) := by decide +kernel
theorem dX12_stand_43 : decode cX12_stand 43 = .ok (.aload_n 0, 1) := by decide +kernel
theorem dX12_stand_44 : decode cX12_stand 44 = .ok (.iload_n 1, 1) := by decide +kernel
theorem dX12_stand_45 : decode cX12_stand 45 = .ok (.invokevirtual 343, 3) := by decide +kernel
theorem dX12_stand_48 : decode cX12_stand 48 = .ok (.iand, 1) := by decide +kernel
theorem dX12_stand_49 : decode cX12_stand 49 = .ok (.iconst 1, 1) := by decide +kernel
theorem dX12_stand_50 : decode cX12_stand 50 = .ok (.iload 4, 2) := by decide +kernel
theorem dX12_stand_52 : decode cX12_stand 52 = .ok (.ishl, 1) := by decide +kernel
theorem dX12_stand_53 : decode cX12_stand 53 = .ok (.iand, 1) := by decide +kernel
theorem dX12_stand_54 : decode cX12_stand 54 = .ok (.ifCond .eq 12, 3) := by decide +kernel
theorem dX12_stand_57 : decode cX12_stand 57 = .ok (.lload_n 2, 1) := by decide +kernel
theorem dX12_stand_58 : decode cX12_stand 58 = .ok (.aload_n 0, 1) := by decide +kernel
theorem dX12_stand_59 : decode cX12_stand 59 = .ok (.iload 4, 2) := by decide +kernel
theorem dX12_stand_61 : decode cX12_stand 61 = .ok (.invokevirtual 327, 3) := by decide +kernel
theorem dX12_stand_64 : decode cX12_stand 64 = .ok (.land, 1) := by decide +kernel
theorem dX12_stand_65 : decode cX12_stand 65 = .ok (.lstore_n 2, 1) := by decide +kernel
theorem dX12_stand_66 : decode cX12_stand 66 = .ok (.iinc 4 1, 3) := by decide +kernel
theorem dX12_stand_69 : decode cX12_stand 69 = .ok (.goto (-55), 3) := by decide +kernel
theorem dX12_stand_72 : decode cX12_stand 72 = .ok (.lload_n 2, 1) := by decide +kernel
theorem dX12_stand_73 : decode cX12_stand 73 = .ok (.lconst 0, 1) := by decide +kernel
theorem dX12_stand_74 : decode cX12_stand 74 = .ok (.lcmp, 1) := by decide +kernel
theorem dX12_stand_75 : decode cX12_stand 75 = .ok (.ifCond .eq 7, 3) := by decide +kernel
theorem dX12_stand_78 : decode cX12_stand 78 = .ok (.iconst 1, 1) := by decide +kernel
theorem dX12_stand_79 : decode cX12_stand 79 = .ok (.goto 4, 3) := by decide +kernel
theorem dX12_stand_82 : decode cX12_stand 82 = .ok (.iconst 0, 1) := by decide +kernel
theorem dX12_stand_83 : decode cX12_stand 83 = .ok (.ireturn, 1) := by decide +kernel
theorem dX12_states_0 : decode cX12_states 0 = .ok (.aload_n 0, 1) := by decide +kernel
theorem dX12_states_1 : decode cX12_states 1 = .ok (.iload_n 1, 1) := by decide +kernel
theorem dX12_states_2 : decode cX12_states 2 = .ok (.invokevirtual 420, 3) := by decide +kernel
theorem dX12_states_5 : decode cX12_states 5 = .ok (.ifCond .ne 5, 3) := by decide +kernel
theorem dX12_states_8 : decode cX12_states 8 = .ok (.iconst (-1), 1) := by decide +kernel
theorem dX12_states_9 : decode cX12_states 9 = .ok (.ireturn, 1) := by decide +kernel
theorem dX12_states_10 : decode cX12_states 10 = .ok (.aload_n 0, 1) := by decide +kernel
theorem dX12_states_11 : decode cX12_states 11 = .ok (.aload_n 0, 1) := by decide +kernel
theorem dX12_states_12 : decode cX12_states 12 = .ok (.getfield 116, 3) := by decide +kernel
theorem dX12_states_15 : decode cX12_states 15 = .ok (.iconst 3, 1) := by decide +kernel
theorem dX12_states_16 : decode cX12_states 16 = .ok (.iaload, 1) := by decide +kernel
theorem dX12_states_17 : decode cX12_states 17 = .ok (.invokevirtual 330, 3) := by decide +kernel
theorem dX12_states_20 : decode cX12_states 20 = .ok (.lstore_n 2, 1) := by decide +kernel
theorem dX12_states_21 : decode cX12_states 21 = .ok (.iconst 0, 1) := by decide +kernel
theorem dX12_states_22 : decode cX12_states 22 = .ok (.istore 4, 2) := by decide +kernel
theorem dX12_states_24 : decode cX12_states 24 = .ok (.iload 4, 2) := by decide +kernel
theorem dX12_states_26 : decode cX12_states 26 = .ok (.aload_n 0, 1) := by decide +kernel
theorem dX12_states_27 : decode cX12_states 27 = .ok (.getfield 61, 3) := by decide +kernel
theorem dX12_states_30 : decode cX12_states 30 = .ok (.aload_n 0, 1) := by decide +kernel
theorem dX12_states_31 : decode cX12_states 31 = .ok (.getfield 222, 3) := by decide +kernel
theorem dX12_states_34 : decode cX12_states 34 = .ok (.iaload, 1) := by decide +kernel
theorem dX12_states_35 : decode cX12_states 35 = .ok (.if_icmp .ge 28, 3) := by decide +kernel
theorem dX12_states_38 : decode cX12_states 38 = .ok (.iload_n 1, 1) := by decide +kernel
theorem dX12_states_39 : decode cX12_states 39 = .ok (.iload 4, 2) := by decide +kernel
theorem dX12_states_41 : decode cX12_states 41 = .ok (.ishr, 1) := by decide +kernel
theorem dX12_states_42 : decode cX12_states 42 = .ok (.iconst 1, 1) := by decide +kernel
theorem dX12_states_43 : decode cX12_states 43 = .ok (.iand, 1) := by decide +kernel
theorem dX12_states_44 : decode cX12_states 44 = .ok (.iconst 1, 1) := by decide +kernel
theorem dX12_states_45 : decode cX12_states 45 = .ok (.if_icmp .ne 12, 3) := by decide +kernel
theorem dX12_states_48 : decode cX12_states 48 = .ok (.lload_n 2, 1) := by decide +kernel
theorem dX12_states_49 : decode cX12_states 49 = .ok (.aload_n 0, 1) := by decide +kernel
theorem dX12_states_50 : decode cX12_states 50 = .ok (.iload 4, 2) := by decide +kernel
theorem dX12_states_52 : decode cX12_states 52 = .ok (.invokevirtual 327, 3) := by decide +kernel
theorem dX12_states_55 : decode cX12_states 55 = .ok (.land, 1) := by decide +kernel
theorem dX12_states_56 : decode cX12_states 56 = .ok (.lstore_n 2, 1) := by decide +kernel
theorem dX12_states_57 : decode cX12_states 57 = .ok (.iinc 4 1, 3) := by decide +kernel
theorem dX12_states_60 : decode cX12_states 60 = .ok (.goto (-36), 3) := by decide +kernel
theorem dX12_states_63 : decode cX12_states 63 = .ok (.lload_n 2, 1) := by decide +kernel
theorem dX12_states_64 : decode cX12_states 64 = .ok (.invokestatic 377, 3) := by decide +kernel
theorem dX12_states_67 : decode cX12_states 67 = .ok (.ireturn, 1) := by decide +kernel
theorem dX12_statesOf_0 : decode cX12_statesOf 0 = .ok (.lconst 0, 1) := by decide +kernel
theorem dX12_statesOf_1 : decode cX12_statesOf 1 = .ok (.lstore_n 1, 1) := by decide +kernel
theorem dX12_statesOf_2 : decode cX12_statesOf 2 = .ok (.iconst 0, 1) := by decide +kernel
theorem dX12_statesOf_3 : decode cX12_statesOf 3 = .ok (.istore_n 3, 1) := by decide +kernel
theorem dX12_statesOf_4 : decode cX12_statesOf 4 = .ok (.iload_n 3, 1) := by decide +kernel
theorem dX12_statesOf_5 : decode cX12_statesOf 5 = .ok (.bipush 64, 2) := by decide +kernel
theorem dX12_statesOf_7 : decode cX12_statesOf 7 = .ok (.if_icmp .ge 24, 3) := by decide +kernel
theorem dX12_statesOf_10 : decode cX12_statesOf 10 = .ok (.iload_n 3, 1) := by decide +kernel
theorem dX12_statesOf_11 : decode cX12_statesOf 11 = .ok (.iload_n 0, 1) := by decide +kernel
theorem dX12_statesOf_12 : decode cX12_statesOf 12 = .ok (.ishr, 1) := by decide +kernel
theorem dX12_statesOf_13 : decode cX12_statesOf 13 = .ok (.iconst 1, 1) := by decide +kernel
theorem dX12_statesOf_14 : decode cX12_statesOf 14 = .ok (.iand, 1) := by decide +kernel
theorem dX12_statesOf_15 : decode cX12_statesOf 15 = .ok (.iconst 1, 1) := by decide +kernel
theorem dX12_statesOf_16 : decode cX12_statesOf 16 = .ok (.if_icmp .ne 9, 3) := by decide +kernel
theorem dX12_statesOf_19 : decode cX12_statesOf 19 = .ok (.lload_n 1, 1) := by decide +kernel
theorem dX12_statesOf_20 : decode cX12_statesOf 20 = .ok (.lconst 1, 1) := by decide +kernel
theorem dX12_statesOf_21 : decode cX12_statesOf 21 = .ok (.iload_n 3, 1) := by decide +kernel
theorem dX12_statesOf_22 : decode cX12_statesOf 22 = .ok (.lshl, 1) := by decide +kernel
theorem dX12_statesOf_23 : decode cX12_statesOf 23 = .ok (.lor, 1) := by decide +kernel
theorem dX12_statesOf_24 : decode cX12_statesOf 24 = .ok (.lstore_n 1, 1) := by decide +kernel
theorem dX12_statesOf_25 : decode cX12_statesOf 25 = .ok (.iinc 3 1, 3) := by decide +kernel
theorem dX12_statesOf_28 : decode cX12_statesOf 28 = .ok (.goto (-24), 3) := by decide +kernel
theorem dX12_statesOf_31 : decode cX12_statesOf 31 = .ok (.lload_n 1, 1) := by decide +kernel
theorem dX12_statesOf_32 : decode cX12_statesOf 32 = .ok (.lreturn, 1) := by decide +kernel
theorem dX12_surely_0 : decode cX12_surely 0 = .ok (.iload_n 1, 1) := by decide +kernel
theorem dX12_surely_1 : decode cX12_surely 1 = .ok (.iconst 0, 1) := by decide +kernel
theorem dX12_surely_2 : decode cX12_surely 2 = .ok (.aload_n 0, 1) := by decide +kernel
theorem dX12_surely_3 : decode cX12_surely 3 = .ok (.getfield 243, 3) := by decide +kernel
theorem dX12_surely_6 : decode cX12_surely 6 = .ok (.invokestatic 323, 3) := by decide +kernel
theorem dX12_surely_9 : decode cX12_surely 9 = .ok (.ifCond .ne 5, 3) := by decide +kernel
theorem dX12_surely_12 : decode cX12_surely 12 = .ok (.iconst (-1), 1) := by decide +kernel
theorem dX12_surely_13 : decode cX12_surely 13 = .ok (.ireturn, 1) := by decide +kernel
theorem dX12_surely_14 : decode cX12_surely 14 = .ok (.aload_n 0, 1) := by decide +kernel
theorem dX12_surely_15 : decode cX12_surely 15 = .ok (.iload_n 1, 1) := by decide +kernel
theorem dX12_surely_16 : decode cX12_surely 16 = .ok (.invokevirtual 445, 3) := by decide +kernel
theorem dX12_surely_19 : decode cX12_surely 19 = .ok (.aload_n 0, 1) := by decide +kernel
theorem dX12_surely_20 : decode cX12_surely 20 = .ok (.getfield 436, 3) := by decide +kernel
theorem dX12_surely_23 : decode cX12_surely 23 = .ok (.ireturn, 1) := by decide +kernel
theorem dX12_takes_0 : decode cX12_takes 0 = .ok (.lload_n 1, 1) := by decide +kernel
theorem dX12_takes_1 : decode cX12_takes 1 = .ok (.lstore_n 3, 1) := by decide +kernel
theorem dX12_takes_2 : decode cX12_takes 2 = .ok (.iconst 1, 1) := by decide +kernel
theorem dX12_takes_3 : decode cX12_takes 3 = .ok (.istore 5, 2) := by decide +kernel
theorem dX12_takes_5 : decode cX12_takes 5 = .ok (.iload 5, 2) := by decide +kernel
theorem dX12_takes_7 : decode cX12_takes 7 = .ok (.ifCond .eq 158, 3) := by decide +kernel
theorem dX12_takes_10 : decode cX12_takes 10 = .ok (.aload_n 0, 1) := by decide +kernel
theorem dX12_takes_11 : decode cX12_takes 11 = .ok (.getfield 101, 3) := by decide +kernel
theorem dX12_takes_14 : decode cX12_takes 14 = .ok (.aload_n 0, 1) := by decide +kernel
theorem dX12_takes_15 : decode cX12_takes 15 = .ok (.getfield 219, 3) := by decide +kernel
theorem dX12_takes_18 : decode cX12_takes 18 = .ok (.dup2, 1) := by decide +kernel
theorem dX12_takes_19 : decode cX12_takes 19 = .ok (.laload, 1) := by decide +kernel
theorem dX12_takes_20 : decode cX12_takes 20 = .ok (.aload_n 0, 1) := by decide +kernel
theorem dX12_takes_21 : decode cX12_takes 21 = .ok (.getfield 104, 3) := by decide +kernel
theorem dX12_takes_24 : decode cX12_takes 24 = .ok (.aload_n 0, 1) := by decide +kernel
theorem dX12_takes_25 : decode cX12_takes 25 = .ok (.getfield 219, 3) := by decide +kernel
theorem dX12_takes_28 : decode cX12_takes 28 = .ok (.baload, 1) := by decide +kernel
theorem dX12_takes_29 : decode cX12_takes 29 = .ok (.ifCond .eq 11, 3) := by decide +kernel
theorem dX12_takes_32 : decode cX12_takes 32 = .ok (.lload_n 3, 1) := by decide +kernel
theorem dX12_takes_33 : decode cX12_takes 33 = .ok (.ldc2_w 290, 3) := by decide +kernel
theorem dX12_takes_36 : decode cX12_takes 36 = .ok (.lxor, 1) := by decide +kernel
theorem dX12_takes_37 : decode cX12_takes 37 = .ok (.goto 4, 3) := by decide +kernel
theorem dX12_takes_40 : decode cX12_takes 40 = .ok (.lload_n 3, 1) := by decide +kernel
theorem dX12_takes_41 : decode cX12_takes 41 = .ok (.land, 1) := by decide +kernel
theorem dX12_takes_42 : decode cX12_takes 42 = .ok (.lastore, 1) := by decide +kernel
theorem dX12_takes_43 : decode cX12_takes 43 = .ok (.aload_n 0, 1) := by decide +kernel
theorem dX12_takes_44 : decode cX12_takes 44 = .ok (.bipush 32, 2) := by decide +kernel
theorem dX12_takes_46 : decode cX12_takes 46 = .ok (.invokevirtual 210, 3) := by decide +kernel
theorem dX12_takes_49 : decode cX12_takes 49 = .ok (.ifCond .eq 9, 3) := by decide +kernel
theorem dX12_takes_52 : decode cX12_takes 52 = .ok (.aload_n 0, 1) := by decide +kernel
theorem dX12_takes_53 : decode cX12_takes 53 = .ok (.invokevirtual 213, 3) := by decide +kernel
theorem dX12_takes_56 : decode cX12_takes 56 = .ok (.iconst 1, 1) := by decide +kernel
theorem dX12_takes_57 : decode cX12_takes 57 = .ok (.ireturn, 1) := by decide +kernel
theorem dX12_takes_58 : decode cX12_takes 58 = .ok (.aload_n 0, 1) := by decide +kernel
theorem dX12_takes_59 : decode cX12_takes 59 = .ok (.getfield 98, 3) := by decide +kernel
theorem dX12_takes_62 : decode cX12_takes 62 = .ok (.aload_n 0, 1) := by decide +kernel
theorem dX12_takes_63 : decode cX12_takes 63 = .ok (.getfield 219, 3) := by decide +kernel
theorem dX12_takes_66 : decode cX12_takes 66 = .ok (.dup2, 1) := by decide +kernel
theorem dX12_takes_67 : decode cX12_takes 67 = .ok (.laload, 1) := by decide +kernel
theorem dX12_takes_68 : decode cX12_takes 68 = .ok (.aload_n 0, 1) := by decide +kernel
theorem dX12_takes_69 : decode cX12_takes 69 = .ok (.getfield 101, 3) := by decide +kernel
theorem dX12_takes_72 : decode cX12_takes 72 = .ok (.aload_n 0, 1) := by decide +kernel
theorem dX12_takes_73 : decode cX12_takes 73 = .ok (.getfield 219, 3) := by decide +kernel
theorem dX12_takes_76 : decode cX12_takes 76 = .ok (.laload, 1) := by decide +kernel
theorem dX12_takes_77 : decode cX12_takes 77 = .ok (.lor, 1) := by decide +kernel
theorem dX12_takes_78 : decode cX12_takes 78 = .ok (.lastore, 1) := by decide +kernel
theorem dX12_takes_79 : decode cX12_takes 79 = .ok (.aload_n 0, 1) := by decide +kernel
theorem dX12_takes_80 : decode cX12_takes 80 = .ok (.getfield 101, 3) := by decide +kernel
theorem dX12_takes_83 : decode cX12_takes 83 = .ok (.aload_n 0, 1) := by decide +kernel
theorem dX12_takes_84 : decode cX12_takes 84 = .ok (.getfield 219, 3) := by decide +kernel
theorem dX12_takes_87 : decode cX12_takes 87 = .ok (.ldc2_w 290, 3) := by decide +kernel
theorem dX12_takes_90 : decode cX12_takes 90 = .ok (.lastore, 1) := by decide +kernel
theorem dX12_takes_91 : decode cX12_takes 91 = .ok (.aload_n 0, 1) := by decide +kernel
theorem dX12_takes_92 : decode cX12_takes 92 = .ok (.bipush 31, 2) := by decide +kernel
theorem dX12_takes_94 : decode cX12_takes 94 = .ok (.invokevirtual 210, 3) := by decide +kernel
theorem dX12_takes_97 : decode cX12_takes 97 = .ok (.ifCond .eq 9, 3) := by decide +kernel
theorem dX12_takes_100 : decode cX12_takes 100 = .ok (.aload_n 0, 1) := by decide +kernel
theorem dX12_takes_101 : decode cX12_takes 101 = .ok (.invokevirtual 213, 3) := by decide +kernel
theorem dX12_takes_104 : decode cX12_takes 104 = .ok (.iconst 1, 1) := by decide +kernel
theorem dX12_takes_105 : decode cX12_takes 105 = .ok (.ireturn, 1) := by decide +kernel
theorem dX12_takes_106 : decode cX12_takes 106 = .ok (.aload_n 0, 1) := by decide +kernel
theorem dX12_takes_107 : decode cX12_takes 107 = .ok (.getfield 219, 3) := by decide +kernel
theorem dX12_takes_110 : decode cX12_takes 110 = .ok (.ifCond .ne 5, 3) := by decide +kernel
theorem dX12_takes_113 : decode cX12_takes 113 = .ok (.iconst 0, 1) := by decide +kernel
theorem dX12_takes_114 : decode cX12_takes 114 = .ok (.ireturn, 1) := by decide +kernel
theorem dX12_takes_115 : decode cX12_takes 115 = .ok (.aload_n 0, 1) := by decide +kernel
theorem dX12_takes_116 : decode cX12_takes 116 = .ok (.bipush 7, 2) := by decide +kernel
theorem dX12_takes_118 : decode cX12_takes 118 = .ok (.invokevirtual 210, 3) := by decide +kernel
theorem dX12_takes_121 : decode cX12_takes 121 = .ok (.ifCond .ne 8, 3) := by decide +kernel
theorem dX12_takes_124 : decode cX12_takes 124 = .ok (.aload_n 0, 1) := by decide +kernel
theorem dX12_takes_125 : decode cX12_takes 125 = .ok (.iconst 1, 1) := by decide +kernel
theorem dX12_takes_126 : decode cX12_takes 126 = .ok (.invokevirtual 207, 3) := by decide +kernel
theorem dX12_takes_129 : decode cX12_takes 129 = .ok (.aload_n 0, 1) := by decide +kernel
theorem dX12_takes_130 : decode cX12_takes 130 = .ok (.getfield 192, 3) := by decide +kernel
theorem dX12_takes_133 : decode cX12_takes 133 = .ok (.ifCond .le 5, 3) := by decide +kernel
theorem dX12_takes_136 : decode cX12_takes 136 = .ok (.iconst 0, 1) := by decide +kernel
theorem dX12_takes_137 : decode cX12_takes 137 = .ok (.ireturn, 1) := by decide +kernel
theorem dX12_takes_138 : decode cX12_takes 138 = .ok (.aload_n 0, 1) := by decide +kernel
theorem dX12_takes_139 : decode cX12_takes 139 = .ok (.invokevirtual 213, 3) := by decide +kernel
theorem dX12_takes_142 : decode cX12_takes 142 = .ok (.aload_n 0, 1) := by decide +kernel
theorem dX12_takes_143 : decode cX12_takes 143 = .ok (.getfield 98, 3) := by decide +kernel
theorem dX12_takes_146 : decode cX12_takes 146 = .ok (.aload_n 0, 1) := by decide +kernel
theorem dX12_takes_147 : decode cX12_takes 147 = .ok (.getfield 219, 3) := by decide +kernel
theorem dX12_takes_150 : decode cX12_takes 150 = .ok (.laload, 1) := by decide +kernel
theorem dX12_takes_151 : decode cX12_takes 151 = .ok (.lstore_n 3, 1) := by decide +kernel
theorem dX12_takes_152 : decode cX12_takes 152 = .ok (.aload_n 0, 1) := by decide +kernel
theorem dX12_takes_153 : decode cX12_takes 153 = .ok (.dup, 1) := by decide +kernel
theorem dX12_takes_154 : decode cX12_takes 154 = .ok (.getfield 219, 3) := by decide +kernel
theorem dX12_takes_157 : decode cX12_takes 157 = .ok (.iconst 1, 1) := by decide +kernel
theorem dX12_takes_158 : decode cX12_takes 158 = .ok (.isub, 1) := by decide +kernel
theorem dX12_takes_159 : decode cX12_takes 159 = .ok (.putfield 219, 3) := by decide +kernel
theorem dX12_takes_162 : decode cX12_takes 162 = .ok (.goto (-157), 3) := by decide +kernel
theorem dX12_takes_165 : decode cX12_takes 165 = .ok (.iconst 0, 1) := by decide +kernel
theorem dX12_takes_166 : decode cX12_takes 166 = .ok (.ireturn, 1) := by decide +kernel
theorem dX12_tell_0 : decode cX12_tell 0 = .ok (.aload_n 0, 1) := by decide +kernel
theorem dX12_tell_1 : decode cX12_tell 1 = .ok (.getfield 20, 3) := by decide +kernel
theorem dX12_tell_4 : decode cX12_tell 4 = .ok (.aload_n 0, 1) := by decide +kernel
theorem dX12_tell_5 : decode cX12_tell 5 = .ok (.getfield 195, 3) := by decide +kernel
theorem dX12_tell_8 : decode cX12_tell 8 = .ok (.iaload, 1) := by decide +kernel
theorem dX12_tell_9 : decode cX12_tell 9 = .ok (.tableswitch 262 20 30 #[59, 262, 262, 262, 88, 117, 262, 146, 175, 175, 233], 59) := by decide +kernel
theorem dX12_tell_68 : decode cX12_tell 68 = .ok (.aload_n 0, 1) := by decide +kernel
theorem dX12_tell_69 : decode cX12_tell 69 = .ok (.aload_n 0, 1) := by decide +kernel
theorem dX12_tell_70 : decode cX12_tell 70 = .ok (.getfield 49, 3) := by decide +kernel
theorem dX12_tell_73 : decode cX12_tell 73 = .ok (.aload_n 0, 1) := by decide +kernel
theorem dX12_tell_74 : decode cX12_tell 74 = .ok (.getfield 225, 3) := by decide +kernel
theorem dX12_tell_77 : decode cX12_tell 77 = .ok (.iaload, 1) := by decide +kernel
theorem dX12_tell_78 : decode cX12_tell 78 = .ok (.bipush 6, 2) := by decide +kernel
theorem dX12_tell_80 : decode cX12_tell 80 = .ok (.invokevirtual 246, 3) := by decide +kernel
theorem dX12_tell_83 : decode cX12_tell 83 = .ok (.aload_n 0, 1) := by decide +kernel
theorem dX12_tell_84 : decode cX12_tell 84 = .ok (.getfield 192, 3) := by decide +kernel
theorem dX12_tell_87 : decode cX12_tell 87 = .ok (.ifCond .ne 189, 3) := by decide +kernel
theorem dX12_tell_90 : decode cX12_tell 90 = .ok (.aload_n 0, 1) := by decide +kernel
theorem dX12_tell_91 : decode cX12_tell 91 = .ok (.invokevirtual 250, 3) := by decide +kernel
theorem dX12_tell_94 : decode cX12_tell 94 = .ok (.goto 182, 3) := by decide +kernel
theorem dX12_tell_97 : decode cX12_tell 97 = .ok (.aload_n 0, 1) := by decide +kernel
theorem dX12_tell_98 : decode cX12_tell 98 = .ok (.aload_n 0, 1) := by decide +kernel
theorem dX12_tell_99 : decode cX12_tell 99 = .ok (.getfield 58, 3) := by decide +kernel
theorem dX12_tell_102 : decode cX12_tell 102 = .ok (.aload_n 0, 1) := by decide +kernel
theorem dX12_tell_103 : decode cX12_tell 103 = .ok (.getfield 225, 3) := by decide +kernel
theorem dX12_tell_106 : decode cX12_tell 106 = .ok (.iaload, 1) := by decide +kernel
theorem dX12_tell_107 : decode cX12_tell 107 = .ok (.bipush 6, 2) := by decide +kernel
theorem dX12_tell_109 : decode cX12_tell 109 = .ok (.invokevirtual 246, 3) := by decide +kernel
theorem dX12_tell_112 : decode cX12_tell 112 = .ok (.aload_n 0, 1) := by decide +kernel
theorem dX12_tell_113 : decode cX12_tell 113 = .ok (.getfield 192, 3) := by decide +kernel
theorem dX12_tell_116 : decode cX12_tell 116 = .ok (.ifCond .ne 160, 3) := by decide +kernel
theorem dX12_tell_119 : decode cX12_tell 119 = .ok (.aload_n 0, 1) := by decide +kernel
theorem dX12_tell_120 : decode cX12_tell 120 = .ok (.invokevirtual 253, 3) := by decide +kernel
theorem dX12_tell_123 : decode cX12_tell 123 = .ok (.goto 153, 3) := by decide +kernel
theorem dX12_tell_126 : decode cX12_tell 126 = .ok (.aload_n 0, 1) := by decide +kernel
theorem dX12_tell_127 : decode cX12_tell 127 = .ok (.aload_n 0, 1) := by decide +kernel
theorem dX12_tell_128 : decode cX12_tell 128 = .ok (.getfield 61, 3) := by decide +kernel
theorem dX12_tell_131 : decode cX12_tell 131 = .ok (.aload_n 0, 1) := by decide +kernel
theorem dX12_tell_132 : decode cX12_tell 132 = .ok (.getfield 225, 3) := by decide +kernel
theorem dX12_tell_135 : decode cX12_tell 135 = .ok (.iaload, 1) := by decide +kernel
theorem dX12_tell_136 : decode cX12_tell 136 = .ok (.bipush 16, 2) := by decide +kernel
theorem dX12_tell_138 : decode cX12_tell 138 = .ok (.invokevirtual 246, 3) := by decide +kernel
theorem dX12_tell_141 : decode cX12_tell 141 = .ok (.aload_n 0, 1) := by decide +kernel
theorem dX12_tell_142 : decode cX12_tell 142 = .ok (.getfield 192, 3) := by decide +kernel
theorem dX12_tell_145 : decode cX12_tell 145 = .ok (.ifCond .ne 131, 3) := by decide +kernel
theorem dX12_tell_148 : decode cX12_tell 148 = .ok (.aload_n 0, 1) := by decide +kernel
theorem dX12_tell_149 : decode cX12_tell 149 = .ok (.invokevirtual 256, 3) := by decide +kernel
theorem dX12_tell_152 : decode cX12_tell 152 = .ok (.goto 124, 3) := by decide +kernel
theorem dX12_tell_155 : decode cX12_tell 155 = .ok (.aload_n 0, 1) := by decide +kernel
theorem dX12_tell_156 : decode cX12_tell 156 = .ok (.aload_n 0, 1) := by decide +kernel
theorem dX12_tell_157 : decode cX12_tell 157 = .ok (.getfield 74, 3) := by decide +kernel
theorem dX12_tell_160 : decode cX12_tell 160 = .ok (.aload_n 0, 1) := by decide +kernel
theorem dX12_tell_161 : decode cX12_tell 161 = .ok (.getfield 225, 3) := by decide +kernel
theorem dX12_tell_164 : decode cX12_tell 164 = .ok (.iaload, 1) := by decide +kernel
theorem dX12_tell_165 : decode cX12_tell 165 = .ok (.bipush 8, 2) := by decide +kernel
theorem dX12_tell_167 : decode cX12_tell 167 = .ok (.invokevirtual 246, 3) := by decide +kernel
theorem dX12_tell_170 : decode cX12_tell 170 = .ok (.aload_n 0, 1) := by decide +kernel
theorem dX12_tell_171 : decode cX12_tell 171 = .ok (.getfield 192, 3) := by decide +kernel
theorem dX12_tell_174 : decode cX12_tell 174 = .ok (.ifCond .ne 102, 3) := by decide +kernel
theorem dX12_tell_177 : decode cX12_tell 177 = .ok (.aload_n 0, 1) := by decide +kernel
theorem dX12_tell_178 : decode cX12_tell 178 = .ok (.invokevirtual 259, 3) := by decide +kernel
theorem dX12_tell_181 : decode cX12_tell 181 = .ok (.goto 95, 3) := by decide +kernel
theorem dX12_tell_184 : decode cX12_tell 184 = .ok (.iconst 2, 1) := by decide +kernel
theorem dX12_tell_185 : decode cX12_tell 185 = .ok (.aload_n 0, 1) := by decide +kernel
theorem dX12_tell_186 : decode cX12_tell 186 = .ok (.getfield 225, 3) := by decide +kernel
theorem dX12_tell_189 : decode cX12_tell 189 = .ok (.imul, 1) := by decide +kernel
theorem dX12_tell_190 : decode cX12_tell 190 = .ok (.aload_n 0, 1) := by decide +kernel
theorem dX12_tell_191 : decode cX12_tell 191 = .ok (.getfield 20, 3) := by decide +kernel
theorem dX12_tell_194 : decode cX12_tell 194 = .ok (.aload_n 0, 1) := by decide +kernel
theorem dX12_tell_195 : decode cX12_tell 195 = .ok (.getfield 195, 3) := by decide +kernel
theorem dX12_tell_198 : decode cX12_tell 198 = .ok (.iaload, 1) := by decide +kernel
theorem dX12_tell_199 : decode cX12_tell 199 = .ok (.iadd, 1) := by decide +kernel
theorem dX12_tell_200 : decode cX12_tell 200 = .ok (.bipush 28, 2) := by decide +kernel
theorem dX12_tell_202 : decode cX12_tell 202 = .ok (.isub, 1) := by decide +kernel
theorem dX12_tell_203 : decode cX12_tell 203 = .ok (.istore_n 1, 1) := by decide +kernel
theorem dX12_tell_204 : decode cX12_tell 204 = .ok (.aload_n 0, 1) := by decide +kernel
theorem dX12_tell_205 : decode cX12_tell 205 = .ok (.invokevirtual 213, 3) := by decide +kernel
theorem dX12_tell_208 : decode cX12_tell 208 = .ok (.aload_n 0, 1) := by decide +kernel
theorem dX12_tell_209 : decode cX12_tell 209 = .ok (.getfield 231, 3) := by decide +kernel
theorem dX12_tell_212 : decode cX12_tell 212 = .ok (.istore_n 2, 1) := by decide +kernel
theorem dX12_tell_213 : decode cX12_tell 213 = .ok (.aload_n 0, 1) := by decide +kernel
theorem dX12_tell_214 : decode cX12_tell 214 = .ok (.invokevirtual 262, 3) := by decide +kernel
theorem dX12_tell_217 : decode cX12_tell 217 = .ok (.aload_n 0, 1) := by decide +kernel
theorem dX12_tell_218 : decode cX12_tell 218 = .ok (.iconst 4, 1) := by decide +kernel
theorem dX12_tell_219 : decode cX12_tell 219 = .ok (.invokevirtual 265, 3) := by decide +kernel
theorem dX12_tell_222 : decode cX12_tell 222 = .ok (.aload_n 0, 1) := by decide +kernel
theorem dX12_tell_223 : decode cX12_tell 223 = .ok (.getfield 83, 3) := by decide +kernel
theorem dX12_tell_226 : decode cX12_tell 226 = .ok (.iload_n 1, 1) := by decide +kernel
theorem dX12_tell_227 : decode cX12_tell 227 = .ok (.iload_n 2, 1) := by decide +kernel
theorem dX12_tell_228 : decode cX12_tell 228 = .ok (.iastore, 1) := by decide +kernel
theorem dX12_tell_229 : decode cX12_tell 229 = .ok (.aload_n 0, 1) := by decide +kernel
theorem dX12_tell_230 : decode cX12_tell 230 = .ok (.getfield 86, 3) := by decide +kernel
theorem dX12_tell_233 : decode cX12_tell 233 = .ok (.iload_n 1, 1) := by decide +kernel
theorem dX12_tell_234 : decode cX12_tell 234 = .ok (.aload_n 0, 1) := by decide +kernel
theorem dX12_tell_235 : decode cX12_tell 235 = .ok (.getfield 231, 3) := by decide +kernel
theorem dX12_tell_238 : decode cX12_tell 238 = .ok (.iastore, 1) := by decide +kernel
theorem dX12_tell_239 : decode cX12_tell 239 = .ok (.goto 37, 3) := by decide +kernel
theorem dX12_tell_242 : decode cX12_tell 242 = .ok (.aload_n 0, 1) := by decide +kernel
theorem dX12_tell_243 : decode cX12_tell 243 = .ok (.invokevirtual 213, 3) := by decide +kernel
theorem dX12_tell_246 : decode cX12_tell 246 = .ok (.aload_n 0, 1) := by decide +kernel
theorem dX12_tell_247 : decode cX12_tell 247 = .ok (.getfield 89, 3) := by decide +kernel
theorem dX12_tell_250 : decode cX12_tell 250 = .ok (.aload_n 0, 1) := by decide +kernel
theorem dX12_tell_251 : decode cX12_tell 251 = .ok (.getfield 225, 3) := by decide +kernel
theorem dX12_tell_254 : decode cX12_tell 254 = .ok (.aload_n 0, 1) := by decide +kernel
theorem dX12_tell_255 : decode cX12_tell 255 = .ok (.iconst 0, 1) := by decide +kernel
theorem dX12_tell_256 : decode cX12_tell 256 = .ok (.sipush 2879, 3) := by decide +kernel
theorem dX12_tell_259 : decode cX12_tell 259 = .ok (.invokevirtual 268, 3) := by decide +kernel
theorem dX12_tell_262 : decode cX12_tell 262 = .ok (.iastore, 1) := by decide +kernel
theorem dX12_tell_263 : decode cX12_tell 263 = .ok (.aload_n 0, 1) := by decide +kernel
theorem dX12_tell_264 : decode cX12_tell 264 = .ok (.iconst 4, 1) := by decide +kernel
theorem dX12_tell_265 : decode cX12_tell 265 = .ok (.invokevirtual 265, 3) := by decide +kernel
theorem dX12_tell_268 : decode cX12_tell 268 = .ok (.goto 8, 3) := by decide +kernel
theorem dX12_tell_271 : decode cX12_tell 271 = .ok (.aload_n 0, 1) := by decide +kernel
theorem dX12_tell_272 : decode cX12_tell 272 = .ok (.iconst 1, 1) := by decide +kernel
theorem dX12_tell_273 : decode cX12_tell 273 = .ok (.invokevirtual 207, 3) := by decide +kernel
theorem dX12_tell_276 : decode cX12_tell 276 = .ok (.return_, 1) := by decide +kernel
theorem dX12_tellCase_0 : decode cX12_tellCase 0 = .ok (.bipush 8, 2) := by decide +kernel
theorem dX12_tellCase_2 : decode cX12_tellCase 2 = .ok (.aload_n 0, 1) := by decide +kernel
theorem dX12_tellCase_3 : decode cX12_tellCase 3 = .ok (.getfield 225, 3) := by decide +kernel
theorem dX12_tellCase_6 : decode cX12_tellCase 6 = .ok (.imul, 1) := by decide +kernel
theorem dX12_tellCase_7 : decode cX12_tellCase 7 = .ok (.aload_n 0, 1) := by decide +kernel
theorem dX12_tellCase_8 : decode cX12_tellCase 8 = .ok (.getfield 74, 3) := by decide +kernel
theorem dX12_tellCase_11 : decode cX12_tellCase 11 = .ok (.aload_n 0, 1) := by decide +kernel
theorem dX12_tellCase_12 : decode cX12_tellCase 12 = .ok (.getfield 225, 3) := by decide +kernel
theorem dX12_tellCase_15 : decode cX12_tellCase 15 = .ok (.iaload, 1) := by decide +kernel
theorem dX12_tellCase_16 : decode cX12_tellCase 16 = .ok (.iadd, 1) := by decide +kernel
theorem dX12_tellCase_17 : decode cX12_tellCase 17 = .ok (.istore_n 1, 1) := by decide +kernel
theorem dX12_tellCase_18 : decode cX12_tellCase 18 = .ok (.aload_n 0, 1) := by decide +kernel
theorem dX12_tellCase_19 : decode cX12_tellCase 19 = .ok (.invokevirtual 275, 3) := by decide +kernel
theorem dX12_tellCase_22 : decode cX12_tellCase 22 = .ok (.istore_n 2, 1) := by decide +kernel
theorem dX12_tellCase_23 : decode cX12_tellCase 23 = .ok (.aload_n 0, 1) := by decide +kernel
theorem dX12_tellCase_24 : decode cX12_tellCase 24 = .ok (.getfield 77, 3) := by decide +kernel
theorem dX12_tellCase_27 : decode cX12_tellCase 27 = .ok (.iload_n 1, 1) := by decide +kernel
theorem dX12_tellCase_28 : decode cX12_tellCase 28 = .ok (.aload_n 0, 1) := by decide +kernel
theorem dX12_tellCase_29 : decode cX12_tellCase 29 = .ok (.iconst 0, 1) := by decide +kernel
theorem dX12_tellCase_30 : decode cX12_tellCase 30 = .ok (.sipush 2879, 3) := by decide +kernel
theorem dX12_tellCase_33 : decode cX12_tellCase 33 = .ok (.invokevirtual 268, 3) := by decide +kernel
theorem dX12_tellCase_36 : decode cX12_tellCase 36 = .ok (.iastore, 1) := by decide +kernel
theorem dX12_tellCase_37 : decode cX12_tellCase 37 = .ok (.aload_n 0, 1) := by decide +kernel
theorem dX12_tellCase_38 : decode cX12_tellCase 38 = .ok (.iconst 5, 1) := by decide +kernel
theorem dX12_tellCase_39 : decode cX12_tellCase 39 = .ok (.invokevirtual 265, 3) := by decide +kernel
theorem dX12_tellCase_42 : decode cX12_tellCase 42 = .ok (.aload_n 0, 1) := by decide +kernel
theorem dX12_tellCase_43 : decode cX12_tellCase 43 = .ok (.getfield 80, 3) := by decide +kernel
theorem dX12_tellCase_46 : decode cX12_tellCase 46 = .ok (.iload_n 1, 1) := by decide +kernel
theorem dX12_tellCase_47 : decode cX12_tellCase 47 = .ok (.aload_n 0, 1) := by decide +kernel
theorem dX12_tellCase_48 : decode cX12_tellCase 48 = .ok (.invokevirtual 286, 3) := by decide +kernel
theorem dX12_tellCase_51 : decode cX12_tellCase 51 = .ok (.lastore, 1) := by decide +kernel
theorem dX12_tellCase_52 : decode cX12_tellCase 52 = .ok (.aload_n 0, 1) := by decide +kernel
theorem dX12_tellCase_53 : decode cX12_tellCase 53 = .ok (.iconst 4, 1) := by decide +kernel
theorem dX12_tellCase_54 : decode cX12_tellCase 54 = .ok (.invokevirtual 265, 3) := by decide +kernel
theorem dX12_tellCase_57 : decode cX12_tellCase 57 = .ok (.aload_n 0, 1) := by decide +kernel
theorem dX12_tellCase_58 : decode cX12_tellCase 58 = .ok (.getfield 192, 3) := by decide +kernel
theorem dX12_tellCase_61 : decode cX12_tellCase 61 = .ok (.ifCond .le 4, 3) := by decide +kernel
theorem dX12_tellCase_64 : decode cX12_tellCase 64 = .ok (.return_, 1) := by decide +kernel
theorem dX12_tellCase_65 : decode cX12_tellCase 65 = .ok (.aload_n 0, 1) := by decide +kernel
theorem dX12_tellCase_66 : decode cX12_tellCase 66 = .ok (.iload_n 2, 1) := by decide +kernel
theorem dX12_tellCase_67 : decode cX12_tellCase 67 = .ok (.iconst 2, 1) := by decide +kernel
theorem dX12_tellCase_68 : decode cX12_tellCase 68 = .ok (.aload_n 0, 1) := by decide +kernel
theorem dX12_tellCase_69 : decode cX12_tellCase 69 = .ok (.getfield 74, 3) := by decide +kernel
theorem dX12_tellCase_72 : decode cX12_tellCase 72 = .ok (.aload_n 0, 1) := by decide +kernel
theorem dX12_tellCase_73 : decode cX12_tellCase 73 = .ok (.getfield 225, 3) := by decide +kernel
theorem dX12_tellCase_76 : decode cX12_tellCase 76 = .ok (.iaload, 1) := by decide +kernel
theorem dX12_tellCase_77 : decode cX12_tellCase 77 = .ok (.invokevirtual 279, 3) := by decide +kernel
theorem dX12_tellCase_80 : decode cX12_tellCase 80 = .ok (.aload_n 0, 1) := by decide +kernel
theorem dX12_tellCase_81 : decode cX12_tellCase 81 = .ok (.getfield 74, 3) := by decide +kernel
theorem dX12_tellCase_84 : decode cX12_tellCase 84 = .ok (.aload_n 0, 1) := by decide +kernel
theorem dX12_tellCase_85 : decode cX12_tellCase 85 = .ok (.getfield 225, 3) := by decide +kernel
theorem dX12_tellCase_88 : decode cX12_tellCase 88 = .ok (.dup2, 1) := by decide +kernel
theorem dX12_tellCase_89 : decode cX12_tellCase 89 = .ok (.iaload, 1) := by decide +kernel
theorem dX12_tellCase_90 : decode cX12_tellCase 90 = .ok (.iconst 1, 1) := by decide +kernel
theorem dX12_tellCase_91 : decode cX12_tellCase 91 = .ok (.iadd, 1) := by decide +kernel
theorem dX12_tellCase_92 : decode cX12_tellCase 92 = .ok (.iastore, 1) := by decide +kernel
theorem dX12_tellCase_93 : decode cX12_tellCase 93 = .ok (.return_, 1) := by decide +kernel
theorem dX12_tellFact_0 : decode cX12_tellFact 0 = .ok (.aload_n 0, 1) := by decide +kernel
theorem dX12_tellFact_1 : decode cX12_tellFact 1 = .ok (.getfield 49, 3) := by decide +kernel
theorem dX12_tellFact_4 : decode cX12_tellFact 4 = .ok (.aload_n 0, 1) := by decide +kernel
theorem dX12_tellFact_5 : decode cX12_tellFact 5 = .ok (.getfield 225, 3) := by decide +kernel
theorem dX12_tellFact_8 : decode cX12_tellFact 8 = .ok (.iaload, 1) := by decide +kernel
theorem dX12_tellFact_9 : decode cX12_tellFact 9 = .ok (.istore_n 1, 1) := by decide +kernel
theorem dX12_tellFact_10 : decode cX12_tellFact 10 = .ok (.aload_n 0, 1) := by decide +kernel
theorem dX12_tellFact_11 : decode cX12_tellFact 11 = .ok (.invokevirtual 275, 3) := by decide +kernel
theorem dX12_tellFact_14 : decode cX12_tellFact 14 = .ok (.istore_n 2, 1) := by decide +kernel
theorem dX12_tellFact_15 : decode cX12_tellFact 15 = .ok (.aload_n 0, 1) := by decide +kernel
theorem dX12_tellFact_16 : decode cX12_tellFact 16 = .ok (.bipush 21, 2) := by decide +kernel
theorem dX12_tellFact_18 : decode cX12_tellFact 18 = .ok (.invokevirtual 210, 3) := by decide +kernel
theorem dX12_tellFact_21 : decode cX12_tellFact 21 = .ok (.istore_n 3, 1) := by decide +kernel
theorem dX12_tellFact_22 : decode cX12_tellFact 22 = .ok (.iload_n 3, 1) := by decide +kernel
theorem dX12_tellFact_23 : decode cX12_tellFact 23 = .ok (.ifCond .ne 17, 3) := by decide +kernel
theorem dX12_tellFact_26 : decode cX12_tellFact 26 = .ok (.aload_n 0, 1) := by decide +kernel
theorem dX12_tellFact_27 : decode cX12_tellFact 27 = .ok (.bipush 22, 2) := by decide +kernel
theorem dX12_tellFact_29 : decode cX12_tellFact 29 = .ok (.invokevirtual 210, 3) := by decide +kernel
theorem dX12_tellFact_32 : decode cX12_tellFact 32 = .ok (.ifCond .ne 8, 3) := by decide +kernel
theorem dX12_tellFact_35 : decode cX12_tellFact 35 = .ok (.aload_n 0, 1) := by decide +kernel
theorem dX12_tellFact_36 : decode cX12_tellFact 36 = .ok (.iconst 1, 1) := by decide +kernel
theorem dX12_tellFact_37 : decode cX12_tellFact 37 = .ok (.invokevirtual 207, 3) := by decide +kernel
theorem dX12_tellFact_40 : decode cX12_tellFact 40 = .ok (.aload_n 0, 1) := by decide +kernel
theorem dX12_tellFact_41 : decode cX12_tellFact 41 = .ok (.getfield 192, 3) := by decide +kernel
theorem dX12_tellFact_44 : decode cX12_tellFact 44 = .ok (.ifCond .le 4, 3) := by decide +kernel
theorem dX12_tellFact_47 : decode cX12_tellFact 47 = .ok (.return_, 1) := by decide +kernel
theorem dX12_tellFact_48 : decode cX12_tellFact 48 = .ok (.aload_n 0, 1) := by decide +kernel
theorem dX12_tellFact_49 : decode cX12_tellFact 49 = .ok (.invokevirtual 213, 3) := by decide +kernel
theorem dX12_tellFact_52 : decode cX12_tellFact 52 = .ok (.aload_n 0, 1) := by decide +kernel
theorem dX12_tellFact_53 : decode cX12_tellFact 53 = .ok (.bipush 23, 2) := by decide +kernel
theorem dX12_tellFact_55 : decode cX12_tellFact 55 = .ok (.invokevirtual 210, 3) := by decide +kernel
theorem dX12_tellFact_58 : decode cX12_tellFact 58 = .ok (.istore 4, 2) := by decide +kernel
theorem dX12_tellFact_60 : decode cX12_tellFact 60 = .ok (.iload 4, 2) := by decide +kernel
theorem dX12_tellFact_62 : decode cX12_tellFact 62 = .ok (.ifCond .eq 7, 3) := by decide +kernel
theorem dX12_tellFact_65 : decode cX12_tellFact 65 = .ok (.aload_n 0, 1) := by decide +kernel
theorem dX12_tellFact_66 : decode cX12_tellFact 66 = .ok (.invokevirtual 213, 3) := by decide +kernel
theorem dX12_tellFact_69 : decode cX12_tellFact 69 = .ok (.aload_n 0, 1) := by decide +kernel
theorem dX12_tellFact_70 : decode cX12_tellFact 70 = .ok (.iconst 4, 1) := by decide +kernel
theorem dX12_tellFact_71 : decode cX12_tellFact 71 = .ok (.invokevirtual 265, 3) := by decide +kernel
theorem dX12_tellFact_74 : decode cX12_tellFact 74 = .ok (.aload_n 0, 1) := by decide +kernel
theorem dX12_tellFact_75 : decode cX12_tellFact 75 = .ok (.getfield 192, 3) := by decide +kernel
theorem dX12_tellFact_78 : decode cX12_tellFact 78 = .ok (.ifCond .le 4, 3) := by decide +kernel
theorem dX12_tellFact_81 : decode cX12_tellFact 81 = .ok (.return_, 1) := by decide +kernel
theorem dX12_tellFact_82 : decode cX12_tellFact 82 = .ok (.iload_n 3, 1) := by decide +kernel
theorem dX12_tellFact_83 : decode cX12_tellFact 83 = .ok (.ifCond .eq 18, 3) := by decide +kernel
theorem dX12_tellFact_86 : decode cX12_tellFact 86 = .ok (.aload_n 0, 1) := by decide +kernel
theorem dX12_tellFact_87 : decode cX12_tellFact 87 = .ok (.getfield 52, 3) := by decide +kernel
theorem dX12_tellFact_90 : decode cX12_tellFact 90 = .ok (.aload_n 0, 1) := by decide +kernel
theorem dX12_tellFact_91 : decode cX12_tellFact 91 = .ok (.getfield 225, 3) := by decide +kernel
theorem dX12_tellFact_94 : decode cX12_tellFact 94 = .ok (.dup2, 1) := by decide +kernel
theorem dX12_tellFact_95 : decode cX12_tellFact 95 = .ok (.iaload, 1) := by decide +kernel
theorem dX12_tellFact_96 : decode cX12_tellFact 96 = .ok (.iconst 1, 1) := by decide +kernel
theorem dX12_tellFact_97 : decode cX12_tellFact 97 = .ok (.iload_n 1, 1) := by decide +kernel
theorem dX12_tellFact_98 : decode cX12_tellFact 98 = .ok (.ishl, 1) := by decide +kernel
theorem dX12_tellFact_99 : decode cX12_tellFact 99 = .ok (.ior, 1) := by decide +kernel
theorem dX12_tellFact_100 : decode cX12_tellFact 100 = .ok (.iastore, 1) := by decide +kernel
theorem dX12_tellFact_101 : decode cX12_tellFact 101 = .ok (.iload 4, 2) := by decide +kernel
theorem dX12_tellFact_103 : decode cX12_tellFact 103 = .ok (.ifCond .eq 18, 3) := by decide +kernel
theorem dX12_tellFact_106 : decode cX12_tellFact 106 = .ok (.aload_n 0, 1) := by decide +kernel
theorem dX12_tellFact_107 : decode cX12_tellFact 107 = .ok (.getfield 55, 3) := by decide +kernel
theorem dX12_tellFact_110 : decode cX12_tellFact 110 = .ok (.aload_n 0, 1) := by decide +kernel
theorem dX12_tellFact_111 : decode cX12_tellFact 111 = .ok (.getfield 225, 3) := by decide +kernel
theorem dX12_tellFact_114 : decode cX12_tellFact 114 = .ok (.dup2, 1) := by decide +kernel
theorem dX12_tellFact_115 : decode cX12_tellFact 115 = .ok (.iaload, 1) := by decide +kernel
theorem dX12_tellFact_116 : decode cX12_tellFact 116 = .ok (.iconst 1, 1) := by decide +kernel
theorem dX12_tellFact_117 : decode cX12_tellFact 117 = .ok (.iload_n 1, 1) := by decide +kernel
theorem dX12_tellFact_118 : decode cX12_tellFact 118 = .ok (.ishl, 1) := by decide +kernel
theorem dX12_tellFact_119 : decode cX12_tellFact 119 = .ok (.ior, 1) := by decide +kernel
theorem dX12_tellFact_120 : decode cX12_tellFact 120 = .ok (.iastore, 1) := by decide +kernel
theorem dX12_tellFact_121 : decode cX12_tellFact 121 = .ok (.aload_n 0, 1) := by decide +kernel
theorem dX12_tellFact_122 : decode cX12_tellFact 122 = .ok (.iload_n 2, 1) := by decide +kernel
theorem dX12_tellFact_123 : decode cX12_tellFact 123 = .ok (.iconst 0, 1) := by decide +kernel
theorem dX12_tellFact_124 : decode cX12_tellFact 124 = .ok (.iload_n 1, 1) := by decide +kernel
theorem dX12_tellFact_125 : decode cX12_tellFact 125 = .ok (.invokevirtual 279, 3) := by decide +kernel
theorem dX12_tellFact_128 : decode cX12_tellFact 128 = .ok (.aload_n 0, 1) := by decide +kernel
theorem dX12_tellFact_129 : decode cX12_tellFact 129 = .ok (.getfield 49, 3) := by decide +kernel
theorem dX12_tellFact_132 : decode cX12_tellFact 132 = .ok (.aload_n 0, 1) := by decide +kernel
theorem dX12_tellFact_133 : decode cX12_tellFact 133 = .ok (.getfield 225, 3) := by decide +kernel
theorem dX12_tellFact_136 : decode cX12_tellFact 136 = .ok (.dup2, 1) := by decide +kernel
theorem dX12_tellFact_137 : decode cX12_tellFact 137 = .ok (.iaload, 1) := by decide +kernel
theorem dX12_tellFact_138 : decode cX12_tellFact 138 = .ok (.iconst 1, 1) := by decide +kernel
theorem dX12_tellFact_139 : decode cX12_tellFact 139 = .ok (.iadd, 1) := by decide +kernel
theorem dX12_tellFact_140 : decode cX12_tellFact 140 = .ok (.iastore, 1) := by decide +kernel
theorem dX12_tellFact_141 : decode cX12_tellFact 141 = .ok (.return_, 1) := by decide +kernel
theorem dX12_tellWitness_0 : decode cX12_tellWitness 0 = .ok (.aload_n 0, 1) := by decide +kernel
theorem dX12_tellWitness_1 : decode cX12_tellWitness 1 = .ok (.invokevirtual 275, 3) := by decide +kernel
theorem dX12_tellWitness_4 : decode cX12_tellWitness 4 = .ok (.istore_n 1, 1) := by decide +kernel
theorem dX12_tellWitness_5 : decode cX12_tellWitness 5 = .ok (.aload_n 0, 1) := by decide +kernel
theorem dX12_tellWitness_6 : decode cX12_tellWitness 6 = .ok (.iconst 4, 1) := by decide +kernel
theorem dX12_tellWitness_7 : decode cX12_tellWitness 7 = .ok (.invokevirtual 265, 3) := by decide +kernel
theorem dX12_tellWitness_10 : decode cX12_tellWitness 10 = .ok (.aload_n 0, 1) := by decide +kernel
theorem dX12_tellWitness_11 : decode cX12_tellWitness 11 = .ok (.getfield 192, 3) := by decide +kernel
theorem dX12_tellWitness_14 : decode cX12_tellWitness 14 = .ok (.ifCond .le 4, 3) := by decide +kernel
