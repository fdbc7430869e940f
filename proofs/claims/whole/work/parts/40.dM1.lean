theorem dM_next_271 : decode bM_next 271 = .ok (.if_icmp .ne 26, 3) := by decide +kernel
theorem dM_next_274 : decode bM_next 274 = .ok (.iload_n 1, 1) := by decide +kernel
theorem dM_next_275 : decode bM_next 275 = .ok (.invokestatic 107, 3) := by decide +kernel
theorem dM_next_278 : decode bM_next 278 = .ok (.ifCond .eq 19, 3) := by decide +kernel
theorem dM_next_281 : decode bM_next 281 = .ok (.aload_n 0, 1) := by decide +kernel
theorem dM_next_282 : decode bM_next 282 = .ok (.iconst 3, 1) := by decide +kernel
theorem dM_next_283 : decode bM_next 283 = .ok (.putfield 134, 3) := by decide +kernel
theorem dM_next_286 : decode bM_next 286 = .ok (.aload_n 0, 1) := by decide +kernel
theorem dM_next_287 : decode bM_next 287 = .ok (.iload_n 1, 1) := by decide +kernel
theorem dM_next_288 : decode bM_next 288 = .ok (.bipush 65, 2) := by decide +kernel
theorem dM_next_290 : decode bM_next 290 = .ok (.isub, 1) := by decide +kernel
theorem dM_next_291 : decode bM_next 291 = .ok (.putfield 140, 3) := by decide +kernel
theorem dM_next_294 : decode bM_next 294 = .ok (.goto 75, 3) := by decide +kernel
theorem dM_next_297 : decode bM_next 297 = .ok (.iload_n 1, 1) := by decide +kernel
theorem dM_next_298 : decode bM_next 298 = .ok (.invokestatic 104, 3) := by decide +kernel
theorem dM_next_301 : decode bM_next 301 = .ok (.ifCond .eq 60, 3) := by decide +kernel
theorem dM_next_304 : decode bM_next 304 = .ok (.iload_n 2, 1) := by decide +kernel
theorem dM_next_305 : decode bM_next 305 = .ok (.iconst 1, 1) := by decide +kernel
theorem dM_next_306 : decode bM_next 306 = .ok (.if_icmp .eq 25, 3) := by decide +kernel
theorem dM_next_309 : decode bM_next 309 = .ok (.iload_n 2, 1) := by decide +kernel
theorem dM_next_310 : decode bM_next 310 = .ok (.iconst 2, 1) := by decide +kernel
theorem dM_next_311 : decode bM_next 311 = .ok (.if_icmp .ne 50, 3) := by decide +kernel
theorem dM_next_314 : decode bM_next 314 = .ok (.aload_n 0, 1) := by decide +kernel
theorem dM_next_315 : decode bM_next 315 = .ok (.getfield 25, 3) := by decide +kernel
theorem dM_next_318 : decode bM_next 318 = .ok (.aload_n 0, 1) := by decide +kernel
theorem dM_next_319 : decode bM_next 319 = .ok (.getfield 110, 3) := by decide +kernel
theorem dM_next_322 : decode bM_next 322 = .ok (.iconst 1, 1) := by decide +kernel
theorem dM_next_323 : decode bM_next 323 = .ok (.iadd, 1) := by decide +kernel
theorem dM_next_324 : decode bM_next 324 = .ok (.iaload, 1) := by decide +kernel
theorem dM_next_325 : decode bM_next 325 = .ok (.invokestatic 104, 3) := by decide +kernel
theorem dM_next_328 : decode bM_next 328 = .ok (.ifCond .eq 33, 3) := by decide +kernel
theorem dM_next_331 : decode bM_next 331 = .ok (.aload_n 0, 1) := by decide +kernel
theorem dM_next_332 : decode bM_next 332 = .ok (.iconst 4, 1) := by decide +kernel
theorem dM_next_333 : decode bM_next 333 = .ok (.putfield 134, 3) := by decide +kernel
theorem dM_next_336 : decode bM_next 336 = .ok (.aload_n 0, 1) := by decide +kernel
theorem dM_next_337 : decode bM_next 337 = .ok (.iload_n 2, 1) := by decide +kernel
theorem dM_next_338 : decode bM_next 338 = .ok (.iconst 1, 1) := by decide +kernel
theorem dM_next_339 : decode bM_next 339 = .ok (.if_icmp .ne 7, 3) := by decide +kernel
theorem dM_next_342 : decode bM_next 342 = .ok (.iload_n 3, 1) := by decide +kernel
theorem dM_next_343 : decode bM_next 343 = .ok (.goto 12, 3) := by decide +kernel
theorem dM_next_346 : decode bM_next 346 = .ok (.bipush 10, 2) := by decide +kernel
theorem dM_next_348 : decode bM_next 348 = .ok (.iload_n 1, 1) := by decide +kernel
theorem dM_next_349 : decode bM_next 349 = .ok (.bipush 48, 2) := by decide +kernel
theorem dM_next_351 : decode bM_next 351 = .ok (.isub, 1) := by decide +kernel
theorem dM_next_352 : decode bM_next 352 = .ok (.imul, 1) := by decide +kernel
theorem dM_next_353 : decode bM_next 353 = .ok (.iload_n 3, 1) := by decide +kernel
theorem dM_next_354 : decode bM_next 354 = .ok (.iadd, 1) := by decide +kernel
theorem dM_next_355 : decode bM_next 355 = .ok (.putfield 140, 3) := by decide +kernel
theorem dM_next_358 : decode bM_next 358 = .ok (.goto 11, 3) := by decide +kernel
theorem dM_next_361 : decode bM_next 361 = .ok (.aload_n 0, 1) := by decide +kernel
theorem dM_next_362 : decode bM_next 362 = .ok (.aload_n 0, 1) := by decide +kernel
theorem dM_next_363 : decode bM_next 363 = .ok (.invokevirtual 143, 3) := by decide +kernel
theorem dM_next_366 : decode bM_next 366 = .ok (.putfield 134, 3) := by decide +kernel
theorem dM_next_369 : decode bM_next 369 = .ok (.return_, 1) := by decide +kernel
theorem dM_fail_0 : decode bM_fail 0 = .ok (.aload_n 0, 1) := by decide +kernel
theorem dM_fail_1 : decode bM_fail 1 = .ok (.getfield 147, 3) := by decide +kernel
theorem dM_fail_4 : decode bM_fail 4 = .ok (.iconst (-1), 1) := by decide +kernel
theorem dM_fail_5 : decode bM_fail 5 = .ok (.if_icmp .ne 11, 3) := by decide +kernel
theorem dM_fail_8 : decode bM_fail 8 = .ok (.aload_n 0, 1) := by decide +kernel
theorem dM_fail_9 : decode bM_fail 9 = .ok (.aload_n 0, 1) := by decide +kernel
theorem dM_fail_10 : decode bM_fail 10 = .ok (.getfield 110, 3) := by decide +kernel
theorem dM_fail_13 : decode bM_fail 13 = .ok (.putfield 147, 3) := by decide +kernel
theorem dM_fail_16 : decode bM_fail 16 = .ok (.return_, 1) := by decide +kernel
theorem dM_take_0 : decode bM_take 0 = .ok (.aload_n 0, 1) := by decide +kernel
theorem dM_take_1 : decode bM_take 1 = .ok (.getfield 134, 3) := by decide +kernel
theorem dM_take_4 : decode bM_take 4 = .ok (.iload_n 1, 1) := by decide +kernel
theorem dM_take_5 : decode bM_take 5 = .ok (.if_icmp .ne 10, 3) := by decide +kernel
theorem dM_take_8 : decode bM_take 8 = .ok (.aload_n 0, 1) := by decide +kernel
theorem dM_take_9 : decode bM_take 9 = .ok (.invokevirtual 150, 3) := by decide +kernel
theorem dM_take_12 : decode bM_take 12 = .ok (.goto 7, 3) := by decide +kernel
theorem dM_take_15 : decode bM_take 15 = .ok (.aload_n 0, 1) := by decide +kernel
theorem dM_take_16 : decode bM_take 16 = .ok (.invokevirtual 153, 3) := by decide +kernel
theorem dM_take_19 : decode bM_take 19 = .ok (.return_, 1) := by decide +kernel
theorem dM_wants_0 : decode bM_wants 0 = .ok (.aload_n 0, 1) := by decide +kernel
theorem dM_wants_1 : decode bM_wants 1 = .ok (.getfield 28, 3) := by decide +kernel
theorem dM_wants_4 : decode bM_wants 4 = .ok (.aload_n 0, 1) := by decide +kernel
theorem dM_wants_5 : decode bM_wants 5 = .ok (.getfield 156, 3) := by decide +kernel
theorem dM_wants_8 : decode bM_wants 8 = .ok (.iload_n 1, 1) := by decide +kernel
theorem dM_wants_9 : decode bM_wants 9 = .ok (.iastore, 1) := by decide +kernel
theorem dM_wants_10 : decode bM_wants 10 = .ok (.aload_n 0, 1) := by decide +kernel
theorem dM_wants_11 : decode bM_wants 11 = .ok (.getfield 31, 3) := by decide +kernel
theorem dM_wants_14 : decode bM_wants 14 = .ok (.aload_n 0, 1) := by decide +kernel
theorem dM_wants_15 : decode bM_wants 15 = .ok (.getfield 156, 3) := by decide +kernel
theorem dM_wants_18 : decode bM_wants 18 = .ok (.iload_n 2, 1) := by decide +kernel
theorem dM_wants_19 : decode bM_wants 19 = .ok (.iastore, 1) := by decide +kernel
theorem dM_wants_20 : decode bM_wants 20 = .ok (.aload_n 0, 1) := by decide +kernel
theorem dM_wants_21 : decode bM_wants 21 = .ok (.getfield 34, 3) := by decide +kernel
theorem dM_wants_24 : decode bM_wants 24 = .ok (.aload_n 0, 1) := by decide +kernel
theorem dM_wants_25 : decode bM_wants 25 = .ok (.getfield 156, 3) := by decide +kernel
theorem dM_wants_28 : decode bM_wants 28 = .ok (.iload_n 3, 1) := by decide +kernel
theorem dM_wants_29 : decode bM_wants 29 = .ok (.iastore, 1) := by decide +kernel
theorem dM_wants_30 : decode bM_wants 30 = .ok (.aload_n 0, 1) := by decide +kernel
theorem dM_wants_31 : decode bM_wants 31 = .ok (.dup, 1) := by decide +kernel
theorem dM_wants_32 : decode bM_wants 32 = .ok (.getfield 156, 3) := by decide +kernel
theorem dM_wants_35 : decode bM_wants 35 = .ok (.iconst 1, 1) := by decide +kernel
theorem dM_wants_36 : decode bM_wants 36 = .ok (.iadd, 1) := by decide +kernel
theorem dM_wants_37 : decode bM_wants 37 = .ok (.putfield 156, 3) := by decide +kernel
theorem dM_wants_40 : decode bM_wants 40 = .ok (.return_, 1) := by decide +kernel
theorem dM_write_0 : decode bM_write 0 = .ok (.aload_n 0, 1) := by decide +kernel
theorem dM_write_1 : decode bM_write 1 = .ok (.getfield 40, 3) := by decide +kernel
theorem dM_write_4 : decode bM_write 4 = .ok (.aload_n 0, 1) := by decide +kernel
theorem dM_write_5 : decode bM_write 5 = .ok (.getfield 159, 3) := by decide +kernel
theorem dM_write_8 : decode bM_write 8 = .ok (.iload_n 1, 1) := by decide +kernel
theorem dM_write_9 : decode bM_write 9 = .ok (.iastore, 1) := by decide +kernel
theorem dM_write_10 : decode bM_write 10 = .ok (.aload_n 0, 1) := by decide +kernel
theorem dM_write_11 : decode bM_write 11 = .ok (.getfield 43, 3) := by decide +kernel
theorem dM_write_14 : decode bM_write 14 = .ok (.aload_n 0, 1) := by decide +kernel
theorem dM_write_15 : decode bM_write 15 = .ok (.getfield 159, 3) := by decide +kernel
theorem dM_write_18 : decode bM_write 18 = .ok (.iload_n 2, 1) := by decide +kernel
theorem dM_write_19 : decode bM_write 19 = .ok (.iastore, 1) := by decide +kernel
theorem dM_write_20 : decode bM_write 20 = .ok (.aload_n 0, 1) := by decide +kernel
theorem dM_write_21 : decode bM_write 21 = .ok (.getfield 46, 3) := by decide +kernel
theorem dM_write_24 : decode bM_write 24 = .ok (.aload_n 0, 1) := by decide +kernel
theorem dM_write_25 : decode bM_write 25 = .ok (.getfield 159, 3) := by decide +kernel
theorem dM_write_28 : decode bM_write 28 = .ok (.iload_n 3, 1) := by decide +kernel
theorem dM_write_29 : decode bM_write 29 = .ok (.iastore, 1) := by decide +kernel
theorem dM_write_30 : decode bM_write 30 = .ok (.aload_n 0, 1) := by decide +kernel
theorem dM_write_31 : decode bM_write 31 = .ok (.dup, 1) := by decide +kernel
theorem dM_write_32 : decode bM_write 32 = .ok (.getfield 159, 3) := by decide +kernel
theorem dM_write_35 : decode bM_write 35 = .ok (.iconst 1, 1) := by decide +kernel
theorem dM_write_36 : decode bM_write 36 = .ok (.iadd, 1) := by decide +kernel
theorem dM_write_37 : decode bM_write 37 = .ok (.putfield 159, 3) := by decide +kernel
theorem dM_write_40 : decode bM_write 40 = .ok (.return_, 1) := by decide +kernel
theorem dM_read_0 : decode bM_read 0 = .ok (.aload_n 0, 1) := by decide +kernel
theorem dM_read_1 : decode bM_read 1 = .ok (.iconst 0, 1) := by decide +kernel
theorem dM_read_2 : decode bM_read 2 = .ok (.putfield 113, 3) := by decide +kernel
theorem dM_read_5 : decode bM_read 5 = .ok (.aload_n 0, 1) := by decide +kernel
theorem dM_read_6 : decode bM_read 6 = .ok (.iconst (-1), 1) := by decide +kernel
theorem dM_read_7 : decode bM_read 7 = .ok (.putfield 147, 3) := by decide +kernel
theorem dM_read_10 : decode bM_read 10 = .ok (.aload_n 0, 1) := by decide +kernel
theorem dM_read_11 : decode bM_read 11 = .ok (.iconst 0, 1) := by decide +kernel
theorem dM_read_12 : decode bM_read 12 = .ok (.putfield 156, 3) := by decide +kernel
theorem dM_read_15 : decode bM_read 15 = .ok (.aload_n 0, 1) := by decide +kernel
theorem dM_read_16 : decode bM_read 16 = .ok (.iconst 0, 1) := by decide +kernel
theorem dM_read_17 : decode bM_read 17 = .ok (.putfield 159, 3) := by decide +kernel
theorem dM_read_20 : decode bM_read 20 = .ok (.iconst 0, 1) := by decide +kernel
theorem dM_read_21 : decode bM_read 21 = .ok (.istore_n 1, 1) := by decide +kernel
theorem dM_read_22 : decode bM_read 22 = .ok (.iload_n 1, 1) := by decide +kernel
theorem dM_read_23 : decode bM_read 23 = .ok (.bipush 26, 2) := by decide +kernel
theorem dM_read_25 : decode bM_read 25 = .ok (.if_icmp .ge 16, 3) := by decide +kernel
theorem dM_read_28 : decode bM_read 28 = .ok (.aload_n 0, 1) := by decide +kernel
theorem dM_read_29 : decode bM_read 29 = .ok (.getfield 37, 3) := by decide +kernel
theorem dM_read_32 : decode bM_read 32 = .ok (.iload_n 1, 1) := by decide +kernel
theorem dM_read_33 : decode bM_read 33 = .ok (.iconst 0, 1) := by decide +kernel
theorem dM_read_34 : decode bM_read 34 = .ok (.iastore, 1) := by decide +kernel
theorem dM_read_35 : decode bM_read 35 = .ok (.iinc 1 1, 3) := by decide +kernel
theorem dM_read_38 : decode bM_read 38 = .ok (.goto (-16), 3) := by decide +kernel
theorem dM_read_41 : decode bM_read 41 = .ok (.aload_n 0, 1) := by decide +kernel
theorem dM_read_42 : decode bM_read 42 = .ok (.invokevirtual 150, 3) := by decide +kernel
theorem dM_read_45 : decode bM_read 45 = .ok (.aload_n 0, 1) := by decide +kernel
theorem dM_read_46 : decode bM_read 46 = .ok (.iconst 1, 1) := by decide +kernel
theorem dM_read_47 : decode bM_read 47 = .ok (.iconst 0, 1) := by decide +kernel
theorem dM_read_48 : decode bM_read 48 = .ok (.iconst 0, 1) := by decide +kernel
theorem dM_read_49 : decode bM_read 49 = .ok (.invokevirtual 162, 3) := by decide +kernel
theorem dM_read_52 : decode bM_read 52 = .ok (.aload_n 0, 1) := by decide +kernel
theorem dM_read_53 : decode bM_read 53 = .ok (.getfield 156, 3) := by decide +kernel
theorem dM_read_56 : decode bM_read 56 = .ok (.ifCond .le 55, 3) := by decide +kernel
theorem dM_read_59 : decode bM_read 59 = .ok (.aload_n 0, 1) := by decide +kernel
theorem dM_read_60 : decode bM_read 60 = .ok (.getfield 147, 3) := by decide +kernel
theorem dM_read_63 : decode bM_read 63 = .ok (.iconst (-1), 1) := by decide +kernel
theorem dM_read_64 : decode bM_read 64 = .ok (.if_icmp .ne 47, 3) := by decide +kernel
theorem dM_read_67 : decode bM_read 67 = .ok (.aload_n 0, 1) := by decide +kernel
theorem dM_read_68 : decode bM_read 68 = .ok (.dup, 1) := by decide +kernel
theorem dM_read_69 : decode bM_read 69 = .ok (.getfield 156, 3) := by decide +kernel
theorem dM_read_72 : decode bM_read 72 = .ok (.iconst 1, 1) := by decide +kernel
theorem dM_read_73 : decode bM_read 73 = .ok (.isub, 1) := by decide +kernel
theorem dM_read_74 : decode bM_read 74 = .ok (.putfield 156, 3) := by decide +kernel
theorem dM_read_77 : decode bM_read 77 = .ok (.aload_n 0, 1) := by decide +kernel
theorem dM_read_78 : decode bM_read 78 = .ok (.aload_n 0, 1) := by decide +kernel
theorem dM_read_79 : decode bM_read 79 = .ok (.getfield 28, 3) := by decide +kernel
theorem dM_read_82 : decode bM_read 82 = .ok (.aload_n 0, 1) := by decide +kernel
theorem dM_read_83 : decode bM_read 83 = .ok (.getfield 156, 3) := by decide +kernel
theorem dM_read_86 : decode bM_read 86 = .ok (.iaload, 1) := by decide +kernel
theorem dM_read_87 : decode bM_read 87 = .ok (.aload_n 0, 1) := by decide +kernel
theorem dM_read_88 : decode bM_read 88 = .ok (.getfield 31, 3) := by decide +kernel
theorem dM_read_91 : decode bM_read 91 = .ok (.aload_n 0, 1) := by decide +kernel
theorem dM_read_92 : decode bM_read 92 = .ok (.getfield 156, 3) := by decide +kernel
theorem dM_read_95 : decode bM_read 95 = .ok (.iaload, 1) := by decide +kernel
theorem dM_read_96 : decode bM_read 96 = .ok (.aload_n 0, 1) := by decide +kernel
theorem dM_read_97 : decode bM_read 97 = .ok (.getfield 34, 3) := by decide +kernel
theorem dM_read_100 : decode bM_read 100 = .ok (.aload_n 0, 1) := by decide +kernel
theorem dM_read_101 : decode bM_read 101 = .ok (.getfield 156, 3) := by decide +kernel
theorem dM_read_104 : decode bM_read 104 = .ok (.iaload, 1) := by decide +kernel
theorem dM_read_105 : decode bM_read 105 = .ok (.invokevirtual 166, 3) := by decide +kernel
theorem dM_read_108 : decode bM_read 108 = .ok (.goto (-56), 3) := by decide +kernel
theorem dM_read_111 : decode bM_read 111 = .ok (.aload_n 0, 1) := by decide +kernel
theorem dM_read_112 : decode bM_read 112 = .ok (.getfield 134, 3) := by decide +kernel
theorem dM_read_115 : decode bM_read 115 = .ok (.ifCond .eq 7, 3) := by decide +kernel
theorem dM_read_118 : decode bM_read 118 = .ok (.aload_n 0, 1) := by decide +kernel
theorem dM_read_119 : decode bM_read 119 = .ok (.invokevirtual 153, 3) := by decide +kernel
theorem dM_read_122 : decode bM_read 122 = .ok (.return_, 1) := by decide +kernel
theorem dM_come_0 : decode bM_come 0 = .ok (.iload_n 1, 1) := by decide +kernel
theorem dM_come_1 : decode bM_come 1 = .ok (.tableswitch 234 1 8 #[47, 64, 72, 134, 142, 234, 186, 213], 47) := by decide +kernel
theorem dM_come_48 : decode bM_come 48 = .ok (.aload_n 0, 1) := by decide +kernel
theorem dM_come_49 : decode bM_come 49 = .ok (.iconst 3, 1) := by decide +kernel
theorem dM_come_50 : decode bM_come 50 = .ok (.iload_n 2, 1) := by decide +kernel
theorem dM_come_51 : decode bM_come 51 = .ok (.iconst 0, 1) := by decide +kernel
theorem dM_come_52 : decode bM_come 52 = .ok (.invokevirtual 162, 3) := by decide +kernel
theorem dM_come_55 : decode bM_come 55 = .ok (.aload_n 0, 1) := by decide +kernel
theorem dM_come_56 : decode bM_come 56 = .ok (.iconst 2, 1) := by decide +kernel
theorem dM_come_57 : decode bM_come 57 = .ok (.iload_n 2, 1) := by decide +kernel
theorem dM_come_58 : decode bM_come 58 = .ok (.iconst 0, 1) := by decide +kernel
theorem dM_come_59 : decode bM_come 59 = .ok (.invokevirtual 162, 3) := by decide +kernel
theorem dM_come_62 : decode bM_come 62 = .ok (.goto 180, 3) := by decide +kernel
theorem dM_come_65 : decode bM_come 65 = .ok (.aload_n 0, 1) := by decide +kernel
theorem dM_come_66 : decode bM_come 66 = .ok (.iload_n 2, 1) := by decide +kernel
theorem dM_come_67 : decode bM_come 67 = .ok (.invokevirtual 169, 3) := by decide +kernel
theorem dM_come_70 : decode bM_come 70 = .ok (.goto 172, 3) := by decide +kernel
theorem dM_come_73 : decode bM_come 73 = .ok (.aload_n 0, 1) := by decide +kernel
theorem dM_come_74 : decode bM_come 74 = .ok (.getfield 134, 3) := by decide +kernel
theorem dM_come_77 : decode bM_come 77 = .ok (.bipush 43, 2) := by decide +kernel
theorem dM_come_79 : decode bM_come 79 = .ok (.if_icmp .eq 24, 3) := by decide +kernel
theorem dM_come_82 : decode bM_come 82 = .ok (.aload_n 0, 1) := by decide +kernel
theorem dM_come_83 : decode bM_come 83 = .ok (.getfield 134, 3) := by decide +kernel
theorem dM_come_86 : decode bM_come 86 = .ok (.bipush 45, 2) := by decide +kernel
theorem dM_come_88 : decode bM_come 88 = .ok (.if_icmp .eq 15, 3) := by decide +kernel
theorem dM_come_91 : decode bM_come 91 = .ok (.aload_n 0, 1) := by decide +kernel
theorem dM_come_92 : decode bM_come 92 = .ok (.getfield 134, 3) := by decide +kernel
theorem dM_come_95 : decode bM_come 95 = .ok (.bipush 38, 2) := by decide +kernel
theorem dM_come_97 : decode bM_come 97 = .ok (.if_icmp .eq 6, 3) := by decide +kernel
theorem dM_come_100 : decode bM_come 100 = .ok (.goto 142, 3) := by decide +kernel
theorem dM_come_103 : decode bM_come 103 = .ok (.aload_n 0, 1) := by decide +kernel
theorem dM_come_104 : decode bM_come 104 = .ok (.iconst 3, 1) := by decide +kernel
theorem dM_come_105 : decode bM_come 105 = .ok (.iload_n 2, 1) := by decide +kernel
theorem dM_come_106 : decode bM_come 106 = .ok (.iconst 0, 1) := by decide +kernel
theorem dM_come_107 : decode bM_come 107 = .ok (.invokevirtual 162, 3) := by decide +kernel
theorem dM_come_110 : decode bM_come 110 = .ok (.aload_n 0, 1) := by decide +kernel
theorem dM_come_111 : decode bM_come 111 = .ok (.bipush 6, 2) := by decide +kernel
theorem dM_come_113 : decode bM_come 113 = .ok (.iconst 0, 1) := by decide +kernel
theorem dM_come_114 : decode bM_come 114 = .ok (.aload_n 0, 1) := by decide +kernel
theorem dM_come_115 : decode bM_come 115 = .ok (.getfield 134, 3) := by decide +kernel
theorem dM_come_118 : decode bM_come 118 = .ok (.invokevirtual 162, 3) := by decide +kernel
theorem dM_come_121 : decode bM_come 121 = .ok (.aload_n 0, 1) := by decide +kernel
theorem dM_come_122 : decode bM_come 122 = .ok (.iconst 2, 1) := by decide +kernel
theorem dM_come_123 : decode bM_come 123 = .ok (.iload_n 2, 1) := by decide +kernel
theorem dM_come_124 : decode bM_come 124 = .ok (.iconst 0, 1) := by decide +kernel
theorem dM_come_125 : decode bM_come 125 = .ok (.invokevirtual 162, 3) := by decide +kernel
theorem dM_come_128 : decode bM_come 128 = .ok (.aload_n 0, 1) := by decide +kernel
theorem dM_come_129 : decode bM_come 129 = .ok (.invokevirtual 150, 3) := by decide +kernel
theorem dM_come_132 : decode bM_come 132 = .ok (.goto 110, 3) := by decide +kernel
theorem dM_come_135 : decode bM_come 135 = .ok (.aload_n 0, 1) := by decide +kernel
theorem dM_come_136 : decode bM_come 136 = .ok (.iload_n 3, 1) := by decide +kernel
theorem dM_come_137 : decode bM_come 137 = .ok (.invokevirtual 173, 3) := by decide +kernel
theorem dM_come_140 : decode bM_come 140 = .ok (.goto 102, 3) := by decide +kernel
theorem dM_come_143 : decode bM_come 143 = .ok (.iconst (-1), 1) := by decide +kernel
theorem dM_come_144 : decode bM_come 144 = .ok (.istore 4, 2) := by decide +kernel
theorem dM_come_146 : decode bM_come 146 = .ok (.aload_n 0, 1) := by decide +kernel
theorem dM_come_147 : decode bM_come 147 = .ok (.getfield 134, 3) := by decide +kernel
theorem dM_come_150 : decode bM_come 150 = .ok (.bipush 44, 2) := by decide +kernel
theorem dM_come_152 : decode bM_come 152 = .ok (.if_icmp .ne 18, 3) := by decide +kernel
theorem dM_come_155 : decode bM_come 155 = .ok (.aload_n 0, 1) := by decide +kernel
theorem dM_come_156 : decode bM_come 156 = .ok (.invokevirtual 150, 3) := by decide +kernel
theorem dM_come_159 : decode bM_come 159 = .ok (.aload_n 0, 1) := by decide +kernel
theorem dM_come_160 : decode bM_come 160 = .ok (.getfield 140, 3) := by decide +kernel
theorem dM_come_163 : decode bM_come 163 = .ok (.istore 4, 2) := by decide +kernel
theorem dM_come_165 : decode bM_come 165 = .ok (.aload_n 0, 1) := by decide +kernel
theorem dM_come_166 : decode bM_come 166 = .ok (.iconst 4, 1) := by decide +kernel
theorem dM_come_167 : decode bM_come 167 = .ok (.invokevirtual 173, 3) := by decide +kernel
theorem dM_come_170 : decode bM_come 170 = .ok (.aload_n 0, 1) := by decide +kernel
theorem dM_come_171 : decode bM_come 171 = .ok (.bipush 41, 2) := by decide +kernel
theorem dM_come_173 : decode bM_come 173 = .ok (.invokevirtual 173, 3) := by decide +kernel
theorem dM_come_176 : decode bM_come 176 = .ok (.aload_n 0, 1) := by decide +kernel
theorem dM_come_177 : decode bM_come 177 = .ok (.iload_n 3, 1) := by decide +kernel
theorem dM_come_178 : decode bM_come 178 = .ok (.iload 4, 2) := by decide +kernel
theorem dM_come_180 : decode bM_come 180 = .ok (.iconst 0, 1) := by decide +kernel
theorem dM_come_181 : decode bM_come 181 = .ok (.invokevirtual 176, 3) := by decide +kernel
theorem dM_come_184 : decode bM_come 184 = .ok (.goto 58, 3) := by decide +kernel
theorem dM_come_187 : decode bM_come 187 = .ok (.aload_n 0, 1) := by decide +kernel
theorem dM_come_188 : decode bM_come 188 = .ok (.bipush 13, 2) := by decide +kernel
theorem dM_come_190 : decode bM_come 190 = .ok (.invokevirtual 173, 3) := by decide +kernel
theorem dM_come_193 : decode bM_come 193 = .ok (.aload_n 0, 1) := by decide +kernel
theorem dM_come_194 : decode bM_come 194 = .ok (.getfield 37, 3) := by decide +kernel
theorem dM_come_197 : decode bM_come 197 = .ok (.iload_n 3, 1) := by decide +kernel
theorem dM_come_198 : decode bM_come 198 = .ok (.dup2, 1) := by decide +kernel
theorem dM_come_199 : decode bM_come 199 = .ok (.iaload, 1) := by decide +kernel
theorem dM_come_200 : decode bM_come 200 = .ok (.iconst 1, 1) := by decide +kernel
theorem dM_come_201 : decode bM_come 201 = .ok (.iadd, 1) := by decide +kernel
theorem dM_come_202 : decode bM_come 202 = .ok (.iastore, 1) := by decide +kernel
theorem dM_come_203 : decode bM_come 203 = .ok (.aload_n 0, 1) := by decide +kernel
theorem dM_come_204 : decode bM_come 204 = .ok (.bipush 20, 2) := by decide +kernel
theorem dM_come_206 : decode bM_come 206 = .ok (.iload_n 3, 1) := by decide +kernel
theorem dM_come_207 : decode bM_come 207 = .ok (.iconst 0, 1) := by decide +kernel
theorem dM_come_208 : decode bM_come 208 = .ok (.invokevirtual 176, 3) := by decide +kernel
theorem dM_come_211 : decode bM_come 211 = .ok (.goto 31, 3) := by decide +kernel
theorem dM_come_214 : decode bM_come 214 = .ok (.aload_n 0, 1) := by decide +kernel
theorem dM_come_215 : decode bM_come 215 = .ok (.getfield 37, 3) := by decide +kernel
theorem dM_come_218 : decode bM_come 218 = .ok (.iload_n 3, 1) := by decide +kernel
theorem dM_come_219 : decode bM_come 219 = .ok (.dup2, 1) := by decide +kernel
theorem dM_come_220 : decode bM_come 220 = .ok (.iaload, 1) := by decide +kernel
theorem dM_come_221 : decode bM_come 221 = .ok (.iconst 1, 1) := by decide +kernel
theorem dM_come_222 : decode bM_come 222 = .ok (.isub, 1) := by decide +kernel
theorem dM_come_223 : decode bM_come 223 = .ok (.iastore, 1) := by decide +kernel
theorem dM_come_224 : decode bM_come 224 = .ok (.aload_n 0, 1) := by decide +kernel
theorem dM_come_225 : decode bM_come 225 = .ok (.bipush 21, 2) := by decide +kernel
theorem dM_come_227 : decode bM_come 227 = .ok (.iload_n 3, 1) := by decide +kernel
theorem dM_come_228 : decode bM_come 228 = .ok (.iconst 0, 1) := by decide +kernel
theorem dM_come_229 : decode bM_come 229 = .ok (.invokevirtual 176, 3) := by decide +kernel
theorem dM_come_232 : decode bM_come 232 = .ok (.goto 10, 3) := by decide +kernel
theorem dM_come_235 : decode bM_come 235 = .ok (.aload_n 0, 1) := by decide +kernel
theorem dM_come_236 : decode bM_come 236 = .ok (.iload_n 3, 1) := by decide +kernel
theorem dM_come_237 : decode bM_come 237 = .ok (.iload_n 2, 1) := by decide +kernel
theorem dM_come_238 : decode bM_come 238 = .ok (.iconst 0, 1) := by decide +kernel
theorem dM_come_239 : decode bM_come 239 = .ok (.invokevirtual 176, 3) := by decide +kernel
theorem dM_come_242 : decode bM_come 242 = .ok (.return_, 1) := by decide +kernel
theorem dM_term_0 : decode bM_term 0 = .ok (.aload_n 0, 1) := by decide +kernel
theorem dM_term_1 : decode bM_term 1 = .ok (.getfield 134, 3) := by decide +kernel
theorem dM_term_4 : decode bM_term 4 = .ok (.istore_n 2, 1) := by decide +kernel
theorem dM_term_5 : decode bM_term 5 = .ok (.aload_n 0, 1) := by decide +kernel
theorem dM_term_6 : decode bM_term 6 = .ok (.getfield 140, 3) := by decide +kernel
theorem dM_term_9 : decode bM_term 9 = .ok (.istore_n 3, 1) := by decide +kernel
theorem dM_term_10 : decode bM_term 10 = .ok (.aload_n 0, 1) := by decide +kernel
theorem dM_term_11 : decode bM_term 11 = .ok (.getfield 110, 3) := by decide +kernel
theorem dM_term_14 : decode bM_term 14 = .ok (.istore 4, 2) := by decide +kernel
theorem dM_term_16 : decode bM_term 16 = .ok (.iload_n 1, 1) := by decide +kernel
theorem dM_term_17 : decode bM_term 17 = .ok (.bipush 12, 2) := by decide +kernel
theorem dM_term_19 : decode bM_term 19 = .ok (.if_icmp .eq 17, 3) := by decide +kernel
theorem dM_term_22 : decode bM_term 22 = .ok (.iload_n 2, 1) := by decide +kernel
theorem dM_term_23 : decode bM_term 23 = .ok (.iconst 3, 1) := by decide +kernel
theorem dM_term_24 : decode bM_term 24 = .ok (.if_icmp .ne 17, 3) := by decide +kernel
theorem dM_term_27 : decode bM_term 27 = .ok (.aload_n 0, 1) := by decide +kernel
theorem dM_term_28 : decode bM_term 28 = .ok (.getfield 37, 3) := by decide +kernel
theorem dM_term_31 : decode bM_term 31 = .ok (.iload_n 3, 1) := by decide +kernel
theorem dM_term_32 : decode bM_term 32 = .ok (.iaload, 1) := by decide +kernel
theorem dM_term_33 : decode bM_term 33 = .ok (.ifCond .ne 8, 3) := by decide +kernel
theorem dM_term_36 : decode bM_term 36 = .ok (.aload_n 0, 1) := by decide +kernel
theorem dM_term_37 : decode bM_term 37 = .ok (.invokevirtual 153, 3) := by decide +kernel
theorem dM_term_40 : decode bM_term 40 = .ok (.return_, 1) := by decide +kernel
theorem dM_term_41 : decode bM_term 41 = .ok (.iload_n 2, 1) := by decide +kernel
theorem dM_term_42 : decode bM_term 42 = .ok (.lookupswitch 244 #[(2, 82), (3, 82), (5, 82), (6, 121), (7, 121), (8, 188), (10, 150), (11, 150), (40, 97)], 82) := by decide +kernel
theorem dM_term_124 : decode bM_term 124 = .ok (.aload_n 0, 1) := by decide +kernel
theorem dM_term_125 : decode bM_term 125 = .ok (.iload_n 2, 1) := by decide +kernel
theorem dM_term_126 : decode bM_term 126 = .ok (.iload_n 3, 1) := by decide +kernel
theorem dM_term_127 : decode bM_term 127 = .ok (.iload 4, 2) := by decide +kernel
theorem dM_term_129 : decode bM_term 129 = .ok (.invokevirtual 176, 3) := by decide +kernel
theorem dM_term_132 : decode bM_term 132 = .ok (.aload_n 0, 1) := by decide +kernel
theorem dM_term_133 : decode bM_term 133 = .ok (.invokevirtual 150, 3) := by decide +kernel
theorem dM_term_136 : decode bM_term 136 = .ok (.goto 156, 3) := by decide +kernel
theorem dM_term_139 : decode bM_term 139 = .ok (.aload_n 0, 1) := by decide +kernel
theorem dM_term_140 : decode bM_term 140 = .ok (.invokevirtual 150, 3) := by decide +kernel
theorem dM_term_143 : decode bM_term 143 = .ok (.aload_n 0, 1) := by decide +kernel
theorem dM_term_144 : decode bM_term 144 = .ok (.iconst 4, 1) := by decide +kernel
theorem dM_term_145 : decode bM_term 145 = .ok (.iconst 0, 1) := by decide +kernel
theorem dM_term_146 : decode bM_term 146 = .ok (.bipush 41, 2) := by decide +kernel
theorem dM_term_148 : decode bM_term 148 = .ok (.invokevirtual 162, 3) := by decide +kernel
theorem dM_term_151 : decode bM_term 151 = .ok (.aload_n 0, 1) := by decide +kernel
theorem dM_term_152 : decode bM_term 152 = .ok (.iconst 1, 1) := by decide +kernel
theorem dM_term_153 : decode bM_term 153 = .ok (.iload_n 1, 1) := by decide +kernel
theorem dM_term_154 : decode bM_term 154 = .ok (.iconst 1, 1) := by decide +kernel
theorem dM_term_155 : decode bM_term 155 = .ok (.iadd, 1) := by decide +kernel
theorem dM_term_156 : decode bM_term 156 = .ok (.iconst 0, 1) := by decide +kernel
theorem dM_term_157 : decode bM_term 157 = .ok (.invokevirtual 162, 3) := by decide +kernel
theorem dM_term_160 : decode bM_term 160 = .ok (.goto 132, 3) := by decide +kernel
theorem dM_term_163 : decode bM_term 163 = .ok (.aload_n 0, 1) := by decide +kernel
theorem dM_term_164 : decode bM_term 164 = .ok (.invokevirtual 150, 3) := by decide +kernel
theorem dM_term_167 : decode bM_term 167 = .ok (.aload_n 0, 1) := by decide +kernel
theorem dM_term_168 : decode bM_term 168 = .ok (.bipush 40, 2) := by decide +kernel
theorem dM_term_170 : decode bM_term 170 = .ok (.invokevirtual 173, 3) := by decide +kernel
theorem dM_term_173 : decode bM_term 173 = .ok (.aload_n 0, 1) := by decide +kernel
theorem dM_term_174 : decode bM_term 174 = .ok (.iconst 5, 1) := by decide +kernel
theorem dM_term_175 : decode bM_term 175 = .ok (.iconst 0, 1) := by decide +kernel
theorem dM_term_176 : decode bM_term 176 = .ok (.iload_n 2, 1) := by decide +kernel
theorem dM_term_177 : decode bM_term 177 = .ok (.invokevirtual 162, 3) := by decide +kernel
theorem dM_term_180 : decode bM_term 180 = .ok (.aload_n 0, 1) := by decide +kernel
theorem dM_term_181 : decode bM_term 181 = .ok (.iconst 1, 1) := by decide +kernel
theorem dM_term_182 : decode bM_term 182 = .ok (.iload_n 1, 1) := by decide +kernel
theorem dM_term_183 : decode bM_term 183 = .ok (.iconst 1, 1) := by decide +kernel
theorem dM_term_184 : decode bM_term 184 = .ok (.iadd, 1) := by decide +kernel
theorem dM_term_185 : decode bM_term 185 = .ok (.iconst 0, 1) := by decide +kernel
theorem dM_term_186 : decode bM_term 186 = .ok (.invokevirtual 162, 3) := by decide +kernel
theorem dM_term_189 : decode bM_term 189 = .ok (.goto 103, 3) := by decide +kernel
theorem dM_term_192 : decode bM_term 192 = .ok (.aload_n 0, 1) := by decide +kernel
theorem dM_term_193 : decode bM_term 193 = .ok (.invokevirtual 150, 3) := by decide +kernel
theorem dM_term_196 : decode bM_term 196 = .ok (.aload_n 0, 1) := by decide +kernel
theorem dM_term_197 : decode bM_term 197 = .ok (.bipush 40, 2) := by decide +kernel
theorem dM_term_199 : decode bM_term 199 = .ok (.invokevirtual 173, 3) := by decide +kernel
theorem dM_term_202 : decode bM_term 202 = .ok (.aload_n 0, 1) := by decide +kernel
theorem dM_term_203 : decode bM_term 203 = .ok (.bipush 6, 2) := by decide +kernel
theorem dM_term_205 : decode bM_term 205 = .ok (.iconst 0, 1) := by decide +kernel
theorem dM_term_206 : decode bM_term 206 = .ok (.iload_n 2, 1) := by decide +kernel
theorem dM_term_207 : decode bM_term 207 = .ok (.invokevirtual 162, 3) := by decide +kernel
theorem dM_term_210 : decode bM_term 210 = .ok (.aload_n 0, 1) := by decide +kernel
theorem dM_term_211 : decode bM_term 211 = .ok (.iconst 4, 1) := by decide +kernel
theorem dM_term_212 : decode bM_term 212 = .ok (.iconst 0, 1) := by decide +kernel
theorem dM_term_213 : decode bM_term 213 = .ok (.bipush 41, 2) := by decide +kernel
theorem dM_term_215 : decode bM_term 215 = .ok (.invokevirtual 162, 3) := by decide +kernel
theorem dM_term_218 : decode bM_term 218 = .ok (.aload_n 0, 1) := by decide +kernel
theorem dM_term_219 : decode bM_term 219 = .ok (.iconst 1, 1) := by decide +kernel
theorem dM_term_220 : decode bM_term 220 = .ok (.iload_n 1, 1) := by decide +kernel
theorem dM_term_221 : decode bM_term 221 = .ok (.iconst 1, 1) := by decide +kernel
theorem dM_term_222 : decode bM_term 222 = .ok (.iadd, 1) := by decide +kernel
theorem dM_term_223 : decode bM_term 223 = .ok (.iconst 0, 1) := by decide +kernel
theorem dM_term_224 : decode bM_term 224 = .ok (.invokevirtual 162, 3) := by decide +kernel
theorem dM_term_227 : decode bM_term 227 = .ok (.goto 65, 3) := by decide +kernel
theorem dM_term_230 : decode bM_term 230 = .ok (.aload_n 0, 1) := by decide +kernel
theorem dM_term_231 : decode bM_term 231 = .ok (.invokevirtual 150, 3) := by decide +kernel
theorem dM_term_234 : decode bM_term 234 = .ok (.aload_n 0, 1) := by decide +kernel
theorem dM_term_235 : decode bM_term 235 = .ok (.bipush 40, 2) := by decide +kernel
theorem dM_term_237 : decode bM_term 237 = .ok (.invokevirtual 173, 3) := by decide +kernel
theorem dM_term_240 : decode bM_term 240 = .ok (.aload_n 0, 1) := by decide +kernel
theorem dM_term_241 : decode bM_term 241 = .ok (.bipush 6, 2) := by decide +kernel
theorem dM_term_243 : decode bM_term 243 = .ok (.iconst 0, 1) := by decide +kernel
theorem dM_term_244 : decode bM_term 244 = .ok (.bipush 8, 2) := by decide +kernel
theorem dM_term_246 : decode bM_term 246 = .ok (.invokevirtual 162, 3) := by decide +kernel
theorem dM_term_249 : decode bM_term 249 = .ok (.aload_n 0, 1) := by decide +kernel
theorem dM_term_250 : decode bM_term 250 = .ok (.iconst 4, 1) := by decide +kernel
theorem dM_term_251 : decode bM_term 251 = .ok (.iconst 0, 1) := by decide +kernel
theorem dM_term_252 : decode bM_term 252 = .ok (.bipush 41, 2) := by decide +kernel
theorem dM_term_254 : decode bM_term 254 = .ok (.invokevirtual 162, 3) := by decide +kernel
theorem dM_term_257 : decode bM_term 257 = .ok (.aload_n 0, 1) := by decide +kernel
theorem dM_term_258 : decode bM_term 258 = .ok (.iconst 1, 1) := by decide +kernel
theorem dM_term_259 : decode bM_term 259 = .ok (.iload_n 1, 1) := by decide +kernel
theorem dM_term_260 : decode bM_term 260 = .ok (.iconst 1, 1) := by decide +kernel
theorem dM_term_261 : decode bM_term 261 = .ok (.iadd, 1) := by decide +kernel
theorem dM_term_262 : decode bM_term 262 = .ok (.iconst 0, 1) := by decide +kernel
theorem dM_term_263 : decode bM_term 263 = .ok (.invokevirtual 162, 3) := by decide +kernel
theorem dM_term_266 : decode bM_term 266 = .ok (.aload_n 0, 1) := by decide +kernel
theorem dM_term_267 : decode bM_term 267 = .ok (.iconst 4, 1) := by decide +kernel
theorem dM_term_268 : decode bM_term 268 = .ok (.iconst 0, 1) := by decide +kernel
theorem dM_term_269 : decode bM_term 269 = .ok (.bipush 44, 2) := by decide +kernel
theorem dM_term_271 : decode bM_term 271 = .ok (.invokevirtual 162, 3) := by decide +kernel
theorem dM_term_274 : decode bM_term 274 = .ok (.aload_n 0, 1) := by decide +kernel
theorem dM_term_275 : decode bM_term 275 = .ok (.iconst 1, 1) := by decide +kernel
theorem dM_term_276 : decode bM_term 276 = .ok (.iload_n 1, 1) := by decide +kernel
theorem dM_term_277 : decode bM_term 277 = .ok (.iconst 1, 1) := by decide +kernel
theorem dM_term_278 : decode bM_term 278 = .ok (.iadd, 1) := by decide +kernel
theorem dM_term_279 : decode bM_term 279 = .ok (.iconst 0, 1) := by decide +kernel
theorem dM_term_280 : decode bM_term 280 = .ok (.invokevirtual 162, 3) := by decide +kernel
theorem dM_term_283 : decode bM_term 283 = .ok (.goto 9, 3) := by decide +kernel
theorem dM_term_286 : decode bM_term 286 = .ok (.aload_n 0, 1) := by decide +kernel
theorem dM_term_287 : decode bM_term 287 = .ok (.iload_n 2, 1) := by decide +kernel
theorem dM_term_288 : decode bM_term 288 = .ok (.iload_n 1, 1) := by decide +kernel
theorem dM_term_289 : decode bM_term 289 = .ok (.invokevirtual 179, 3) := by decide +kernel
theorem dM_term_292 : decode bM_term 292 = .ok (.return_, 1) := by decide +kernel
theorem dM_others_0 : decode bM_others 0 = .ok (.iload_n 1, 1) := by decide +kernel
theorem dM_others_1 : decode bM_others 1 = .ok (.bipush 9, 2) := by decide +kernel
theorem dM_others_3 : decode bM_others 3 = .ok (.if_icmp .eq 14, 3) := by decide +kernel
theorem dM_others_6 : decode bM_others 6 = .ok (.iload_n 1, 1) := by decide +kernel
theorem dM_others_7 : decode bM_others 7 = .ok (.bipush 12, 2) := by decide +kernel
theorem dM_others_9 : decode bM_others 9 = .ok (.if_icmp .eq 8, 3) := by decide +kernel
theorem dM_others_12 : decode bM_others 12 = .ok (.aload_n 0, 1) := by decide +kernel
theorem dM_others_13 : decode bM_others 13 = .ok (.invokevirtual 153, 3) := by decide +kernel
theorem dM_others_16 : decode bM_others 16 = .ok (.return_, 1) := by decide +kernel
theorem dM_others_17 : decode bM_others 17 = .ok (.aload_n 0, 1) := by decide +kernel
theorem dM_others_18 : decode bM_others 18 = .ok (.invokevirtual 150, 3) := by decide +kernel
theorem dM_others_21 : decode bM_others 21 = .ok (.iload_n 1, 1) := by decide +kernel
theorem dM_others_22 : decode bM_others 22 = .ok (.bipush 9, 2) := by decide +kernel
theorem dM_others_24 : decode bM_others 24 = .ok (.if_icmp .ne 9, 3) := by decide +kernel
theorem dM_others_27 : decode bM_others 27 = .ok (.aload_n 0, 1) := by decide +kernel
theorem dM_others_28 : decode bM_others 28 = .ok (.bipush 40, 2) := by decide +kernel
theorem dM_others_30 : decode bM_others 30 = .ok (.invokevirtual 173, 3) := by decide +kernel
theorem dM_others_33 : decode bM_others 33 = .ok (.aload_n 0, 1) := by decide +kernel
theorem dM_others_34 : decode bM_others 34 = .ok (.getfield 140, 3) := by decide +kernel
theorem dM_others_37 : decode bM_others 37 = .ok (.istore_n 3, 1) := by decide +kernel
theorem dM_others_38 : decode bM_others 38 = .ok (.aload_n 0, 1) := by decide +kernel
theorem dM_others_39 : decode bM_others 39 = .ok (.iload_n 1, 1) := by decide +kernel
theorem dM_others_40 : decode bM_others 40 = .ok (.bipush 9, 2) := by decide +kernel
theorem dM_others_42 : decode bM_others 42 = .ok (.if_icmp .ne 7, 3) := by decide +kernel
theorem dM_others_45 : decode bM_others 45 = .ok (.iconst 4, 1) := by decide +kernel
theorem dM_others_46 : decode bM_others 46 = .ok (.goto 4, 3) := by decide +kernel
theorem dM_others_49 : decode bM_others 49 = .ok (.iconst 3, 1) := by decide +kernel
theorem dM_others_50 : decode bM_others 50 = .ok (.invokevirtual 173, 3) := by decide +kernel
theorem dM_others_53 : decode bM_others 53 = .ok (.iload_n 1, 1) := by decide +kernel
theorem dM_others_54 : decode bM_others 54 = .ok (.bipush 9, 2) := by decide +kernel
theorem dM_others_56 : decode bM_others 56 = .ok (.if_icmp .ne 38, 3) := by decide +kernel
theorem dM_others_59 : decode bM_others 59 = .ok (.aload_n 0, 1) := by decide +kernel
theorem dM_others_60 : decode bM_others 60 = .ok (.bipush 44, 2) := by decide +kernel
theorem dM_others_62 : decode bM_others 62 = .ok (.invokevirtual 173, 3) := by decide +kernel
theorem dM_others_65 : decode bM_others 65 = .ok (.aload_n 0, 1) := by decide +kernel
theorem dM_others_66 : decode bM_others 66 = .ok (.bipush 6, 2) := by decide +kernel
theorem dM_others_68 : decode bM_others 68 = .ok (.iload_n 3, 1) := by decide +kernel
theorem dM_others_69 : decode bM_others 69 = .ok (.bipush 9, 2) := by decide +kernel
theorem dM_others_71 : decode bM_others 71 = .ok (.invokevirtual 162, 3) := by decide +kernel
theorem dM_others_74 : decode bM_others 74 = .ok (.aload_n 0, 1) := by decide +kernel
theorem dM_others_75 : decode bM_others 75 = .ok (.iconst 4, 1) := by decide +kernel
theorem dM_others_76 : decode bM_others 76 = .ok (.iconst 0, 1) := by decide +kernel
theorem dM_others_77 : decode bM_others 77 = .ok (.bipush 41, 2) := by decide +kernel
theorem dM_others_79 : decode bM_others 79 = .ok (.invokevirtual 162, 3) := by decide +kernel
theorem dM_others_82 : decode bM_others 82 = .ok (.aload_n 0, 1) := by decide +kernel
theorem dM_others_83 : decode bM_others 83 = .ok (.iconst 1, 1) := by decide +kernel
theorem dM_others_84 : decode bM_others 84 = .ok (.iload_n 2, 1) := by decide +kernel
theorem dM_others_85 : decode bM_others 85 = .ok (.iconst 1, 1) := by decide +kernel
theorem dM_others_86 : decode bM_others 86 = .ok (.iadd, 1) := by decide +kernel
theorem dM_others_87 : decode bM_others 87 = .ok (.iconst 0, 1) := by decide +kernel
theorem dM_others_88 : decode bM_others 88 = .ok (.invokevirtual 162, 3) := by decide +kernel
theorem dM_others_91 : decode bM_others 91 = .ok (.goto 43, 3) := by decide +kernel
theorem dM_others_94 : decode bM_others 94 = .ok (.aload_n 0, 1) := by decide +kernel
theorem dM_others_95 : decode bM_others 95 = .ok (.bipush 61, 2) := by decide +kernel
theorem dM_others_97 : decode bM_others 97 = .ok (.invokevirtual 173, 3) := by decide +kernel
theorem dM_others_100 : decode bM_others 100 = .ok (.aload_n 0, 1) := by decide +kernel
theorem dM_others_101 : decode bM_others 101 = .ok (.bipush 8, 2) := by decide +kernel
theorem dM_others_103 : decode bM_others 103 = .ok (.iconst 0, 1) := by decide +kernel
theorem dM_others_104 : decode bM_others 104 = .ok (.iload_n 3, 1) := by decide +kernel
theorem dM_others_105 : decode bM_others 105 = .ok (.invokevirtual 162, 3) := by decide +kernel
theorem dM_others_108 : decode bM_others 108 = .ok (.aload_n 0, 1) := by decide +kernel
theorem dM_others_109 : decode bM_others 109 = .ok (.iconst 1, 1) := by decide +kernel
theorem dM_others_110 : decode bM_others 110 = .ok (.iload_n 2, 1) := by decide +kernel
theorem dM_others_111 : decode bM_others 111 = .ok (.iconst 1, 1) := by decide +kernel
theorem dM_others_112 : decode bM_others 112 = .ok (.iadd, 1) := by decide +kernel
theorem dM_others_113 : decode bM_others 113 = .ok (.iconst 0, 1) := by decide +kernel
theorem dM_others_114 : decode bM_others 114 = .ok (.invokevirtual 162, 3) := by decide +kernel
theorem dM_others_117 : decode bM_others 117 = .ok (.aload_n 0, 1) := by decide +kernel
theorem dM_others_118 : decode bM_others 118 = .ok (.bipush 7, 2) := by decide +kernel
theorem dM_others_120 : decode bM_others 120 = .ok (.iconst 0, 1) := by decide +kernel
theorem dM_others_121 : decode bM_others 121 = .ok (.iload_n 3, 1) := by decide +kernel
theorem dM_others_122 : decode bM_others 122 = .ok (.invokevirtual 162, 3) := by decide +kernel
theorem dM_others_125 : decode bM_others 125 = .ok (.aload_n 0, 1) := by decide +kernel
theorem dM_others_126 : decode bM_others 126 = .ok (.iconst 1, 1) := by decide +kernel
theorem dM_others_127 : decode bM_others 127 = .ok (.iload_n 2, 1) := by decide +kernel
theorem dM_others_128 : decode bM_others 128 = .ok (.iconst 1, 1) := by decide +kernel
theorem dM_others_129 : decode bM_others 129 = .ok (.iadd, 1) := by decide +kernel
theorem dM_others_130 : decode bM_others 130 = .ok (.iconst 0, 1) := by decide +kernel
theorem dM_others_131 : decode bM_others 131 = .ok (.invokevirtual 162, 3) := by decide +kernel
theorem dM_others_134 : decode bM_others 134 = .ok (.return_, 1) := by decide +kernel
theorem dM_isIn_0 : decode bM_isIn 0 = .ok (.iconst 0, 1) := by decide +kernel
theorem dM_isIn_1 : decode bM_isIn 1 = .ok (.istore 4, 2) := by decide +kernel
theorem dM_isIn_3 : decode bM_isIn 3 = .ok (.iconst 0, 1) := by decide +kernel
theorem dM_isIn_4 : decode bM_isIn 4 = .ok (.istore 5, 2) := by decide +kernel
theorem dM_isIn_6 : decode bM_isIn 6 = .ok (.iload 5, 2) := by decide +kernel
theorem dM_isIn_8 : decode bM_isIn 8 = .ok (.iload_n 2, 1) := by decide +kernel
theorem dM_isIn_9 : decode bM_isIn 9 = .ok (.if_icmp .ge 34, 3) := by decide +kernel
theorem dM_isIn_12 : decode bM_isIn 12 = .ok (.iload 4, 2) := by decide +kernel
theorem dM_isIn_14 : decode bM_isIn 14 = .ok (.ifCond .ne 16, 3) := by decide +kernel
theorem dM_isIn_17 : decode bM_isIn 17 = .ok (.aload_n 0, 1) := by decide +kernel
theorem dM_isIn_18 : decode bM_isIn 18 = .ok (.getfield 49, 3) := by decide +kernel
theorem dM_isIn_21 : decode bM_isIn 21 = .ok (.iload_n 1, 1) := by decide +kernel
theorem dM_isIn_22 : decode bM_isIn 22 = .ok (.iload 5, 2) := by decide +kernel
theorem dM_isIn_24 : decode bM_isIn 24 = .ok (.iadd, 1) := by decide +kernel
theorem dM_isIn_25 : decode bM_isIn 25 = .ok (.iaload, 1) := by decide +kernel
theorem dM_isIn_26 : decode bM_isIn 26 = .ok (.iload_n 3, 1) := by decide +kernel
theorem dM_isIn_27 : decode bM_isIn 27 = .ok (.if_icmp .ne 7, 3) := by decide +kernel
theorem dM_isIn_30 : decode bM_isIn 30 = .ok (.iconst 1, 1) := by decide +kernel
theorem dM_isIn_31 : decode bM_isIn 31 = .ok (.goto 4, 3) := by decide +kernel
theorem dM_isIn_34 : decode bM_isIn 34 = .ok (.iconst 0, 1) := by decide +kernel
theorem dM_isIn_35 : decode bM_isIn 35 = .ok (.istore 4, 2) := by decide +kernel
theorem dM_isIn_37 : decode bM_isIn 37 = .ok (.iinc 5 1, 3) := by decide +kernel
theorem dM_isIn_40 : decode bM_isIn 40 = .ok (.goto (-34), 3) := by decide +kernel
theorem dM_isIn_43 : decode bM_isIn 43 = .ok (.iload 4, 2) := by decide +kernel
theorem dM_isIn_45 : decode bM_isIn 45 = .ok (.ireturn, 1) := by decide +kernel
theorem dM_has_0 : decode bM_has 0 = .ok (.aload_n 0, 1) := by decide +kernel
theorem dM_has_1 : decode bM_has 1 = .ok (.bipush 30, 2) := by decide +kernel
theorem dM_has_3 : decode bM_has 3 = .ok (.aload_n 0, 1) := by decide +kernel
theorem dM_has_4 : decode bM_has 4 = .ok (.getfield 183, 3) := by decide +kernel
theorem dM_has_7 : decode bM_has 7 = .ok (.iconst 1, 1) := by decide +kernel
theorem dM_has_8 : decode bM_has 8 = .ok (.isub, 1) := by decide +kernel
theorem dM_has_9 : decode bM_has 9 = .ok (.iload_n 1, 1) := by decide +kernel
theorem dM_has_10 : decode bM_has 10 = .ok (.isub, 1) := by decide +kernel
theorem dM_has_11 : decode bM_has 11 = .ok (.imul, 1) := by decide +kernel
theorem dM_has_12 : decode bM_has 12 = .ok (.aload_n 0, 1) := by decide +kernel
theorem dM_has_13 : decode bM_has 13 = .ok (.getfield 52, 3) := by decide +kernel
theorem dM_has_16 : decode bM_has 16 = .ok (.aload_n 0, 1) := by decide +kernel
theorem dM_has_17 : decode bM_has 17 = .ok (.getfield 183, 3) := by decide +kernel
theorem dM_has_20 : decode bM_has 20 = .ok (.iconst 1, 1) := by decide +kernel
theorem dM_has_21 : decode bM_has 21 = .ok (.isub, 1) := by decide +kernel
theorem dM_has_22 : decode bM_has 22 = .ok (.iload_n 1, 1) := by decide +kernel
theorem dM_has_23 : decode bM_has 23 = .ok (.isub, 1) := by decide +kernel
theorem dM_has_24 : decode bM_has 24 = .ok (.iaload, 1) := by decide +kernel
theorem dM_has_25 : decode bM_has 25 = .ok (.iload_n 2, 1) := by decide +kernel
theorem dM_has_26 : decode bM_has 26 = .ok (.invokevirtual 186, 3) := by decide +kernel
theorem dM_has_29 : decode bM_has 29 = .ok (.ireturn, 1) := by decide +kernel
theorem dM_begin_0 : decode bM_begin 0 = .ok (.aload_n 0, 1) := by decide +kernel
theorem dM_begin_1 : decode bM_begin 1 = .ok (.getfield 52, 3) := by decide +kernel
theorem dM_begin_4 : decode bM_begin 4 = .ok (.aload_n 0, 1) := by decide +kernel
theorem dM_begin_5 : decode bM_begin 5 = .ok (.getfield 183, 3) := by decide +kernel
theorem dM_begin_8 : decode bM_begin 8 = .ok (.iconst 0, 1) := by decide +kernel
theorem dM_begin_9 : decode bM_begin 9 = .ok (.iastore, 1) := by decide +kernel
theorem dM_begin_10 : decode bM_begin 10 = .ok (.aload_n 0, 1) := by decide +kernel
theorem dM_begin_11 : decode bM_begin 11 = .ok (.dup, 1) := by decide +kernel
theorem dM_begin_12 : decode bM_begin 12 = .ok (.getfield 183, 3) := by decide +kernel
theorem dM_begin_15 : decode bM_begin 15 = .ok (.iconst 1, 1) := by decide +kernel
theorem dM_begin_16 : decode bM_begin 16 = .ok (.iadd, 1) := by decide +kernel
theorem dM_begin_17 : decode bM_begin 17 = .ok (.putfield 183, 3) := by decide +kernel
theorem dM_begin_20 : decode bM_begin 20 = .ok (.return_, 1) := by decide +kernel
theorem dM_add_0 : decode bM_add 0 = .ok (.aload_n 0, 1) := by decide +kernel
theorem dM_add_1 : decode bM_add 1 = .ok (.getfield 49, 3) := by decide +kernel
theorem dM_add_4 : decode bM_add 4 = .ok (.bipush 30, 2) := by decide +kernel
theorem dM_add_6 : decode bM_add 6 = .ok (.aload_n 0, 1) := by decide +kernel
theorem dM_add_7 : decode bM_add 7 = .ok (.getfield 183, 3) := by decide +kernel
theorem dM_add_10 : decode bM_add 10 = .ok (.iconst 1, 1) := by decide +kernel
theorem dM_add_11 : decode bM_add 11 = .ok (.isub, 1) := by decide +kernel
theorem dM_add_12 : decode bM_add 12 = .ok (.imul, 1) := by decide +kernel
theorem dM_add_13 : decode bM_add 13 = .ok (.aload_n 0, 1) := by decide +kernel
theorem dM_add_14 : decode bM_add 14 = .ok (.getfield 52, 3) := by decide +kernel
theorem dM_add_17 : decode bM_add 17 = .ok (.aload_n 0, 1) := by decide +kernel
theorem dM_add_18 : decode bM_add 18 = .ok (.getfield 183, 3) := by decide +kernel
theorem dM_add_21 : decode bM_add 21 = .ok (.iconst 1, 1) := by decide +kernel
theorem dM_add_22 : decode bM_add 22 = .ok (.isub, 1) := by decide +kernel
theorem dM_add_23 : decode bM_add 23 = .ok (.iaload, 1) := by decide +kernel
theorem dM_add_24 : decode bM_add 24 = .ok (.iadd, 1) := by decide +kernel
theorem dM_add_25 : decode bM_add 25 = .ok (.iload_n 1, 1) := by decide +kernel
theorem dM_add_26 : decode bM_add 26 = .ok (.iastore, 1) := by decide +kernel
theorem dM_add_27 : decode bM_add 27 = .ok (.aload_n 0, 1) := by decide +kernel
theorem dM_add_28 : decode bM_add 28 = .ok (.getfield 52, 3) := by decide +kernel
theorem dM_add_31 : decode bM_add 31 = .ok (.aload_n 0, 1) := by decide +kernel
theorem dM_add_32 : decode bM_add 32 = .ok (.getfield 183, 3) := by decide +kernel
theorem dM_add_35 : decode bM_add 35 = .ok (.iconst 1, 1) := by decide +kernel
theorem dM_add_36 : decode bM_add 36 = .ok (.isub, 1) := by decide +kernel
theorem dM_add_37 : decode bM_add 37 = .ok (.dup2, 1) := by decide +kernel
theorem dM_add_38 : decode bM_add 38 = .ok (.iaload, 1) := by decide +kernel
theorem dM_add_39 : decode bM_add 39 = .ok (.iconst 1, 1) := by decide +kernel
theorem dM_add_40 : decode bM_add 40 = .ok (.iadd, 1) := by decide +kernel
