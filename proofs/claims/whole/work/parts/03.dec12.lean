theorem d_Mo_part_317 : decode c_Mo_part 317 = .ok (.iload_n 3, 1) := by decide +kernel
theorem d_Mo_part_318 : decode c_Mo_part 318 = .ok (.ifCond .ge 8, 3) := by decide +kernel
theorem d_Mo_part_321 : decode c_Mo_part 321 = .ok (.iload_n 3, 1) := by decide +kernel
theorem d_Mo_part_322 : decode c_Mo_part 322 = .ok (.ineg, 1) := by decide +kernel
theorem d_Mo_part_323 : decode c_Mo_part 323 = .ok (.goto 4, 3) := by decide +kernel
theorem d_Mo_part_326 : decode c_Mo_part 326 = .ok (.iload_n 3, 1) := by decide +kernel
theorem d_Mo_part_327 : decode c_Mo_part 327 = .ok (.ireturn, 1) := by decide +kernel
theorem d_Mo_part_328 : decode c_Mo_part 328 = .ok (.iload_n 3, 1) := by decide +kernel
theorem d_Mo_part_329 : decode c_Mo_part 329 = .ok (.ldc 143, 2) := by decide +kernel
theorem d_Mo_part_331 : decode c_Mo_part 331 = .ok (.iand, 1) := by decide +kernel
theorem d_Mo_part_332 : decode c_Mo_part 332 = .ok (.ireturn, 1) := by decide +kernel
theorem d_Mo_part_333 : decode c_Mo_part 333 = .ok (.iload_n 3, 1) := by decide +kernel
theorem d_Mo_part_334 : decode c_Mo_part 334 = .ok (.ldc 53, 2) := by decide +kernel
theorem d_Mo_part_336 : decode c_Mo_part 336 = .ok (.iand, 1) := by decide +kernel
theorem d_Mo_part_337 : decode c_Mo_part 337 = .ok (.ireturn, 1) := by decide +kernel
theorem d_Mo_part_338 : decode c_Mo_part 338 = .ok (.iload 6, 2) := by decide +kernel
theorem d_Mo_part_340 : decode c_Mo_part 340 = .ok (.invokestatic 144, 3) := by decide +kernel
theorem d_Mo_part_343 : decode c_Mo_part 343 = .ok (.ireturn, 1) := by decide +kernel
theorem d_Mo_part_344 : decode c_Mo_part 344 = .ok (.iload 6, 2) := by decide +kernel
theorem d_Mo_part_346 : decode c_Mo_part 346 = .ok (.ifCond .gt 8, 3) := by decide +kernel
theorem d_Mo_part_349 : decode c_Mo_part 349 = .ok (.ldc 130, 2) := by decide +kernel
theorem d_Mo_part_351 : decode c_Mo_part 351 = .ok (.goto 13, 3) := by decide +kernel
theorem d_Mo_part_354 : decode c_Mo_part 354 = .ok (.ldc2_w 147, 3) := by decide +kernel
theorem d_Mo_part_357 : decode c_Mo_part 357 = .ok (.iload 6, 2) := by decide +kernel
theorem d_Mo_part_359 : decode c_Mo_part 359 = .ok (.i2l, 1) := by decide +kernel
theorem d_Mo_part_360 : decode c_Mo_part 360 = .ok (.ldiv, 1) := by decide +kernel
theorem d_Mo_part_361 : decode c_Mo_part 361 = .ok (.invokestatic 149, 3) := by decide +kernel
theorem d_Mo_part_364 : decode c_Mo_part 364 = .ok (.ireturn, 1) := by decide +kernel
theorem d_Mo_part_365 : decode c_Mo_part 365 = .ok (.iload 6, 2) := by decide +kernel
theorem d_Mo_part_367 : decode c_Mo_part 367 = .ok (.ifCond .ge 7, 3) := by decide +kernel
theorem d_Mo_part_370 : decode c_Mo_part 370 = .ok (.iconst 0, 1) := by decide +kernel
theorem d_Mo_part_371 : decode c_Mo_part 371 = .ok (.goto 13, 3) := by decide +kernel
theorem d_Mo_part_374 : decode c_Mo_part 374 = .ok (.ldc2_w 112, 3) := by decide +kernel
theorem d_Mo_part_377 : decode c_Mo_part 377 = .ok (.iload 6, 2) := by decide +kernel
theorem d_Mo_part_379 : decode c_Mo_part 379 = .ok (.i2l, 1) := by decide +kernel
theorem d_Mo_part_380 : decode c_Mo_part 380 = .ok (.lmul, 1) := by decide +kernel
theorem d_Mo_part_381 : decode c_Mo_part 381 = .ok (.invokestatic 149, 3) := by decide +kernel
theorem d_Mo_part_384 : decode c_Mo_part 384 = .ok (.ireturn, 1) := by decide +kernel
theorem d_Mo_part_385 : decode c_Mo_part 385 = .ok (.iload_n 3, 1) := by decide +kernel
theorem d_Mo_part_386 : decode c_Mo_part 386 = .ok (.iload 4, 2) := by decide +kernel
theorem d_Mo_part_388 : decode c_Mo_part 388 = .ok (.if_icmp .ge 8, 3) := by decide +kernel
theorem d_Mo_part_391 : decode c_Mo_part 391 = .ok (.ldc 153, 2) := by decide +kernel
theorem d_Mo_part_393 : decode c_Mo_part 393 = .ok (.goto 4, 3) := by decide +kernel
theorem d_Mo_part_396 : decode c_Mo_part 396 = .ok (.iconst 0, 1) := by decide +kernel
theorem d_Mo_part_397 : decode c_Mo_part 397 = .ok (.ireturn, 1) := by decide +kernel
theorem d_Mo_part_398 : decode c_Mo_part 398 = .ok (.iload_n 3, 1) := by decide +kernel
theorem d_Mo_part_399 : decode c_Mo_part 399 = .ok (.iload 4, 2) := by decide +kernel
theorem d_Mo_part_401 : decode c_Mo_part 401 = .ok (.if_icmp .ge 7, 3) := by decide +kernel
theorem d_Mo_part_404 : decode c_Mo_part 404 = .ok (.iconst 0, 1) := by decide +kernel
theorem d_Mo_part_405 : decode c_Mo_part 405 = .ok (.goto 5, 3) := by decide +kernel
theorem d_Mo_part_408 : decode c_Mo_part 408 = .ok (.ldc 153, 2) := by decide +kernel
theorem d_Mo_part_410 : decode c_Mo_part 410 = .ok (.ireturn, 1) := by decide +kernel
theorem d_Mo_part_411 : decode c_Mo_part 411 = .ok (.iload_n 3, 1) := by decide +kernel
theorem d_Mo_part_412 : decode c_Mo_part 412 = .ok (.iload 4, 2) := by decide +kernel
theorem d_Mo_part_414 : decode c_Mo_part 414 = .ok (.if_icmp .ne 8, 3) := by decide +kernel
theorem d_Mo_part_417 : decode c_Mo_part 417 = .ok (.ldc 153, 2) := by decide +kernel
theorem d_Mo_part_419 : decode c_Mo_part 419 = .ok (.goto 4, 3) := by decide +kernel
theorem d_Mo_part_422 : decode c_Mo_part 422 = .ok (.iconst 0, 1) := by decide +kernel
theorem d_Mo_part_423 : decode c_Mo_part 423 = .ok (.ireturn, 1) := by decide +kernel
theorem d_Mo_part_424 : decode c_Mo_part 424 = .ok (.iload_n 3, 1) := by decide +kernel
theorem d_Mo_part_425 : decode c_Mo_part 425 = .ok (.iload 4, 2) := by decide +kernel
theorem d_Mo_part_427 : decode c_Mo_part 427 = .ok (.if_icmp .ne 7, 3) := by decide +kernel
theorem d_Mo_part_430 : decode c_Mo_part 430 = .ok (.iconst 0, 1) := by decide +kernel
theorem d_Mo_part_431 : decode c_Mo_part 431 = .ok (.goto 5, 3) := by decide +kernel
theorem d_Mo_part_434 : decode c_Mo_part 434 = .ok (.ldc 153, 2) := by decide +kernel
theorem d_Mo_part_436 : decode c_Mo_part 436 = .ok (.ireturn, 1) := by decide +kernel
theorem d_Mo_part_437 : decode c_Mo_part 437 = .ok (.iload_n 3, 1) := by decide +kernel
theorem d_Mo_part_438 : decode c_Mo_part 438 = .ok (.ifCond .lt 8, 3) := by decide +kernel
theorem d_Mo_part_441 : decode c_Mo_part 441 = .ok (.iload 4, 2) := by decide +kernel
theorem d_Mo_part_443 : decode c_Mo_part 443 = .ok (.goto 5, 3) := by decide +kernel
theorem d_Mo_part_446 : decode c_Mo_part 446 = .ok (.iload 5, 2) := by decide +kernel
theorem d_Mo_part_448 : decode c_Mo_part 448 = .ok (.ireturn, 1) := by decide +kernel
theorem d_Mo_part_449 : decode c_Mo_part 449 = .ok (.iload_n 3, 1) := by decide +kernel
theorem d_Mo_part_450 : decode c_Mo_part 450 = .ok (.iload 4, 2) := by decide +kernel
theorem d_Mo_part_452 : decode c_Mo_part 452 = .ok (.iload 5, 2) := by decide +kernel
theorem d_Mo_part_454 : decode c_Mo_part 454 = .ok (.isub, 1) := by decide +kernel
theorem d_Mo_part_455 : decode c_Mo_part 455 = .ok (.invokestatic 140, 3) := by decide +kernel
theorem d_Mo_part_458 : decode c_Mo_part 458 = .ok (.iload 5, 2) := by decide +kernel
theorem d_Mo_part_460 : decode c_Mo_part 460 = .ok (.iadd, 1) := by decide +kernel
theorem d_Mo_part_461 : decode c_Mo_part 461 = .ok (.ireturn, 1) := by decide +kernel
theorem d_Mo_part_462 : decode c_Mo_part 462 = .ok (.aload_n 0, 1) := by decide +kernel
theorem d_Mo_part_463 : decode c_Mo_part 463 = .ok (.iload_n 1, 1) := by decide +kernel
theorem d_Mo_part_464 : decode c_Mo_part 464 = .ok (.iload_n 2, 1) := by decide +kernel
theorem d_Mo_part_465 : decode c_Mo_part 465 = .ok (.invokevirtual 154, 3) := by decide +kernel
theorem d_Mo_part_468 : decode c_Mo_part 468 = .ok (.ireturn, 1) := by decide +kernel
theorem d_Mo_put_0 : decode c_Mo_put 0 = .ok (.iconst 0, 1) := by decide +kernel
theorem d_Mo_put_1 : decode c_Mo_put 1 = .ok (.istore_n 3, 1) := by decide +kernel
theorem d_Mo_put_2 : decode c_Mo_put 2 = .ok (.iload_n 3, 1) := by decide +kernel
theorem d_Mo_put_3 : decode c_Mo_put 3 = .ok (.iconst 4, 1) := by decide +kernel
theorem d_Mo_put_4 : decode c_Mo_put 4 = .ok (.if_icmp .ge 60, 3) := by decide +kernel
theorem d_Mo_put_7 : decode c_Mo_put 7 = .ok (.aload_n 0, 1) := by decide +kernel
theorem d_Mo_put_8 : decode c_Mo_put 8 = .ok (.iload_n 2, 1) := by decide +kernel
theorem d_Mo_put_9 : decode c_Mo_put 9 = .ok (.iload_n 3, 1) := by decide +kernel
theorem d_Mo_put_10 : decode c_Mo_put 10 = .ok (.invokevirtual 163, 3) := by decide +kernel
theorem d_Mo_put_13 : decode c_Mo_put 13 = .ok (.istore 4, 2) := by decide +kernel
theorem d_Mo_put_15 : decode c_Mo_put 15 = .ok (.aload_n 0, 1) := by decide +kernel
theorem d_Mo_put_16 : decode c_Mo_put 16 = .ok (.getfield 41, 3) := by decide +kernel
theorem d_Mo_put_19 : decode c_Mo_put 19 = .ok (.iload_n 3, 1) := by decide +kernel
theorem d_Mo_put_20 : decode c_Mo_put 20 = .ok (.iload_n 1, 1) := by decide +kernel
theorem d_Mo_put_21 : decode c_Mo_put 21 = .ok (.bipush 16, 2) := by decide +kernel
theorem d_Mo_put_23 : decode c_Mo_put 23 = .ok (.ishr, 1) := by decide +kernel
theorem d_Mo_put_24 : decode c_Mo_put 24 = .ok (.iconst 1, 1) := by decide +kernel
theorem d_Mo_put_25 : decode c_Mo_put 25 = .ok (.iand, 1) := by decide +kernel
theorem d_Mo_put_26 : decode c_Mo_put 26 = .ok (.ifCond .ne 8, 3) := by decide +kernel
theorem d_Mo_put_29 : decode c_Mo_put 29 = .ok (.iload 4, 2) := by decide +kernel
theorem d_Mo_put_31 : decode c_Mo_put 31 = .ok (.goto 26, 3) := by decide +kernel
theorem d_Mo_put_34 : decode c_Mo_put 34 = .ok (.iload 4, 2) := by decide +kernel
theorem d_Mo_put_36 : decode c_Mo_put 36 = .ok (.ifCond .ge 7, 3) := by decide +kernel
theorem d_Mo_put_39 : decode c_Mo_put 39 = .ok (.iconst 0, 1) := by decide +kernel
theorem d_Mo_put_40 : decode c_Mo_put 40 = .ok (.goto 17, 3) := by decide +kernel
theorem d_Mo_put_43 : decode c_Mo_put 43 = .ok (.iload 4, 2) := by decide +kernel
theorem d_Mo_put_45 : decode c_Mo_put 45 = .ok (.ldc 153, 2) := by decide +kernel
theorem d_Mo_put_47 : decode c_Mo_put 47 = .ok (.if_icmp .le 8, 3) := by decide +kernel
theorem d_Mo_put_50 : decode c_Mo_put 50 = .ok (.ldc 153, 2) := by decide +kernel
theorem d_Mo_put_52 : decode c_Mo_put 52 = .ok (.goto 5, 3) := by decide +kernel
theorem d_Mo_put_55 : decode c_Mo_put 55 = .ok (.iload 4, 2) := by decide +kernel
theorem d_Mo_put_57 : decode c_Mo_put 57 = .ok (.iastore, 1) := by decide +kernel
theorem d_Mo_put_58 : decode c_Mo_put 58 = .ok (.iinc 3 1, 3) := by decide +kernel
theorem d_Mo_put_61 : decode c_Mo_put 61 = .ok (.goto (-59), 3) := by decide +kernel
theorem d_Mo_put_64 : decode c_Mo_put 64 = .ok (.iconst 0, 1) := by decide +kernel
theorem d_Mo_put_65 : decode c_Mo_put 65 = .ok (.istore_n 3, 1) := by decide +kernel
theorem d_Mo_put_66 : decode c_Mo_put 66 = .ok (.iload_n 3, 1) := by decide +kernel
theorem d_Mo_put_67 : decode c_Mo_put 67 = .ok (.iconst 4, 1) := by decide +kernel
theorem d_Mo_put_68 : decode c_Mo_put 68 = .ok (.if_icmp .ge 72, 3) := by decide +kernel
theorem d_Mo_put_71 : decode c_Mo_put 71 = .ok (.iload_n 1, 1) := by decide +kernel
theorem d_Mo_put_72 : decode c_Mo_put 72 = .ok (.bipush 12, 2) := by decide +kernel
theorem d_Mo_put_74 : decode c_Mo_put 74 = .ok (.iload_n 3, 1) := by decide +kernel
theorem d_Mo_put_75 : decode c_Mo_put 75 = .ok (.iadd, 1) := by decide +kernel
theorem d_Mo_put_76 : decode c_Mo_put 76 = .ok (.ishr, 1) := by decide +kernel
theorem d_Mo_put_77 : decode c_Mo_put 77 = .ok (.iconst 1, 1) := by decide +kernel
theorem d_Mo_put_78 : decode c_Mo_put 78 = .ok (.iand, 1) := by decide +kernel
theorem d_Mo_put_79 : decode c_Mo_put 79 = .ok (.iconst 1, 1) := by decide +kernel
theorem d_Mo_put_80 : decode c_Mo_put 80 = .ok (.if_icmp .ne 54, 3) := by decide +kernel
theorem d_Mo_put_83 : decode c_Mo_put 83 = .ok (.iconst 4, 1) := by decide +kernel
theorem d_Mo_put_84 : decode c_Mo_put 84 = .ok (.iload_n 1, 1) := by decide +kernel
theorem d_Mo_put_85 : decode c_Mo_put 85 = .ok (.bipush 8, 2) := by decide +kernel
theorem d_Mo_put_87 : decode c_Mo_put 87 = .ok (.ishr, 1) := by decide +kernel
theorem d_Mo_put_88 : decode c_Mo_put 88 = .ok (.bipush 15, 2) := by decide +kernel
theorem d_Mo_put_90 : decode c_Mo_put 90 = .ok (.iand, 1) := by decide +kernel
theorem d_Mo_put_91 : decode c_Mo_put 91 = .ok (.imul, 1) := by decide +kernel
theorem d_Mo_put_92 : decode c_Mo_put 92 = .ok (.iload_n 3, 1) := by decide +kernel
theorem d_Mo_put_93 : decode c_Mo_put 93 = .ok (.iadd, 1) := by decide +kernel
theorem d_Mo_put_94 : decode c_Mo_put 94 = .ok (.istore 4, 2) := by decide +kernel
theorem d_Mo_put_96 : decode c_Mo_put 96 = .ok (.iload_n 1, 1) := by decide +kernel
theorem d_Mo_put_97 : decode c_Mo_put 97 = .ok (.bipush 6, 2) := by decide +kernel
theorem d_Mo_put_99 : decode c_Mo_put 99 = .ok (.ishr, 1) := by decide +kernel
theorem d_Mo_put_100 : decode c_Mo_put 100 = .ok (.iconst 3, 1) := by decide +kernel
theorem d_Mo_put_101 : decode c_Mo_put 101 = .ok (.iand, 1) := by decide +kernel
theorem d_Mo_put_102 : decode c_Mo_put 102 = .ok (.ifCond .ne 19, 3) := by decide +kernel
theorem d_Mo_put_105 : decode c_Mo_put 105 = .ok (.aload_n 0, 1) := by decide +kernel
theorem d_Mo_put_106 : decode c_Mo_put 106 = .ok (.getfield 23, 3) := by decide +kernel
theorem d_Mo_put_109 : decode c_Mo_put 109 = .ok (.iload 4, 2) := by decide +kernel
theorem d_Mo_put_111 : decode c_Mo_put 111 = .ok (.aload_n 0, 1) := by decide +kernel
theorem d_Mo_put_112 : decode c_Mo_put 112 = .ok (.getfield 41, 3) := by decide +kernel
theorem d_Mo_put_115 : decode c_Mo_put 115 = .ok (.iload_n 3, 1) := by decide +kernel
theorem d_Mo_put_116 : decode c_Mo_put 116 = .ok (.iaload, 1) := by decide +kernel
theorem d_Mo_put_117 : decode c_Mo_put 117 = .ok (.iastore, 1) := by decide +kernel
theorem d_Mo_put_118 : decode c_Mo_put 118 = .ok (.goto 16, 3) := by decide +kernel
theorem d_Mo_put_121 : decode c_Mo_put 121 = .ok (.aload_n 0, 1) := by decide +kernel
theorem d_Mo_put_122 : decode c_Mo_put 122 = .ok (.getfield 29, 3) := by decide +kernel
theorem d_Mo_put_125 : decode c_Mo_put 125 = .ok (.iload 4, 2) := by decide +kernel
theorem d_Mo_put_127 : decode c_Mo_put 127 = .ok (.aload_n 0, 1) := by decide +kernel
theorem d_Mo_put_128 : decode c_Mo_put 128 = .ok (.getfield 41, 3) := by decide +kernel
theorem d_Mo_put_131 : decode c_Mo_put 131 = .ok (.iload_n 3, 1) := by decide +kernel
theorem d_Mo_put_132 : decode c_Mo_put 132 = .ok (.iaload, 1) := by decide +kernel
theorem d_Mo_put_133 : decode c_Mo_put 133 = .ok (.iastore, 1) := by decide +kernel
theorem d_Mo_put_134 : decode c_Mo_put 134 = .ok (.iinc 3 1, 3) := by decide +kernel
theorem d_Mo_put_137 : decode c_Mo_put 137 = .ok (.goto (-71), 3) := by decide +kernel
theorem d_Mo_put_140 : decode c_Mo_put 140 = .ok (.return_, 1) := by decide +kernel
theorem d_Mo_run_0 : decode c_Mo_run 0 = .ok (.aload_n 0, 1) := by decide +kernel
theorem d_Mo_run_1 : decode c_Mo_run 1 = .ok (.aload_n 0, 1) := by decide +kernel
theorem d_Mo_run_2 : decode c_Mo_run 2 = .ok (.getfield 122, 3) := by decide +kernel
theorem d_Mo_run_5 : decode c_Mo_run 5 = .ok (.ifCond .ne 7, 3) := by decide +kernel
theorem d_Mo_run_8 : decode c_Mo_run 8 = .ok (.iconst 1, 1) := by decide +kernel
theorem d_Mo_run_9 : decode c_Mo_run 9 = .ok (.goto 4, 3) := by decide +kernel
theorem d_Mo_run_12 : decode c_Mo_run 12 = .ok (.iconst 0, 1) := by decide +kernel
theorem d_Mo_run_13 : decode c_Mo_run 13 = .ok (.invokevirtual 114, 3) := by decide +kernel
theorem d_Mo_run_16 : decode c_Mo_run 16 = .ok (.ifCond .eq 5, 3) := by decide +kernel
theorem d_Mo_run_19 : decode c_Mo_run 19 = .ok (.iconst 0, 1) := by decide +kernel
theorem d_Mo_run_20 : decode c_Mo_run 20 = .ok (.ireturn, 1) := by decide +kernel
theorem d_Mo_run_21 : decode c_Mo_run 21 = .ok (.iconst 0, 1) := by decide +kernel
theorem d_Mo_run_22 : decode c_Mo_run 22 = .ok (.istore_n 1, 1) := by decide +kernel
theorem d_Mo_run_23 : decode c_Mo_run 23 = .ok (.iload_n 1, 1) := by decide +kernel
theorem d_Mo_run_24 : decode c_Mo_run 24 = .ok (.bipush 64, 2) := by decide +kernel
theorem d_Mo_run_26 : decode c_Mo_run 26 = .ok (.if_icmp .ge 26, 3) := by decide +kernel
theorem d_Mo_run_29 : decode c_Mo_run 29 = .ok (.aload_n 0, 1) := by decide +kernel
theorem d_Mo_run_30 : decode c_Mo_run 30 = .ok (.getfield 23, 3) := by decide +kernel
theorem d_Mo_run_33 : decode c_Mo_run 33 = .ok (.iload_n 1, 1) := by decide +kernel
theorem d_Mo_run_34 : decode c_Mo_run 34 = .ok (.iconst 0, 1) := by decide +kernel
theorem d_Mo_run_35 : decode c_Mo_run 35 = .ok (.iastore, 1) := by decide +kernel
theorem d_Mo_run_36 : decode c_Mo_run 36 = .ok (.aload_n 0, 1) := by decide +kernel
theorem d_Mo_run_37 : decode c_Mo_run 37 = .ok (.getfield 29, 3) := by decide +kernel
theorem d_Mo_run_40 : decode c_Mo_run 40 = .ok (.iload_n 1, 1) := by decide +kernel
theorem d_Mo_run_41 : decode c_Mo_run 41 = .ok (.bipush 32, 2) := by decide +kernel
theorem d_Mo_run_43 : decode c_Mo_run 43 = .ok (.irem, 1) := by decide +kernel
theorem d_Mo_run_44 : decode c_Mo_run 44 = .ok (.iconst 0, 1) := by decide +kernel
theorem d_Mo_run_45 : decode c_Mo_run 45 = .ok (.iastore, 1) := by decide +kernel
theorem d_Mo_run_46 : decode c_Mo_run 46 = .ok (.iinc 1 1, 3) := by decide +kernel
theorem d_Mo_run_49 : decode c_Mo_run 49 = .ok (.goto (-26), 3) := by decide +kernel
theorem d_Mo_run_52 : decode c_Mo_run 52 = .ok (.aload_n 0, 1) := by decide +kernel
theorem d_Mo_run_53 : decode c_Mo_run 53 = .ok (.iconst 0, 1) := by decide +kernel
theorem d_Mo_run_54 : decode c_Mo_run 54 = .ok (.putfield 166, 3) := by decide +kernel
theorem d_Mo_run_57 : decode c_Mo_run 57 = .ok (.iconst 0, 1) := by decide +kernel
theorem d_Mo_run_58 : decode c_Mo_run 58 = .ok (.istore_n 1, 1) := by decide +kernel
theorem d_Mo_run_59 : decode c_Mo_run 59 = .ok (.iconst 0, 1) := by decide +kernel
theorem d_Mo_run_60 : decode c_Mo_run 60 = .ok (.istore_n 2, 1) := by decide +kernel
theorem d_Mo_run_61 : decode c_Mo_run 61 = .ok (.aload_n 0, 1) := by decide +kernel
theorem d_Mo_run_62 : decode c_Mo_run 62 = .ok (.getfield 13, 3) := by decide +kernel
theorem d_Mo_run_65 : decode c_Mo_run 65 = .ok (.iload_n 2, 1) := by decide +kernel
theorem d_Mo_run_66 : decode c_Mo_run 66 = .ok (.invokestatic 58, 3) := by decide +kernel
theorem d_Mo_run_69 : decode c_Mo_run 69 = .ok (.istore_n 3, 1) := by decide +kernel
theorem d_Mo_run_70 : decode c_Mo_run 70 = .ok (.iinc 1 1, 3) := by decide +kernel
theorem d_Mo_run_73 : decode c_Mo_run 73 = .ok (.iconst 0, 1) := by decide +kernel
theorem d_Mo_run_74 : decode c_Mo_run 74 = .ok (.istore 4, 2) := by decide +kernel
theorem d_Mo_run_76 : decode c_Mo_run 76 = .ok (.iload 4, 2) := by decide +kernel
theorem d_Mo_run_78 : decode c_Mo_run 78 = .ok (.iconst 3, 1) := by decide +kernel
theorem d_Mo_run_79 : decode c_Mo_run 79 = .ok (.if_icmp .ge 25, 3) := by decide +kernel
theorem d_Mo_run_82 : decode c_Mo_run 82 = .ok (.aload_n 0, 1) := by decide +kernel
theorem d_Mo_run_83 : decode c_Mo_run 83 = .ok (.aload_n 0, 1) := by decide +kernel
theorem d_Mo_run_84 : decode c_Mo_run 84 = .ok (.getfield 13, 3) := by decide +kernel
theorem d_Mo_run_87 : decode c_Mo_run 87 = .ok (.iload_n 2, 1) := by decide +kernel
theorem d_Mo_run_88 : decode c_Mo_run 88 = .ok (.iload 4, 2) := by decide +kernel
theorem d_Mo_run_90 : decode c_Mo_run 90 = .ok (.invokestatic 66, 3) := by decide +kernel
theorem d_Mo_run_93 : decode c_Mo_run 93 = .ok (.iload 4, 2) := by decide +kernel
theorem d_Mo_run_95 : decode c_Mo_run 95 = .ok (.invokevirtual 169, 3) := by decide +kernel
theorem d_Mo_run_98 : decode c_Mo_run 98 = .ok (.iinc 4 1, 3) := by decide +kernel
theorem d_Mo_run_101 : decode c_Mo_run 101 = .ok (.goto (-25), 3) := by decide +kernel
theorem d_Mo_run_104 : decode c_Mo_run 104 = .ok (.aload_n 0, 1) := by decide +kernel
theorem d_Mo_run_105 : decode c_Mo_run 105 = .ok (.aload_n 0, 1) := by decide +kernel
theorem d_Mo_run_106 : decode c_Mo_run 106 = .ok (.getfield 13, 3) := by decide +kernel
theorem d_Mo_run_109 : decode c_Mo_run 109 = .ok (.iload_n 2, 1) := by decide +kernel
theorem d_Mo_run_110 : decode c_Mo_run 110 = .ok (.invokestatic 74, 3) := by decide +kernel
theorem d_Mo_run_113 : decode c_Mo_run 113 = .ok (.putfield 160, 3) := by decide +kernel
theorem d_Mo_run_116 : decode c_Mo_run 116 = .ok (.iload_n 3, 1) := by decide +kernel
theorem d_Mo_run_117 : decode c_Mo_run 117 = .ok (.ifCond .ne 5, 3) := by decide +kernel
theorem d_Mo_run_120 : decode c_Mo_run 120 = .ok (.iload_n 1, 1) := by decide +kernel
theorem d_Mo_run_121 : decode c_Mo_run 121 = .ok (.ireturn, 1) := by decide +kernel
theorem d_Mo_run_122 : decode c_Mo_run 122 = .ok (.iload_n 3, 1) := by decide +kernel
theorem d_Mo_run_123 : decode c_Mo_run 123 = .ok (.invokestatic 54, 3) := by decide +kernel
theorem d_Mo_run_126 : decode c_Mo_run 126 = .ok (.ifCond .eq 16, 3) := by decide +kernel
theorem d_Mo_run_129 : decode c_Mo_run 129 = .ok (.aload_n 0, 1) := by decide +kernel
theorem d_Mo_run_130 : decode c_Mo_run 130 = .ok (.aload_n 0, 1) := by decide +kernel
theorem d_Mo_run_131 : decode c_Mo_run 131 = .ok (.getfield 13, 3) := by decide +kernel
theorem d_Mo_run_134 : decode c_Mo_run 134 = .ok (.iconst 3, 1) := by decide +kernel
theorem d_Mo_run_135 : decode c_Mo_run 135 = .ok (.iload_n 2, 1) := by decide +kernel
theorem d_Mo_run_136 : decode c_Mo_run 136 = .ok (.imul, 1) := by decide +kernel
theorem d_Mo_run_137 : decode c_Mo_run 137 = .ok (.iaload, 1) := by decide +kernel
theorem d_Mo_run_138 : decode c_Mo_run 138 = .ok (.iload_n 3, 1) := by decide +kernel
theorem d_Mo_run_139 : decode c_Mo_run 139 = .ok (.invokevirtual 173, 3) := by decide +kernel
theorem d_Mo_run_142 : decode c_Mo_run 142 = .ok (.iload_n 2, 1) := by decide +kernel
