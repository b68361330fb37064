theorem dMO_holds_305 : decode cMO_holds 305 = .ok (.ifCond .eq 7, 3) := by decide +kernel
theorem dMO_holds_308 : decode cMO_holds 308 = .ok (.iconst 1, 1) := by decide +kernel
theorem dMO_holds_309 : decode cMO_holds 309 = .ok (.goto 4, 3) := by decide +kernel
theorem dMO_holds_312 : decode cMO_holds 312 = .ok (.iconst 0, 1) := by decide +kernel
theorem dMO_holds_313 : decode cMO_holds 313 = .ok (.istore 10, 2) := by decide +kernel
theorem dMO_holds_315 : decode cMO_holds 315 = .ok (.aload_n 0, 1) := by decide +kernel
theorem dMO_holds_316 : decode cMO_holds 316 = .ok (.getfield 81, 3) := by decide +kernel
theorem dMO_holds_319 : decode cMO_holds 319 = .ok (.bipush 8, 2) := by decide +kernel
theorem dMO_holds_321 : decode cMO_holds 321 = .ok (.iload_n 2, 1) := by decide +kernel
theorem dMO_holds_322 : decode cMO_holds 322 = .ok (.imul, 1) := by decide +kernel
theorem dMO_holds_323 : decode cMO_holds 323 = .ok (.iload 5, 2) := by decide +kernel
theorem dMO_holds_325 : decode cMO_holds 325 = .ok (.iadd, 1) := by decide +kernel
theorem dMO_holds_326 : decode cMO_holds 326 = .ok (.iload_n 3, 1) := by decide +kernel
theorem dMO_holds_327 : decode cMO_holds 327 = .ok (.invokestatic 134, 3) := by decide +kernel
theorem dMO_holds_330 : decode cMO_holds 330 = .ok (.ifCond .eq 8, 3) := by decide +kernel
theorem dMO_holds_333 : decode cMO_holds 333 = .ok (.iload 10, 2) := by decide +kernel
theorem dMO_holds_335 : decode cMO_holds 335 = .ok (.goto 85, 3) := by decide +kernel
theorem dMO_holds_338 : decode cMO_holds 338 = .ok (.iload_n 3, 1) := by decide +kernel
theorem dMO_holds_339 : decode cMO_holds 339 = .ok (.bipush 33, 2) := by decide +kernel
theorem dMO_holds_341 : decode cMO_holds 341 = .ok (.if_icmp .ne 16, 3) := by decide +kernel
theorem dMO_holds_344 : decode cMO_holds 344 = .ok (.iload 8, 2) := by decide +kernel
theorem dMO_holds_346 : decode cMO_holds 346 = .ok (.ifCond .ne 7, 3) := by decide +kernel
theorem dMO_holds_349 : decode cMO_holds 349 = .ok (.iconst 1, 1) := by decide +kernel
theorem dMO_holds_350 : decode cMO_holds 350 = .ok (.goto 70, 3) := by decide +kernel
theorem dMO_holds_353 : decode cMO_holds 353 = .ok (.iconst 0, 1) := by decide +kernel
theorem dMO_holds_354 : decode cMO_holds 354 = .ok (.goto 66, 3) := by decide +kernel
theorem dMO_holds_357 : decode cMO_holds 357 = .ok (.iload_n 3, 1) := by decide +kernel
theorem dMO_holds_358 : decode cMO_holds 358 = .ok (.bipush 38, 2) := by decide +kernel
theorem dMO_holds_360 : decode cMO_holds 360 = .ok (.if_icmp .ne 21, 3) := by decide +kernel
theorem dMO_holds_363 : decode cMO_holds 363 = .ok (.iload 9, 2) := by decide +kernel
theorem dMO_holds_365 : decode cMO_holds 365 = .ok (.ifCond .eq 12, 3) := by decide +kernel
theorem dMO_holds_368 : decode cMO_holds 368 = .ok (.iload 8, 2) := by decide +kernel
theorem dMO_holds_370 : decode cMO_holds 370 = .ok (.ifCond .eq 7, 3) := by decide +kernel
theorem dMO_holds_373 : decode cMO_holds 373 = .ok (.iconst 1, 1) := by decide +kernel
theorem dMO_holds_374 : decode cMO_holds 374 = .ok (.goto 46, 3) := by decide +kernel
theorem dMO_holds_377 : decode cMO_holds 377 = .ok (.iconst 0, 1) := by decide +kernel
theorem dMO_holds_378 : decode cMO_holds 378 = .ok (.goto 42, 3) := by decide +kernel
theorem dMO_holds_381 : decode cMO_holds 381 = .ok (.iload_n 3, 1) := by decide +kernel
theorem dMO_holds_382 : decode cMO_holds 382 = .ok (.bipush 124, 2) := by decide +kernel
theorem dMO_holds_384 : decode cMO_holds 384 = .ok (.if_icmp .ne 21, 3) := by decide +kernel
theorem dMO_holds_387 : decode cMO_holds 387 = .ok (.iload 9, 2) := by decide +kernel
theorem dMO_holds_389 : decode cMO_holds 389 = .ok (.ifCond .ne 8, 3) := by decide +kernel
theorem dMO_holds_392 : decode cMO_holds 392 = .ok (.iload 8, 2) := by decide +kernel
theorem dMO_holds_394 : decode cMO_holds 394 = .ok (.ifCond .eq 7, 3) := by decide +kernel
theorem dMO_holds_397 : decode cMO_holds 397 = .ok (.iconst 1, 1) := by decide +kernel
theorem dMO_holds_398 : decode cMO_holds 398 = .ok (.goto 22, 3) := by decide +kernel
theorem dMO_holds_401 : decode cMO_holds 401 = .ok (.iconst 0, 1) := by decide +kernel
theorem dMO_holds_402 : decode cMO_holds 402 = .ok (.goto 18, 3) := by decide +kernel
theorem dMO_holds_405 : decode cMO_holds 405 = .ok (.iload 9, 2) := by decide +kernel
theorem dMO_holds_407 : decode cMO_holds 407 = .ok (.ifCond .eq 8, 3) := by decide +kernel
theorem dMO_holds_410 : decode cMO_holds 410 = .ok (.iload 8, 2) := by decide +kernel
theorem dMO_holds_412 : decode cMO_holds 412 = .ok (.ifCond .eq 7, 3) := by decide +kernel
theorem dMO_holds_415 : decode cMO_holds 415 = .ok (.iconst 1, 1) := by decide +kernel
theorem dMO_holds_416 : decode cMO_holds 416 = .ok (.goto 4, 3) := by decide +kernel
theorem dMO_holds_419 : decode cMO_holds 419 = .ok (.iconst 0, 1) := by decide +kernel
theorem dMO_holds_420 : decode cMO_holds 420 = .ok (.bastore, 1) := by decide +kernel
theorem dMO_holds_421 : decode cMO_holds 421 = .ok (.iinc 5 (-1), 3) := by decide +kernel
theorem dMO_holds_424 : decode cMO_holds 424 = .ok (.goto (-295), 3) := by decide +kernel
theorem dMO_holds_427 : decode cMO_holds 427 = .ok (.iinc 4 1, 3) := by decide +kernel
theorem dMO_holds_430 : decode cMO_holds 430 = .ok (.goto (-322), 3) := by decide +kernel
theorem dMO_holds_433 : decode cMO_holds 433 = .ok (.iinc 2 1, 3) := by decide +kernel
theorem dMO_holds_436 : decode cMO_holds 436 = .ok (.goto (-434), 3) := by decide +kernel
theorem dMO_holds_439 : decode cMO_holds 439 = .ok (.aload_n 0, 1) := by decide +kernel
theorem dMO_holds_440 : decode cMO_holds 440 = .ok (.getfield 81, 3) := by decide +kernel
theorem dMO_holds_443 : decode cMO_holds 443 = .ok (.bipush 8, 2) := by decide +kernel
theorem dMO_holds_445 : decode cMO_holds 445 = .ok (.aload_n 0, 1) := by decide +kernel
theorem dMO_holds_446 : decode cMO_holds 446 = .ok (.getfield 145, 3) := by decide +kernel
theorem dMO_holds_449 : decode cMO_holds 449 = .ok (.iconst 1, 1) := by decide +kernel
theorem dMO_holds_450 : decode cMO_holds 450 = .ok (.isub, 1) := by decide +kernel
theorem dMO_holds_451 : decode cMO_holds 451 = .ok (.imul, 1) := by decide +kernel
theorem dMO_holds_452 : decode cMO_holds 452 = .ok (.iload_n 1, 1) := by decide +kernel
theorem dMO_holds_453 : decode cMO_holds 453 = .ok (.iadd, 1) := by decide +kernel
theorem dMO_holds_454 : decode cMO_holds 454 = .ok (.baload, 1) := by decide +kernel
theorem dMO_holds_455 : decode cMO_holds 455 = .ok (.ireturn, 1) := by decide +kernel
theorem dMO_advance_0 : decode cMO_advance 0 = .ok (.aload_n 0, 1) := by decide +kernel
theorem dMO_advance_1 : decode cMO_advance 1 = .ok (.getfield 208, 3) := by decide +kernel
theorem dMO_advance_4 : decode cMO_advance 4 = .ok (.iconst 1, 1) := by decide +kernel
theorem dMO_advance_5 : decode cMO_advance 5 = .ok (.isub, 1) := by decide +kernel
theorem dMO_advance_6 : decode cMO_advance 6 = .ok (.istore_n 1, 1) := by decide +kernel
theorem dMO_advance_7 : decode cMO_advance 7 = .ok (.iload_n 1, 1) := by decide +kernel
theorem dMO_advance_8 : decode cMO_advance 8 = .ok (.ifCond .le 26, 3) := by decide +kernel
theorem dMO_advance_11 : decode cMO_advance 11 = .ok (.aload_n 0, 1) := by decide +kernel
theorem dMO_advance_12 : decode cMO_advance 12 = .ok (.getfield 78, 3) := by decide +kernel
theorem dMO_advance_15 : decode cMO_advance 15 = .ok (.iload_n 1, 1) := by decide +kernel
theorem dMO_advance_16 : decode cMO_advance 16 = .ok (.iaload, 1) := by decide +kernel
theorem dMO_advance_17 : decode cMO_advance 17 = .ok (.iconst 5, 1) := by decide +kernel
theorem dMO_advance_18 : decode cMO_advance 18 = .ok (.if_icmp .ne 16, 3) := by decide +kernel
theorem dMO_advance_21 : decode cMO_advance 21 = .ok (.aload_n 0, 1) := by decide +kernel
theorem dMO_advance_22 : decode cMO_advance 22 = .ok (.getfield 78, 3) := by decide +kernel
theorem dMO_advance_25 : decode cMO_advance 25 = .ok (.iload_n 1, 1) := by decide +kernel
theorem dMO_advance_26 : decode cMO_advance 26 = .ok (.iconst 0, 1) := by decide +kernel
theorem dMO_advance_27 : decode cMO_advance 27 = .ok (.iastore, 1) := by decide +kernel
theorem dMO_advance_28 : decode cMO_advance 28 = .ok (.iinc 1 (-1), 3) := by decide +kernel
theorem dMO_advance_31 : decode cMO_advance 31 = .ok (.goto (-24), 3) := by decide +kernel
theorem dMO_advance_34 : decode cMO_advance 34 = .ok (.iload_n 1, 1) := by decide +kernel
theorem dMO_advance_35 : decode cMO_advance 35 = .ok (.ifCond .le 13, 3) := by decide +kernel
theorem dMO_advance_38 : decode cMO_advance 38 = .ok (.aload_n 0, 1) := by decide +kernel
theorem dMO_advance_39 : decode cMO_advance 39 = .ok (.getfield 78, 3) := by decide +kernel
theorem dMO_advance_42 : decode cMO_advance 42 = .ok (.iload_n 1, 1) := by decide +kernel
theorem dMO_advance_43 : decode cMO_advance 43 = .ok (.dup2, 1) := by decide +kernel
theorem dMO_advance_44 : decode cMO_advance 44 = .ok (.iaload, 1) := by decide +kernel
theorem dMO_advance_45 : decode cMO_advance 45 = .ok (.iconst 1, 1) := by decide +kernel
theorem dMO_advance_46 : decode cMO_advance 46 = .ok (.iadd, 1) := by decide +kernel
theorem dMO_advance_47 : decode cMO_advance 47 = .ok (.iastore, 1) := by decide +kernel
theorem dMO_advance_48 : decode cMO_advance 48 = .ok (.iload_n 1, 1) := by decide +kernel
theorem dMO_advance_49 : decode cMO_advance 49 = .ok (.ifCond .le 7, 3) := by decide +kernel
theorem dMO_advance_52 : decode cMO_advance 52 = .ok (.iconst 1, 1) := by decide +kernel
theorem dMO_advance_53 : decode cMO_advance 53 = .ok (.goto 4, 3) := by decide +kernel
theorem dMO_advance_56 : decode cMO_advance 56 = .ok (.iconst 0, 1) := by decide +kernel
theorem dMO_advance_57 : decode cMO_advance 57 = .ok (.ireturn, 1) := by decide +kernel
theorem dMO_linked_0 : decode cMO_linked 0 = .ok (.iconst 1, 1) := by decide +kernel
theorem dMO_linked_1 : decode cMO_linked 1 = .ok (.istore_n 1, 1) := by decide +kernel
theorem dMO_linked_2 : decode cMO_linked 2 = .ok (.iconst 0, 1) := by decide +kernel
theorem dMO_linked_3 : decode cMO_linked 3 = .ok (.istore_n 2, 1) := by decide +kernel
theorem dMO_linked_4 : decode cMO_linked 4 = .ok (.iload_n 2, 1) := by decide +kernel
theorem dMO_linked_5 : decode cMO_linked 5 = .ok (.iconst 1, 1) := by decide +kernel
theorem dMO_linked_6 : decode cMO_linked 6 = .ok (.iadd, 1) := by decide +kernel
theorem dMO_linked_7 : decode cMO_linked 7 = .ok (.aload_n 0, 1) := by decide +kernel
theorem dMO_linked_8 : decode cMO_linked 8 = .ok (.getfield 208, 3) := by decide +kernel
theorem dMO_linked_11 : decode cMO_linked 11 = .ok (.if_icmp .ge 45, 3) := by decide +kernel
theorem dMO_linked_14 : decode cMO_linked 14 = .ok (.iload_n 1, 1) := by decide +kernel
theorem dMO_linked_15 : decode cMO_linked 15 = .ok (.ifCond .eq 33, 3) := by decide +kernel
theorem dMO_linked_18 : decode cMO_linked 18 = .ok (.aload_n 0, 1) := by decide +kernel
theorem dMO_linked_19 : decode cMO_linked 19 = .ok (.getfield 46, 3) := by decide +kernel
theorem dMO_linked_22 : decode cMO_linked 22 = .ok (.bipush 6, 2) := by decide +kernel
theorem dMO_linked_24 : decode cMO_linked 24 = .ok (.aload_n 0, 1) := by decide +kernel
theorem dMO_linked_25 : decode cMO_linked 25 = .ok (.getfield 78, 3) := by decide +kernel
theorem dMO_linked_28 : decode cMO_linked 28 = .ok (.iload_n 2, 1) := by decide +kernel
theorem dMO_linked_29 : decode cMO_linked 29 = .ok (.iaload, 1) := by decide +kernel
theorem dMO_linked_30 : decode cMO_linked 30 = .ok (.imul, 1) := by decide +kernel
theorem dMO_linked_31 : decode cMO_linked 31 = .ok (.aload_n 0, 1) := by decide +kernel
theorem dMO_linked_32 : decode cMO_linked 32 = .ok (.getfield 78, 3) := by decide +kernel
theorem dMO_linked_35 : decode cMO_linked 35 = .ok (.iload_n 2, 1) := by decide +kernel
theorem dMO_linked_36 : decode cMO_linked 36 = .ok (.iconst 1, 1) := by decide +kernel
theorem dMO_linked_37 : decode cMO_linked 37 = .ok (.iadd, 1) := by decide +kernel
theorem dMO_linked_38 : decode cMO_linked 38 = .ok (.iaload, 1) := by decide +kernel
theorem dMO_linked_39 : decode cMO_linked 39 = .ok (.iadd, 1) := by decide +kernel
theorem dMO_linked_40 : decode cMO_linked 40 = .ok (.baload, 1) := by decide +kernel
theorem dMO_linked_41 : decode cMO_linked 41 = .ok (.ifCond .eq 7, 3) := by decide +kernel
theorem dMO_linked_44 : decode cMO_linked 44 = .ok (.iconst 1, 1) := by decide +kernel
theorem dMO_linked_45 : decode cMO_linked 45 = .ok (.goto 4, 3) := by decide +kernel
theorem dMO_linked_48 : decode cMO_linked 48 = .ok (.iconst 0, 1) := by decide +kernel
theorem dMO_linked_49 : decode cMO_linked 49 = .ok (.istore_n 1, 1) := by decide +kernel
theorem dMO_linked_50 : decode cMO_linked 50 = .ok (.iinc 2 1, 3) := by decide +kernel
theorem dMO_linked_53 : decode cMO_linked 53 = .ok (.goto (-49), 3) := by decide +kernel
theorem dMO_linked_56 : decode cMO_linked 56 = .ok (.iload_n 1, 1) := by decide +kernel
theorem dMO_linked_57 : decode cMO_linked 57 = .ok (.ireturn, 1) := by decide +kernel
theorem dMO_search_0 : decode cMO_search 0 = .ok (.aload_n 0, 1) := by decide +kernel
theorem dMO_search_1 : decode cMO_search 1 = .ok (.getfield 84, 3) := by decide +kernel
theorem dMO_search_4 : decode cMO_search 4 = .ok (.iload_n 1, 1) := by decide +kernel
theorem dMO_search_5 : decode cMO_search 5 = .ok (.iconst (-1), 1) := by decide +kernel
theorem dMO_search_6 : decode cMO_search 6 = .ok (.iastore, 1) := by decide +kernel
theorem dMO_search_7 : decode cMO_search 7 = .ok (.aload_n 0, 1) := by decide +kernel
theorem dMO_search_8 : decode cMO_search 8 = .ok (.iconst 0, 1) := by decide +kernel
theorem dMO_search_9 : decode cMO_search 9 = .ok (.invokevirtual 204, 3) := by decide +kernel
theorem dMO_search_12 : decode cMO_search 12 = .ok (.iload_n 1, 1) := by decide +kernel
theorem dMO_search_13 : decode cMO_search 13 = .ok (.ishr, 1) := by decide +kernel
theorem dMO_search_14 : decode cMO_search 14 = .ok (.iconst 1, 1) := by decide +kernel
theorem dMO_search_15 : decode cMO_search 15 = .ok (.iand, 1) := by decide +kernel
theorem dMO_search_16 : decode cMO_search 16 = .ok (.ifCond .ne 4, 3) := by decide +kernel
theorem dMO_search_19 : decode cMO_search 19 = .ok (.return_, 1) := by decide +kernel
theorem dMO_search_20 : decode cMO_search 20 = .ok (.aload_n 0, 1) := by decide +kernel
theorem dMO_search_21 : decode cMO_search 21 = .ok (.iconst 1, 1) := by decide +kernel
theorem dMO_search_22 : decode cMO_search 22 = .ok (.putfield 208, 3) := by decide +kernel
theorem dMO_search_25 : decode cMO_search 25 = .ok (.aload_n 0, 1) := by decide +kernel
theorem dMO_search_26 : decode cMO_search 26 = .ok (.getfield 208, 3) := by decide +kernel
theorem dMO_search_29 : decode cMO_search 29 = .ok (.bipush 7, 2) := by decide +kernel
theorem dMO_search_31 : decode cMO_search 31 = .ok (.if_icmp .ge 197, 3) := by decide +kernel
theorem dMO_search_34 : decode cMO_search 34 = .ok (.iconst 0, 1) := by decide +kernel
theorem dMO_search_35 : decode cMO_search 35 = .ok (.istore_n 2, 1) := by decide +kernel
theorem dMO_search_36 : decode cMO_search 36 = .ok (.iload_n 2, 1) := by decide +kernel
theorem dMO_search_37 : decode cMO_search 37 = .ok (.aload_n 0, 1) := by decide +kernel
theorem dMO_search_38 : decode cMO_search 38 = .ok (.getfield 208, 3) := by decide +kernel
theorem dMO_search_41 : decode cMO_search 41 = .ok (.if_icmp .ge 24, 3) := by decide +kernel
theorem dMO_search_44 : decode cMO_search 44 = .ok (.aload_n 0, 1) := by decide +kernel
theorem dMO_search_45 : decode cMO_search 45 = .ok (.getfield 78, 3) := by decide +kernel
theorem dMO_search_48 : decode cMO_search 48 = .ok (.iload_n 2, 1) := by decide +kernel
theorem dMO_search_49 : decode cMO_search 49 = .ok (.iload_n 2, 1) := by decide +kernel
theorem dMO_search_50 : decode cMO_search 50 = .ok (.ifCond .ne 7, 3) := by decide +kernel
theorem dMO_search_53 : decode cMO_search 53 = .ok (.iload_n 1, 1) := by decide +kernel
theorem dMO_search_54 : decode cMO_search 54 = .ok (.goto 4, 3) := by decide +kernel
theorem dMO_search_57 : decode cMO_search 57 = .ok (.iconst 0, 1) := by decide +kernel
theorem dMO_search_58 : decode cMO_search 58 = .ok (.iastore, 1) := by decide +kernel
theorem dMO_search_59 : decode cMO_search 59 = .ok (.iinc 2 1, 3) := by decide +kernel
theorem dMO_search_62 : decode cMO_search 62 = .ok (.goto (-26), 3) := by decide +kernel
theorem dMO_search_65 : decode cMO_search 65 = .ok (.iconst 1, 1) := by decide +kernel
theorem dMO_search_66 : decode cMO_search 66 = .ok (.istore_n 2, 1) := by decide +kernel
theorem dMO_search_67 : decode cMO_search 67 = .ok (.iload_n 2, 1) := by decide +kernel
theorem dMO_search_68 : decode cMO_search 68 = .ok (.ifCond .eq 147, 3) := by decide +kernel
theorem dMO_search_71 : decode cMO_search 71 = .ok (.aload_n 0, 1) := by decide +kernel
theorem dMO_search_72 : decode cMO_search 72 = .ok (.invokevirtual 214, 3) := by decide +kernel
theorem dMO_search_75 : decode cMO_search 75 = .ok (.istore_n 3, 1) := by decide +kernel
theorem dMO_search_76 : decode cMO_search 76 = .ok (.aload_n 0, 1) := by decide +kernel
theorem dMO_search_77 : decode cMO_search 77 = .ok (.iconst 0, 1) := by decide +kernel
theorem dMO_search_78 : decode cMO_search 78 = .ok (.putfield 211, 3) := by decide +kernel
theorem dMO_search_81 : decode cMO_search 81 = .ok (.aload_n 0, 1) := by decide +kernel
theorem dMO_search_82 : decode cMO_search 82 = .ok (.getfield 211, 3) := by decide +kernel
theorem dMO_search_85 : decode cMO_search 85 = .ok (.aload_n 0, 1) := by decide +kernel
theorem dMO_search_86 : decode cMO_search 86 = .ok (.getfield 208, 3) := by decide +kernel
theorem dMO_search_89 : decode cMO_search 89 = .ok (.if_icmp .ge 118, 3) := by decide +kernel
theorem dMO_search_92 : decode cMO_search 92 = .ok (.iload_n 3, 1) := by decide +kernel
theorem dMO_search_93 : decode cMO_search 93 = .ok (.ifCond .eq 114, 3) := by decide +kernel
theorem dMO_search_96 : decode cMO_search 96 = .ok (.aload_n 0, 1) := by decide +kernel
theorem dMO_search_97 : decode cMO_search 97 = .ok (.getfield 46, 3) := by decide +kernel
theorem dMO_search_100 : decode cMO_search 100 = .ok (.bipush 6, 2) := by decide +kernel
theorem dMO_search_102 : decode cMO_search 102 = .ok (.aload_n 0, 1) := by decide +kernel
theorem dMO_search_103 : decode cMO_search 103 = .ok (.getfield 78, 3) := by decide +kernel
theorem dMO_search_106 : decode cMO_search 106 = .ok (.aload_n 0, 1) := by decide +kernel
theorem dMO_search_107 : decode cMO_search 107 = .ok (.getfield 208, 3) := by decide +kernel
theorem dMO_search_110 : decode cMO_search 110 = .ok (.iconst 1, 1) := by decide +kernel
theorem dMO_search_111 : decode cMO_search 111 = .ok (.isub, 1) := by decide +kernel
theorem dMO_search_112 : decode cMO_search 112 = .ok (.iaload, 1) := by decide +kernel
theorem dMO_search_113 : decode cMO_search 113 = .ok (.imul, 1) := by decide +kernel
theorem dMO_search_114 : decode cMO_search 114 = .ok (.aload_n 0, 1) := by decide +kernel
theorem dMO_search_115 : decode cMO_search 115 = .ok (.getfield 78, 3) := by decide +kernel
theorem dMO_search_118 : decode cMO_search 118 = .ok (.aload_n 0, 1) := by decide +kernel
theorem dMO_search_119 : decode cMO_search 119 = .ok (.getfield 211, 3) := by decide +kernel
theorem dMO_search_122 : decode cMO_search 122 = .ok (.iaload, 1) := by decide +kernel
theorem dMO_search_123 : decode cMO_search 123 = .ok (.iadd, 1) := by decide +kernel
theorem dMO_search_124 : decode cMO_search 124 = .ok (.baload, 1) := by decide +kernel
theorem dMO_search_125 : decode cMO_search 125 = .ok (.ifCond .eq 69, 3) := by decide +kernel
theorem dMO_search_128 : decode cMO_search 128 = .ok (.aload_n 0, 1) := by decide +kernel
theorem dMO_search_129 : decode cMO_search 129 = .ok (.iconst 0, 1) := by decide +kernel
theorem dMO_search_130 : decode cMO_search 130 = .ok (.invokevirtual 217, 3) := by decide +kernel
theorem dMO_search_133 : decode cMO_search 133 = .ok (.ifCond .ne 61, 3) := by decide +kernel
theorem dMO_search_136 : decode cMO_search 136 = .ok (.aload_n 0, 1) := by decide +kernel
theorem dMO_search_137 : decode cMO_search 137 = .ok (.getfield 84, 3) := by decide +kernel
theorem dMO_search_140 : decode cMO_search 140 = .ok (.iload_n 1, 1) := by decide +kernel
theorem dMO_search_141 : decode cMO_search 141 = .ok (.aload_n 0, 1) := by decide +kernel
theorem dMO_search_142 : decode cMO_search 142 = .ok (.getfield 208, 3) := by decide +kernel
theorem dMO_search_145 : decode cMO_search 145 = .ok (.iastore, 1) := by decide +kernel
theorem dMO_search_146 : decode cMO_search 146 = .ok (.aload_n 0, 1) := by decide +kernel
theorem dMO_search_147 : decode cMO_search 147 = .ok (.getfield 87, 3) := by decide +kernel
theorem dMO_search_150 : decode cMO_search 150 = .ok (.iload_n 1, 1) := by decide +kernel
theorem dMO_search_151 : decode cMO_search 151 = .ok (.aload_n 0, 1) := by decide +kernel
theorem dMO_search_152 : decode cMO_search 152 = .ok (.getfield 211, 3) := by decide +kernel
theorem dMO_search_155 : decode cMO_search 155 = .ok (.iastore, 1) := by decide +kernel
theorem dMO_search_156 : decode cMO_search 156 = .ok (.iconst 0, 1) := by decide +kernel
theorem dMO_search_157 : decode cMO_search 157 = .ok (.istore 4, 2) := by decide +kernel
theorem dMO_search_159 : decode cMO_search 159 = .ok (.iload 4, 2) := by decide +kernel
theorem dMO_search_161 : decode cMO_search 161 = .ok (.aload_n 0, 1) := by decide +kernel
theorem dMO_search_162 : decode cMO_search 162 = .ok (.getfield 208, 3) := by decide +kernel
theorem dMO_search_165 : decode cMO_search 165 = .ok (.if_icmp .ge 28, 3) := by decide +kernel
theorem dMO_search_168 : decode cMO_search 168 = .ok (.aload_n 0, 1) := by decide +kernel
theorem dMO_search_169 : decode cMO_search 169 = .ok (.getfield 90, 3) := by decide +kernel
theorem dMO_search_172 : decode cMO_search 172 = .ok (.bipush 6, 2) := by decide +kernel
theorem dMO_search_174 : decode cMO_search 174 = .ok (.iload_n 1, 1) := by decide +kernel
theorem dMO_search_175 : decode cMO_search 175 = .ok (.imul, 1) := by decide +kernel
theorem dMO_search_176 : decode cMO_search 176 = .ok (.iload 4, 2) := by decide +kernel
theorem dMO_search_178 : decode cMO_search 178 = .ok (.iadd, 1) := by decide +kernel
theorem dMO_search_179 : decode cMO_search 179 = .ok (.aload_n 0, 1) := by decide +kernel
theorem dMO_search_180 : decode cMO_search 180 = .ok (.getfield 78, 3) := by decide +kernel
theorem dMO_search_183 : decode cMO_search 183 = .ok (.iload 4, 2) := by decide +kernel
theorem dMO_search_185 : decode cMO_search 185 = .ok (.iaload, 1) := by decide +kernel
theorem dMO_search_186 : decode cMO_search 186 = .ok (.iastore, 1) := by decide +kernel
theorem dMO_search_187 : decode cMO_search 187 = .ok (.iinc 4 1, 3) := by decide +kernel
theorem dMO_search_190 : decode cMO_search 190 = .ok (.goto (-31), 3) := by decide +kernel
theorem dMO_search_193 : decode cMO_search 193 = .ok (.return_, 1) := by decide +kernel
theorem dMO_search_194 : decode cMO_search 194 = .ok (.aload_n 0, 1) := by decide +kernel
theorem dMO_search_195 : decode cMO_search 195 = .ok (.dup, 1) := by decide +kernel
theorem dMO_search_196 : decode cMO_search 196 = .ok (.getfield 211, 3) := by decide +kernel
theorem dMO_search_199 : decode cMO_search 199 = .ok (.iconst 1, 1) := by decide +kernel
theorem dMO_search_200 : decode cMO_search 200 = .ok (.iadd, 1) := by decide +kernel
theorem dMO_search_201 : decode cMO_search 201 = .ok (.putfield 211, 3) := by decide +kernel
theorem dMO_search_204 : decode cMO_search 204 = .ok (.goto (-123), 3) := by decide +kernel
theorem dMO_search_207 : decode cMO_search 207 = .ok (.aload_n 0, 1) := by decide +kernel
theorem dMO_search_208 : decode cMO_search 208 = .ok (.invokevirtual 220, 3) := by decide +kernel
theorem dMO_search_211 : decode cMO_search 211 = .ok (.istore_n 2, 1) := by decide +kernel
theorem dMO_search_212 : decode cMO_search 212 = .ok (.goto (-145), 3) := by decide +kernel
theorem dMO_search_215 : decode cMO_search 215 = .ok (.aload_n 0, 1) := by decide +kernel
theorem dMO_search_216 : decode cMO_search 216 = .ok (.dup, 1) := by decide +kernel
theorem dMO_search_217 : decode cMO_search 217 = .ok (.getfield 208, 3) := by decide +kernel
theorem dMO_search_220 : decode cMO_search 220 = .ok (.iconst 1, 1) := by decide +kernel
theorem dMO_search_221 : decode cMO_search 221 = .ok (.iadd, 1) := by decide +kernel
theorem dMO_search_222 : decode cMO_search 222 = .ok (.putfield 208, 3) := by decide +kernel
theorem dMO_search_225 : decode cMO_search 225 = .ok (.goto (-200), 3) := by decide +kernel
theorem dMO_search_228 : decode cMO_search 228 = .ok (.return_, 1) := by decide +kernel
theorem dMO_witness_0 : decode cMO_witness 0 = .ok (.aload_n 0, 1) := by decide +kernel
theorem dMO_witness_1 : decode cMO_witness 1 = .ok (.aload_n 0, 1) := by decide +kernel
theorem dMO_witness_2 : decode cMO_witness 2 = .ok (.getfield 151, 3) := by decide +kernel
theorem dMO_witness_5 : decode cMO_witness 5 = .ok (.ifCond .eq 7, 3) := by decide +kernel
theorem dMO_witness_8 : decode cMO_witness 8 = .ok (.iconst 0, 1) := by decide +kernel
theorem dMO_witness_9 : decode cMO_witness 9 = .ok (.goto 4, 3) := by decide +kernel
theorem dMO_witness_12 : decode cMO_witness 12 = .ok (.iconst 1, 1) := by decide +kernel
theorem dMO_witness_13 : decode cMO_witness 13 = .ok (.putfield 93, 3) := by decide +kernel
theorem dMO_witness_16 : decode cMO_witness 16 = .ok (.aload_n 0, 1) := by decide +kernel
theorem dMO_witness_17 : decode cMO_witness 17 = .ok (.getfield 151, 3) := by decide +kernel
theorem dMO_witness_20 : decode cMO_witness 20 = .ok (.ifCond .eq 16, 3) := by decide +kernel
theorem dMO_witness_23 : decode cMO_witness 23 = .ok (.iload_n 1, 1) := by decide +kernel
theorem dMO_witness_24 : decode cMO_witness 24 = .ok (.invokestatic 174, 3) := by decide +kernel
theorem dMO_witness_27 : decode cMO_witness 27 = .ok (.ifCond .eq 9, 3) := by decide +kernel
theorem dMO_witness_30 : decode cMO_witness 30 = .ok (.iload_n 2, 1) := by decide +kernel
theorem dMO_witness_31 : decode cMO_witness 31 = .ok (.bipush (-2), 2) := by decide +kernel
theorem dMO_witness_33 : decode cMO_witness 33 = .ok (.if_icmp .ge 16, 3) := by decide +kernel
theorem dMO_witness_36 : decode cMO_witness 36 = .ok (.aload_n 0, 1) := by decide +kernel
theorem dMO_witness_37 : decode cMO_witness 37 = .ok (.getfield 151, 3) := by decide +kernel
theorem dMO_witness_40 : decode cMO_witness 40 = .ok (.ifCond .eq 7, 3) := by decide +kernel
theorem dMO_witness_43 : decode cMO_witness 43 = .ok (.iconst (-1), 1) := by decide +kernel
theorem dMO_witness_44 : decode cMO_witness 44 = .ok (.goto 4, 3) := by decide +kernel
theorem dMO_witness_47 : decode cMO_witness 47 = .ok (.iconst 0, 1) := by decide +kernel
theorem dMO_witness_48 : decode cMO_witness 48 = .ok (.ireturn, 1) := by decide +kernel
theorem dMO_witness_49 : decode cMO_witness 49 = .ok (.aload_n 0, 1) := by decide +kernel
theorem dMO_witness_50 : decode cMO_witness 50 = .ok (.getfield 84, 3) := by decide +kernel
theorem dMO_witness_53 : decode cMO_witness 53 = .ok (.iload_n 1, 1) := by decide +kernel
theorem dMO_witness_54 : decode cMO_witness 54 = .ok (.iaload, 1) := by decide +kernel
theorem dMO_witness_55 : decode cMO_witness 55 = .ok (.ifCond .ne 8, 3) := by decide +kernel
theorem dMO_witness_58 : decode cMO_witness 58 = .ok (.aload_n 0, 1) := by decide +kernel
theorem dMO_witness_59 : decode cMO_witness 59 = .ok (.iload_n 1, 1) := by decide +kernel
theorem dMO_witness_60 : decode cMO_witness 60 = .ok (.invokevirtual 223, 3) := by decide +kernel
theorem dMO_witness_63 : decode cMO_witness 63 = .ok (.aload_n 0, 1) := by decide +kernel
theorem dMO_witness_64 : decode cMO_witness 64 = .ok (.getfield 84, 3) := by decide +kernel
theorem dMO_witness_67 : decode cMO_witness 67 = .ok (.iload_n 1, 1) := by decide +kernel
theorem dMO_witness_68 : decode cMO_witness 68 = .ok (.iaload, 1) := by decide +kernel
theorem dMO_witness_69 : decode cMO_witness 69 = .ok (.ifCond .lt 13, 3) := by decide +kernel
theorem dMO_witness_72 : decode cMO_witness 72 = .ok (.iload_n 2, 1) := by decide +kernel
theorem dMO_witness_73 : decode cMO_witness 73 = .ok (.aload_n 0, 1) := by decide +kernel
theorem dMO_witness_74 : decode cMO_witness 74 = .ok (.getfield 84, 3) := by decide +kernel
theorem dMO_witness_77 : decode cMO_witness 77 = .ok (.iload_n 1, 1) := by decide +kernel
theorem dMO_witness_78 : decode cMO_witness 78 = .ok (.iaload, 1) := by decide +kernel
theorem dMO_witness_79 : decode cMO_witness 79 = .ok (.if_icmp .lt 5, 3) := by decide +kernel
theorem dMO_witness_82 : decode cMO_witness 82 = .ok (.iconst (-1), 1) := by decide +kernel
theorem dMO_witness_83 : decode cMO_witness 83 = .ok (.ireturn, 1) := by decide +kernel
theorem dMO_witness_84 : decode cMO_witness 84 = .ok (.iload_n 2, 1) := by decide +kernel
theorem dMO_witness_85 : decode cMO_witness 85 = .ok (.iconst (-1), 1) := by decide +kernel
theorem dMO_witness_86 : decode cMO_witness 86 = .ok (.if_icmp .ne 12, 3) := by decide +kernel
theorem dMO_witness_89 : decode cMO_witness 89 = .ok (.aload_n 0, 1) := by decide +kernel
theorem dMO_witness_90 : decode cMO_witness 90 = .ok (.getfield 84, 3) := by decide +kernel
theorem dMO_witness_93 : decode cMO_witness 93 = .ok (.iload_n 1, 1) := by decide +kernel
theorem dMO_witness_94 : decode cMO_witness 94 = .ok (.iaload, 1) := by decide +kernel
theorem dMO_witness_95 : decode cMO_witness 95 = .ok (.goto 29, 3) := by decide +kernel
theorem dMO_witness_98 : decode cMO_witness 98 = .ok (.iload_n 2, 1) := by decide +kernel
theorem dMO_witness_99 : decode cMO_witness 99 = .ok (.bipush (-2), 2) := by decide +kernel
theorem dMO_witness_101 : decode cMO_witness 101 = .ok (.if_icmp .ne 12, 3) := by decide +kernel
theorem dMO_witness_104 : decode cMO_witness 104 = .ok (.aload_n 0, 1) := by decide +kernel
theorem dMO_witness_105 : decode cMO_witness 105 = .ok (.getfield 87, 3) := by decide +kernel
theorem dMO_witness_108 : decode cMO_witness 108 = .ok (.iload_n 1, 1) := by decide +kernel
theorem dMO_witness_109 : decode cMO_witness 109 = .ok (.iaload, 1) := by decide +kernel
theorem dMO_witness_110 : decode cMO_witness 110 = .ok (.goto 14, 3) := by decide +kernel
theorem dMO_witness_113 : decode cMO_witness 113 = .ok (.aload_n 0, 1) := by decide +kernel
theorem dMO_witness_114 : decode cMO_witness 114 = .ok (.getfield 90, 3) := by decide +kernel
theorem dMO_witness_117 : decode cMO_witness 117 = .ok (.bipush 6, 2) := by decide +kernel
theorem dMO_witness_119 : decode cMO_witness 119 = .ok (.iload_n 1, 1) := by decide +kernel
theorem dMO_witness_120 : decode cMO_witness 120 = .ok (.imul, 1) := by decide +kernel
theorem dMO_witness_121 : decode cMO_witness 121 = .ok (.iload_n 2, 1) := by decide +kernel
theorem dMO_witness_122 : decode cMO_witness 122 = .ok (.iadd, 1) := by decide +kernel
theorem dMO_witness_123 : decode cMO_witness 123 = .ok (.iaload, 1) := by decide +kernel
theorem dMO_witness_124 : decode cMO_witness 124 = .ok (.ireturn, 1) := by decide +kernel
theorem dMO_go_0 : decode cMO_go 0 = .ok (.aload_n 0, 1) := by decide +kernel
theorem dMO_go_1 : decode cMO_go 1 = .ok (.iconst 0, 1) := by decide +kernel
theorem dMO_go_2 : decode cMO_go 2 = .ok (.putfield 93, 3) := by decide +kernel
theorem dMO_go_5 : decode cMO_go 5 = .ok (.iload_n 1, 1) := by decide +kernel
theorem dMO_go_6 : decode cMO_go 6 = .ok (.invokestatic 174, 3) := by decide +kernel
theorem dMO_go_9 : decode cMO_go 9 = .ok (.ifCond .eq 12, 3) := by decide +kernel
theorem dMO_go_12 : decode cMO_go 12 = .ok (.aload_n 0, 1) := by decide +kernel
theorem dMO_go_13 : decode cMO_go 13 = .ok (.getfield 226, 3) := by decide +kernel
theorem dMO_go_16 : decode cMO_go 16 = .ok (.bipush 8, 2) := by decide +kernel
theorem dMO_go_18 : decode cMO_go 18 = .ok (.if_icmp .ne 5, 3) := by decide +kernel
theorem dMO_go_21 : decode cMO_go 21 = .ok (.iconst (-1), 1) := by decide +kernel
theorem dMO_go_22 : decode cMO_go 22 = .ok (.ireturn, 1) := by decide +kernel
theorem dMO_go_23 : decode cMO_go 23 = .ok (.aload_n 0, 1) := by decide +kernel
theorem dMO_go_24 : decode cMO_go 24 = .ok (.getfield 50, 3) := by decide +kernel
theorem dMO_go_27 : decode cMO_go 27 = .ok (.aload_n 0, 1) := by decide +kernel
theorem dMO_go_28 : decode cMO_go 28 = .ok (.getfield 226, 3) := by decide +kernel
theorem dMO_go_31 : decode cMO_go 31 = .ok (.iload_n 1, 1) := by decide +kernel
theorem dMO_go_32 : decode cMO_go 32 = .ok (.iastore, 1) := by decide +kernel
theorem dMO_go_33 : decode cMO_go 33 = .ok (.aload_n 0, 1) := by decide +kernel
theorem dMO_go_34 : decode cMO_go 34 = .ok (.dup, 1) := by decide +kernel
theorem dMO_go_35 : decode cMO_go 35 = .ok (.getfield 226, 3) := by decide +kernel
theorem dMO_go_38 : decode cMO_go 38 = .ok (.iconst 1, 1) := by decide +kernel
theorem dMO_go_39 : decode cMO_go 39 = .ok (.iadd, 1) := by decide +kernel
theorem dMO_go_40 : decode cMO_go 40 = .ok (.putfield 226, 3) := by decide +kernel
theorem dMO_go_43 : decode cMO_go 43 = .ok (.aload_n 0, 1) := by decide +kernel
theorem dMO_go_44 : decode cMO_go 44 = .ok (.getfield 226, 3) := by decide +kernel
theorem dMO_go_47 : decode cMO_go 47 = .ok (.ireturn, 1) := by decide +kernel
theorem dMO_clear_0 : decode cMO_clear 0 = .ok (.aload_n 0, 1) := by decide +kernel
theorem dMO_clear_1 : decode cMO_clear 1 = .ok (.iconst 0, 1) := by decide +kernel
theorem dMO_clear_2 : decode cMO_clear 2 = .ok (.putfield 93, 3) := by decide +kernel
theorem dMO_clear_5 : decode cMO_clear 5 = .ok (.aload_n 0, 1) := by decide +kernel
theorem dMO_clear_6 : decode cMO_clear 6 = .ok (.iconst 0, 1) := by decide +kernel
theorem dMO_clear_7 : decode cMO_clear 7 = .ok (.putfield 226, 3) := by decide +kernel
theorem dMO_clear_10 : decode cMO_clear 10 = .ok (.return_, 1) := by decide +kernel
theorem dMO_judge_0 : decode cMO_judge 0 = .ok (.aload_n 0, 1) := by decide +kernel
theorem dMO_judge_1 : decode cMO_judge 1 = .ok (.aload_n 0, 1) := by decide +kernel
theorem dMO_judge_2 : decode cMO_judge 2 = .ok (.getfield 151, 3) := by decide +kernel
theorem dMO_judge_5 : decode cMO_judge 5 = .ok (.ifCond .eq 10, 3) := by decide +kernel
theorem dMO_judge_8 : decode cMO_judge 8 = .ok (.aload_n 0, 1) := by decide +kernel
theorem dMO_judge_9 : decode cMO_judge 9 = .ok (.getfield 226, 3) := by decide +kernel
theorem dMO_judge_12 : decode cMO_judge 12 = .ok (.ifCond .ne 7, 3) := by decide +kernel
theorem dMO_judge_15 : decode cMO_judge 15 = .ok (.iconst 1, 1) := by decide +kernel
theorem dMO_judge_16 : decode cMO_judge 16 = .ok (.goto 32, 3) := by decide +kernel
theorem dMO_judge_19 : decode cMO_judge 19 = .ok (.iload_n 2, 1) := by decide +kernel
theorem dMO_judge_20 : decode cMO_judge 20 = .ok (.ifCond .lt 23, 3) := by decide +kernel
theorem dMO_judge_23 : decode cMO_judge 23 = .ok (.iload_n 2, 1) := by decide +kernel
theorem dMO_judge_24 : decode cMO_judge 24 = .ok (.aload_n 0, 1) := by decide +kernel
theorem dMO_judge_25 : decode cMO_judge 25 = .ok (.getfield 226, 3) := by decide +kernel
theorem dMO_judge_28 : decode cMO_judge 28 = .ok (.if_icmp .ge 15, 3) := by decide +kernel
theorem dMO_judge_31 : decode cMO_judge 31 = .ok (.iload_n 1, 1) := by decide +kernel
theorem dMO_judge_32 : decode cMO_judge 32 = .ok (.ifCond .lt 11, 3) := by decide +kernel
theorem dMO_judge_35 : decode cMO_judge 35 = .ok (.iload_n 1, 1) := by decide +kernel
theorem dMO_judge_36 : decode cMO_judge 36 = .ok (.aload_n 0, 1) := by decide +kernel
theorem dMO_judge_37 : decode cMO_judge 37 = .ok (.getfield 226, 3) := by decide +kernel
theorem dMO_judge_40 : decode cMO_judge 40 = .ok (.if_icmp .lt 7, 3) := by decide +kernel
theorem dMO_judge_43 : decode cMO_judge 43 = .ok (.iconst 2, 1) := by decide +kernel
theorem dMO_judge_44 : decode cMO_judge 44 = .ok (.goto 4, 3) := by decide +kernel
theorem dMO_judge_47 : decode cMO_judge 47 = .ok (.iconst 0, 1) := by decide +kernel
theorem dMO_judge_48 : decode cMO_judge 48 = .ok (.putfield 93, 3) := by decide +kernel
theorem dMO_judge_51 : decode cMO_judge 51 = .ok (.aload_n 0, 1) := by decide +kernel
theorem dMO_judge_52 : decode cMO_judge 52 = .ok (.getfield 93, 3) := by decide +kernel
theorem dMO_judge_55 : decode cMO_judge 55 = .ok (.ifCond .le 5, 3) := by decide +kernel
theorem dMO_judge_58 : decode cMO_judge 58 = .ok (.iconst 0, 1) := by decide +kernel
theorem dMO_judge_59 : decode cMO_judge 59 = .ok (.ireturn, 1) := by decide +kernel
theorem dMO_judge_60 : decode cMO_judge 60 = .ok (.aload_n 0, 1) := by decide +kernel
theorem dMO_judge_61 : decode cMO_judge 61 = .ok (.aload_n 0, 1) := by decide +kernel
theorem dMO_judge_62 : decode cMO_judge 62 = .ok (.getfield 226, 3) := by decide +kernel
theorem dMO_judge_65 : decode cMO_judge 65 = .ok (.putfield 208, 3) := by decide +kernel
theorem dMO_judge_68 : decode cMO_judge 68 = .ok (.aload_n 0, 1) := by decide +kernel
theorem dMO_judge_69 : decode cMO_judge 69 = .ok (.iload_n 1, 1) := by decide +kernel
theorem dMO_judge_70 : decode cMO_judge 70 = .ok (.putfield 211, 3) := by decide +kernel
theorem dMO_judge_73 : decode cMO_judge 73 = .ok (.iconst 0, 1) := by decide +kernel
theorem dMO_judge_74 : decode cMO_judge 74 = .ok (.istore_n 3, 1) := by decide +kernel
theorem dMO_judge_75 : decode cMO_judge 75 = .ok (.iload_n 3, 1) := by decide +kernel
theorem dMO_judge_76 : decode cMO_judge 76 = .ok (.aload_n 0, 1) := by decide +kernel
theorem dMO_judge_77 : decode cMO_judge 77 = .ok (.getfield 226, 3) := by decide +kernel
theorem dMO_judge_80 : decode cMO_judge 80 = .ok (.if_icmp .ge 21, 3) := by decide +kernel
theorem dMO_judge_83 : decode cMO_judge 83 = .ok (.aload_n 0, 1) := by decide +kernel
theorem dMO_judge_84 : decode cMO_judge 84 = .ok (.getfield 78, 3) := by decide +kernel
theorem dMO_judge_87 : decode cMO_judge 87 = .ok (.iload_n 3, 1) := by decide +kernel
theorem dMO_judge_88 : decode cMO_judge 88 = .ok (.aload_n 0, 1) := by decide +kernel
theorem dMO_judge_89 : decode cMO_judge 89 = .ok (.getfield 50, 3) := by decide +kernel
theorem dMO_judge_92 : decode cMO_judge 92 = .ok (.iload_n 3, 1) := by decide +kernel
theorem dMO_judge_93 : decode cMO_judge 93 = .ok (.iaload, 1) := by decide +kernel
theorem dMO_judge_94 : decode cMO_judge 94 = .ok (.iastore, 1) := by decide +kernel
theorem dMO_judge_95 : decode cMO_judge 95 = .ok (.iinc 3 1, 3) := by decide +kernel
theorem dMO_judge_98 : decode cMO_judge 98 = .ok (.goto (-23), 3) := by decide +kernel
theorem dMO_judge_101 : decode cMO_judge 101 = .ok (.aload_n 0, 1) := by decide +kernel
theorem dMO_judge_102 : decode cMO_judge 102 = .ok (.invokevirtual 214, 3) := by decide +kernel
theorem dMO_judge_105 : decode cMO_judge 105 = .ok (.ifCond .eq 35, 3) := by decide +kernel
theorem dMO_judge_108 : decode cMO_judge 108 = .ok (.aload_n 0, 1) := by decide +kernel
theorem dMO_judge_109 : decode cMO_judge 109 = .ok (.getfield 46, 3) := by decide +kernel
theorem dMO_judge_112 : decode cMO_judge 112 = .ok (.bipush 6, 2) := by decide +kernel
theorem dMO_judge_114 : decode cMO_judge 114 = .ok (.aload_n 0, 1) := by decide +kernel
theorem dMO_judge_115 : decode cMO_judge 115 = .ok (.getfield 78, 3) := by decide +kernel
theorem dMO_judge_118 : decode cMO_judge 118 = .ok (.aload_n 0, 1) := by decide +kernel
theorem dMO_judge_119 : decode cMO_judge 119 = .ok (.getfield 208, 3) := by decide +kernel
theorem dMO_judge_122 : decode cMO_judge 122 = .ok (.iconst 1, 1) := by decide +kernel
theorem dMO_judge_123 : decode cMO_judge 123 = .ok (.isub, 1) := by decide +kernel
theorem dMO_judge_124 : decode cMO_judge 124 = .ok (.iaload, 1) := by decide +kernel
theorem dMO_judge_125 : decode cMO_judge 125 = .ok (.imul, 1) := by decide +kernel
theorem dMO_judge_126 : decode cMO_judge 126 = .ok (.aload_n 0, 1) := by decide +kernel
theorem dMO_judge_127 : decode cMO_judge 127 = .ok (.getfield 78, 3) := by decide +kernel
theorem dMO_judge_130 : decode cMO_judge 130 = .ok (.aload_n 0, 1) := by decide +kernel
theorem dMO_judge_131 : decode cMO_judge 131 = .ok (.getfield 211, 3) := by decide +kernel
theorem dMO_judge_134 : decode cMO_judge 134 = .ok (.iaload, 1) := by decide +kernel
theorem dMO_judge_135 : decode cMO_judge 135 = .ok (.iadd, 1) := by decide +kernel
theorem dMO_judge_136 : decode cMO_judge 136 = .ok (.baload, 1) := by decide +kernel
theorem dMO_judge_137 : decode cMO_judge 137 = .ok (.ifCond .ne 10, 3) := by decide +kernel
theorem dMO_judge_140 : decode cMO_judge 140 = .ok (.aload_n 0, 1) := by decide +kernel
theorem dMO_judge_141 : decode cMO_judge 141 = .ok (.iconst 3, 1) := by decide +kernel
theorem dMO_judge_142 : decode cMO_judge 142 = .ok (.putfield 93, 3) := by decide +kernel
theorem dMO_judge_145 : decode cMO_judge 145 = .ok (.iconst 0, 1) := by decide +kernel
theorem dMO_judge_146 : decode cMO_judge 146 = .ok (.ireturn, 1) := by decide +kernel
theorem dMO_judge_147 : decode cMO_judge 147 = .ok (.aload_n 0, 1) := by decide +kernel
theorem dMO_judge_148 : decode cMO_judge 148 = .ok (.iload_n 2, 1) := by decide +kernel
theorem dMO_judge_149 : decode cMO_judge 149 = .ok (.invokevirtual 217, 3) := by decide +kernel
theorem dMO_judge_152 : decode cMO_judge 152 = .ok (.ireturn, 1) := by decide +kernel
