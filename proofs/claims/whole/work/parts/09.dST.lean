theorem dST_init_0 : decode cST_init 0 = .ok (.aload_n 0, 1) := by decide +kernel
theorem dST_init_1 : decode cST_init 1 = .ok (.invokespecial 3, 3) := by decide +kernel
theorem dST_init_4 : decode cST_init 4 = .ok (.aload_n 0, 1) := by decide +kernel
theorem dST_init_5 : decode cST_init 5 = .ok (.bipush 6, 2) := by decide +kernel
theorem dST_init_7 : decode cST_init 7 = .ok (.newarray .int, 2) := by decide +kernel
theorem dST_init_9 : decode cST_init 9 = .ok (.putfield 9, 3) := by decide +kernel
theorem dST_init_12 : decode cST_init 12 = .ok (.aload_n 0, 1) := by decide +kernel
theorem dST_init_13 : decode cST_init 13 = .ok (.bipush 6, 2) := by decide +kernel
theorem dST_init_15 : decode cST_init 15 = .ok (.newarray .int, 2) := by decide +kernel
theorem dST_init_17 : decode cST_init 17 = .ok (.putfield 15, 3) := by decide +kernel
theorem dST_init_20 : decode cST_init 20 = .ok (.return_, 1) := by decide +kernel
theorem dST_joins_0 : decode cST_joins 0 = .ok (.aload_n 0, 1) := by decide +kernel
theorem dST_joins_1 : decode cST_joins 1 = .ok (.getfield 15, 3) := by decide +kernel
theorem dST_joins_4 : decode cST_joins 4 = .ok (.iload_n 1, 1) := by decide +kernel
theorem dST_joins_5 : decode cST_joins 5 = .ok (.iaload, 1) := by decide +kernel
theorem dST_joins_6 : decode cST_joins 6 = .ok (.iload_n 2, 1) := by decide +kernel
theorem dST_joins_7 : decode cST_joins 7 = .ok (.iushr, 1) := by decide +kernel
theorem dST_joins_8 : decode cST_joins 8 = .ok (.iconst 1, 1) := by decide +kernel
theorem dST_joins_9 : decode cST_joins 9 = .ok (.iand, 1) := by decide +kernel
theorem dST_joins_10 : decode cST_joins 10 = .ok (.iconst 1, 1) := by decide +kernel
theorem dST_joins_11 : decode cST_joins 11 = .ok (.if_icmp .ne 7, 3) := by decide +kernel
theorem dST_joins_14 : decode cST_joins 14 = .ok (.iconst 1, 1) := by decide +kernel
theorem dST_joins_15 : decode cST_joins 15 = .ok (.goto 4, 3) := by decide +kernel
theorem dST_joins_18 : decode cST_joins 18 = .ok (.iconst 0, 1) := by decide +kernel
theorem dST_joins_19 : decode cST_joins 19 = .ok (.ireturn, 1) := by decide +kernel
theorem dST_statesWithPath_0 : decode cST_statesWithPath 0 = .ok (.bipush 63, 2) := by decide +kernel
theorem dST_statesWithPath_2 : decode cST_statesWithPath 2 = .ok (.istore_n 1, 1) := by decide +kernel
theorem dST_statesWithPath_3 : decode cST_statesWithPath 3 = .ok (.iconst 0, 1) := by decide +kernel
theorem dST_statesWithPath_4 : decode cST_statesWithPath 4 = .ok (.istore_n 2, 1) := by decide +kernel
theorem dST_statesWithPath_5 : decode cST_statesWithPath 5 = .ok (.iload_n 2, 1) := by decide +kernel
theorem dST_statesWithPath_6 : decode cST_statesWithPath 6 = .ok (.bipush 6, 2) := by decide +kernel
theorem dST_statesWithPath_8 : decode cST_statesWithPath 8 = .ok (.if_icmp .ge 42, 3) := by decide +kernel
theorem dST_statesWithPath_11 : decode cST_statesWithPath 11 = .ok (.iconst 0, 1) := by decide +kernel
theorem dST_statesWithPath_12 : decode cST_statesWithPath 12 = .ok (.istore_n 3, 1) := by decide +kernel
theorem dST_statesWithPath_13 : decode cST_statesWithPath 13 = .ok (.iload_n 3, 1) := by decide +kernel
theorem dST_statesWithPath_14 : decode cST_statesWithPath 14 = .ok (.bipush 6, 2) := by decide +kernel
theorem dST_statesWithPath_16 : decode cST_statesWithPath 16 = .ok (.if_icmp .ge 28, 3) := by decide +kernel
theorem dST_statesWithPath_19 : decode cST_statesWithPath 19 = .ok (.aload_n 0, 1) := by decide +kernel
theorem dST_statesWithPath_20 : decode cST_statesWithPath 20 = .ok (.getfield 15, 3) := by decide +kernel
theorem dST_statesWithPath_23 : decode cST_statesWithPath 23 = .ok (.iload_n 3, 1) := by decide +kernel
theorem dST_statesWithPath_24 : decode cST_statesWithPath 24 = .ok (.iaload, 1) := by decide +kernel
theorem dST_statesWithPath_25 : decode cST_statesWithPath 25 = .ok (.iload_n 1, 1) := by decide +kernel
theorem dST_statesWithPath_26 : decode cST_statesWithPath 26 = .ok (.iand, 1) := by decide +kernel
theorem dST_statesWithPath_27 : decode cST_statesWithPath 27 = .ok (.ifCond .ne 11, 3) := by decide +kernel
theorem dST_statesWithPath_30 : decode cST_statesWithPath 30 = .ok (.iload_n 1, 1) := by decide +kernel
theorem dST_statesWithPath_31 : decode cST_statesWithPath 31 = .ok (.iconst 1, 1) := by decide +kernel
theorem dST_statesWithPath_32 : decode cST_statesWithPath 32 = .ok (.iload_n 3, 1) := by decide +kernel
theorem dST_statesWithPath_33 : decode cST_statesWithPath 33 = .ok (.ishl, 1) := by decide +kernel
theorem dST_statesWithPath_34 : decode cST_statesWithPath 34 = .ok (.iconst (-1), 1) := by decide +kernel
theorem dST_statesWithPath_35 : decode cST_statesWithPath 35 = .ok (.ixor, 1) := by decide +kernel
theorem dST_statesWithPath_36 : decode cST_statesWithPath 36 = .ok (.iand, 1) := by decide +kernel
theorem dST_statesWithPath_37 : decode cST_statesWithPath 37 = .ok (.istore_n 1, 1) := by decide +kernel
theorem dST_statesWithPath_38 : decode cST_statesWithPath 38 = .ok (.iinc 3 1, 3) := by decide +kernel
theorem dST_statesWithPath_41 : decode cST_statesWithPath 41 = .ok (.goto (-28), 3) := by decide +kernel
theorem dST_statesWithPath_44 : decode cST_statesWithPath 44 = .ok (.iinc 2 1, 3) := by decide +kernel
theorem dST_statesWithPath_47 : decode cST_statesWithPath 47 = .ok (.goto (-42), 3) := by decide +kernel
theorem dST_statesWithPath_50 : decode cST_statesWithPath 50 = .ok (.iload_n 1, 1) := by decide +kernel
theorem dST_statesWithPath_51 : decode cST_statesWithPath 51 = .ok (.ireturn, 1) := by decide +kernel
