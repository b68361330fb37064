theorem dNE_init_0 : decode cNE_init 0 = .ok (.aload_n 0, 1) := by decide +kernel
theorem dNE_init_1 : decode cNE_init 1 = .ok (.invokespecial 3, 3) := by decide +kernel
theorem dNE_init_4 : decode cNE_init 4 = .ok (.aload_n 0, 1) := by decide +kernel
theorem dNE_init_5 : decode cNE_init 5 = .ok (.new 9, 3) := by decide +kernel
theorem dNE_init_8 : decode cNE_init 8 = .ok (.dup, 1) := by decide +kernel
theorem dNE_init_9 : decode cNE_init 9 = .ok (.invokespecial 11, 3) := by decide +kernel
theorem dNE_init_12 : decode cNE_init 12 = .ok (.putfield 12, 3) := by decide +kernel
theorem dNE_init_15 : decode cNE_init 15 = .ok (.aload_n 0, 1) := by decide +kernel
theorem dNE_init_16 : decode cNE_init 16 = .ok (.aload_n 0, 1) := by decide +kernel
theorem dNE_init_17 : decode cNE_init 17 = .ok (.getfield 12, 3) := by decide +kernel
theorem dNE_init_20 : decode cNE_init 20 = .ok (.getfield 18, 3) := by decide +kernel
theorem dNE_init_23 : decode cNE_init 23 = .ok (.putfield 22, 3) := by decide +kernel
theorem dNE_init_26 : decode cNE_init 26 = .ok (.aload_n 0, 1) := by decide +kernel
theorem dNE_init_27 : decode cNE_init 27 = .ok (.bipush 36, 2) := by decide +kernel
theorem dNE_init_29 : decode cNE_init 29 = .ok (.newarray .int, 2) := by decide +kernel
theorem dNE_init_31 : decode cNE_init 31 = .ok (.putfield 23, 3) := by decide +kernel
theorem dNE_init_34 : decode cNE_init 34 = .ok (.aload_n 0, 1) := by decide +kernel
theorem dNE_init_35 : decode cNE_init 35 = .ok (.bipush 6, 2) := by decide +kernel
theorem dNE_init_37 : decode cNE_init 37 = .ok (.newarray .int, 2) := by decide +kernel
theorem dNE_init_39 : decode cNE_init 39 = .ok (.putfield 27, 3) := by decide +kernel
theorem dNE_init_42 : decode cNE_init 42 = .ok (.return_, 1) := by decide +kernel
theorem dNE_measure_0 : decode cNE_measure 0 = .ok (.iconst 0, 1) := by decide +kernel
theorem dNE_measure_1 : decode cNE_measure 1 = .ok (.istore_n 1, 1) := by decide +kernel
theorem dNE_measure_2 : decode cNE_measure 2 = .ok (.iload_n 1, 1) := by decide +kernel
theorem dNE_measure_3 : decode cNE_measure 3 = .ok (.bipush 6, 2) := by decide +kernel
theorem dNE_measure_5 : decode cNE_measure 5 = .ok (.if_icmp .ge 24, 3) := by decide +kernel
theorem dNE_measure_8 : decode cNE_measure 8 = .ok (.aload_n 0, 1) := by decide +kernel
theorem dNE_measure_9 : decode cNE_measure 9 = .ok (.getfield 23, 3) := by decide +kernel
theorem dNE_measure_12 : decode cNE_measure 12 = .ok (.iload_n 1, 1) := by decide +kernel
theorem dNE_measure_13 : decode cNE_measure 13 = .ok (.aload_n 0, 1) := by decide +kernel
theorem dNE_measure_14 : decode cNE_measure 14 = .ok (.getfield 12, 3) := by decide +kernel
theorem dNE_measure_17 : decode cNE_measure 17 = .ok (.getfield 30, 3) := by decide +kernel
theorem dNE_measure_20 : decode cNE_measure 20 = .ok (.iload_n 1, 1) := by decide +kernel
theorem dNE_measure_21 : decode cNE_measure 21 = .ok (.iaload, 1) := by decide +kernel
theorem dNE_measure_22 : decode cNE_measure 22 = .ok (.iastore, 1) := by decide +kernel
theorem dNE_measure_23 : decode cNE_measure 23 = .ok (.iinc 1 1, 3) := by decide +kernel
theorem dNE_measure_26 : decode cNE_measure 26 = .ok (.goto (-24), 3) := by decide +kernel
theorem dNE_measure_29 : decode cNE_measure 29 = .ok (.iconst 1, 1) := by decide +kernel
theorem dNE_measure_30 : decode cNE_measure 30 = .ok (.istore_n 1, 1) := by decide +kernel
theorem dNE_measure_31 : decode cNE_measure 31 = .ok (.iload_n 1, 1) := by decide +kernel
theorem dNE_measure_32 : decode cNE_measure 32 = .ok (.bipush 6, 2) := by decide +kernel
theorem dNE_measure_34 : decode cNE_measure 34 = .ok (.if_icmp .ge 49, 3) := by decide +kernel
theorem dNE_measure_37 : decode cNE_measure 37 = .ok (.iconst 0, 1) := by decide +kernel
theorem dNE_measure_38 : decode cNE_measure 38 = .ok (.istore_n 2, 1) := by decide +kernel
theorem dNE_measure_39 : decode cNE_measure 39 = .ok (.iload_n 2, 1) := by decide +kernel
theorem dNE_measure_40 : decode cNE_measure 40 = .ok (.bipush 6, 2) := by decide +kernel
theorem dNE_measure_42 : decode cNE_measure 42 = .ok (.if_icmp .ge 35, 3) := by decide +kernel
theorem dNE_measure_45 : decode cNE_measure 45 = .ok (.aload_n 0, 1) := by decide +kernel
theorem dNE_measure_46 : decode cNE_measure 46 = .ok (.getfield 23, 3) := by decide +kernel
theorem dNE_measure_49 : decode cNE_measure 49 = .ok (.iload_n 1, 1) := by decide +kernel
theorem dNE_measure_50 : decode cNE_measure 50 = .ok (.bipush 6, 2) := by decide +kernel
theorem dNE_measure_52 : decode cNE_measure 52 = .ok (.imul, 1) := by decide +kernel
theorem dNE_measure_53 : decode cNE_measure 53 = .ok (.iload_n 2, 1) := by decide +kernel
theorem dNE_measure_54 : decode cNE_measure 54 = .ok (.iadd, 1) := by decide +kernel
theorem dNE_measure_55 : decode cNE_measure 55 = .ok (.aload_n 0, 1) := by decide +kernel
theorem dNE_measure_56 : decode cNE_measure 56 = .ok (.aload_n 0, 1) := by decide +kernel
theorem dNE_measure_57 : decode cNE_measure 57 = .ok (.getfield 23, 3) := by decide +kernel
theorem dNE_measure_60 : decode cNE_measure 60 = .ok (.iload_n 1, 1) := by decide +kernel
theorem dNE_measure_61 : decode cNE_measure 61 = .ok (.iconst 1, 1) := by decide +kernel
theorem dNE_measure_62 : decode cNE_measure 62 = .ok (.isub, 1) := by decide +kernel
theorem dNE_measure_63 : decode cNE_measure 63 = .ok (.bipush 6, 2) := by decide +kernel
theorem dNE_measure_65 : decode cNE_measure 65 = .ok (.imul, 1) := by decide +kernel
theorem dNE_measure_66 : decode cNE_measure 66 = .ok (.iload_n 2, 1) := by decide +kernel
theorem dNE_measure_67 : decode cNE_measure 67 = .ok (.invokevirtual 33, 3) := by decide +kernel
theorem dNE_measure_70 : decode cNE_measure 70 = .ok (.iastore, 1) := by decide +kernel
theorem dNE_measure_71 : decode cNE_measure 71 = .ok (.iinc 2 1, 3) := by decide +kernel
theorem dNE_measure_74 : decode cNE_measure 74 = .ok (.goto (-35), 3) := by decide +kernel
theorem dNE_measure_77 : decode cNE_measure 77 = .ok (.iinc 1 1, 3) := by decide +kernel
theorem dNE_measure_80 : decode cNE_measure 80 = .ok (.goto (-49), 3) := by decide +kernel
theorem dNE_measure_83 : decode cNE_measure 83 = .ok (.iconst 0, 1) := by decide +kernel
theorem dNE_measure_84 : decode cNE_measure 84 = .ok (.istore_n 1, 1) := by decide +kernel
theorem dNE_measure_85 : decode cNE_measure 85 = .ok (.iload_n 1, 1) := by decide +kernel
theorem dNE_measure_86 : decode cNE_measure 86 = .ok (.bipush 6, 2) := by decide +kernel
theorem dNE_measure_88 : decode cNE_measure 88 = .ok (.if_icmp .ge 24, 3) := by decide +kernel
theorem dNE_measure_91 : decode cNE_measure 91 = .ok (.aload_n 0, 1) := by decide +kernel
theorem dNE_measure_92 : decode cNE_measure 92 = .ok (.getfield 27, 3) := by decide +kernel
theorem dNE_measure_95 : decode cNE_measure 95 = .ok (.iload_n 1, 1) := by decide +kernel
theorem dNE_measure_96 : decode cNE_measure 96 = .ok (.aload_n 0, 1) := by decide +kernel
theorem dNE_measure_97 : decode cNE_measure 97 = .ok (.getfield 23, 3) := by decide +kernel
theorem dNE_measure_100 : decode cNE_measure 100 = .ok (.bipush 30, 2) := by decide +kernel
theorem dNE_measure_102 : decode cNE_measure 102 = .ok (.iload_n 1, 1) := by decide +kernel
theorem dNE_measure_103 : decode cNE_measure 103 = .ok (.iadd, 1) := by decide +kernel
theorem dNE_measure_104 : decode cNE_measure 104 = .ok (.iaload, 1) := by decide +kernel
theorem dNE_measure_105 : decode cNE_measure 105 = .ok (.iastore, 1) := by decide +kernel
theorem dNE_measure_106 : decode cNE_measure 106 = .ok (.iinc 1 1, 3) := by decide +kernel
theorem dNE_measure_109 : decode cNE_measure 109 = .ok (.goto (-24), 3) := by decide +kernel
theorem dNE_measure_112 : decode cNE_measure 112 = .ok (.iconst 1, 1) := by decide +kernel
theorem dNE_measure_113 : decode cNE_measure 113 = .ok (.istore_n 1, 1) := by decide +kernel
theorem dNE_measure_114 : decode cNE_measure 114 = .ok (.iconst 0, 1) := by decide +kernel
theorem dNE_measure_115 : decode cNE_measure 115 = .ok (.istore_n 2, 1) := by decide +kernel
theorem dNE_measure_116 : decode cNE_measure 116 = .ok (.iload_n 2, 1) := by decide +kernel
theorem dNE_measure_117 : decode cNE_measure 117 = .ok (.sipush 192, 3) := by decide +kernel
theorem dNE_measure_120 : decode cNE_measure 120 = .ok (.if_icmp .gt 18, 3) := by decide +kernel
theorem dNE_measure_123 : decode cNE_measure 123 = .ok (.iload_n 1, 1) := by decide +kernel
theorem dNE_measure_124 : decode cNE_measure 124 = .ok (.ifCond .eq 14, 3) := by decide +kernel
theorem dNE_measure_127 : decode cNE_measure 127 = .ok (.aload_n 0, 1) := by decide +kernel
theorem dNE_measure_128 : decode cNE_measure 128 = .ok (.invokevirtual 37, 3) := by decide +kernel
theorem dNE_measure_131 : decode cNE_measure 131 = .ok (.istore_n 1, 1) := by decide +kernel
theorem dNE_measure_132 : decode cNE_measure 132 = .ok (.iinc 2 1, 3) := by decide +kernel
theorem dNE_measure_135 : decode cNE_measure 135 = .ok (.goto (-19), 3) := by decide +kernel
theorem dNE_measure_138 : decode cNE_measure 138 = .ok (.return_, 1) := by decide +kernel
theorem dNE_growReaching_0 : decode cNE_growReaching 0 = .ok (.iconst 0, 1) := by decide +kernel
theorem dNE_growReaching_1 : decode cNE_growReaching 1 = .ok (.istore_n 1, 1) := by decide +kernel
theorem dNE_growReaching_2 : decode cNE_growReaching 2 = .ok (.iconst 0, 1) := by decide +kernel
theorem dNE_growReaching_3 : decode cNE_growReaching 3 = .ok (.istore_n 2, 1) := by decide +kernel
theorem dNE_growReaching_4 : decode cNE_growReaching 4 = .ok (.iload_n 2, 1) := by decide +kernel
theorem dNE_growReaching_5 : decode cNE_growReaching 5 = .ok (.bipush 6, 2) := by decide +kernel
theorem dNE_growReaching_7 : decode cNE_growReaching 7 = .ok (.if_icmp .ge 47, 3) := by decide +kernel
theorem dNE_growReaching_10 : decode cNE_growReaching 10 = .ok (.aload_n 0, 1) := by decide +kernel
theorem dNE_growReaching_11 : decode cNE_growReaching 11 = .ok (.aload_n 0, 1) := by decide +kernel
theorem dNE_growReaching_12 : decode cNE_growReaching 12 = .ok (.getfield 27, 3) := by decide +kernel
theorem dNE_growReaching_15 : decode cNE_growReaching 15 = .ok (.iconst 0, 1) := by decide +kernel
theorem dNE_growReaching_16 : decode cNE_growReaching 16 = .ok (.iload_n 2, 1) := by decide +kernel
theorem dNE_growReaching_17 : decode cNE_growReaching 17 = .ok (.invokevirtual 33, 3) := by decide +kernel
theorem dNE_growReaching_20 : decode cNE_growReaching 20 = .ok (.istore_n 3, 1) := by decide +kernel
theorem dNE_growReaching_21 : decode cNE_growReaching 21 = .ok (.iload_n 1, 1) := by decide +kernel
theorem dNE_growReaching_22 : decode cNE_growReaching 22 = .ok (.ifCond .ne 13, 3) := by decide +kernel
theorem dNE_growReaching_25 : decode cNE_growReaching 25 = .ok (.iload_n 3, 1) := by decide +kernel
theorem dNE_growReaching_26 : decode cNE_growReaching 26 = .ok (.aload_n 0, 1) := by decide +kernel
theorem dNE_growReaching_27 : decode cNE_growReaching 27 = .ok (.getfield 27, 3) := by decide +kernel
theorem dNE_growReaching_30 : decode cNE_growReaching 30 = .ok (.iload_n 2, 1) := by decide +kernel
theorem dNE_growReaching_31 : decode cNE_growReaching 31 = .ok (.iaload, 1) := by decide +kernel
theorem dNE_growReaching_32 : decode cNE_growReaching 32 = .ok (.if_icmp .eq 7, 3) := by decide +kernel
theorem dNE_growReaching_35 : decode cNE_growReaching 35 = .ok (.iconst 1, 1) := by decide +kernel
theorem dNE_growReaching_36 : decode cNE_growReaching 36 = .ok (.goto 4, 3) := by decide +kernel
theorem dNE_growReaching_39 : decode cNE_growReaching 39 = .ok (.iconst 0, 1) := by decide +kernel
theorem dNE_growReaching_40 : decode cNE_growReaching 40 = .ok (.istore_n 1, 1) := by decide +kernel
theorem dNE_growReaching_41 : decode cNE_growReaching 41 = .ok (.aload_n 0, 1) := by decide +kernel
theorem dNE_growReaching_42 : decode cNE_growReaching 42 = .ok (.getfield 27, 3) := by decide +kernel
theorem dNE_growReaching_45 : decode cNE_growReaching 45 = .ok (.iload_n 2, 1) := by decide +kernel
theorem dNE_growReaching_46 : decode cNE_growReaching 46 = .ok (.iload_n 3, 1) := by decide +kernel
theorem dNE_growReaching_47 : decode cNE_growReaching 47 = .ok (.iastore, 1) := by decide +kernel
theorem dNE_growReaching_48 : decode cNE_growReaching 48 = .ok (.iinc 2 1, 3) := by decide +kernel
theorem dNE_growReaching_51 : decode cNE_growReaching 51 = .ok (.goto (-47), 3) := by decide +kernel
theorem dNE_growReaching_54 : decode cNE_growReaching 54 = .ok (.iload_n 1, 1) := by decide +kernel
theorem dNE_growReaching_55 : decode cNE_growReaching 55 = .ok (.ireturn, 1) := by decide +kernel
theorem dNE_oneStepMore_0 : decode cNE_oneStepMore 0 = .ok (.aload_n 1, 1) := by decide +kernel
theorem dNE_oneStepMore_1 : decode cNE_oneStepMore 1 = .ok (.iload_n 2, 1) := by decide +kernel
theorem dNE_oneStepMore_2 : decode cNE_oneStepMore 2 = .ok (.iload_n 3, 1) := by decide +kernel
theorem dNE_oneStepMore_3 : decode cNE_oneStepMore 3 = .ok (.iadd, 1) := by decide +kernel
theorem dNE_oneStepMore_4 : decode cNE_oneStepMore 4 = .ok (.iaload, 1) := by decide +kernel
theorem dNE_oneStepMore_5 : decode cNE_oneStepMore 5 = .ok (.istore 4, 2) := by decide +kernel
theorem dNE_oneStepMore_7 : decode cNE_oneStepMore 7 = .ok (.iconst 0, 1) := by decide +kernel
theorem dNE_oneStepMore_8 : decode cNE_oneStepMore 8 = .ok (.istore 5, 2) := by decide +kernel
theorem dNE_oneStepMore_10 : decode cNE_oneStepMore 10 = .ok (.iload 5, 2) := by decide +kernel
theorem dNE_oneStepMore_12 : decode cNE_oneStepMore 12 = .ok (.bipush 6, 2) := by decide +kernel
theorem dNE_oneStepMore_14 : decode cNE_oneStepMore 14 = .ok (.if_icmp .ge 46, 3) := by decide +kernel
theorem dNE_oneStepMore_17 : decode cNE_oneStepMore 17 = .ok (.aload_n 0, 1) := by decide +kernel
theorem dNE_oneStepMore_18 : decode cNE_oneStepMore 18 = .ok (.getfield 22, 3) := by decide +kernel
theorem dNE_oneStepMore_21 : decode cNE_oneStepMore 21 = .ok (.getfield 41, 3) := by decide +kernel
theorem dNE_oneStepMore_24 : decode cNE_oneStepMore 24 = .ok (.iload_n 3, 1) := by decide +kernel
theorem dNE_oneStepMore_25 : decode cNE_oneStepMore 25 = .ok (.iload 5, 2) := by decide +kernel
theorem dNE_oneStepMore_27 : decode cNE_oneStepMore 27 = .ok (.invokevirtual 47, 3) := by decide +kernel
theorem dNE_oneStepMore_30 : decode cNE_oneStepMore 30 = .ok (.ifCond .eq 24, 3) := by decide +kernel
theorem dNE_oneStepMore_33 : decode cNE_oneStepMore 33 = .ok (.iload 4, 2) := by decide +kernel
theorem dNE_oneStepMore_35 : decode cNE_oneStepMore 35 = .ok (.aload_n 0, 1) := by decide +kernel
theorem dNE_oneStepMore_36 : decode cNE_oneStepMore 36 = .ok (.getfield 22, 3) := by decide +kernel
theorem dNE_oneStepMore_39 : decode cNE_oneStepMore 39 = .ok (.iload_n 3, 1) := by decide +kernel
theorem dNE_oneStepMore_40 : decode cNE_oneStepMore 40 = .ok (.iload 5, 2) := by decide +kernel
theorem dNE_oneStepMore_42 : decode cNE_oneStepMore 42 = .ok (.aload_n 1, 1) := by decide +kernel
theorem dNE_oneStepMore_43 : decode cNE_oneStepMore 43 = .ok (.iload_n 2, 1) := by decide +kernel
theorem dNE_oneStepMore_44 : decode cNE_oneStepMore 44 = .ok (.iload 5, 2) := by decide +kernel
theorem dNE_oneStepMore_46 : decode cNE_oneStepMore 46 = .ok (.iadd, 1) := by decide +kernel
theorem dNE_oneStepMore_47 : decode cNE_oneStepMore 47 = .ok (.iaload, 1) := by decide +kernel
theorem dNE_oneStepMore_48 : decode cNE_oneStepMore 48 = .ok (.invokevirtual 53, 3) := by decide +kernel
theorem dNE_oneStepMore_51 : decode cNE_oneStepMore 51 = .ok (.ior, 1) := by decide +kernel
theorem dNE_oneStepMore_52 : decode cNE_oneStepMore 52 = .ok (.istore 4, 2) := by decide +kernel
theorem dNE_oneStepMore_54 : decode cNE_oneStepMore 54 = .ok (.iinc 5 1, 3) := by decide +kernel
theorem dNE_oneStepMore_57 : decode cNE_oneStepMore 57 = .ok (.goto (-47), 3) := by decide +kernel
theorem dNE_oneStepMore_60 : decode cNE_oneStepMore 60 = .ok (.iload 4, 2) := by decide +kernel
theorem dNE_oneStepMore_62 : decode cNE_oneStepMore 62 = .ok (.ireturn, 1) := by decide +kernel
theorem dNE_within_0 : decode cNE_within 0 = .ok (.aload_n 0, 1) := by decide +kernel
theorem dNE_within_1 : decode cNE_within 1 = .ok (.getfield 23, 3) := by decide +kernel
theorem dNE_within_4 : decode cNE_within 4 = .ok (.iload_n 1, 1) := by decide +kernel
theorem dNE_within_5 : decode cNE_within 5 = .ok (.bipush 6, 2) := by decide +kernel
theorem dNE_within_7 : decode cNE_within 7 = .ok (.imul, 1) := by decide +kernel
theorem dNE_within_8 : decode cNE_within 8 = .ok (.iload_n 2, 1) := by decide +kernel
theorem dNE_within_9 : decode cNE_within 9 = .ok (.iadd, 1) := by decide +kernel
theorem dNE_within_10 : decode cNE_within 10 = .ok (.iaload, 1) := by decide +kernel
theorem dNE_within_11 : decode cNE_within 11 = .ok (.ireturn, 1) := by decide +kernel
theorem dNE_statesWithPath_0 : decode cNE_statesWithPath 0 = .ok (.iconst 0, 1) := by decide +kernel
theorem dNE_statesWithPath_1 : decode cNE_statesWithPath 1 = .ok (.istore_n 2, 1) := by decide +kernel
theorem dNE_statesWithPath_2 : decode cNE_statesWithPath 2 = .ok (.iconst 0, 1) := by decide +kernel
theorem dNE_statesWithPath_3 : decode cNE_statesWithPath 3 = .ok (.istore_n 3, 1) := by decide +kernel
theorem dNE_statesWithPath_4 : decode cNE_statesWithPath 4 = .ok (.iload_n 3, 1) := by decide +kernel
theorem dNE_statesWithPath_5 : decode cNE_statesWithPath 5 = .ok (.bipush 6, 2) := by decide +kernel
theorem dNE_statesWithPath_7 : decode cNE_statesWithPath 7 = .ok (.if_icmp .ge 56, 3) := by decide +kernel
theorem dNE_statesWithPath_10 : decode cNE_statesWithPath 10 = .ok (.iload_n 1, 1) := by decide +kernel
theorem dNE_statesWithPath_11 : decode cNE_statesWithPath 11 = .ok (.ifCond .eq 15, 3) := by decide +kernel
theorem dNE_statesWithPath_14 : decode cNE_statesWithPath 14 = .ok (.aload_n 0, 1) := by decide +kernel
theorem dNE_statesWithPath_15 : decode cNE_statesWithPath 15 = .ok (.getfield 22, 3) := by decide +kernel
theorem dNE_statesWithPath_18 : decode cNE_statesWithPath 18 = .ok (.getfield 57, 3) := by decide +kernel
theorem dNE_statesWithPath_21 : decode cNE_statesWithPath 21 = .ok (.iload_n 3, 1) := by decide +kernel
theorem dNE_statesWithPath_22 : decode cNE_statesWithPath 22 = .ok (.iaload, 1) := by decide +kernel
theorem dNE_statesWithPath_23 : decode cNE_statesWithPath 23 = .ok (.goto 14, 3) := by decide +kernel
theorem dNE_statesWithPath_26 : decode cNE_statesWithPath 26 = .ok (.aload_n 0, 1) := by decide +kernel
theorem dNE_statesWithPath_27 : decode cNE_statesWithPath 27 = .ok (.getfield 22, 3) := by decide +kernel
theorem dNE_statesWithPath_30 : decode cNE_statesWithPath 30 = .ok (.getfield 57, 3) := by decide +kernel
theorem dNE_statesWithPath_33 : decode cNE_statesWithPath 33 = .ok (.iload_n 3, 1) := by decide +kernel
theorem dNE_statesWithPath_34 : decode cNE_statesWithPath 34 = .ok (.iaload, 1) := by decide +kernel
theorem dNE_statesWithPath_35 : decode cNE_statesWithPath 35 = .ok (.iconst (-1), 1) := by decide +kernel
theorem dNE_statesWithPath_36 : decode cNE_statesWithPath 36 = .ok (.ixor, 1) := by decide +kernel
theorem dNE_statesWithPath_37 : decode cNE_statesWithPath 37 = .ok (.istore 4, 2) := by decide +kernel
theorem dNE_statesWithPath_39 : decode cNE_statesWithPath 39 = .ok (.aload_n 0, 1) := by decide +kernel
theorem dNE_statesWithPath_40 : decode cNE_statesWithPath 40 = .ok (.getfield 27, 3) := by decide +kernel
theorem dNE_statesWithPath_43 : decode cNE_statesWithPath 43 = .ok (.iload_n 3, 1) := by decide +kernel
theorem dNE_statesWithPath_44 : decode cNE_statesWithPath 44 = .ok (.iaload, 1) := by decide +kernel
theorem dNE_statesWithPath_45 : decode cNE_statesWithPath 45 = .ok (.iload 4, 2) := by decide +kernel
theorem dNE_statesWithPath_47 : decode cNE_statesWithPath 47 = .ok (.iand, 1) := by decide +kernel
theorem dNE_statesWithPath_48 : decode cNE_statesWithPath 48 = .ok (.ifCond .eq 9, 3) := by decide +kernel
theorem dNE_statesWithPath_51 : decode cNE_statesWithPath 51 = .ok (.iload_n 2, 1) := by decide +kernel
theorem dNE_statesWithPath_52 : decode cNE_statesWithPath 52 = .ok (.iconst 1, 1) := by decide +kernel
theorem dNE_statesWithPath_53 : decode cNE_statesWithPath 53 = .ok (.iload_n 3, 1) := by decide +kernel
theorem dNE_statesWithPath_54 : decode cNE_statesWithPath 54 = .ok (.ishl, 1) := by decide +kernel
theorem dNE_statesWithPath_55 : decode cNE_statesWithPath 55 = .ok (.ior, 1) := by decide +kernel
theorem dNE_statesWithPath_56 : decode cNE_statesWithPath 56 = .ok (.istore_n 2, 1) := by decide +kernel
theorem dNE_statesWithPath_57 : decode cNE_statesWithPath 57 = .ok (.iinc 3 1, 3) := by decide +kernel
theorem dNE_statesWithPath_60 : decode cNE_statesWithPath 60 = .ok (.goto (-56), 3) := by decide +kernel
theorem dNE_statesWithPath_63 : decode cNE_statesWithPath 63 = .ok (.iload_n 2, 1) := by decide +kernel
theorem dNE_statesWithPath_64 : decode cNE_statesWithPath 64 = .ok (.ireturn, 1) := by decide +kernel
