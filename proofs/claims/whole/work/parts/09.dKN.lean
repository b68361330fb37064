theorem dKN_init_0 : decode cKN_init 0 = .ok (.aload_n 0, 1) := by decide +kernel
theorem dKN_init_1 : decode cKN_init 1 = .ok (.invokespecial 3, 3) := by decide +kernel
theorem dKN_init_4 : decode cKN_init 4 = .ok (.aload_n 0, 1) := by decide +kernel
theorem dKN_init_5 : decode cKN_init 5 = .ok (.new 9, 3) := by decide +kernel
theorem dKN_init_8 : decode cKN_init 8 = .ok (.dup, 1) := by decide +kernel
theorem dKN_init_9 : decode cKN_init 9 = .ok (.invokespecial 11, 3) := by decide +kernel
theorem dKN_init_12 : decode cKN_init 12 = .ok (.putfield 12, 3) := by decide +kernel
theorem dKN_init_15 : decode cKN_init 15 = .ok (.aload_n 0, 1) := by decide +kernel
theorem dKN_init_16 : decode cKN_init 16 = .ok (.bipush 6, 2) := by decide +kernel
theorem dKN_init_18 : decode cKN_init 18 = .ok (.newarray .int, 2) := by decide +kernel
theorem dKN_init_20 : decode cKN_init 20 = .ok (.putfield 18, 3) := by decide +kernel
theorem dKN_init_23 : decode cKN_init 23 = .ok (.aload_n 0, 1) := by decide +kernel
theorem dKN_init_24 : decode cKN_init 24 = .ok (.sipush 192, 3) := by decide +kernel
theorem dKN_init_27 : decode cKN_init 27 = .ok (.newarray .int, 2) := by decide +kernel
theorem dKN_init_29 : decode cKN_init 29 = .ok (.putfield 22, 3) := by decide +kernel
theorem dKN_init_32 : decode cKN_init 32 = .ok (.aload_n 0, 1) := by decide +kernel
theorem dKN_init_33 : decode cKN_init 33 = .ok (.sipush 192, 3) := by decide +kernel
theorem dKN_init_36 : decode cKN_init 36 = .ok (.newarray .int, 2) := by decide +kernel
theorem dKN_init_38 : decode cKN_init 38 = .ok (.putfield 25, 3) := by decide +kernel
theorem dKN_init_41 : decode cKN_init 41 = .ok (.aload_n 0, 1) := by decide +kernel
theorem dKN_init_42 : decode cKN_init 42 = .ok (.sipush 192, 3) := by decide +kernel
theorem dKN_init_45 : decode cKN_init 45 = .ok (.newarray .int, 2) := by decide +kernel
theorem dKN_init_47 : decode cKN_init 47 = .ok (.putfield 28, 3) := by decide +kernel
theorem dKN_init_50 : decode cKN_init 50 = .ok (.aload_n 0, 1) := by decide +kernel
theorem dKN_init_51 : decode cKN_init 51 = .ok (.sipush 192, 3) := by decide +kernel
theorem dKN_init_54 : decode cKN_init 54 = .ok (.newarray .int, 2) := by decide +kernel
theorem dKN_init_56 : decode cKN_init 56 = .ok (.putfield 31, 3) := by decide +kernel
theorem dKN_init_59 : decode cKN_init 59 = .ok (.aload_n 0, 1) := by decide +kernel
theorem dKN_init_60 : decode cKN_init 60 = .ok (.sipush 192, 3) := by decide +kernel
theorem dKN_init_63 : decode cKN_init 63 = .ok (.newarray .int, 2) := by decide +kernel
theorem dKN_init_65 : decode cKN_init 65 = .ok (.putfield 34, 3) := by decide +kernel
theorem dKN_init_68 : decode cKN_init 68 = .ok (.aload_n 0, 1) := by decide +kernel
theorem dKN_init_69 : decode cKN_init 69 = .ok (.sipush 192, 3) := by decide +kernel
theorem dKN_init_72 : decode cKN_init 72 = .ok (.newarray .boolean, 2) := by decide +kernel
theorem dKN_init_74 : decode cKN_init 74 = .ok (.putfield 37, 3) := by decide +kernel
theorem dKN_init_77 : decode cKN_init 77 = .ok (.aload_n 0, 1) := by decide +kernel
theorem dKN_init_78 : decode cKN_init 78 = .ok (.bipush 6, 2) := by decide +kernel
theorem dKN_init_80 : decode cKN_init 80 = .ok (.newarray .int, 2) := by decide +kernel
theorem dKN_init_82 : decode cKN_init 82 = .ok (.putfield 41, 3) := by decide +kernel
theorem dKN_init_85 : decode cKN_init 85 = .ok (.return_, 1) := by decide +kernel
theorem dKN_find_0 : decode cKN_find 0 = .ok (.aload_n 0, 1) := by decide +kernel
theorem dKN_find_1 : decode cKN_find 1 = .ok (.invokevirtual 44, 3) := by decide +kernel
theorem dKN_find_4 : decode cKN_find 4 = .ok (.iconst 0, 1) := by decide +kernel
theorem dKN_find_5 : decode cKN_find 5 = .ok (.istore_n 1, 1) := by decide +kernel
theorem dKN_find_6 : decode cKN_find 6 = .ok (.iload_n 1, 1) := by decide +kernel
theorem dKN_find_7 : decode cKN_find 7 = .ok (.bipush 6, 2) := by decide +kernel
theorem dKN_find_9 : decode cKN_find 9 = .ok (.if_icmp .ge 49, 3) := by decide +kernel
theorem dKN_find_12 : decode cKN_find 12 = .ok (.iconst 0, 1) := by decide +kernel
theorem dKN_find_13 : decode cKN_find 13 = .ok (.istore_n 2, 1) := by decide +kernel
theorem dKN_find_14 : decode cKN_find 14 = .ok (.iload_n 2, 1) := by decide +kernel
theorem dKN_find_15 : decode cKN_find 15 = .ok (.aload_n 0, 1) := by decide +kernel
theorem dKN_find_16 : decode cKN_find 16 = .ok (.getfield 12, 3) := by decide +kernel
theorem dKN_find_19 : decode cKN_find 19 = .ok (.getfield 47, 3) := by decide +kernel
theorem dKN_find_22 : decode cKN_find 22 = .ok (.if_icmp .ge 30, 3) := by decide +kernel
theorem dKN_find_25 : decode cKN_find 25 = .ok (.iload_n 1, 1) := by decide +kernel
theorem dKN_find_26 : decode cKN_find 26 = .ok (.bipush 32, 2) := by decide +kernel
theorem dKN_find_28 : decode cKN_find 28 = .ok (.imul, 1) := by decide +kernel
theorem dKN_find_29 : decode cKN_find 29 = .ok (.iload_n 2, 1) := by decide +kernel
theorem dKN_find_30 : decode cKN_find 30 = .ok (.iadd, 1) := by decide +kernel
theorem dKN_find_31 : decode cKN_find 31 = .ok (.istore_n 3, 1) := by decide +kernel
theorem dKN_find_32 : decode cKN_find 32 = .ok (.aload_n 0, 1) := by decide +kernel
theorem dKN_find_33 : decode cKN_find 33 = .ok (.getfield 22, 3) := by decide +kernel
theorem dKN_find_36 : decode cKN_find 36 = .ok (.iload_n 3, 1) := by decide +kernel
theorem dKN_find_37 : decode cKN_find 37 = .ok (.iaload, 1) := by decide +kernel
theorem dKN_find_38 : decode cKN_find 38 = .ok (.ifCond .ne 8, 3) := by decide +kernel
theorem dKN_find_41 : decode cKN_find 41 = .ok (.aload_n 0, 1) := by decide +kernel
theorem dKN_find_42 : decode cKN_find 42 = .ok (.iload_n 3, 1) := by decide +kernel
theorem dKN_find_43 : decode cKN_find 43 = .ok (.invokevirtual 50, 3) := by decide +kernel
theorem dKN_find_46 : decode cKN_find 46 = .ok (.iinc 2 1, 3) := by decide +kernel
theorem dKN_find_49 : decode cKN_find 49 = .ok (.goto (-35), 3) := by decide +kernel
theorem dKN_find_52 : decode cKN_find 52 = .ok (.iinc 1 1, 3) := by decide +kernel
theorem dKN_find_55 : decode cKN_find 55 = .ok (.goto (-49), 3) := by decide +kernel
theorem dKN_find_58 : decode cKN_find 58 = .ok (.return_, 1) := by decide +kernel
theorem dKN_startAnew_0 : decode cKN_startAnew 0 = .ok (.aload_n 0, 1) := by decide +kernel
theorem dKN_startAnew_1 : decode cKN_startAnew 1 = .ok (.iconst 0, 1) := by decide +kernel
theorem dKN_startAnew_2 : decode cKN_startAnew 2 = .ok (.putfield 54, 3) := by decide +kernel
theorem dKN_startAnew_5 : decode cKN_startAnew 5 = .ok (.aload_n 0, 1) := by decide +kernel
theorem dKN_startAnew_6 : decode cKN_startAnew 6 = .ok (.iconst 0, 1) := by decide +kernel
theorem dKN_startAnew_7 : decode cKN_startAnew 7 = .ok (.putfield 57, 3) := by decide +kernel
theorem dKN_startAnew_10 : decode cKN_startAnew 10 = .ok (.aload_n 0, 1) := by decide +kernel
theorem dKN_startAnew_11 : decode cKN_startAnew 11 = .ok (.iconst 0, 1) := by decide +kernel
theorem dKN_startAnew_12 : decode cKN_startAnew 12 = .ok (.putfield 60, 3) := by decide +kernel
theorem dKN_startAnew_15 : decode cKN_startAnew 15 = .ok (.iconst 0, 1) := by decide +kernel
theorem dKN_startAnew_16 : decode cKN_startAnew 16 = .ok (.istore_n 1, 1) := by decide +kernel
theorem dKN_startAnew_17 : decode cKN_startAnew 17 = .ok (.iload_n 1, 1) := by decide +kernel
theorem dKN_startAnew_18 : decode cKN_startAnew 18 = .ok (.bipush 6, 2) := by decide +kernel
theorem dKN_startAnew_20 : decode cKN_startAnew 20 = .ok (.if_icmp .ge 16, 3) := by decide +kernel
theorem dKN_startAnew_23 : decode cKN_startAnew 23 = .ok (.aload_n 0, 1) := by decide +kernel
theorem dKN_startAnew_24 : decode cKN_startAnew 24 = .ok (.getfield 18, 3) := by decide +kernel
theorem dKN_startAnew_27 : decode cKN_startAnew 27 = .ok (.iload_n 1, 1) := by decide +kernel
theorem dKN_startAnew_28 : decode cKN_startAnew 28 = .ok (.iconst 0, 1) := by decide +kernel
theorem dKN_startAnew_29 : decode cKN_startAnew 29 = .ok (.iastore, 1) := by decide +kernel
theorem dKN_startAnew_30 : decode cKN_startAnew 30 = .ok (.iinc 1 1, 3) := by decide +kernel
theorem dKN_startAnew_33 : decode cKN_startAnew 33 = .ok (.goto (-16), 3) := by decide +kernel
theorem dKN_startAnew_36 : decode cKN_startAnew 36 = .ok (.iconst 0, 1) := by decide +kernel
theorem dKN_startAnew_37 : decode cKN_startAnew 37 = .ok (.istore_n 1, 1) := by decide +kernel
theorem dKN_startAnew_38 : decode cKN_startAnew 38 = .ok (.iload_n 1, 1) := by decide +kernel
theorem dKN_startAnew_39 : decode cKN_startAnew 39 = .ok (.sipush 192, 3) := by decide +kernel
theorem dKN_startAnew_42 : decode cKN_startAnew 42 = .ok (.if_icmp .ge 23, 3) := by decide +kernel
theorem dKN_startAnew_45 : decode cKN_startAnew 45 = .ok (.aload_n 0, 1) := by decide +kernel
theorem dKN_startAnew_46 : decode cKN_startAnew 46 = .ok (.getfield 22, 3) := by decide +kernel
theorem dKN_startAnew_49 : decode cKN_startAnew 49 = .ok (.iload_n 1, 1) := by decide +kernel
theorem dKN_startAnew_50 : decode cKN_startAnew 50 = .ok (.iconst 0, 1) := by decide +kernel
theorem dKN_startAnew_51 : decode cKN_startAnew 51 = .ok (.iastore, 1) := by decide +kernel
theorem dKN_startAnew_52 : decode cKN_startAnew 52 = .ok (.aload_n 0, 1) := by decide +kernel
theorem dKN_startAnew_53 : decode cKN_startAnew 53 = .ok (.getfield 37, 3) := by decide +kernel
theorem dKN_startAnew_56 : decode cKN_startAnew 56 = .ok (.iload_n 1, 1) := by decide +kernel
theorem dKN_startAnew_57 : decode cKN_startAnew 57 = .ok (.iconst 0, 1) := by decide +kernel
theorem dKN_startAnew_58 : decode cKN_startAnew 58 = .ok (.bastore, 1) := by decide +kernel
theorem dKN_startAnew_59 : decode cKN_startAnew 59 = .ok (.iinc 1 1, 3) := by decide +kernel
theorem dKN_startAnew_62 : decode cKN_startAnew 62 = .ok (.goto (-24), 3) := by decide +kernel
theorem dKN_startAnew_65 : decode cKN_startAnew 65 = .ok (.return_, 1) := by decide +kernel
theorem dKN_walkFrom_0 : decode cKN_walkFrom 0 = .ok (.aload_n 0, 1) := by decide +kernel
theorem dKN_walkFrom_1 : decode cKN_walkFrom 1 = .ok (.iload_n 1, 1) := by decide +kernel
theorem dKN_walkFrom_2 : decode cKN_walkFrom 2 = .ok (.invokevirtual 63, 3) := by decide +kernel
theorem dKN_walkFrom_5 : decode cKN_walkFrom 5 = .ok (.iconst 0, 1) := by decide +kernel
theorem dKN_walkFrom_6 : decode cKN_walkFrom 6 = .ok (.istore_n 2, 1) := by decide +kernel
theorem dKN_walkFrom_7 : decode cKN_walkFrom 7 = .ok (.iload_n 2, 1) := by decide +kernel
theorem dKN_walkFrom_8 : decode cKN_walkFrom 8 = .ok (.sipush 1344, 3) := by decide +kernel
theorem dKN_walkFrom_11 : decode cKN_walkFrom 11 = .ok (.if_icmp .ge 136, 3) := by decide +kernel
theorem dKN_walkFrom_14 : decode cKN_walkFrom 14 = .ok (.aload_n 0, 1) := by decide +kernel
theorem dKN_walkFrom_15 : decode cKN_walkFrom 15 = .ok (.getfield 57, 3) := by decide +kernel
theorem dKN_walkFrom_18 : decode cKN_walkFrom 18 = .ok (.ifCond .le 129, 3) := by decide +kernel
theorem dKN_walkFrom_21 : decode cKN_walkFrom 21 = .ok (.aload_n 0, 1) := by decide +kernel
theorem dKN_walkFrom_22 : decode cKN_walkFrom 22 = .ok (.getfield 31, 3) := by decide +kernel
theorem dKN_walkFrom_25 : decode cKN_walkFrom 25 = .ok (.aload_n 0, 1) := by decide +kernel
theorem dKN_walkFrom_26 : decode cKN_walkFrom 26 = .ok (.getfield 57, 3) := by decide +kernel
theorem dKN_walkFrom_29 : decode cKN_walkFrom 29 = .ok (.iconst 1, 1) := by decide +kernel
theorem dKN_walkFrom_30 : decode cKN_walkFrom 30 = .ok (.isub, 1) := by decide +kernel
theorem dKN_walkFrom_31 : decode cKN_walkFrom 31 = .ok (.iaload, 1) := by decide +kernel
theorem dKN_walkFrom_32 : decode cKN_walkFrom 32 = .ok (.istore_n 3, 1) := by decide +kernel
theorem dKN_walkFrom_33 : decode cKN_walkFrom 33 = .ok (.aload_n 0, 1) := by decide +kernel
theorem dKN_walkFrom_34 : decode cKN_walkFrom 34 = .ok (.getfield 28, 3) := by decide +kernel
theorem dKN_walkFrom_37 : decode cKN_walkFrom 37 = .ok (.iload_n 3, 1) := by decide +kernel
theorem dKN_walkFrom_38 : decode cKN_walkFrom 38 = .ok (.iaload, 1) := by decide +kernel
theorem dKN_walkFrom_39 : decode cKN_walkFrom 39 = .ok (.istore 4, 2) := by decide +kernel
theorem dKN_walkFrom_41 : decode cKN_walkFrom 41 = .ok (.iload 4, 2) := by decide +kernel
theorem dKN_walkFrom_43 : decode cKN_walkFrom 43 = .ok (.bipush 6, 2) := by decide +kernel
theorem dKN_walkFrom_45 : decode cKN_walkFrom 45 = .ok (.if_icmp .ge 23, 3) := by decide +kernel
theorem dKN_walkFrom_48 : decode cKN_walkFrom 48 = .ok (.aload_n 0, 1) := by decide +kernel
theorem dKN_walkFrom_49 : decode cKN_walkFrom 49 = .ok (.getfield 28, 3) := by decide +kernel
theorem dKN_walkFrom_52 : decode cKN_walkFrom 52 = .ok (.iload_n 3, 1) := by decide +kernel
theorem dKN_walkFrom_53 : decode cKN_walkFrom 53 = .ok (.dup2, 1) := by decide +kernel
theorem dKN_walkFrom_54 : decode cKN_walkFrom 54 = .ok (.iaload, 1) := by decide +kernel
theorem dKN_walkFrom_55 : decode cKN_walkFrom 55 = .ok (.iconst 1, 1) := by decide +kernel
theorem dKN_walkFrom_56 : decode cKN_walkFrom 56 = .ok (.iadd, 1) := by decide +kernel
theorem dKN_walkFrom_57 : decode cKN_walkFrom 57 = .ok (.iastore, 1) := by decide +kernel
theorem dKN_walkFrom_58 : decode cKN_walkFrom 58 = .ok (.aload_n 0, 1) := by decide +kernel
theorem dKN_walkFrom_59 : decode cKN_walkFrom 59 = .ok (.iload 4, 2) := by decide +kernel
theorem dKN_walkFrom_61 : decode cKN_walkFrom 61 = .ok (.iload_n 3, 1) := by decide +kernel
theorem dKN_walkFrom_62 : decode cKN_walkFrom 62 = .ok (.invokevirtual 66, 3) := by decide +kernel
theorem dKN_walkFrom_65 : decode cKN_walkFrom 65 = .ok (.goto 76, 3) := by decide +kernel
theorem dKN_walkFrom_68 : decode cKN_walkFrom 68 = .ok (.aload_n 0, 1) := by decide +kernel
theorem dKN_walkFrom_69 : decode cKN_walkFrom 69 = .ok (.dup, 1) := by decide +kernel
theorem dKN_walkFrom_70 : decode cKN_walkFrom 70 = .ok (.getfield 57, 3) := by decide +kernel
theorem dKN_walkFrom_73 : decode cKN_walkFrom 73 = .ok (.iconst 1, 1) := by decide +kernel
theorem dKN_walkFrom_74 : decode cKN_walkFrom 74 = .ok (.isub, 1) := by decide +kernel
theorem dKN_walkFrom_75 : decode cKN_walkFrom 75 = .ok (.putfield 57, 3) := by decide +kernel
theorem dKN_walkFrom_78 : decode cKN_walkFrom 78 = .ok (.aload_n 0, 1) := by decide +kernel
theorem dKN_walkFrom_79 : decode cKN_walkFrom 79 = .ok (.getfield 57, 3) := by decide +kernel
theorem dKN_walkFrom_82 : decode cKN_walkFrom 82 = .ok (.ifCond .le 39, 3) := by decide +kernel
theorem dKN_walkFrom_85 : decode cKN_walkFrom 85 = .ok (.aload_n 0, 1) := by decide +kernel
theorem dKN_walkFrom_86 : decode cKN_walkFrom 86 = .ok (.getfield 31, 3) := by decide +kernel
theorem dKN_walkFrom_89 : decode cKN_walkFrom 89 = .ok (.aload_n 0, 1) := by decide +kernel
theorem dKN_walkFrom_90 : decode cKN_walkFrom 90 = .ok (.getfield 57, 3) := by decide +kernel
theorem dKN_walkFrom_93 : decode cKN_walkFrom 93 = .ok (.iconst 1, 1) := by decide +kernel
theorem dKN_walkFrom_94 : decode cKN_walkFrom 94 = .ok (.isub, 1) := by decide +kernel
theorem dKN_walkFrom_95 : decode cKN_walkFrom 95 = .ok (.iaload, 1) := by decide +kernel
theorem dKN_walkFrom_96 : decode cKN_walkFrom 96 = .ok (.istore 5, 2) := by decide +kernel
theorem dKN_walkFrom_98 : decode cKN_walkFrom 98 = .ok (.aload_n 0, 1) := by decide +kernel
theorem dKN_walkFrom_99 : decode cKN_walkFrom 99 = .ok (.getfield 25, 3) := by decide +kernel
theorem dKN_walkFrom_102 : decode cKN_walkFrom 102 = .ok (.iload 5, 2) := by decide +kernel
theorem dKN_walkFrom_104 : decode cKN_walkFrom 104 = .ok (.aload_n 0, 1) := by decide +kernel
theorem dKN_walkFrom_105 : decode cKN_walkFrom 105 = .ok (.getfield 25, 3) := by decide +kernel
theorem dKN_walkFrom_108 : decode cKN_walkFrom 108 = .ok (.iload 5, 2) := by decide +kernel
theorem dKN_walkFrom_110 : decode cKN_walkFrom 110 = .ok (.iaload, 1) := by decide +kernel
theorem dKN_walkFrom_111 : decode cKN_walkFrom 111 = .ok (.aload_n 0, 1) := by decide +kernel
theorem dKN_walkFrom_112 : decode cKN_walkFrom 112 = .ok (.getfield 25, 3) := by decide +kernel
theorem dKN_walkFrom_115 : decode cKN_walkFrom 115 = .ok (.iload_n 3, 1) := by decide +kernel
theorem dKN_walkFrom_116 : decode cKN_walkFrom 116 = .ok (.iaload, 1) := by decide +kernel
theorem dKN_walkFrom_117 : decode cKN_walkFrom 117 = .ok (.invokestatic 70, 3) := by decide +kernel
theorem dKN_walkFrom_120 : decode cKN_walkFrom 120 = .ok (.iastore, 1) := by decide +kernel
theorem dKN_walkFrom_121 : decode cKN_walkFrom 121 = .ok (.aload_n 0, 1) := by decide +kernel
theorem dKN_walkFrom_122 : decode cKN_walkFrom 122 = .ok (.getfield 25, 3) := by decide +kernel
theorem dKN_walkFrom_125 : decode cKN_walkFrom 125 = .ok (.iload_n 3, 1) := by decide +kernel
theorem dKN_walkFrom_126 : decode cKN_walkFrom 126 = .ok (.iaload, 1) := by decide +kernel
theorem dKN_walkFrom_127 : decode cKN_walkFrom 127 = .ok (.aload_n 0, 1) := by decide +kernel
theorem dKN_walkFrom_128 : decode cKN_walkFrom 128 = .ok (.getfield 22, 3) := by decide +kernel
theorem dKN_walkFrom_131 : decode cKN_walkFrom 131 = .ok (.iload_n 3, 1) := by decide +kernel
theorem dKN_walkFrom_132 : decode cKN_walkFrom 132 = .ok (.iaload, 1) := by decide +kernel
theorem dKN_walkFrom_133 : decode cKN_walkFrom 133 = .ok (.if_icmp .ne 8, 3) := by decide +kernel
theorem dKN_walkFrom_136 : decode cKN_walkFrom 136 = .ok (.aload_n 0, 1) := by decide +kernel
theorem dKN_walkFrom_137 : decode cKN_walkFrom 137 = .ok (.iload_n 3, 1) := by decide +kernel
theorem dKN_walkFrom_138 : decode cKN_walkFrom 138 = .ok (.invokevirtual 76, 3) := by decide +kernel
theorem dKN_walkFrom_141 : decode cKN_walkFrom 141 = .ok (.iinc 2 1, 3) := by decide +kernel
theorem dKN_walkFrom_144 : decode cKN_walkFrom 144 = .ok (.goto (-137), 3) := by decide +kernel
theorem dKN_walkFrom_147 : decode cKN_walkFrom 147 = .ok (.return_, 1) := by decide +kernel
theorem dKN_enter_0 : decode cKN_enter 0 = .ok (.aload_n 0, 1) := by decide +kernel
theorem dKN_enter_1 : decode cKN_enter 1 = .ok (.dup, 1) := by decide +kernel
theorem dKN_enter_2 : decode cKN_enter 2 = .ok (.getfield 54, 3) := by decide +kernel
theorem dKN_enter_5 : decode cKN_enter 5 = .ok (.iconst 1, 1) := by decide +kernel
theorem dKN_enter_6 : decode cKN_enter 6 = .ok (.iadd, 1) := by decide +kernel
theorem dKN_enter_7 : decode cKN_enter 7 = .ok (.putfield 54, 3) := by decide +kernel
theorem dKN_enter_10 : decode cKN_enter 10 = .ok (.aload_n 0, 1) := by decide +kernel
theorem dKN_enter_11 : decode cKN_enter 11 = .ok (.getfield 22, 3) := by decide +kernel
theorem dKN_enter_14 : decode cKN_enter 14 = .ok (.iload_n 1, 1) := by decide +kernel
theorem dKN_enter_15 : decode cKN_enter 15 = .ok (.aload_n 0, 1) := by decide +kernel
theorem dKN_enter_16 : decode cKN_enter 16 = .ok (.getfield 54, 3) := by decide +kernel
theorem dKN_enter_19 : decode cKN_enter 19 = .ok (.iastore, 1) := by decide +kernel
theorem dKN_enter_20 : decode cKN_enter 20 = .ok (.aload_n 0, 1) := by decide +kernel
theorem dKN_enter_21 : decode cKN_enter 21 = .ok (.getfield 25, 3) := by decide +kernel
theorem dKN_enter_24 : decode cKN_enter 24 = .ok (.iload_n 1, 1) := by decide +kernel
theorem dKN_enter_25 : decode cKN_enter 25 = .ok (.aload_n 0, 1) := by decide +kernel
theorem dKN_enter_26 : decode cKN_enter 26 = .ok (.getfield 54, 3) := by decide +kernel
theorem dKN_enter_29 : decode cKN_enter 29 = .ok (.iastore, 1) := by decide +kernel
theorem dKN_enter_30 : decode cKN_enter 30 = .ok (.aload_n 0, 1) := by decide +kernel
theorem dKN_enter_31 : decode cKN_enter 31 = .ok (.getfield 28, 3) := by decide +kernel
theorem dKN_enter_34 : decode cKN_enter 34 = .ok (.iload_n 1, 1) := by decide +kernel
theorem dKN_enter_35 : decode cKN_enter 35 = .ok (.iconst 0, 1) := by decide +kernel
theorem dKN_enter_36 : decode cKN_enter 36 = .ok (.iastore, 1) := by decide +kernel
theorem dKN_enter_37 : decode cKN_enter 37 = .ok (.aload_n 0, 1) := by decide +kernel
theorem dKN_enter_38 : decode cKN_enter 38 = .ok (.getfield 31, 3) := by decide +kernel
theorem dKN_enter_41 : decode cKN_enter 41 = .ok (.aload_n 0, 1) := by decide +kernel
theorem dKN_enter_42 : decode cKN_enter 42 = .ok (.getfield 57, 3) := by decide +kernel
theorem dKN_enter_45 : decode cKN_enter 45 = .ok (.iload_n 1, 1) := by decide +kernel
theorem dKN_enter_46 : decode cKN_enter 46 = .ok (.iastore, 1) := by decide +kernel
theorem dKN_enter_47 : decode cKN_enter 47 = .ok (.aload_n 0, 1) := by decide +kernel
theorem dKN_enter_48 : decode cKN_enter 48 = .ok (.dup, 1) := by decide +kernel
theorem dKN_enter_49 : decode cKN_enter 49 = .ok (.getfield 57, 3) := by decide +kernel
theorem dKN_enter_52 : decode cKN_enter 52 = .ok (.iconst 1, 1) := by decide +kernel
theorem dKN_enter_53 : decode cKN_enter 53 = .ok (.iadd, 1) := by decide +kernel
theorem dKN_enter_54 : decode cKN_enter 54 = .ok (.putfield 57, 3) := by decide +kernel
theorem dKN_enter_57 : decode cKN_enter 57 = .ok (.aload_n 0, 1) := by decide +kernel
theorem dKN_enter_58 : decode cKN_enter 58 = .ok (.getfield 34, 3) := by decide +kernel
theorem dKN_enter_61 : decode cKN_enter 61 = .ok (.aload_n 0, 1) := by decide +kernel
theorem dKN_enter_62 : decode cKN_enter 62 = .ok (.getfield 60, 3) := by decide +kernel
theorem dKN_enter_65 : decode cKN_enter 65 = .ok (.iload_n 1, 1) := by decide +kernel
theorem dKN_enter_66 : decode cKN_enter 66 = .ok (.iastore, 1) := by decide +kernel
theorem dKN_enter_67 : decode cKN_enter 67 = .ok (.aload_n 0, 1) := by decide +kernel
theorem dKN_enter_68 : decode cKN_enter 68 = .ok (.dup, 1) := by decide +kernel
theorem dKN_enter_69 : decode cKN_enter 69 = .ok (.getfield 60, 3) := by decide +kernel
theorem dKN_enter_72 : decode cKN_enter 72 = .ok (.iconst 1, 1) := by decide +kernel
theorem dKN_enter_73 : decode cKN_enter 73 = .ok (.iadd, 1) := by decide +kernel
theorem dKN_enter_74 : decode cKN_enter 74 = .ok (.putfield 60, 3) := by decide +kernel
theorem dKN_enter_77 : decode cKN_enter 77 = .ok (.aload_n 0, 1) := by decide +kernel
theorem dKN_enter_78 : decode cKN_enter 78 = .ok (.getfield 37, 3) := by decide +kernel
theorem dKN_enter_81 : decode cKN_enter 81 = .ok (.iload_n 1, 1) := by decide +kernel
theorem dKN_enter_82 : decode cKN_enter 82 = .ok (.iconst 1, 1) := by decide +kernel
theorem dKN_enter_83 : decode cKN_enter 83 = .ok (.bastore, 1) := by decide +kernel
theorem dKN_enter_84 : decode cKN_enter 84 = .ok (.return_, 1) := by decide +kernel
theorem dKN_tryStep_0 : decode cKN_tryStep 0 = .ok (.iload_n 2, 1) := by decide +kernel
theorem dKN_tryStep_1 : decode cKN_tryStep 1 = .ok (.bipush 32, 2) := by decide +kernel
theorem dKN_tryStep_3 : decode cKN_tryStep 3 = .ok (.idiv, 1) := by decide +kernel
theorem dKN_tryStep_4 : decode cKN_tryStep 4 = .ok (.istore_n 3, 1) := by decide +kernel
theorem dKN_tryStep_5 : decode cKN_tryStep 5 = .ok (.aload_n 0, 1) := by decide +kernel
theorem dKN_tryStep_6 : decode cKN_tryStep 6 = .ok (.getfield 12, 3) := by decide +kernel
theorem dKN_tryStep_9 : decode cKN_tryStep 9 = .ok (.getfield 79, 3) := by decide +kernel
theorem dKN_tryStep_12 : decode cKN_tryStep 12 = .ok (.iload_n 1, 1) := by decide +kernel
theorem dKN_tryStep_13 : decode cKN_tryStep 13 = .ok (.iload_n 3, 1) := by decide +kernel
theorem dKN_tryStep_14 : decode cKN_tryStep 14 = .ok (.invokevirtual 83, 3) := by decide +kernel
theorem dKN_tryStep_17 : decode cKN_tryStep 17 = .ok (.ifCond .ne 4, 3) := by decide +kernel
theorem dKN_tryStep_20 : decode cKN_tryStep 20 = .ok (.return_, 1) := by decide +kernel
theorem dKN_tryStep_21 : decode cKN_tryStep 21 = .ok (.iload_n 1, 1) := by decide +kernel
theorem dKN_tryStep_22 : decode cKN_tryStep 22 = .ok (.bipush 32, 2) := by decide +kernel
theorem dKN_tryStep_24 : decode cKN_tryStep 24 = .ok (.imul, 1) := by decide +kernel
theorem dKN_tryStep_25 : decode cKN_tryStep 25 = .ok (.aload_n 0, 1) := by decide +kernel
theorem dKN_tryStep_26 : decode cKN_tryStep 26 = .ok (.getfield 12, 3) := by decide +kernel
theorem dKN_tryStep_29 : decode cKN_tryStep 29 = .ok (.iload_n 1, 1) := by decide +kernel
theorem dKN_tryStep_30 : decode cKN_tryStep 30 = .ok (.iload_n 3, 1) := by decide +kernel
theorem dKN_tryStep_31 : decode cKN_tryStep 31 = .ok (.iload_n 2, 1) := by decide +kernel
theorem dKN_tryStep_32 : decode cKN_tryStep 32 = .ok (.bipush 32, 2) := by decide +kernel
theorem dKN_tryStep_34 : decode cKN_tryStep 34 = .ok (.irem, 1) := by decide +kernel
theorem dKN_tryStep_35 : decode cKN_tryStep 35 = .ok (.invokevirtual 89, 3) := by decide +kernel
theorem dKN_tryStep_38 : decode cKN_tryStep 38 = .ok (.iadd, 1) := by decide +kernel
theorem dKN_tryStep_39 : decode cKN_tryStep 39 = .ok (.istore 4, 2) := by decide +kernel
theorem dKN_tryStep_41 : decode cKN_tryStep 41 = .ok (.aload_n 0, 1) := by decide +kernel
theorem dKN_tryStep_42 : decode cKN_tryStep 42 = .ok (.getfield 22, 3) := by decide +kernel
theorem dKN_tryStep_45 : decode cKN_tryStep 45 = .ok (.iload 4, 2) := by decide +kernel
theorem dKN_tryStep_47 : decode cKN_tryStep 47 = .ok (.iaload, 1) := by decide +kernel
theorem dKN_tryStep_48 : decode cKN_tryStep 48 = .ok (.ifCond .ne 12, 3) := by decide +kernel
theorem dKN_tryStep_51 : decode cKN_tryStep 51 = .ok (.aload_n 0, 1) := by decide +kernel
theorem dKN_tryStep_52 : decode cKN_tryStep 52 = .ok (.iload 4, 2) := by decide +kernel
theorem dKN_tryStep_54 : decode cKN_tryStep 54 = .ok (.invokevirtual 63, 3) := by decide +kernel
theorem dKN_tryStep_57 : decode cKN_tryStep 57 = .ok (.goto 35, 3) := by decide +kernel
theorem dKN_tryStep_60 : decode cKN_tryStep 60 = .ok (.aload_n 0, 1) := by decide +kernel
theorem dKN_tryStep_61 : decode cKN_tryStep 61 = .ok (.getfield 37, 3) := by decide +kernel
theorem dKN_tryStep_64 : decode cKN_tryStep 64 = .ok (.iload 4, 2) := by decide +kernel
theorem dKN_tryStep_66 : decode cKN_tryStep 66 = .ok (.baload, 1) := by decide +kernel
theorem dKN_tryStep_67 : decode cKN_tryStep 67 = .ok (.ifCond .eq 25, 3) := by decide +kernel
theorem dKN_tryStep_70 : decode cKN_tryStep 70 = .ok (.aload_n 0, 1) := by decide +kernel
theorem dKN_tryStep_71 : decode cKN_tryStep 71 = .ok (.getfield 25, 3) := by decide +kernel
theorem dKN_tryStep_74 : decode cKN_tryStep 74 = .ok (.iload_n 2, 1) := by decide +kernel
theorem dKN_tryStep_75 : decode cKN_tryStep 75 = .ok (.aload_n 0, 1) := by decide +kernel
theorem dKN_tryStep_76 : decode cKN_tryStep 76 = .ok (.getfield 25, 3) := by decide +kernel
theorem dKN_tryStep_79 : decode cKN_tryStep 79 = .ok (.iload_n 2, 1) := by decide +kernel
theorem dKN_tryStep_80 : decode cKN_tryStep 80 = .ok (.iaload, 1) := by decide +kernel
theorem dKN_tryStep_81 : decode cKN_tryStep 81 = .ok (.aload_n 0, 1) := by decide +kernel
theorem dKN_tryStep_82 : decode cKN_tryStep 82 = .ok (.getfield 22, 3) := by decide +kernel
theorem dKN_tryStep_85 : decode cKN_tryStep 85 = .ok (.iload 4, 2) := by decide +kernel
theorem dKN_tryStep_87 : decode cKN_tryStep 87 = .ok (.iaload, 1) := by decide +kernel
theorem dKN_tryStep_88 : decode cKN_tryStep 88 = .ok (.invokestatic 70, 3) := by decide +kernel
theorem dKN_tryStep_91 : decode cKN_tryStep 91 = .ok (.iastore, 1) := by decide +kernel
theorem dKN_tryStep_92 : decode cKN_tryStep 92 = .ok (.return_, 1) := by decide +kernel
theorem dKN_release_0 : decode cKN_release 0 = .ok (.iconst 0, 1) := by decide +kernel
theorem dKN_release_1 : decode cKN_release 1 = .ok (.istore_n 2, 1) := by decide +kernel
theorem dKN_release_2 : decode cKN_release 2 = .ok (.iload_n 2, 1) := by decide +kernel
theorem dKN_release_3 : decode cKN_release 3 = .ok (.bipush 6, 2) := by decide +kernel
theorem dKN_release_5 : decode cKN_release 5 = .ok (.if_icmp .ge 16, 3) := by decide +kernel
theorem dKN_release_8 : decode cKN_release 8 = .ok (.aload_n 0, 1) := by decide +kernel
theorem dKN_release_9 : decode cKN_release 9 = .ok (.getfield 41, 3) := by decide +kernel
theorem dKN_release_12 : decode cKN_release 12 = .ok (.iload_n 2, 1) := by decide +kernel
theorem dKN_release_13 : decode cKN_release 13 = .ok (.iconst 0, 1) := by decide +kernel
theorem dKN_release_14 : decode cKN_release 14 = .ok (.iastore, 1) := by decide +kernel
theorem dKN_release_15 : decode cKN_release 15 = .ok (.iinc 2 1, 3) := by decide +kernel
theorem dKN_release_18 : decode cKN_release 18 = .ok (.goto (-16), 3) := by decide +kernel
theorem dKN_release_21 : decode cKN_release 21 = .ok (.aload_n 0, 1) := by decide +kernel
theorem dKN_release_22 : decode cKN_release 22 = .ok (.getfield 34, 3) := by decide +kernel
theorem dKN_release_25 : decode cKN_release 25 = .ok (.aload_n 0, 1) := by decide +kernel
theorem dKN_release_26 : decode cKN_release 26 = .ok (.getfield 60, 3) := by decide +kernel
theorem dKN_release_29 : decode cKN_release 29 = .ok (.iconst 1, 1) := by decide +kernel
theorem dKN_release_30 : decode cKN_release 30 = .ok (.isub, 1) := by decide +kernel
theorem dKN_release_31 : decode cKN_release 31 = .ok (.iaload, 1) := by decide +kernel
theorem dKN_release_32 : decode cKN_release 32 = .ok (.iload_n 1, 1) := by decide +kernel
theorem dKN_release_33 : decode cKN_release 33 = .ok (.if_icmp .ne 11, 3) := by decide +kernel
theorem dKN_release_36 : decode cKN_release 36 = .ok (.aload_n 0, 1) := by decide +kernel
theorem dKN_release_37 : decode cKN_release 37 = .ok (.iload_n 1, 1) := by decide +kernel
theorem dKN_release_38 : decode cKN_release 38 = .ok (.invokevirtual 93, 3) := by decide +kernel
theorem dKN_release_41 : decode cKN_release 41 = .ok (.ifCond .eq 7, 3) := by decide +kernel
theorem dKN_release_44 : decode cKN_release 44 = .ok (.iconst 1, 1) := by decide +kernel
theorem dKN_release_45 : decode cKN_release 45 = .ok (.goto 4, 3) := by decide +kernel
theorem dKN_release_48 : decode cKN_release 48 = .ok (.iconst 0, 1) := by decide +kernel
theorem dKN_release_49 : decode cKN_release 49 = .ok (.istore_n 2, 1) := by decide +kernel
theorem dKN_release_50 : decode cKN_release 50 = .ok (.iconst 0, 1) := by decide +kernel
theorem dKN_release_51 : decode cKN_release 51 = .ok (.istore_n 3, 1) := by decide +kernel
theorem dKN_release_52 : decode cKN_release 52 = .ok (.aload_n 0, 1) := by decide +kernel
theorem dKN_release_53 : decode cKN_release 53 = .ok (.getfield 60, 3) := by decide +kernel
theorem dKN_release_56 : decode cKN_release 56 = .ok (.ifCond .le 71, 3) := by decide +kernel
theorem dKN_release_59 : decode cKN_release 59 = .ok (.iload_n 3, 1) := by decide +kernel
theorem dKN_release_60 : decode cKN_release 60 = .ok (.ifCond .ne 67, 3) := by decide +kernel
theorem dKN_release_63 : decode cKN_release 63 = .ok (.aload_n 0, 1) := by decide +kernel
theorem dKN_release_64 : decode cKN_release 64 = .ok (.dup, 1) := by decide +kernel
theorem dKN_release_65 : decode cKN_release 65 = .ok (.getfield 60, 3) := by decide +kernel
theorem dKN_release_68 : decode cKN_release 68 = .ok (.iconst 1, 1) := by decide +kernel
theorem dKN_release_69 : decode cKN_release 69 = .ok (.isub, 1) := by decide +kernel
theorem dKN_release_70 : decode cKN_release 70 = .ok (.putfield 60, 3) := by decide +kernel
theorem dKN_release_73 : decode cKN_release 73 = .ok (.aload_n 0, 1) := by decide +kernel
theorem dKN_release_74 : decode cKN_release 74 = .ok (.getfield 34, 3) := by decide +kernel
theorem dKN_release_77 : decode cKN_release 77 = .ok (.aload_n 0, 1) := by decide +kernel
theorem dKN_release_78 : decode cKN_release 78 = .ok (.getfield 60, 3) := by decide +kernel
theorem dKN_release_81 : decode cKN_release 81 = .ok (.iaload, 1) := by decide +kernel
theorem dKN_release_82 : decode cKN_release 82 = .ok (.istore 4, 2) := by decide +kernel
theorem dKN_release_84 : decode cKN_release 84 = .ok (.aload_n 0, 1) := by decide +kernel
theorem dKN_release_85 : decode cKN_release 85 = .ok (.getfield 37, 3) := by decide +kernel
theorem dKN_release_88 : decode cKN_release 88 = .ok (.iload 4, 2) := by decide +kernel
theorem dKN_release_90 : decode cKN_release 90 = .ok (.iconst 0, 1) := by decide +kernel
theorem dKN_release_91 : decode cKN_release 91 = .ok (.bastore, 1) := by decide +kernel
theorem dKN_release_92 : decode cKN_release 92 = .ok (.aload_n 0, 1) := by decide +kernel
theorem dKN_release_93 : decode cKN_release 93 = .ok (.getfield 41, 3) := by decide +kernel
theorem dKN_release_96 : decode cKN_release 96 = .ok (.iload 4, 2) := by decide +kernel
theorem dKN_release_98 : decode cKN_release 98 = .ok (.bipush 32, 2) := by decide +kernel
theorem dKN_release_100 : decode cKN_release 100 = .ok (.idiv, 1) := by decide +kernel
theorem dKN_release_101 : decode cKN_release 101 = .ok (.dup2, 1) := by decide +kernel
theorem dKN_release_102 : decode cKN_release 102 = .ok (.iaload, 1) := by decide +kernel
theorem dKN_release_103 : decode cKN_release 103 = .ok (.iconst 1, 1) := by decide +kernel
theorem dKN_release_104 : decode cKN_release 104 = .ok (.iload 4, 2) := by decide +kernel
theorem dKN_release_106 : decode cKN_release 106 = .ok (.bipush 32, 2) := by decide +kernel
theorem dKN_release_108 : decode cKN_release 108 = .ok (.irem, 1) := by decide +kernel
theorem dKN_release_109 : decode cKN_release 109 = .ok (.ishl, 1) := by decide +kernel
theorem dKN_release_110 : decode cKN_release 110 = .ok (.ior, 1) := by decide +kernel
theorem dKN_release_111 : decode cKN_release 111 = .ok (.iastore, 1) := by decide +kernel
theorem dKN_release_112 : decode cKN_release 112 = .ok (.iload 4, 2) := by decide +kernel
theorem dKN_release_114 : decode cKN_release 114 = .ok (.iload_n 1, 1) := by decide +kernel
theorem dKN_release_115 : decode cKN_release 115 = .ok (.if_icmp .ne 7, 3) := by decide +kernel
theorem dKN_release_118 : decode cKN_release 118 = .ok (.iconst 1, 1) := by decide +kernel
theorem dKN_release_119 : decode cKN_release 119 = .ok (.goto 4, 3) := by decide +kernel
theorem dKN_release_122 : decode cKN_release 122 = .ok (.iconst 0, 1) := by decide +kernel
theorem dKN_release_123 : decode cKN_release 123 = .ok (.istore_n 3, 1) := by decide +kernel
theorem dKN_release_124 : decode cKN_release 124 = .ok (.goto (-72), 3) := by decide +kernel
theorem dKN_release_127 : decode cKN_release 127 = .ok (.iload_n 2, 1) := by decide +kernel
theorem dKN_release_128 : decode cKN_release 128 = .ok (.ifCond .eq 43, 3) := by decide +kernel
theorem dKN_release_131 : decode cKN_release 131 = .ok (.aload_n 0, 1) := by decide +kernel
theorem dKN_release_132 : decode cKN_release 132 = .ok (.invokevirtual 97, 3) := by decide +kernel
theorem dKN_release_135 : decode cKN_release 135 = .ok (.ifCond .eq 36, 3) := by decide +kernel
theorem dKN_release_138 : decode cKN_release 138 = .ok (.iconst 0, 1) := by decide +kernel
theorem dKN_release_139 : decode cKN_release 139 = .ok (.istore 4, 2) := by decide +kernel
theorem dKN_release_141 : decode cKN_release 141 = .ok (.iload 4, 2) := by decide +kernel
theorem dKN_release_143 : decode cKN_release 143 = .ok (.bipush 6, 2) := by decide +kernel
theorem dKN_release_145 : decode cKN_release 145 = .ok (.if_icmp .ge 26, 3) := by decide +kernel
theorem dKN_release_148 : decode cKN_release 148 = .ok (.aload_n 0, 1) := by decide +kernel
theorem dKN_release_149 : decode cKN_release 149 = .ok (.getfield 18, 3) := by decide +kernel
theorem dKN_release_152 : decode cKN_release 152 = .ok (.iload 4, 2) := by decide +kernel
theorem dKN_release_154 : decode cKN_release 154 = .ok (.dup2, 1) := by decide +kernel
theorem dKN_release_155 : decode cKN_release 155 = .ok (.iaload, 1) := by decide +kernel
theorem dKN_release_156 : decode cKN_release 156 = .ok (.aload_n 0, 1) := by decide +kernel
theorem dKN_release_157 : decode cKN_release 157 = .ok (.getfield 41, 3) := by decide +kernel
theorem dKN_release_160 : decode cKN_release 160 = .ok (.iload 4, 2) := by decide +kernel
theorem dKN_release_162 : decode cKN_release 162 = .ok (.iaload, 1) := by decide +kernel
theorem dKN_release_163 : decode cKN_release 163 = .ok (.ior, 1) := by decide +kernel
theorem dKN_release_164 : decode cKN_release 164 = .ok (.iastore, 1) := by decide +kernel
theorem dKN_release_165 : decode cKN_release 165 = .ok (.iinc 4 1, 3) := by decide +kernel
theorem dKN_release_168 : decode cKN_release 168 = .ok (.goto (-27), 3) := by decide +kernel
theorem dKN_release_171 : decode cKN_release 171 = .ok (.return_, 1) := by decide +kernel
theorem dKN_goesToItself_0 : decode cKN_goesToItself 0 = .ok (.iload_n 1, 1) := by decide +kernel
theorem dKN_goesToItself_1 : decode cKN_goesToItself 1 = .ok (.bipush 32, 2) := by decide +kernel
theorem dKN_goesToItself_3 : decode cKN_goesToItself 3 = .ok (.idiv, 1) := by decide +kernel
theorem dKN_goesToItself_4 : decode cKN_goesToItself 4 = .ok (.istore_n 2, 1) := by decide +kernel
theorem dKN_goesToItself_5 : decode cKN_goesToItself 5 = .ok (.iload_n 1, 1) := by decide +kernel
theorem dKN_goesToItself_6 : decode cKN_goesToItself 6 = .ok (.bipush 32, 2) := by decide +kernel
theorem dKN_goesToItself_8 : decode cKN_goesToItself 8 = .ok (.irem, 1) := by decide +kernel
theorem dKN_goesToItself_9 : decode cKN_goesToItself 9 = .ok (.istore_n 3, 1) := by decide +kernel
theorem dKN_goesToItself_10 : decode cKN_goesToItself 10 = .ok (.aload_n 0, 1) := by decide +kernel
theorem dKN_goesToItself_11 : decode cKN_goesToItself 11 = .ok (.getfield 12, 3) := by decide +kernel
theorem dKN_goesToItself_14 : decode cKN_goesToItself 14 = .ok (.getfield 79, 3) := by decide +kernel
theorem dKN_goesToItself_17 : decode cKN_goesToItself 17 = .ok (.iload_n 2, 1) := by decide +kernel
theorem dKN_goesToItself_18 : decode cKN_goesToItself 18 = .ok (.iload_n 2, 1) := by decide +kernel
theorem dKN_goesToItself_19 : decode cKN_goesToItself 19 = .ok (.invokevirtual 83, 3) := by decide +kernel
theorem dKN_goesToItself_22 : decode cKN_goesToItself 22 = .ok (.ifCond .eq 21, 3) := by decide +kernel
theorem dKN_goesToItself_25 : decode cKN_goesToItself 25 = .ok (.aload_n 0, 1) := by decide +kernel
theorem dKN_goesToItself_26 : decode cKN_goesToItself 26 = .ok (.getfield 12, 3) := by decide +kernel
theorem dKN_goesToItself_29 : decode cKN_goesToItself 29 = .ok (.iload_n 2, 1) := by decide +kernel
theorem dKN_goesToItself_30 : decode cKN_goesToItself 30 = .ok (.iload_n 2, 1) := by decide +kernel
theorem dKN_goesToItself_31 : decode cKN_goesToItself 31 = .ok (.iload_n 3, 1) := by decide +kernel
theorem dKN_goesToItself_32 : decode cKN_goesToItself 32 = .ok (.invokevirtual 89, 3) := by decide +kernel
theorem dKN_goesToItself_35 : decode cKN_goesToItself 35 = .ok (.iload_n 3, 1) := by decide +kernel
theorem dKN_goesToItself_36 : decode cKN_goesToItself 36 = .ok (.if_icmp .ne 7, 3) := by decide +kernel
theorem dKN_goesToItself_39 : decode cKN_goesToItself 39 = .ok (.iconst 1, 1) := by decide +kernel
theorem dKN_goesToItself_40 : decode cKN_goesToItself 40 = .ok (.goto 4, 3) := by decide +kernel
theorem dKN_goesToItself_43 : decode cKN_goesToItself 43 = .ok (.iconst 0, 1) := by decide +kernel
theorem dKN_goesToItself_44 : decode cKN_goesToItself 44 = .ok (.ireturn, 1) := by decide +kernel
theorem dKN_isPrompt_0 : decode cKN_isPrompt 0 = .ok (.iconst 0, 1) := by decide +kernel
theorem dKN_isPrompt_1 : decode cKN_isPrompt 1 = .ok (.istore_n 1, 1) := by decide +kernel
theorem dKN_isPrompt_2 : decode cKN_isPrompt 2 = .ok (.iload_n 1, 1) := by decide +kernel
theorem dKN_isPrompt_3 : decode cKN_isPrompt 3 = .ok (.aload_n 0, 1) := by decide +kernel
theorem dKN_isPrompt_4 : decode cKN_isPrompt 4 = .ok (.getfield 12, 3) := by decide +kernel
theorem dKN_isPrompt_7 : decode cKN_isPrompt 7 = .ok (.getfield 101, 3) := by decide +kernel
theorem dKN_isPrompt_10 : decode cKN_isPrompt 10 = .ok (.getfield 105, 3) := by decide +kernel
theorem dKN_isPrompt_13 : decode cKN_isPrompt 13 = .ok (.if_icmp .ge 54, 3) := by decide +kernel
theorem dKN_isPrompt_16 : decode cKN_isPrompt 16 = .ok (.iconst 0, 1) := by decide +kernel
theorem dKN_isPrompt_17 : decode cKN_isPrompt 17 = .ok (.istore_n 2, 1) := by decide +kernel
theorem dKN_isPrompt_18 : decode cKN_isPrompt 18 = .ok (.iconst 0, 1) := by decide +kernel
theorem dKN_isPrompt_19 : decode cKN_isPrompt 19 = .ok (.istore_n 3, 1) := by decide +kernel
theorem dKN_isPrompt_20 : decode cKN_isPrompt 20 = .ok (.iload_n 3, 1) := by decide +kernel
theorem dKN_isPrompt_21 : decode cKN_isPrompt 21 = .ok (.bipush 6, 2) := by decide +kernel
theorem dKN_isPrompt_23 : decode cKN_isPrompt 23 = .ok (.if_icmp .ge 32, 3) := by decide +kernel
theorem dKN_isPrompt_26 : decode cKN_isPrompt 26 = .ok (.iload_n 2, 1) := by decide +kernel
theorem dKN_isPrompt_27 : decode cKN_isPrompt 27 = .ok (.aload_n 0, 1) := by decide +kernel
theorem dKN_isPrompt_28 : decode cKN_isPrompt 28 = .ok (.getfield 41, 3) := by decide +kernel
theorem dKN_isPrompt_31 : decode cKN_isPrompt 31 = .ok (.iload_n 3, 1) := by decide +kernel
theorem dKN_isPrompt_32 : decode cKN_isPrompt 32 = .ok (.iaload, 1) := by decide +kernel
theorem dKN_isPrompt_33 : decode cKN_isPrompt 33 = .ok (.aload_n 0, 1) := by decide +kernel
theorem dKN_isPrompt_34 : decode cKN_isPrompt 34 = .ok (.getfield 12, 3) := by decide +kernel
theorem dKN_isPrompt_37 : decode cKN_isPrompt 37 = .ok (.getfield 110, 3) := by decide +kernel
theorem dKN_isPrompt_40 : decode cKN_isPrompt 40 = .ok (.iload_n 3, 1) := by decide +kernel
theorem dKN_isPrompt_41 : decode cKN_isPrompt 41 = .ok (.iconst 5, 1) := by decide +kernel
theorem dKN_isPrompt_42 : decode cKN_isPrompt 42 = .ok (.imul, 1) := by decide +kernel
theorem dKN_isPrompt_43 : decode cKN_isPrompt 43 = .ok (.iload_n 1, 1) := by decide +kernel
theorem dKN_isPrompt_44 : decode cKN_isPrompt 44 = .ok (.iadd, 1) := by decide +kernel
theorem dKN_isPrompt_45 : decode cKN_isPrompt 45 = .ok (.iaload, 1) := by decide +kernel
theorem dKN_isPrompt_46 : decode cKN_isPrompt 46 = .ok (.iand, 1) := by decide +kernel
theorem dKN_isPrompt_47 : decode cKN_isPrompt 47 = .ok (.ior, 1) := by decide +kernel
theorem dKN_isPrompt_48 : decode cKN_isPrompt 48 = .ok (.istore_n 2, 1) := by decide +kernel
theorem dKN_isPrompt_49 : decode cKN_isPrompt 49 = .ok (.iinc 3 1, 3) := by decide +kernel
theorem dKN_isPrompt_52 : decode cKN_isPrompt 52 = .ok (.goto (-32), 3) := by decide +kernel
theorem dKN_isPrompt_55 : decode cKN_isPrompt 55 = .ok (.iload_n 2, 1) := by decide +kernel
theorem dKN_isPrompt_56 : decode cKN_isPrompt 56 = .ok (.ifCond .ne 5, 3) := by decide +kernel
theorem dKN_isPrompt_59 : decode cKN_isPrompt 59 = .ok (.iconst 0, 1) := by decide +kernel
theorem dKN_isPrompt_60 : decode cKN_isPrompt 60 = .ok (.ireturn, 1) := by decide +kernel
theorem dKN_isPrompt_61 : decode cKN_isPrompt 61 = .ok (.iinc 1 1, 3) := by decide +kernel
theorem dKN_isPrompt_64 : decode cKN_isPrompt 64 = .ok (.goto (-62), 3) := by decide +kernel
theorem dKN_isPrompt_67 : decode cKN_isPrompt 67 = .ok (.iconst 1, 1) := by decide +kernel
theorem dKN_isPrompt_68 : decode cKN_isPrompt 68 = .ok (.ireturn, 1) := by decide +kernel
