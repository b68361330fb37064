theorem dSE_init_0 : decode cSE_init 0 = .ok (.aload_n 0, 1) := by decide +kernel
theorem dSE_init_1 : decode cSE_init 1 = .ok (.invokespecial 3, 3) := by decide +kernel
theorem dSE_init_4 : decode cSE_init 4 = .ok (.aload_n 0, 1) := by decide +kernel
theorem dSE_init_5 : decode cSE_init 5 = .ok (.new 9, 3) := by decide +kernel
theorem dSE_init_8 : decode cSE_init 8 = .ok (.dup, 1) := by decide +kernel
theorem dSE_init_9 : decode cSE_init 9 = .ok (.invokespecial 11, 3) := by decide +kernel
theorem dSE_init_12 : decode cSE_init 12 = .ok (.putfield 12, 3) := by decide +kernel
theorem dSE_init_15 : decode cSE_init 15 = .ok (.aload_n 0, 1) := by decide +kernel
theorem dSE_init_16 : decode cSE_init 16 = .ok (.aload_n 0, 1) := by decide +kernel
theorem dSE_init_17 : decode cSE_init 17 = .ok (.getfield 12, 3) := by decide +kernel
theorem dSE_init_20 : decode cSE_init 20 = .ok (.getfield 18, 3) := by decide +kernel
theorem dSE_init_23 : decode cSE_init 23 = .ok (.putfield 22, 3) := by decide +kernel
theorem dSE_init_26 : decode cSE_init 26 = .ok (.aload_n 0, 1) := by decide +kernel
theorem dSE_init_27 : decode cSE_init 27 = .ok (.new 23, 3) := by decide +kernel
theorem dSE_init_30 : decode cSE_init 30 = .ok (.dup, 1) := by decide +kernel
theorem dSE_init_31 : decode cSE_init 31 = .ok (.bipush 6, 2) := by decide +kernel
theorem dSE_init_33 : decode cSE_init 33 = .ok (.invokespecial 25, 3) := by decide +kernel
theorem dSE_init_36 : decode cSE_init 36 = .ok (.putfield 28, 3) := by decide +kernel
theorem dSE_init_39 : decode cSE_init 39 = .ok (.aload_n 0, 1) := by decide +kernel
theorem dSE_init_40 : decode cSE_init 40 = .ok (.bipush 6, 2) := by decide +kernel
theorem dSE_init_42 : decode cSE_init 42 = .ok (.newarray .int, 2) := by decide +kernel
theorem dSE_init_44 : decode cSE_init 44 = .ok (.putfield 32, 3) := by decide +kernel
theorem dSE_init_47 : decode cSE_init 47 = .ok (.aload_n 0, 1) := by decide +kernel
theorem dSE_init_48 : decode cSE_init 48 = .ok (.iconst (-1), 1) := by decide +kernel
theorem dSE_init_49 : decode cSE_init 49 = .ok (.putfield 36, 3) := by decide +kernel
theorem dSE_init_52 : decode cSE_init 52 = .ok (.aload_n 0, 1) := by decide +kernel
theorem dSE_init_53 : decode cSE_init 53 = .ok (.iconst (-1), 1) := by decide +kernel
theorem dSE_init_54 : decode cSE_init 54 = .ok (.putfield 40, 3) := by decide +kernel
theorem dSE_init_57 : decode cSE_init 57 = .ok (.return_, 1) := by decide +kernel
theorem dSE_forget_0 : decode cSE_forget 0 = .ok (.aload_n 0, 1) := by decide +kernel
theorem dSE_forget_1 : decode cSE_forget 1 = .ok (.iconst (-1), 1) := by decide +kernel
theorem dSE_forget_2 : decode cSE_forget 2 = .ok (.putfield 36, 3) := by decide +kernel
theorem dSE_forget_5 : decode cSE_forget 5 = .ok (.return_, 1) := by decide +kernel
theorem dSE_lookFrom_0 : decode cSE_lookFrom 0 = .ok (.aload_n 0, 1) := by decide +kernel
theorem dSE_lookFrom_1 : decode cSE_lookFrom 1 = .ok (.getfield 36, 3) := by decide +kernel
theorem dSE_lookFrom_4 : decode cSE_lookFrom 4 = .ok (.iload_n 1, 1) := by decide +kernel
theorem dSE_lookFrom_5 : decode cSE_lookFrom 5 = .ok (.if_icmp .ne 4, 3) := by decide +kernel
theorem dSE_lookFrom_8 : decode cSE_lookFrom 8 = .ok (.return_, 1) := by decide +kernel
theorem dSE_lookFrom_9 : decode cSE_lookFrom 9 = .ok (.aload_n 0, 1) := by decide +kernel
theorem dSE_lookFrom_10 : decode cSE_lookFrom 10 = .ok (.iload_n 1, 1) := by decide +kernel
theorem dSE_lookFrom_11 : decode cSE_lookFrom 11 = .ok (.putfield 36, 3) := by decide +kernel
theorem dSE_lookFrom_14 : decode cSE_lookFrom 14 = .ok (.aload_n 0, 1) := by decide +kernel
theorem dSE_lookFrom_15 : decode cSE_lookFrom 15 = .ok (.iconst (-1), 1) := by decide +kernel
theorem dSE_lookFrom_16 : decode cSE_lookFrom 16 = .ok (.putfield 40, 3) := by decide +kernel
theorem dSE_lookFrom_19 : decode cSE_lookFrom 19 = .ok (.iconst 1, 1) := by decide +kernel
theorem dSE_lookFrom_20 : decode cSE_lookFrom 20 = .ok (.istore_n 2, 1) := by decide +kernel
theorem dSE_lookFrom_21 : decode cSE_lookFrom 21 = .ok (.iload_n 2, 1) := by decide +kernel
theorem dSE_lookFrom_22 : decode cSE_lookFrom 22 = .ok (.bipush 6, 2) := by decide +kernel
theorem dSE_lookFrom_24 : decode cSE_lookFrom 24 = .ok (.if_icmp .gt 78, 3) := by decide +kernel
theorem dSE_lookFrom_27 : decode cSE_lookFrom 27 = .ok (.aload_n 0, 1) := by decide +kernel
theorem dSE_lookFrom_28 : decode cSE_lookFrom 28 = .ok (.getfield 40, 3) := by decide +kernel
theorem dSE_lookFrom_31 : decode cSE_lookFrom 31 = .ok (.iconst (-1), 1) := by decide +kernel
theorem dSE_lookFrom_32 : decode cSE_lookFrom 32 = .ok (.if_icmp .ne 70, 3) := by decide +kernel
theorem dSE_lookFrom_35 : decode cSE_lookFrom 35 = .ok (.aload_n 0, 1) := by decide +kernel
theorem dSE_lookFrom_36 : decode cSE_lookFrom 36 = .ok (.getfield 28, 3) := by decide +kernel
theorem dSE_lookFrom_39 : decode cSE_lookFrom 39 = .ok (.iload_n 2, 1) := by decide +kernel
theorem dSE_lookFrom_40 : decode cSE_lookFrom 40 = .ok (.putfield 43, 3) := by decide +kernel
theorem dSE_lookFrom_43 : decode cSE_lookFrom 43 = .ok (.aload_n 0, 1) := by decide +kernel
theorem dSE_lookFrom_44 : decode cSE_lookFrom 44 = .ok (.getfield 28, 3) := by decide +kernel
theorem dSE_lookFrom_47 : decode cSE_lookFrom 47 = .ok (.getfield 46, 3) := by decide +kernel
theorem dSE_lookFrom_50 : decode cSE_lookFrom 50 = .ok (.iconst 0, 1) := by decide +kernel
theorem dSE_lookFrom_51 : decode cSE_lookFrom 51 = .ok (.iload_n 1, 1) := by decide +kernel
theorem dSE_lookFrom_52 : decode cSE_lookFrom 52 = .ok (.iastore, 1) := by decide +kernel
theorem dSE_lookFrom_53 : decode cSE_lookFrom 53 = .ok (.aload_n 0, 1) := by decide +kernel
theorem dSE_lookFrom_54 : decode cSE_lookFrom 54 = .ok (.getfield 32, 3) := by decide +kernel
theorem dSE_lookFrom_57 : decode cSE_lookFrom 57 = .ok (.iconst 0, 1) := by decide +kernel
theorem dSE_lookFrom_58 : decode cSE_lookFrom 58 = .ok (.aload_n 0, 1) := by decide +kernel
theorem dSE_lookFrom_59 : decode cSE_lookFrom 59 = .ok (.getfield 12, 3) := by decide +kernel
theorem dSE_lookFrom_62 : decode cSE_lookFrom 62 = .ok (.iload_n 2, 1) := by decide +kernel
theorem dSE_lookFrom_63 : decode cSE_lookFrom 63 = .ok (.iconst 1, 1) := by decide +kernel
theorem dSE_lookFrom_64 : decode cSE_lookFrom 64 = .ok (.isub, 1) := by decide +kernel
theorem dSE_lookFrom_65 : decode cSE_lookFrom 65 = .ok (.iload_n 1, 1) := by decide +kernel
theorem dSE_lookFrom_66 : decode cSE_lookFrom 66 = .ok (.invokevirtual 49, 3) := by decide +kernel
theorem dSE_lookFrom_69 : decode cSE_lookFrom 69 = .ok (.aload_n 0, 1) := by decide +kernel
theorem dSE_lookFrom_70 : decode cSE_lookFrom 70 = .ok (.getfield 22, 3) := by decide +kernel
theorem dSE_lookFrom_73 : decode cSE_lookFrom 73 = .ok (.getfield 53, 3) := by decide +kernel
theorem dSE_lookFrom_76 : decode cSE_lookFrom 76 = .ok (.iload_n 1, 1) := by decide +kernel
theorem dSE_lookFrom_77 : decode cSE_lookFrom 77 = .ok (.iaload, 1) := by decide +kernel
theorem dSE_lookFrom_78 : decode cSE_lookFrom 78 = .ok (.iconst (-1), 1) := by decide +kernel
theorem dSE_lookFrom_79 : decode cSE_lookFrom 79 = .ok (.ixor, 1) := by decide +kernel
theorem dSE_lookFrom_80 : decode cSE_lookFrom 80 = .ok (.iand, 1) := by decide +kernel
theorem dSE_lookFrom_81 : decode cSE_lookFrom 81 = .ok (.iastore, 1) := by decide +kernel
theorem dSE_lookFrom_82 : decode cSE_lookFrom 82 = .ok (.aload_n 0, 1) := by decide +kernel
theorem dSE_lookFrom_83 : decode cSE_lookFrom 83 = .ok (.getfield 32, 3) := by decide +kernel
theorem dSE_lookFrom_86 : decode cSE_lookFrom 86 = .ok (.iconst 0, 1) := by decide +kernel
theorem dSE_lookFrom_87 : decode cSE_lookFrom 87 = .ok (.iaload, 1) := by decide +kernel
theorem dSE_lookFrom_88 : decode cSE_lookFrom 88 = .ok (.ifCond .eq 8, 3) := by decide +kernel
theorem dSE_lookFrom_91 : decode cSE_lookFrom 91 = .ok (.aload_n 0, 1) := by decide +kernel
theorem dSE_lookFrom_92 : decode cSE_lookFrom 92 = .ok (.iconst 0, 1) := by decide +kernel
theorem dSE_lookFrom_93 : decode cSE_lookFrom 93 = .ok (.invokevirtual 58, 3) := by decide +kernel
theorem dSE_lookFrom_96 : decode cSE_lookFrom 96 = .ok (.iinc 2 1, 3) := by decide +kernel
theorem dSE_lookFrom_99 : decode cSE_lookFrom 99 = .ok (.goto (-78), 3) := by decide +kernel
theorem dSE_lookFrom_102 : decode cSE_lookFrom 102 = .ok (.return_, 1) := by decide +kernel
theorem dSE_extend_0 : decode cSE_extend 0 = .ok (.aload_n 0, 1) := by decide +kernel
theorem dSE_extend_1 : decode cSE_extend 1 = .ok (.getfield 28, 3) := by decide +kernel
theorem dSE_extend_4 : decode cSE_extend 4 = .ok (.getfield 43, 3) := by decide +kernel
theorem dSE_extend_7 : decode cSE_extend 7 = .ok (.iconst 1, 1) := by decide +kernel
theorem dSE_extend_8 : decode cSE_extend 8 = .ok (.isub, 1) := by decide +kernel
theorem dSE_extend_9 : decode cSE_extend 9 = .ok (.istore_n 2, 1) := by decide +kernel
theorem dSE_extend_10 : decode cSE_extend 10 = .ok (.iload_n 1, 1) := by decide +kernel
theorem dSE_extend_11 : decode cSE_extend 11 = .ok (.iload_n 2, 1) := by decide +kernel
theorem dSE_extend_12 : decode cSE_extend 12 = .ok (.if_icmp .lt 9, 3) := by decide +kernel
theorem dSE_extend_15 : decode cSE_extend 15 = .ok (.aload_n 0, 1) := by decide +kernel
theorem dSE_extend_16 : decode cSE_extend 16 = .ok (.iload_n 2, 1) := by decide +kernel
theorem dSE_extend_17 : decode cSE_extend 17 = .ok (.invokevirtual 61, 3) := by decide +kernel
theorem dSE_extend_20 : decode cSE_extend 20 = .ok (.return_, 1) := by decide +kernel
theorem dSE_extend_21 : decode cSE_extend 21 = .ok (.aload_n 0, 1) := by decide +kernel
theorem dSE_extend_22 : decode cSE_extend 22 = .ok (.getfield 28, 3) := by decide +kernel
theorem dSE_extend_25 : decode cSE_extend 25 = .ok (.getfield 46, 3) := by decide +kernel
theorem dSE_extend_28 : decode cSE_extend 28 = .ok (.iload_n 1, 1) := by decide +kernel
theorem dSE_extend_29 : decode cSE_extend 29 = .ok (.iaload, 1) := by decide +kernel
theorem dSE_extend_30 : decode cSE_extend 30 = .ok (.istore_n 3, 1) := by decide +kernel
theorem dSE_extend_31 : decode cSE_extend 31 = .ok (.iconst 0, 1) := by decide +kernel
theorem dSE_extend_32 : decode cSE_extend 32 = .ok (.istore 4, 2) := by decide +kernel
theorem dSE_extend_34 : decode cSE_extend 34 = .ok (.iload 4, 2) := by decide +kernel
theorem dSE_extend_36 : decode cSE_extend 36 = .ok (.bipush 6, 2) := by decide +kernel
theorem dSE_extend_38 : decode cSE_extend 38 = .ok (.if_icmp .ge 106, 3) := by decide +kernel
theorem dSE_extend_41 : decode cSE_extend 41 = .ok (.aload_n 0, 1) := by decide +kernel
theorem dSE_extend_42 : decode cSE_extend 42 = .ok (.getfield 40, 3) := by decide +kernel
theorem dSE_extend_45 : decode cSE_extend 45 = .ok (.iconst (-1), 1) := by decide +kernel
theorem dSE_extend_46 : decode cSE_extend 46 = .ok (.if_icmp .ne 98, 3) := by decide +kernel
theorem dSE_extend_49 : decode cSE_extend 49 = .ok (.aload_n 0, 1) := by decide +kernel
theorem dSE_extend_50 : decode cSE_extend 50 = .ok (.getfield 22, 3) := by decide +kernel
theorem dSE_extend_53 : decode cSE_extend 53 = .ok (.getfield 64, 3) := by decide +kernel
theorem dSE_extend_56 : decode cSE_extend 56 = .ok (.iload_n 3, 1) := by decide +kernel
theorem dSE_extend_57 : decode cSE_extend 57 = .ok (.iload 4, 2) := by decide +kernel
theorem dSE_extend_59 : decode cSE_extend 59 = .ok (.invokevirtual 68, 3) := by decide +kernel
theorem dSE_extend_62 : decode cSE_extend 62 = .ok (.ifCond .eq 76, 3) := by decide +kernel
theorem dSE_extend_65 : decode cSE_extend 65 = .ok (.aload_n 0, 1) := by decide +kernel
theorem dSE_extend_66 : decode cSE_extend 66 = .ok (.getfield 12, 3) := by decide +kernel
theorem dSE_extend_69 : decode cSE_extend 69 = .ok (.iload_n 2, 1) := by decide +kernel
theorem dSE_extend_70 : decode cSE_extend 70 = .ok (.iload_n 1, 1) := by decide +kernel
theorem dSE_extend_71 : decode cSE_extend 71 = .ok (.isub, 1) := by decide +kernel
theorem dSE_extend_72 : decode cSE_extend 72 = .ok (.iconst 1, 1) := by decide +kernel
theorem dSE_extend_73 : decode cSE_extend 73 = .ok (.isub, 1) := by decide +kernel
theorem dSE_extend_74 : decode cSE_extend 74 = .ok (.iload 4, 2) := by decide +kernel
theorem dSE_extend_76 : decode cSE_extend 76 = .ok (.invokevirtual 49, 3) := by decide +kernel
theorem dSE_extend_79 : decode cSE_extend 79 = .ok (.istore 5, 2) := by decide +kernel
theorem dSE_extend_81 : decode cSE_extend 81 = .ok (.aload_n 0, 1) := by decide +kernel
theorem dSE_extend_82 : decode cSE_extend 82 = .ok (.getfield 32, 3) := by decide +kernel
theorem dSE_extend_85 : decode cSE_extend 85 = .ok (.iload_n 1, 1) := by decide +kernel
theorem dSE_extend_86 : decode cSE_extend 86 = .ok (.iconst 1, 1) := by decide +kernel
theorem dSE_extend_87 : decode cSE_extend 87 = .ok (.iadd, 1) := by decide +kernel
theorem dSE_extend_88 : decode cSE_extend 88 = .ok (.aload_n 0, 1) := by decide +kernel
theorem dSE_extend_89 : decode cSE_extend 89 = .ok (.getfield 22, 3) := by decide +kernel
theorem dSE_extend_92 : decode cSE_extend 92 = .ok (.iload_n 3, 1) := by decide +kernel
theorem dSE_extend_93 : decode cSE_extend 93 = .ok (.iload 4, 2) := by decide +kernel
theorem dSE_extend_95 : decode cSE_extend 95 = .ok (.aload_n 0, 1) := by decide +kernel
theorem dSE_extend_96 : decode cSE_extend 96 = .ok (.getfield 32, 3) := by decide +kernel
theorem dSE_extend_99 : decode cSE_extend 99 = .ok (.iload_n 1, 1) := by decide +kernel
theorem dSE_extend_100 : decode cSE_extend 100 = .ok (.iaload, 1) := by decide +kernel
theorem dSE_extend_101 : decode cSE_extend 101 = .ok (.iload 5, 2) := by decide +kernel
theorem dSE_extend_103 : decode cSE_extend 103 = .ok (.invokevirtual 74, 3) := by decide +kernel
theorem dSE_extend_106 : decode cSE_extend 106 = .ok (.iastore, 1) := by decide +kernel
theorem dSE_extend_107 : decode cSE_extend 107 = .ok (.aload_n 0, 1) := by decide +kernel
theorem dSE_extend_108 : decode cSE_extend 108 = .ok (.getfield 32, 3) := by decide +kernel
theorem dSE_extend_111 : decode cSE_extend 111 = .ok (.iload_n 1, 1) := by decide +kernel
theorem dSE_extend_112 : decode cSE_extend 112 = .ok (.iconst 1, 1) := by decide +kernel
theorem dSE_extend_113 : decode cSE_extend 113 = .ok (.iadd, 1) := by decide +kernel
theorem dSE_extend_114 : decode cSE_extend 114 = .ok (.iaload, 1) := by decide +kernel
theorem dSE_extend_115 : decode cSE_extend 115 = .ok (.ifCond .eq 23, 3) := by decide +kernel
theorem dSE_extend_118 : decode cSE_extend 118 = .ok (.aload_n 0, 1) := by decide +kernel
theorem dSE_extend_119 : decode cSE_extend 119 = .ok (.getfield 28, 3) := by decide +kernel
theorem dSE_extend_122 : decode cSE_extend 122 = .ok (.getfield 46, 3) := by decide +kernel
theorem dSE_extend_125 : decode cSE_extend 125 = .ok (.iload_n 1, 1) := by decide +kernel
theorem dSE_extend_126 : decode cSE_extend 126 = .ok (.iconst 1, 1) := by decide +kernel
theorem dSE_extend_127 : decode cSE_extend 127 = .ok (.iadd, 1) := by decide +kernel
theorem dSE_extend_128 : decode cSE_extend 128 = .ok (.iload 4, 2) := by decide +kernel
theorem dSE_extend_130 : decode cSE_extend 130 = .ok (.iastore, 1) := by decide +kernel
theorem dSE_extend_131 : decode cSE_extend 131 = .ok (.aload_n 0, 1) := by decide +kernel
theorem dSE_extend_132 : decode cSE_extend 132 = .ok (.iload_n 1, 1) := by decide +kernel
theorem dSE_extend_133 : decode cSE_extend 133 = .ok (.iconst 1, 1) := by decide +kernel
theorem dSE_extend_134 : decode cSE_extend 134 = .ok (.iadd, 1) := by decide +kernel
theorem dSE_extend_135 : decode cSE_extend 135 = .ok (.invokevirtual 58, 3) := by decide +kernel
theorem dSE_extend_138 : decode cSE_extend 138 = .ok (.iinc 4 1, 3) := by decide +kernel
theorem dSE_extend_141 : decode cSE_extend 141 = .ok (.goto (-107), 3) := by decide +kernel
theorem dSE_extend_144 : decode cSE_extend 144 = .ok (.return_, 1) := by decide +kernel
theorem dSE_closeLoop_0 : decode cSE_closeLoop 0 = .ok (.iconst 0, 1) := by decide +kernel
theorem dSE_closeLoop_1 : decode cSE_closeLoop 1 = .ok (.istore_n 2, 1) := by decide +kernel
theorem dSE_closeLoop_2 : decode cSE_closeLoop 2 = .ok (.iload_n 2, 1) := by decide +kernel
theorem dSE_closeLoop_3 : decode cSE_closeLoop 3 = .ok (.iload_n 1, 1) := by decide +kernel
theorem dSE_closeLoop_4 : decode cSE_closeLoop 4 = .ok (.if_icmp .gt 58, 3) := by decide +kernel
theorem dSE_closeLoop_7 : decode cSE_closeLoop 7 = .ok (.aload_n 0, 1) := by decide +kernel
theorem dSE_closeLoop_8 : decode cSE_closeLoop 8 = .ok (.getfield 40, 3) := by decide +kernel
theorem dSE_closeLoop_11 : decode cSE_closeLoop 11 = .ok (.iconst (-1), 1) := by decide +kernel
theorem dSE_closeLoop_12 : decode cSE_closeLoop 12 = .ok (.if_icmp .ne 50, 3) := by decide +kernel
theorem dSE_closeLoop_15 : decode cSE_closeLoop 15 = .ok (.aload_n 0, 1) := by decide +kernel
theorem dSE_closeLoop_16 : decode cSE_closeLoop 16 = .ok (.iload_n 2, 1) := by decide +kernel
theorem dSE_closeLoop_17 : decode cSE_closeLoop 17 = .ok (.iload_n 1, 1) := by decide +kernel
theorem dSE_closeLoop_18 : decode cSE_closeLoop 18 = .ok (.invokevirtual 78, 3) := by decide +kernel
theorem dSE_closeLoop_21 : decode cSE_closeLoop 21 = .ok (.ifCond .eq 35, 3) := by decide +kernel
theorem dSE_closeLoop_24 : decode cSE_closeLoop 24 = .ok (.aload_n 0, 1) := by decide +kernel
theorem dSE_closeLoop_25 : decode cSE_closeLoop 25 = .ok (.getfield 28, 3) := by decide +kernel
theorem dSE_closeLoop_28 : decode cSE_closeLoop 28 = .ok (.aload_n 0, 1) := by decide +kernel
theorem dSE_closeLoop_29 : decode cSE_closeLoop 29 = .ok (.getfield 22, 3) := by decide +kernel
theorem dSE_closeLoop_32 : decode cSE_closeLoop 32 = .ok (.getfield 81, 3) := by decide +kernel
theorem dSE_closeLoop_35 : decode cSE_closeLoop 35 = .ok (.aload_n 0, 1) := by decide +kernel
theorem dSE_closeLoop_36 : decode cSE_closeLoop 36 = .ok (.getfield 22, 3) := by decide +kernel
theorem dSE_closeLoop_39 : decode cSE_closeLoop 39 = .ok (.getfield 64, 3) := by decide +kernel
theorem dSE_closeLoop_42 : decode cSE_closeLoop 42 = .ok (.iload_n 2, 1) := by decide +kernel
theorem dSE_closeLoop_43 : decode cSE_closeLoop 43 = .ok (.invokevirtual 85, 3) := by decide +kernel
theorem dSE_closeLoop_46 : decode cSE_closeLoop 46 = .ok (.iconst 1, 1) := by decide +kernel
theorem dSE_closeLoop_47 : decode cSE_closeLoop 47 = .ok (.iand, 1) := by decide +kernel
theorem dSE_closeLoop_48 : decode cSE_closeLoop 48 = .ok (.ifCond .ne 8, 3) := by decide +kernel
theorem dSE_closeLoop_51 : decode cSE_closeLoop 51 = .ok (.aload_n 0, 1) := by decide +kernel
theorem dSE_closeLoop_52 : decode cSE_closeLoop 52 = .ok (.iload_n 2, 1) := by decide +kernel
theorem dSE_closeLoop_53 : decode cSE_closeLoop 53 = .ok (.putfield 40, 3) := by decide +kernel
theorem dSE_closeLoop_56 : decode cSE_closeLoop 56 = .ok (.iinc 2 1, 3) := by decide +kernel
theorem dSE_closeLoop_59 : decode cSE_closeLoop 59 = .ok (.goto (-57), 3) := by decide +kernel
theorem dSE_closeLoop_62 : decode cSE_closeLoop 62 = .ok (.return_, 1) := by decide +kernel
theorem dSE_mayGoOnAt_0 : decode cSE_mayGoOnAt 0 = .ok (.aload_n 0, 1) := by decide +kernel
theorem dSE_mayGoOnAt_1 : decode cSE_mayGoOnAt 1 = .ok (.getfield 28, 3) := by decide +kernel
theorem dSE_mayGoOnAt_4 : decode cSE_mayGoOnAt 4 = .ok (.getfield 46, 3) := by decide +kernel
theorem dSE_mayGoOnAt_7 : decode cSE_mayGoOnAt 7 = .ok (.iload_n 2, 1) := by decide +kernel
theorem dSE_mayGoOnAt_8 : decode cSE_mayGoOnAt 8 = .ok (.iaload, 1) := by decide +kernel
theorem dSE_mayGoOnAt_9 : decode cSE_mayGoOnAt 9 = .ok (.istore_n 3, 1) := by decide +kernel
theorem dSE_mayGoOnAt_10 : decode cSE_mayGoOnAt 10 = .ok (.aload_n 0, 1) := by decide +kernel
theorem dSE_mayGoOnAt_11 : decode cSE_mayGoOnAt 11 = .ok (.getfield 28, 3) := by decide +kernel
theorem dSE_mayGoOnAt_14 : decode cSE_mayGoOnAt 14 = .ok (.getfield 46, 3) := by decide +kernel
theorem dSE_mayGoOnAt_17 : decode cSE_mayGoOnAt 17 = .ok (.iload_n 1, 1) := by decide +kernel
theorem dSE_mayGoOnAt_18 : decode cSE_mayGoOnAt 18 = .ok (.iaload, 1) := by decide +kernel
theorem dSE_mayGoOnAt_19 : decode cSE_mayGoOnAt 19 = .ok (.istore 4, 2) := by decide +kernel
theorem dSE_mayGoOnAt_21 : decode cSE_mayGoOnAt 21 = .ok (.aload_n 0, 1) := by decide +kernel
theorem dSE_mayGoOnAt_22 : decode cSE_mayGoOnAt 22 = .ok (.getfield 22, 3) := by decide +kernel
theorem dSE_mayGoOnAt_25 : decode cSE_mayGoOnAt 25 = .ok (.getfield 64, 3) := by decide +kernel
theorem dSE_mayGoOnAt_28 : decode cSE_mayGoOnAt 28 = .ok (.iload_n 3, 1) := by decide +kernel
theorem dSE_mayGoOnAt_29 : decode cSE_mayGoOnAt 29 = .ok (.iload 4, 2) := by decide +kernel
theorem dSE_mayGoOnAt_31 : decode cSE_mayGoOnAt 31 = .ok (.invokevirtual 68, 3) := by decide +kernel
theorem dSE_mayGoOnAt_34 : decode cSE_mayGoOnAt 34 = .ok (.ifCond .eq 32, 3) := by decide +kernel
theorem dSE_mayGoOnAt_37 : decode cSE_mayGoOnAt 37 = .ok (.aload_n 0, 1) := by decide +kernel
theorem dSE_mayGoOnAt_38 : decode cSE_mayGoOnAt 38 = .ok (.getfield 22, 3) := by decide +kernel
theorem dSE_mayGoOnAt_41 : decode cSE_mayGoOnAt 41 = .ok (.iload_n 3, 1) := by decide +kernel
theorem dSE_mayGoOnAt_42 : decode cSE_mayGoOnAt 42 = .ok (.iload 4, 2) := by decide +kernel
theorem dSE_mayGoOnAt_44 : decode cSE_mayGoOnAt 44 = .ok (.aload_n 0, 1) := by decide +kernel
theorem dSE_mayGoOnAt_45 : decode cSE_mayGoOnAt 45 = .ok (.getfield 32, 3) := by decide +kernel
theorem dSE_mayGoOnAt_48 : decode cSE_mayGoOnAt 48 = .ok (.iload_n 2, 1) := by decide +kernel
theorem dSE_mayGoOnAt_49 : decode cSE_mayGoOnAt 49 = .ok (.iaload, 1) := by decide +kernel
theorem dSE_mayGoOnAt_50 : decode cSE_mayGoOnAt 50 = .ok (.aload_n 0, 1) := by decide +kernel
theorem dSE_mayGoOnAt_51 : decode cSE_mayGoOnAt 51 = .ok (.getfield 32, 3) := by decide +kernel
theorem dSE_mayGoOnAt_54 : decode cSE_mayGoOnAt 54 = .ok (.iload_n 1, 1) := by decide +kernel
theorem dSE_mayGoOnAt_55 : decode cSE_mayGoOnAt 55 = .ok (.iaload, 1) := by decide +kernel
theorem dSE_mayGoOnAt_56 : decode cSE_mayGoOnAt 56 = .ok (.invokevirtual 74, 3) := by decide +kernel
theorem dSE_mayGoOnAt_59 : decode cSE_mayGoOnAt 59 = .ok (.ifCond .eq 7, 3) := by decide +kernel
theorem dSE_mayGoOnAt_62 : decode cSE_mayGoOnAt 62 = .ok (.iconst 1, 1) := by decide +kernel
theorem dSE_mayGoOnAt_63 : decode cSE_mayGoOnAt 63 = .ok (.goto 4, 3) := by decide +kernel
theorem dSE_mayGoOnAt_66 : decode cSE_mayGoOnAt 66 = .ok (.iconst 0, 1) := by decide +kernel
theorem dSE_mayGoOnAt_67 : decode cSE_mayGoOnAt 67 = .ok (.ireturn, 1) := by decide +kernel
