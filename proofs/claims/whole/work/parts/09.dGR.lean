theorem dGR_init_0 : decode cGR_init 0 = .ok (.aload_n 0, 1) := by decide +kernel
theorem dGR_init_1 : decode cGR_init 1 = .ok (.invokespecial 3, 3) := by decide +kernel
theorem dGR_init_4 : decode cGR_init 4 = .ok (.aload_n 0, 1) := by decide +kernel
theorem dGR_init_5 : decode cGR_init 5 = .ok (.new 9, 3) := by decide +kernel
theorem dGR_init_8 : decode cGR_init 8 = .ok (.dup, 1) := by decide +kernel
theorem dGR_init_9 : decode cGR_init 9 = .ok (.invokespecial 11, 3) := by decide +kernel
theorem dGR_init_12 : decode cGR_init 12 = .ok (.putfield 12, 3) := by decide +kernel
theorem dGR_init_15 : decode cGR_init 15 = .ok (.aload_n 0, 1) := by decide +kernel
theorem dGR_init_16 : decode cGR_init 16 = .ok (.new 18, 3) := by decide +kernel
theorem dGR_init_19 : decode cGR_init 19 = .ok (.dup, 1) := by decide +kernel
theorem dGR_init_20 : decode cGR_init 20 = .ok (.invokespecial 20, 3) := by decide +kernel
theorem dGR_init_23 : decode cGR_init 23 = .ok (.putfield 21, 3) := by decide +kernel
theorem dGR_init_26 : decode cGR_init 26 = .ok (.aload_n 0, 1) := by decide +kernel
theorem dGR_init_27 : decode cGR_init 27 = .ok (.bipush 37, 2) := by decide +kernel
theorem dGR_init_29 : decode cGR_init 29 = .ok (.newarray .int, 2) := by decide +kernel
theorem dGR_init_31 : decode cGR_init 31 = .ok (.putfield 25, 3) := by decide +kernel
theorem dGR_init_34 : decode cGR_init 34 = .ok (.aload_n 0, 1) := by decide +kernel
theorem dGR_init_35 : decode cGR_init 35 = .ok (.bipush 37, 2) := by decide +kernel
theorem dGR_init_37 : decode cGR_init 37 = .ok (.newarray .int, 2) := by decide +kernel
theorem dGR_init_39 : decode cGR_init 39 = .ok (.putfield 29, 3) := by decide +kernel
theorem dGR_init_42 : decode cGR_init 42 = .ok (.aload_n 0, 1) := by decide +kernel
theorem dGR_init_43 : decode cGR_init 43 = .ok (.sipush 1152, 3) := by decide +kernel
theorem dGR_init_46 : decode cGR_init 46 = .ok (.newarray .int, 2) := by decide +kernel
theorem dGR_init_48 : decode cGR_init 48 = .ok (.putfield 32, 3) := by decide +kernel
theorem dGR_init_51 : decode cGR_init 51 = .ok (.aload_n 0, 1) := by decide +kernel
theorem dGR_init_52 : decode cGR_init 52 = .ok (.bipush 6, 2) := by decide +kernel
theorem dGR_init_54 : decode cGR_init 54 = .ok (.newarray .int, 2) := by decide +kernel
theorem dGR_init_56 : decode cGR_init 56 = .ok (.putfield 35, 3) := by decide +kernel
theorem dGR_init_59 : decode cGR_init 59 = .ok (.aload_n 0, 1) := by decide +kernel
theorem dGR_init_60 : decode cGR_init 60 = .ok (.bipush 30, 2) := by decide +kernel
theorem dGR_init_62 : decode cGR_init 62 = .ok (.newarray .int, 2) := by decide +kernel
theorem dGR_init_64 : decode cGR_init 64 = .ok (.putfield 38, 3) := by decide +kernel
theorem dGR_init_67 : decode cGR_init 67 = .ok (.return_, 1) := by decide +kernel
theorem dGR_build_0 : decode cGR_build 0 = .ok (.aload_n 0, 1) := by decide +kernel
theorem dGR_build_1 : decode cGR_build 1 = .ok (.iconst 1, 1) := by decide +kernel
theorem dGR_build_2 : decode cGR_build 2 = .ok (.aload_n 0, 1) := by decide +kernel
theorem dGR_build_3 : decode cGR_build 3 = .ok (.getfield 12, 3) := by decide +kernel
theorem dGR_build_6 : decode cGR_build 6 = .ok (.getfield 41, 3) := by decide +kernel
theorem dGR_build_9 : decode cGR_build 9 = .ok (.ishl, 1) := by decide +kernel
theorem dGR_build_10 : decode cGR_build 10 = .ok (.putfield 45, 3) := by decide +kernel
theorem dGR_build_13 : decode cGR_build 13 = .ok (.iconst 0, 1) := by decide +kernel
theorem dGR_build_14 : decode cGR_build 14 = .ok (.istore_n 1, 1) := by decide +kernel
theorem dGR_build_15 : decode cGR_build 15 = .ok (.iload_n 1, 1) := by decide +kernel
theorem dGR_build_16 : decode cGR_build 16 = .ok (.bipush 6, 2) := by decide +kernel
theorem dGR_build_18 : decode cGR_build 18 = .ok (.if_icmp .ge 51, 3) := by decide +kernel
theorem dGR_build_21 : decode cGR_build 21 = .ok (.aload_n 0, 1) := by decide +kernel
theorem dGR_build_22 : decode cGR_build 22 = .ok (.iload_n 1, 1) := by decide +kernel
theorem dGR_build_23 : decode cGR_build 23 = .ok (.invokevirtual 48, 3) := by decide +kernel
theorem dGR_build_26 : decode cGR_build 26 = .ok (.iconst 0, 1) := by decide +kernel
theorem dGR_build_27 : decode cGR_build 27 = .ok (.istore_n 2, 1) := by decide +kernel
theorem dGR_build_28 : decode cGR_build 28 = .ok (.iload_n 2, 1) := by decide +kernel
theorem dGR_build_29 : decode cGR_build 29 = .ok (.bipush 6, 2) := by decide +kernel
theorem dGR_build_31 : decode cGR_build 31 = .ok (.if_icmp .ge 32, 3) := by decide +kernel
theorem dGR_build_34 : decode cGR_build 34 = .ok (.aload_n 0, 1) := by decide +kernel
theorem dGR_build_35 : decode cGR_build 35 = .ok (.getfield 21, 3) := by decide +kernel
theorem dGR_build_38 : decode cGR_build 38 = .ok (.iload_n 2, 1) := by decide +kernel
theorem dGR_build_39 : decode cGR_build 39 = .ok (.iload_n 1, 1) := by decide +kernel
theorem dGR_build_40 : decode cGR_build 40 = .ok (.invokevirtual 52, 3) := by decide +kernel
theorem dGR_build_43 : decode cGR_build 43 = .ok (.ifCond .eq 14, 3) := by decide +kernel
theorem dGR_build_46 : decode cGR_build 46 = .ok (.aload_n 0, 1) := by decide +kernel
theorem dGR_build_47 : decode cGR_build 47 = .ok (.iload_n 2, 1) := by decide +kernel
theorem dGR_build_48 : decode cGR_build 48 = .ok (.invokevirtual 56, 3) := by decide +kernel
theorem dGR_build_51 : decode cGR_build 51 = .ok (.aload_n 0, 1) := by decide +kernel
theorem dGR_build_52 : decode cGR_build 52 = .ok (.iload_n 2, 1) := by decide +kernel
theorem dGR_build_53 : decode cGR_build 53 = .ok (.iload_n 1, 1) := by decide +kernel
theorem dGR_build_54 : decode cGR_build 54 = .ok (.invokevirtual 59, 3) := by decide +kernel
theorem dGR_build_57 : decode cGR_build 57 = .ok (.iinc 2 1, 3) := by decide +kernel
theorem dGR_build_60 : decode cGR_build 60 = .ok (.goto (-32), 3) := by decide +kernel
theorem dGR_build_63 : decode cGR_build 63 = .ok (.iinc 1 1, 3) := by decide +kernel
theorem dGR_build_66 : decode cGR_build 66 = .ok (.goto (-51), 3) := by decide +kernel
theorem dGR_build_69 : decode cGR_build 69 = .ok (.return_, 1) := by decide +kernel
theorem dGR_weighHere_0 : decode cGR_weighHere 0 = .ok (.aload_n 0, 1) := by decide +kernel
theorem dGR_weighHere_1 : decode cGR_weighHere 1 = .ok (.getfield 21, 3) := by decide +kernel
theorem dGR_weighHere_4 : decode cGR_weighHere 4 = .ok (.getfield 63, 3) := by decide +kernel
theorem dGR_weighHere_7 : decode cGR_weighHere 7 = .ok (.iload_n 1, 1) := by decide +kernel
theorem dGR_weighHere_8 : decode cGR_weighHere 8 = .ok (.iaload, 1) := by decide +kernel
theorem dGR_weighHere_9 : decode cGR_weighHere 9 = .ok (.istore_n 2, 1) := by decide +kernel
theorem dGR_weighHere_10 : decode cGR_weighHere 10 = .ok (.aload_n 0, 1) := by decide +kernel
theorem dGR_weighHere_11 : decode cGR_weighHere 11 = .ok (.getfield 12, 3) := by decide +kernel
theorem dGR_weighHere_14 : decode cGR_weighHere 14 = .ok (.getfield 66, 3) := by decide +kernel
theorem dGR_weighHere_17 : decode cGR_weighHere 17 = .ok (.iconst 1, 1) := by decide +kernel
theorem dGR_weighHere_18 : decode cGR_weighHere 18 = .ok (.isub, 1) := by decide +kernel
theorem dGR_weighHere_19 : decode cGR_weighHere 19 = .ok (.istore_n 3, 1) := by decide +kernel
theorem dGR_weighHere_20 : decode cGR_weighHere 20 = .ok (.iload_n 3, 1) := by decide +kernel
theorem dGR_weighHere_21 : decode cGR_weighHere 21 = .ok (.ifCond .lt 51, 3) := by decide +kernel
theorem dGR_weighHere_24 : decode cGR_weighHere 24 = .ok (.aload_n 0, 1) := by decide +kernel
theorem dGR_weighHere_25 : decode cGR_weighHere 25 = .ok (.getfield 12, 3) := by decide +kernel
theorem dGR_weighHere_28 : decode cGR_weighHere 28 = .ok (.getfield 69, 3) := by decide +kernel
theorem dGR_weighHere_31 : decode cGR_weighHere 31 = .ok (.iload_n 3, 1) := by decide +kernel
theorem dGR_weighHere_32 : decode cGR_weighHere 32 = .ok (.iaload, 1) := by decide +kernel
theorem dGR_weighHere_33 : decode cGR_weighHere 33 = .ok (.istore 4, 2) := by decide +kernel
theorem dGR_weighHere_35 : decode cGR_weighHere 35 = .ok (.aload_n 0, 1) := by decide +kernel
theorem dGR_weighHere_36 : decode cGR_weighHere 36 = .ok (.getfield 25, 3) := by decide +kernel
theorem dGR_weighHere_39 : decode cGR_weighHere 39 = .ok (.iload_n 3, 1) := by decide +kernel
theorem dGR_weighHere_40 : decode cGR_weighHere 40 = .ok (.iload 4, 2) := by decide +kernel
theorem dGR_weighHere_42 : decode cGR_weighHere 42 = .ok (.iconst (-1), 1) := by decide +kernel
theorem dGR_weighHere_43 : decode cGR_weighHere 43 = .ok (.if_icmp .ne 16, 3) := by decide +kernel
theorem dGR_weighHere_46 : decode cGR_weighHere 46 = .ok (.aload_n 0, 1) := by decide +kernel
theorem dGR_weighHere_47 : decode cGR_weighHere 47 = .ok (.aload_n 0, 1) := by decide +kernel
theorem dGR_weighHere_48 : decode cGR_weighHere 48 = .ok (.getfield 25, 3) := by decide +kernel
theorem dGR_weighHere_51 : decode cGR_weighHere 51 = .ok (.iload_n 3, 1) := by decide +kernel
theorem dGR_weighHere_52 : decode cGR_weighHere 52 = .ok (.iload_n 2, 1) := by decide +kernel
theorem dGR_weighHere_53 : decode cGR_weighHere 53 = .ok (.invokevirtual 72, 3) := by decide +kernel
theorem dGR_weighHere_56 : decode cGR_weighHere 56 = .ok (.goto 9, 3) := by decide +kernel
theorem dGR_weighHere_59 : decode cGR_weighHere 59 = .ok (.getstatic 76, 3) := by decide +kernel
theorem dGR_weighHere_62 : decode cGR_weighHere 62 = .ok (.iload 4, 2) := by decide +kernel
theorem dGR_weighHere_64 : decode cGR_weighHere 64 = .ok (.iaload, 1) := by decide +kernel
theorem dGR_weighHere_65 : decode cGR_weighHere 65 = .ok (.iastore, 1) := by decide +kernel
theorem dGR_weighHere_66 : decode cGR_weighHere 66 = .ok (.iinc 3 (-1), 3) := by decide +kernel
theorem dGR_weighHere_69 : decode cGR_weighHere 69 = .ok (.goto (-49), 3) := by decide +kernel
theorem dGR_weighHere_72 : decode cGR_weighHere 72 = .ok (.aload_n 0, 1) := by decide +kernel
theorem dGR_weighHere_73 : decode cGR_weighHere 73 = .ok (.getfield 35, 3) := by decide +kernel
theorem dGR_weighHere_76 : decode cGR_weighHere 76 = .ok (.iload_n 1, 1) := by decide +kernel
theorem dGR_weighHere_77 : decode cGR_weighHere 77 = .ok (.aload_n 0, 1) := by decide +kernel
theorem dGR_weighHere_78 : decode cGR_weighHere 78 = .ok (.getfield 25, 3) := by decide +kernel
theorem dGR_weighHere_81 : decode cGR_weighHere 81 = .ok (.iconst 0, 1) := by decide +kernel
theorem dGR_weighHere_82 : decode cGR_weighHere 82 = .ok (.iaload, 1) := by decide +kernel
theorem dGR_weighHere_83 : decode cGR_weighHere 83 = .ok (.iastore, 1) := by decide +kernel
theorem dGR_weighHere_84 : decode cGR_weighHere 84 = .ok (.iconst 0, 1) := by decide +kernel
theorem dGR_weighHere_85 : decode cGR_weighHere 85 = .ok (.istore_n 3, 1) := by decide +kernel
theorem dGR_weighHere_86 : decode cGR_weighHere 86 = .ok (.iload_n 3, 1) := by decide +kernel
theorem dGR_weighHere_87 : decode cGR_weighHere 87 = .ok (.aload_n 0, 1) := by decide +kernel
theorem dGR_weighHere_88 : decode cGR_weighHere 88 = .ok (.getfield 12, 3) := by decide +kernel
theorem dGR_weighHere_91 : decode cGR_weighHere 91 = .ok (.getfield 41, 3) := by decide +kernel
theorem dGR_weighHere_94 : decode cGR_weighHere 94 = .ok (.if_icmp .ge 33, 3) := by decide +kernel
theorem dGR_weighHere_97 : decode cGR_weighHere 97 = .ok (.aload_n 0, 1) := by decide +kernel
theorem dGR_weighHere_98 : decode cGR_weighHere 98 = .ok (.getfield 38, 3) := by decide +kernel
theorem dGR_weighHere_101 : decode cGR_weighHere 101 = .ok (.iload_n 1, 1) := by decide +kernel
theorem dGR_weighHere_102 : decode cGR_weighHere 102 = .ok (.iconst 5, 1) := by decide +kernel
theorem dGR_weighHere_103 : decode cGR_weighHere 103 = .ok (.imul, 1) := by decide +kernel
theorem dGR_weighHere_104 : decode cGR_weighHere 104 = .ok (.iload_n 3, 1) := by decide +kernel
theorem dGR_weighHere_105 : decode cGR_weighHere 105 = .ok (.iadd, 1) := by decide +kernel
theorem dGR_weighHere_106 : decode cGR_weighHere 106 = .ok (.aload_n 0, 1) := by decide +kernel
theorem dGR_weighHere_107 : decode cGR_weighHere 107 = .ok (.aload_n 0, 1) := by decide +kernel
theorem dGR_weighHere_108 : decode cGR_weighHere 108 = .ok (.getfield 12, 3) := by decide +kernel
theorem dGR_weighHere_111 : decode cGR_weighHere 111 = .ok (.getfield 79, 3) := by decide +kernel
theorem dGR_weighHere_114 : decode cGR_weighHere 114 = .ok (.iload_n 3, 1) := by decide +kernel
theorem dGR_weighHere_115 : decode cGR_weighHere 115 = .ok (.iaload, 1) := by decide +kernel
theorem dGR_weighHere_116 : decode cGR_weighHere 116 = .ok (.iload_n 3, 1) := by decide +kernel
theorem dGR_weighHere_117 : decode cGR_weighHere 117 = .ok (.invokevirtual 82, 3) := by decide +kernel
theorem dGR_weighHere_120 : decode cGR_weighHere 120 = .ok (.iastore, 1) := by decide +kernel
theorem dGR_weighHere_121 : decode cGR_weighHere 121 = .ok (.iinc 3 1, 3) := by decide +kernel
theorem dGR_weighHere_124 : decode cGR_weighHere 124 = .ok (.goto (-38), 3) := by decide +kernel
theorem dGR_weighHere_127 : decode cGR_weighHere 127 = .ok (.return_, 1) := by decide +kernel
theorem dGR_promptGuesses_0 : decode cGR_promptGuesses 0 = .ok (.aload_n 0, 1) := by decide +kernel
theorem dGR_promptGuesses_1 : decode cGR_promptGuesses 1 = .ok (.getfield 12, 3) := by decide +kernel
theorem dGR_promptGuesses_4 : decode cGR_promptGuesses 4 = .ok (.getfield 86, 3) := by decide +kernel
theorem dGR_promptGuesses_7 : decode cGR_promptGuesses 7 = .ok (.iload_n 1, 1) := by decide +kernel
theorem dGR_promptGuesses_8 : decode cGR_promptGuesses 8 = .ok (.caload, 1) := by decide +kernel
theorem dGR_promptGuesses_9 : decode cGR_promptGuesses 9 = .ok (.lookupswitch 73 #[(82, 50), (85, 27)], 27) := by decide +kernel
theorem dGR_promptGuesses_36 : decode cGR_promptGuesses 36 = .ok (.getstatic 76, 3) := by decide +kernel
theorem dGR_promptGuesses_39 : decode cGR_promptGuesses 39 = .ok (.iload_n 2, 1) := by decide +kernel
theorem dGR_promptGuesses_40 : decode cGR_promptGuesses 40 = .ok (.iaload, 1) := by decide +kernel
theorem dGR_promptGuesses_41 : decode cGR_promptGuesses 41 = .ok (.iconst (-1), 1) := by decide +kernel
theorem dGR_promptGuesses_42 : decode cGR_promptGuesses 42 = .ok (.ixor, 1) := by decide +kernel
theorem dGR_promptGuesses_43 : decode cGR_promptGuesses 43 = .ok (.aload_n 0, 1) := by decide +kernel
theorem dGR_promptGuesses_44 : decode cGR_promptGuesses 44 = .ok (.getfield 25, 3) := by decide +kernel
theorem dGR_promptGuesses_47 : decode cGR_promptGuesses 47 = .ok (.aload_n 0, 1) := by decide +kernel
theorem dGR_promptGuesses_48 : decode cGR_promptGuesses 48 = .ok (.getfield 12, 3) := by decide +kernel
theorem dGR_promptGuesses_51 : decode cGR_promptGuesses 51 = .ok (.getfield 90, 3) := by decide +kernel
theorem dGR_promptGuesses_54 : decode cGR_promptGuesses 54 = .ok (.iload_n 1, 1) := by decide +kernel
theorem dGR_promptGuesses_55 : decode cGR_promptGuesses 55 = .ok (.iaload, 1) := by decide +kernel
theorem dGR_promptGuesses_56 : decode cGR_promptGuesses 56 = .ok (.iaload, 1) := by decide +kernel
theorem dGR_promptGuesses_57 : decode cGR_promptGuesses 57 = .ok (.ior, 1) := by decide +kernel
theorem dGR_promptGuesses_58 : decode cGR_promptGuesses 58 = .ok (.ireturn, 1) := by decide +kernel
theorem dGR_promptGuesses_59 : decode cGR_promptGuesses 59 = .ok (.getstatic 76, 3) := by decide +kernel
theorem dGR_promptGuesses_62 : decode cGR_promptGuesses 62 = .ok (.iload_n 2, 1) := by decide +kernel
theorem dGR_promptGuesses_63 : decode cGR_promptGuesses 63 = .ok (.iaload, 1) := by decide +kernel
theorem dGR_promptGuesses_64 : decode cGR_promptGuesses 64 = .ok (.aload_n 0, 1) := by decide +kernel
theorem dGR_promptGuesses_65 : decode cGR_promptGuesses 65 = .ok (.getfield 25, 3) := by decide +kernel
theorem dGR_promptGuesses_68 : decode cGR_promptGuesses 68 = .ok (.aload_n 0, 1) := by decide +kernel
theorem dGR_promptGuesses_69 : decode cGR_promptGuesses 69 = .ok (.getfield 12, 3) := by decide +kernel
theorem dGR_promptGuesses_72 : decode cGR_promptGuesses 72 = .ok (.getfield 90, 3) := by decide +kernel
theorem dGR_promptGuesses_75 : decode cGR_promptGuesses 75 = .ok (.iload_n 1, 1) := by decide +kernel
theorem dGR_promptGuesses_76 : decode cGR_promptGuesses 76 = .ok (.iaload, 1) := by decide +kernel
theorem dGR_promptGuesses_77 : decode cGR_promptGuesses 77 = .ok (.iaload, 1) := by decide +kernel
theorem dGR_promptGuesses_78 : decode cGR_promptGuesses 78 = .ok (.iconst (-1), 1) := by decide +kernel
theorem dGR_promptGuesses_79 : decode cGR_promptGuesses 79 = .ok (.ixor, 1) := by decide +kernel
theorem dGR_promptGuesses_80 : decode cGR_promptGuesses 80 = .ok (.ior, 1) := by decide +kernel
theorem dGR_promptGuesses_81 : decode cGR_promptGuesses 81 = .ok (.ireturn, 1) := by decide +kernel
theorem dGR_promptGuesses_82 : decode cGR_promptGuesses 82 = .ok (.iconst (-1), 1) := by decide +kernel
theorem dGR_promptGuesses_83 : decode cGR_promptGuesses 83 = .ok (.ireturn, 1) := by decide +kernel
theorem dGR_weighBefore_0 : decode cGR_weighBefore 0 = .ok (.aload_n 0, 1) := by decide +kernel
theorem dGR_weighBefore_1 : decode cGR_weighBefore 1 = .ok (.getfield 21, 3) := by decide +kernel
theorem dGR_weighBefore_4 : decode cGR_weighBefore 4 = .ok (.getfield 63, 3) := by decide +kernel
theorem dGR_weighBefore_7 : decode cGR_weighBefore 7 = .ok (.iload_n 1, 1) := by decide +kernel
theorem dGR_weighBefore_8 : decode cGR_weighBefore 8 = .ok (.iaload, 1) := by decide +kernel
theorem dGR_weighBefore_9 : decode cGR_weighBefore 9 = .ok (.istore_n 2, 1) := by decide +kernel
theorem dGR_weighBefore_10 : decode cGR_weighBefore 10 = .ok (.aload_n 0, 1) := by decide +kernel
theorem dGR_weighBefore_11 : decode cGR_weighBefore 11 = .ok (.getfield 12, 3) := by decide +kernel
theorem dGR_weighBefore_14 : decode cGR_weighBefore 14 = .ok (.getfield 66, 3) := by decide +kernel
theorem dGR_weighBefore_17 : decode cGR_weighBefore 17 = .ok (.iconst 1, 1) := by decide +kernel
theorem dGR_weighBefore_18 : decode cGR_weighBefore 18 = .ok (.isub, 1) := by decide +kernel
theorem dGR_weighBefore_19 : decode cGR_weighBefore 19 = .ok (.istore_n 3, 1) := by decide +kernel
theorem dGR_weighBefore_20 : decode cGR_weighBefore 20 = .ok (.iload_n 3, 1) := by decide +kernel
theorem dGR_weighBefore_21 : decode cGR_weighBefore 21 = .ok (.ifCond .lt 52, 3) := by decide +kernel
theorem dGR_weighBefore_24 : decode cGR_weighBefore 24 = .ok (.aload_n 0, 1) := by decide +kernel
theorem dGR_weighBefore_25 : decode cGR_weighBefore 25 = .ok (.getfield 12, 3) := by decide +kernel
theorem dGR_weighBefore_28 : decode cGR_weighBefore 28 = .ok (.getfield 69, 3) := by decide +kernel
theorem dGR_weighBefore_31 : decode cGR_weighBefore 31 = .ok (.iload_n 3, 1) := by decide +kernel
theorem dGR_weighBefore_32 : decode cGR_weighBefore 32 = .ok (.iaload, 1) := by decide +kernel
theorem dGR_weighBefore_33 : decode cGR_weighBefore 33 = .ok (.istore 4, 2) := by decide +kernel
theorem dGR_weighBefore_35 : decode cGR_weighBefore 35 = .ok (.aload_n 0, 1) := by decide +kernel
theorem dGR_weighBefore_36 : decode cGR_weighBefore 36 = .ok (.getfield 29, 3) := by decide +kernel
theorem dGR_weighBefore_39 : decode cGR_weighBefore 39 = .ok (.iload_n 3, 1) := by decide +kernel
theorem dGR_weighBefore_40 : decode cGR_weighBefore 40 = .ok (.iload 4, 2) := by decide +kernel
theorem dGR_weighBefore_42 : decode cGR_weighBefore 42 = .ok (.iconst (-1), 1) := by decide +kernel
theorem dGR_weighBefore_43 : decode cGR_weighBefore 43 = .ok (.if_icmp .ne 16, 3) := by decide +kernel
theorem dGR_weighBefore_46 : decode cGR_weighBefore 46 = .ok (.aload_n 0, 1) := by decide +kernel
theorem dGR_weighBefore_47 : decode cGR_weighBefore 47 = .ok (.aload_n 0, 1) := by decide +kernel
theorem dGR_weighBefore_48 : decode cGR_weighBefore 48 = .ok (.getfield 29, 3) := by decide +kernel
theorem dGR_weighBefore_51 : decode cGR_weighBefore 51 = .ok (.iload_n 3, 1) := by decide +kernel
theorem dGR_weighBefore_52 : decode cGR_weighBefore 52 = .ok (.iload_n 2, 1) := by decide +kernel
theorem dGR_weighBefore_53 : decode cGR_weighBefore 53 = .ok (.invokevirtual 72, 3) := by decide +kernel
theorem dGR_weighBefore_56 : decode cGR_weighBefore 56 = .ok (.goto 10, 3) := by decide +kernel
theorem dGR_weighBefore_59 : decode cGR_weighBefore 59 = .ok (.aload_n 0, 1) := by decide +kernel
theorem dGR_weighBefore_60 : decode cGR_weighBefore 60 = .ok (.iload_n 3, 1) := by decide +kernel
theorem dGR_weighBefore_61 : decode cGR_weighBefore 61 = .ok (.iload 4, 2) := by decide +kernel
theorem dGR_weighBefore_63 : decode cGR_weighBefore 63 = .ok (.invokevirtual 93, 3) := by decide +kernel
theorem dGR_weighBefore_66 : decode cGR_weighBefore 66 = .ok (.iastore, 1) := by decide +kernel
theorem dGR_weighBefore_67 : decode cGR_weighBefore 67 = .ok (.iinc 3 (-1), 3) := by decide +kernel
theorem dGR_weighBefore_70 : decode cGR_weighBefore 70 = .ok (.goto (-50), 3) := by decide +kernel
theorem dGR_weighBefore_73 : decode cGR_weighBefore 73 = .ok (.return_, 1) := by decide +kernel
theorem dGR_timedBefore_0 : decode cGR_timedBefore 0 = .ok (.aload_n 0, 1) := by decide +kernel
theorem dGR_timedBefore_1 : decode cGR_timedBefore 1 = .ok (.getfield 12, 3) := by decide +kernel
theorem dGR_timedBefore_4 : decode cGR_timedBefore 4 = .ok (.getfield 90, 3) := by decide +kernel
theorem dGR_timedBefore_7 : decode cGR_timedBefore 7 = .ok (.iload_n 1, 1) := by decide +kernel
theorem dGR_timedBefore_8 : decode cGR_timedBefore 8 = .ok (.iaload, 1) := by decide +kernel
theorem dGR_timedBefore_9 : decode cGR_timedBefore 9 = .ok (.istore_n 3, 1) := by decide +kernel
theorem dGR_timedBefore_10 : decode cGR_timedBefore 10 = .ok (.aload_n 0, 1) := by decide +kernel
theorem dGR_timedBefore_11 : decode cGR_timedBefore 11 = .ok (.getfield 12, 3) := by decide +kernel
theorem dGR_timedBefore_14 : decode cGR_timedBefore 14 = .ok (.getfield 86, 3) := by decide +kernel
theorem dGR_timedBefore_17 : decode cGR_timedBefore 17 = .ok (.iload_n 1, 1) := by decide +kernel
theorem dGR_timedBefore_18 : decode cGR_timedBefore 18 = .ok (.caload, 1) := by decide +kernel
theorem dGR_timedBefore_19 : decode cGR_timedBefore 19 = .ok (.lookupswitch 69 #[(82, 47), (85, 25)], 25) := by decide +kernel
theorem dGR_timedBefore_44 : decode cGR_timedBefore 44 = .ok (.aload_n 0, 1) := by decide +kernel
theorem dGR_timedBefore_45 : decode cGR_timedBefore 45 = .ok (.getfield 29, 3) := by decide +kernel
theorem dGR_timedBefore_48 : decode cGR_timedBefore 48 = .ok (.iload_n 3, 1) := by decide +kernel
theorem dGR_timedBefore_49 : decode cGR_timedBefore 49 = .ok (.iaload, 1) := by decide +kernel
theorem dGR_timedBefore_50 : decode cGR_timedBefore 50 = .ok (.aload_n 0, 1) := by decide +kernel
theorem dGR_timedBefore_51 : decode cGR_timedBefore 51 = .ok (.getfield 29, 3) := by decide +kernel
theorem dGR_timedBefore_54 : decode cGR_timedBefore 54 = .ok (.iload_n 1, 1) := by decide +kernel
theorem dGR_timedBefore_55 : decode cGR_timedBefore 55 = .ok (.iconst 1, 1) := by decide +kernel
theorem dGR_timedBefore_56 : decode cGR_timedBefore 56 = .ok (.iadd, 1) := by decide +kernel
theorem dGR_timedBefore_57 : decode cGR_timedBefore 57 = .ok (.iaload, 1) := by decide +kernel
theorem dGR_timedBefore_58 : decode cGR_timedBefore 58 = .ok (.getstatic 76, 3) := by decide +kernel
theorem dGR_timedBefore_61 : decode cGR_timedBefore 61 = .ok (.iload_n 2, 1) := by decide +kernel
theorem dGR_timedBefore_62 : decode cGR_timedBefore 62 = .ok (.iaload, 1) := by decide +kernel
theorem dGR_timedBefore_63 : decode cGR_timedBefore 63 = .ok (.iand, 1) := by decide +kernel
theorem dGR_timedBefore_64 : decode cGR_timedBefore 64 = .ok (.ior, 1) := by decide +kernel
theorem dGR_timedBefore_65 : decode cGR_timedBefore 65 = .ok (.ireturn, 1) := by decide +kernel
theorem dGR_timedBefore_66 : decode cGR_timedBefore 66 = .ok (.aload_n 0, 1) := by decide +kernel
theorem dGR_timedBefore_67 : decode cGR_timedBefore 67 = .ok (.getfield 29, 3) := by decide +kernel
theorem dGR_timedBefore_70 : decode cGR_timedBefore 70 = .ok (.iload_n 3, 1) := by decide +kernel
theorem dGR_timedBefore_71 : decode cGR_timedBefore 71 = .ok (.iaload, 1) := by decide +kernel
theorem dGR_timedBefore_72 : decode cGR_timedBefore 72 = .ok (.aload_n 0, 1) := by decide +kernel
theorem dGR_timedBefore_73 : decode cGR_timedBefore 73 = .ok (.getfield 29, 3) := by decide +kernel
theorem dGR_timedBefore_76 : decode cGR_timedBefore 76 = .ok (.iload_n 1, 1) := by decide +kernel
theorem dGR_timedBefore_77 : decode cGR_timedBefore 77 = .ok (.iconst 1, 1) := by decide +kernel
theorem dGR_timedBefore_78 : decode cGR_timedBefore 78 = .ok (.iadd, 1) := by decide +kernel
theorem dGR_timedBefore_79 : decode cGR_timedBefore 79 = .ok (.iaload, 1) := by decide +kernel
theorem dGR_timedBefore_80 : decode cGR_timedBefore 80 = .ok (.getstatic 76, 3) := by decide +kernel
theorem dGR_timedBefore_83 : decode cGR_timedBefore 83 = .ok (.iload_n 2, 1) := by decide +kernel
theorem dGR_timedBefore_84 : decode cGR_timedBefore 84 = .ok (.iaload, 1) := by decide +kernel
theorem dGR_timedBefore_85 : decode cGR_timedBefore 85 = .ok (.ior, 1) := by decide +kernel
theorem dGR_timedBefore_86 : decode cGR_timedBefore 86 = .ok (.iand, 1) := by decide +kernel
theorem dGR_timedBefore_87 : decode cGR_timedBefore 87 = .ok (.ireturn, 1) := by decide +kernel
theorem dGR_timedBefore_88 : decode cGR_timedBefore 88 = .ok (.aload_n 0, 1) := by decide +kernel
theorem dGR_timedBefore_89 : decode cGR_timedBefore 89 = .ok (.getfield 25, 3) := by decide +kernel
theorem dGR_timedBefore_92 : decode cGR_timedBefore 92 = .ok (.iload_n 1, 1) := by decide +kernel
theorem dGR_timedBefore_93 : decode cGR_timedBefore 93 = .ok (.iconst 1, 1) := by decide +kernel
theorem dGR_timedBefore_94 : decode cGR_timedBefore 94 = .ok (.iadd, 1) := by decide +kernel
theorem dGR_timedBefore_95 : decode cGR_timedBefore 95 = .ok (.iaload, 1) := by decide +kernel
theorem dGR_timedBefore_96 : decode cGR_timedBefore 96 = .ok (.ireturn, 1) := by decide +kernel
theorem dGR_untimed_0 : decode cGR_untimed 0 = .ok (.aload_n 0, 1) := by decide +kernel
theorem dGR_untimed_1 : decode cGR_untimed 1 = .ok (.getfield 12, 3) := by decide +kernel
theorem dGR_untimed_4 : decode cGR_untimed 4 = .ok (.getfield 86, 3) := by decide +kernel
theorem dGR_untimed_7 : decode cGR_untimed 7 = .ok (.iload_n 2, 1) := by decide +kernel
theorem dGR_untimed_8 : decode cGR_untimed 8 = .ok (.caload, 1) := by decide +kernel
theorem dGR_untimed_9 : decode cGR_untimed 9 = .ok (.lookupswitch 63 #[(38, 27), (124, 45)], 27) := by decide +kernel
theorem dGR_untimed_36 : decode cGR_untimed 36 = .ok (.aload_n 1, 1) := by decide +kernel
theorem dGR_untimed_37 : decode cGR_untimed 37 = .ok (.iload_n 2, 1) := by decide +kernel
theorem dGR_untimed_38 : decode cGR_untimed 38 = .ok (.iconst 1, 1) := by decide +kernel
theorem dGR_untimed_39 : decode cGR_untimed 39 = .ok (.iadd, 1) := by decide +kernel
theorem dGR_untimed_40 : decode cGR_untimed 40 = .ok (.iaload, 1) := by decide +kernel
theorem dGR_untimed_41 : decode cGR_untimed 41 = .ok (.aload_n 1, 1) := by decide +kernel
theorem dGR_untimed_42 : decode cGR_untimed 42 = .ok (.aload_n 0, 1) := by decide +kernel
theorem dGR_untimed_43 : decode cGR_untimed 43 = .ok (.getfield 12, 3) := by decide +kernel
theorem dGR_untimed_46 : decode cGR_untimed 46 = .ok (.getfield 90, 3) := by decide +kernel
theorem dGR_untimed_49 : decode cGR_untimed 49 = .ok (.iload_n 2, 1) := by decide +kernel
theorem dGR_untimed_50 : decode cGR_untimed 50 = .ok (.iaload, 1) := by decide +kernel
theorem dGR_untimed_51 : decode cGR_untimed 51 = .ok (.iaload, 1) := by decide +kernel
theorem dGR_untimed_52 : decode cGR_untimed 52 = .ok (.iand, 1) := by decide +kernel
theorem dGR_untimed_53 : decode cGR_untimed 53 = .ok (.ireturn, 1) := by decide +kernel
theorem dGR_untimed_54 : decode cGR_untimed 54 = .ok (.aload_n 1, 1) := by decide +kernel
theorem dGR_untimed_55 : decode cGR_untimed 55 = .ok (.iload_n 2, 1) := by decide +kernel
theorem dGR_untimed_56 : decode cGR_untimed 56 = .ok (.iconst 1, 1) := by decide +kernel
theorem dGR_untimed_57 : decode cGR_untimed 57 = .ok (.iadd, 1) := by decide +kernel
theorem dGR_untimed_58 : decode cGR_untimed 58 = .ok (.iaload, 1) := by decide +kernel
theorem dGR_untimed_59 : decode cGR_untimed 59 = .ok (.aload_n 1, 1) := by decide +kernel
theorem dGR_untimed_60 : decode cGR_untimed 60 = .ok (.aload_n 0, 1) := by decide +kernel
theorem dGR_untimed_61 : decode cGR_untimed 61 = .ok (.getfield 12, 3) := by decide +kernel
theorem dGR_untimed_64 : decode cGR_untimed 64 = .ok (.getfield 90, 3) := by decide +kernel
theorem dGR_untimed_67 : decode cGR_untimed 67 = .ok (.iload_n 2, 1) := by decide +kernel
theorem dGR_untimed_68 : decode cGR_untimed 68 = .ok (.iaload, 1) := by decide +kernel
theorem dGR_untimed_69 : decode cGR_untimed 69 = .ok (.iaload, 1) := by decide +kernel
theorem dGR_untimed_70 : decode cGR_untimed 70 = .ok (.ior, 1) := by decide +kernel
theorem dGR_untimed_71 : decode cGR_untimed 71 = .ok (.ireturn, 1) := by decide +kernel
theorem dGR_untimed_72 : decode cGR_untimed 72 = .ok (.aload_n 0, 1) := by decide +kernel
theorem dGR_untimed_73 : decode cGR_untimed 73 = .ok (.getfield 12, 3) := by decide +kernel
theorem dGR_untimed_76 : decode cGR_untimed 76 = .ok (.getfield 86, 3) := by decide +kernel
theorem dGR_untimed_79 : decode cGR_untimed 79 = .ok (.iload_n 2, 1) := by decide +kernel
theorem dGR_untimed_80 : decode cGR_untimed 80 = .ok (.caload, 1) := by decide +kernel
theorem dGR_untimed_81 : decode cGR_untimed 81 = .ok (.iload_n 3, 1) := by decide +kernel
theorem dGR_untimed_82 : decode cGR_untimed 82 = .ok (.invokestatic 96, 3) := by decide +kernel
theorem dGR_untimed_85 : decode cGR_untimed 85 = .ok (.ifCond .eq 7, 3) := by decide +kernel
theorem dGR_untimed_88 : decode cGR_untimed 88 = .ok (.iconst (-1), 1) := by decide +kernel
theorem dGR_untimed_89 : decode cGR_untimed 89 = .ok (.goto 4, 3) := by decide +kernel
theorem dGR_untimed_92 : decode cGR_untimed 92 = .ok (.iconst 0, 1) := by decide +kernel
theorem dGR_untimed_93 : decode cGR_untimed 93 = .ok (.ireturn, 1) := by decide +kernel
theorem dGR_writeGuesses_0 : decode cGR_writeGuesses 0 = .ok (.iconst 0, 1) := by decide +kernel
theorem dGR_writeGuesses_1 : decode cGR_writeGuesses 1 = .ok (.istore_n 3, 1) := by decide +kernel
theorem dGR_writeGuesses_2 : decode cGR_writeGuesses 2 = .ok (.iload_n 3, 1) := by decide +kernel
theorem dGR_writeGuesses_3 : decode cGR_writeGuesses 3 = .ok (.aload_n 0, 1) := by decide +kernel
theorem dGR_writeGuesses_4 : decode cGR_writeGuesses 4 = .ok (.getfield 45, 3) := by decide +kernel
theorem dGR_writeGuesses_7 : decode cGR_writeGuesses 7 = .ok (.if_icmp .ge 78, 3) := by decide +kernel
theorem dGR_writeGuesses_10 : decode cGR_writeGuesses 10 = .ok (.iconst 0, 1) := by decide +kernel
theorem dGR_writeGuesses_11 : decode cGR_writeGuesses 11 = .ok (.istore 4, 2) := by decide +kernel
theorem dGR_writeGuesses_13 : decode cGR_writeGuesses 13 = .ok (.iconst 0, 1) := by decide +kernel
theorem dGR_writeGuesses_14 : decode cGR_writeGuesses 14 = .ok (.istore 5, 2) := by decide +kernel
theorem dGR_writeGuesses_16 : decode cGR_writeGuesses 16 = .ok (.iload 5, 2) := by decide +kernel
theorem dGR_writeGuesses_18 : decode cGR_writeGuesses 18 = .ok (.aload_n 0, 1) := by decide +kernel
theorem dGR_writeGuesses_19 : decode cGR_writeGuesses 19 = .ok (.getfield 12, 3) := by decide +kernel
theorem dGR_writeGuesses_22 : decode cGR_writeGuesses 22 = .ok (.getfield 41, 3) := by decide +kernel
theorem dGR_writeGuesses_25 : decode cGR_writeGuesses 25 = .ok (.if_icmp .ge 36, 3) := by decide +kernel
theorem dGR_writeGuesses_28 : decode cGR_writeGuesses 28 = .ok (.iload 4, 2) := by decide +kernel
theorem dGR_writeGuesses_30 : decode cGR_writeGuesses 30 = .ok (.aload_n 0, 1) := by decide +kernel
theorem dGR_writeGuesses_31 : decode cGR_writeGuesses 31 = .ok (.getfield 29, 3) := by decide +kernel
theorem dGR_writeGuesses_34 : decode cGR_writeGuesses 34 = .ok (.aload_n 0, 1) := by decide +kernel
theorem dGR_writeGuesses_35 : decode cGR_writeGuesses 35 = .ok (.getfield 12, 3) := by decide +kernel
theorem dGR_writeGuesses_38 : decode cGR_writeGuesses 38 = .ok (.getfield 79, 3) := by decide +kernel
theorem dGR_writeGuesses_41 : decode cGR_writeGuesses 41 = .ok (.iload 5, 2) := by decide +kernel
theorem dGR_writeGuesses_43 : decode cGR_writeGuesses 43 = .ok (.iaload, 1) := by decide +kernel
theorem dGR_writeGuesses_44 : decode cGR_writeGuesses 44 = .ok (.iaload, 1) := by decide +kernel
theorem dGR_writeGuesses_45 : decode cGR_writeGuesses 45 = .ok (.iload_n 3, 1) := by decide +kernel
theorem dGR_writeGuesses_46 : decode cGR_writeGuesses 46 = .ok (.iushr, 1) := by decide +kernel
theorem dGR_writeGuesses_47 : decode cGR_writeGuesses 47 = .ok (.iconst 1, 1) := by decide +kernel
theorem dGR_writeGuesses_48 : decode cGR_writeGuesses 48 = .ok (.iand, 1) := by decide +kernel
theorem dGR_writeGuesses_49 : decode cGR_writeGuesses 49 = .ok (.iload 5, 2) := by decide +kernel
theorem dGR_writeGuesses_51 : decode cGR_writeGuesses 51 = .ok (.ishl, 1) := by decide +kernel
theorem dGR_writeGuesses_52 : decode cGR_writeGuesses 52 = .ok (.ior, 1) := by decide +kernel
theorem dGR_writeGuesses_53 : decode cGR_writeGuesses 53 = .ok (.istore 4, 2) := by decide +kernel
theorem dGR_writeGuesses_55 : decode cGR_writeGuesses 55 = .ok (.iinc 5 1, 3) := by decide +kernel
theorem dGR_writeGuesses_58 : decode cGR_writeGuesses 58 = .ok (.goto (-42), 3) := by decide +kernel
theorem dGR_writeGuesses_61 : decode cGR_writeGuesses 61 = .ok (.aload_n 0, 1) := by decide +kernel
theorem dGR_writeGuesses_62 : decode cGR_writeGuesses 62 = .ok (.getfield 32, 3) := by decide +kernel
theorem dGR_writeGuesses_65 : decode cGR_writeGuesses 65 = .ok (.iload_n 1, 1) := by decide +kernel
theorem dGR_writeGuesses_66 : decode cGR_writeGuesses 66 = .ok (.bipush 6, 2) := by decide +kernel
theorem dGR_writeGuesses_68 : decode cGR_writeGuesses 68 = .ok (.imul, 1) := by decide +kernel
theorem dGR_writeGuesses_69 : decode cGR_writeGuesses 69 = .ok (.iload_n 2, 1) := by decide +kernel
theorem dGR_writeGuesses_70 : decode cGR_writeGuesses 70 = .ok (.iadd, 1) := by decide +kernel
theorem dGR_writeGuesses_71 : decode cGR_writeGuesses 71 = .ok (.bipush 32, 2) := by decide +kernel
theorem dGR_writeGuesses_73 : decode cGR_writeGuesses 73 = .ok (.imul, 1) := by decide +kernel
theorem dGR_writeGuesses_74 : decode cGR_writeGuesses 74 = .ok (.iload_n 3, 1) := by decide +kernel
theorem dGR_writeGuesses_75 : decode cGR_writeGuesses 75 = .ok (.iadd, 1) := by decide +kernel
theorem dGR_writeGuesses_76 : decode cGR_writeGuesses 76 = .ok (.iload 4, 2) := by decide +kernel
theorem dGR_writeGuesses_78 : decode cGR_writeGuesses 78 = .ok (.iastore, 1) := by decide +kernel
theorem dGR_writeGuesses_79 : decode cGR_writeGuesses 79 = .ok (.iinc 3 1, 3) := by decide +kernel
theorem dGR_writeGuesses_82 : decode cGR_writeGuesses 82 = .ok (.goto (-80), 3) := by decide +kernel
theorem dGR_writeGuesses_85 : decode cGR_writeGuesses 85 = .ok (.return_, 1) := by decide +kernel
theorem dGR_guessBefore_0 : decode cGR_guessBefore 0 = .ok (.aload_n 0, 1) := by decide +kernel
theorem dGR_guessBefore_1 : decode cGR_guessBefore 1 = .ok (.getfield 32, 3) := by decide +kernel
theorem dGR_guessBefore_4 : decode cGR_guessBefore 4 = .ok (.iload_n 1, 1) := by decide +kernel
theorem dGR_guessBefore_5 : decode cGR_guessBefore 5 = .ok (.bipush 6, 2) := by decide +kernel
theorem dGR_guessBefore_7 : decode cGR_guessBefore 7 = .ok (.imul, 1) := by decide +kernel
theorem dGR_guessBefore_8 : decode cGR_guessBefore 8 = .ok (.iload_n 2, 1) := by decide +kernel
theorem dGR_guessBefore_9 : decode cGR_guessBefore 9 = .ok (.iadd, 1) := by decide +kernel
theorem dGR_guessBefore_10 : decode cGR_guessBefore 10 = .ok (.bipush 32, 2) := by decide +kernel
theorem dGR_guessBefore_12 : decode cGR_guessBefore 12 = .ok (.imul, 1) := by decide +kernel
theorem dGR_guessBefore_13 : decode cGR_guessBefore 13 = .ok (.iload_n 3, 1) := by decide +kernel
theorem dGR_guessBefore_14 : decode cGR_guessBefore 14 = .ok (.iadd, 1) := by decide +kernel
theorem dGR_guessBefore_15 : decode cGR_guessBefore 15 = .ok (.iaload, 1) := by decide +kernel
theorem dGR_guessBefore_16 : decode cGR_guessBefore 16 = .ok (.ireturn, 1) := by decide +kernel
theorem dGR_guessesBefore_0 : decode cGR_guessesBefore 0 = .ok (.iconst 0, 1) := by decide +kernel
theorem dGR_guessesBefore_1 : decode cGR_guessesBefore 1 = .ok (.istore 4, 2) := by decide +kernel
theorem dGR_guessesBefore_3 : decode cGR_guessesBefore 3 = .ok (.iconst 0, 1) := by decide +kernel
theorem dGR_guessesBefore_4 : decode cGR_guessesBefore 4 = .ok (.istore 5, 2) := by decide +kernel
theorem dGR_guessesBefore_6 : decode cGR_guessesBefore 6 = .ok (.iload 5, 2) := by decide +kernel
theorem dGR_guessesBefore_8 : decode cGR_guessesBefore 8 = .ok (.aload_n 0, 1) := by decide +kernel
theorem dGR_guessesBefore_9 : decode cGR_guessesBefore 9 = .ok (.getfield 45, 3) := by decide +kernel
theorem dGR_guessesBefore_12 : decode cGR_guessesBefore 12 = .ok (.if_icmp .ge 34, 3) := by decide +kernel
theorem dGR_guessesBefore_15 : decode cGR_guessesBefore 15 = .ok (.iload_n 3, 1) := by decide +kernel
theorem dGR_guessesBefore_16 : decode cGR_guessesBefore 16 = .ok (.iload 5, 2) := by decide +kernel
theorem dGR_guessesBefore_18 : decode cGR_guessesBefore 18 = .ok (.iushr, 1) := by decide +kernel
theorem dGR_guessesBefore_19 : decode cGR_guessesBefore 19 = .ok (.iconst 1, 1) := by decide +kernel
theorem dGR_guessesBefore_20 : decode cGR_guessesBefore 20 = .ok (.iand, 1) := by decide +kernel
theorem dGR_guessesBefore_21 : decode cGR_guessesBefore 21 = .ok (.iconst 1, 1) := by decide +kernel
theorem dGR_guessesBefore_22 : decode cGR_guessesBefore 22 = .ok (.if_icmp .ne 18, 3) := by decide +kernel
theorem dGR_guessesBefore_25 : decode cGR_guessesBefore 25 = .ok (.iload 4, 2) := by decide +kernel
theorem dGR_guessesBefore_27 : decode cGR_guessesBefore 27 = .ok (.iconst 1, 1) := by decide +kernel
theorem dGR_guessesBefore_28 : decode cGR_guessesBefore 28 = .ok (.aload_n 0, 1) := by decide +kernel
theorem dGR_guessesBefore_29 : decode cGR_guessesBefore 29 = .ok (.iload_n 1, 1) := by decide +kernel
theorem dGR_guessesBefore_30 : decode cGR_guessesBefore 30 = .ok (.iload_n 2, 1) := by decide +kernel
theorem dGR_guessesBefore_31 : decode cGR_guessesBefore 31 = .ok (.iload 5, 2) := by decide +kernel
theorem dGR_guessesBefore_33 : decode cGR_guessesBefore 33 = .ok (.invokevirtual 100, 3) := by decide +kernel
theorem dGR_guessesBefore_36 : decode cGR_guessesBefore 36 = .ok (.ishl, 1) := by decide +kernel
theorem dGR_guessesBefore_37 : decode cGR_guessesBefore 37 = .ok (.ior, 1) := by decide +kernel
theorem dGR_guessesBefore_38 : decode cGR_guessesBefore 38 = .ok (.istore 4, 2) := by decide +kernel
theorem dGR_guessesBefore_40 : decode cGR_guessesBefore 40 = .ok (.iinc 5 1, 3) := by decide +kernel
theorem dGR_guessesBefore_43 : decode cGR_guessesBefore 43 = .ok (.goto (-37), 3) := by decide +kernel
theorem dGR_guessesBefore_46 : decode cGR_guessesBefore 46 = .ok (.iload 4, 2) := by decide +kernel
theorem dGR_guessesBefore_48 : decode cGR_guessesBefore 48 = .ok (.ireturn, 1) := by decide +kernel
theorem dGR_guessesAfter_0 : decode cGR_guessesAfter 0 = .ok (.iconst 0, 1) := by decide +kernel
theorem dGR_guessesAfter_1 : decode cGR_guessesAfter 1 = .ok (.istore 5, 2) := by decide +kernel
theorem dGR_guessesAfter_3 : decode cGR_guessesAfter 3 = .ok (.iconst 0, 1) := by decide +kernel
theorem dGR_guessesAfter_4 : decode cGR_guessesAfter 4 = .ok (.istore 6, 2) := by decide +kernel
theorem dGR_guessesAfter_6 : decode cGR_guessesAfter 6 = .ok (.iload 6, 2) := by decide +kernel
theorem dGR_guessesAfter_8 : decode cGR_guessesAfter 8 = .ok (.aload_n 0, 1) := by decide +kernel
theorem dGR_guessesAfter_9 : decode cGR_guessesAfter 9 = .ok (.getfield 45, 3) := by decide +kernel
theorem dGR_guessesAfter_12 : decode cGR_guessesAfter 12 = .ok (.if_icmp .ge 57, 3) := by decide +kernel
theorem dGR_guessesAfter_15 : decode cGR_guessesAfter 15 = .ok (.iload 4, 2) := by decide +kernel
theorem dGR_guessesAfter_17 : decode cGR_guessesAfter 17 = .ok (.iload 6, 2) := by decide +kernel
theorem dGR_guessesAfter_19 : decode cGR_guessesAfter 19 = .ok (.iushr, 1) := by decide +kernel
theorem dGR_guessesAfter_20 : decode cGR_guessesAfter 20 = .ok (.iconst 1, 1) := by decide +kernel
theorem dGR_guessesAfter_21 : decode cGR_guessesAfter 21 = .ok (.iand, 1) := by decide +kernel
theorem dGR_guessesAfter_22 : decode cGR_guessesAfter 22 = .ok (.iconst 1, 1) := by decide +kernel
theorem dGR_guessesAfter_23 : decode cGR_guessesAfter 23 = .ok (.if_icmp .ne 7, 3) := by decide +kernel
theorem dGR_guessesAfter_26 : decode cGR_guessesAfter 26 = .ok (.iconst 1, 1) := by decide +kernel
theorem dGR_guessesAfter_27 : decode cGR_guessesAfter 27 = .ok (.goto 4, 3) := by decide +kernel
theorem dGR_guessesAfter_30 : decode cGR_guessesAfter 30 = .ok (.iconst 0, 1) := by decide +kernel
theorem dGR_guessesAfter_31 : decode cGR_guessesAfter 31 = .ok (.istore 7, 2) := by decide +kernel
theorem dGR_guessesAfter_33 : decode cGR_guessesAfter 33 = .ok (.iload 7, 2) := by decide +kernel
theorem dGR_guessesAfter_35 : decode cGR_guessesAfter 35 = .ok (.ifCond .eq 28, 3) := by decide +kernel
theorem dGR_guessesAfter_38 : decode cGR_guessesAfter 38 = .ok (.iload_n 3, 1) := by decide +kernel
theorem dGR_guessesAfter_39 : decode cGR_guessesAfter 39 = .ok (.aload_n 0, 1) := by decide +kernel
theorem dGR_guessesAfter_40 : decode cGR_guessesAfter 40 = .ok (.iload_n 1, 1) := by decide +kernel
theorem dGR_guessesAfter_41 : decode cGR_guessesAfter 41 = .ok (.iload_n 2, 1) := by decide +kernel
theorem dGR_guessesAfter_42 : decode cGR_guessesAfter 42 = .ok (.iload 6, 2) := by decide +kernel
theorem dGR_guessesAfter_44 : decode cGR_guessesAfter 44 = .ok (.invokevirtual 100, 3) := by decide +kernel
theorem dGR_guessesAfter_47 : decode cGR_guessesAfter 47 = .ok (.iushr, 1) := by decide +kernel
theorem dGR_guessesAfter_48 : decode cGR_guessesAfter 48 = .ok (.iconst 1, 1) := by decide +kernel
theorem dGR_guessesAfter_49 : decode cGR_guessesAfter 49 = .ok (.iand, 1) := by decide +kernel
theorem dGR_guessesAfter_50 : decode cGR_guessesAfter 50 = .ok (.iconst 1, 1) := by decide +kernel
theorem dGR_guessesAfter_51 : decode cGR_guessesAfter 51 = .ok (.if_icmp .ne 12, 3) := by decide +kernel
theorem dGR_guessesAfter_54 : decode cGR_guessesAfter 54 = .ok (.iload 5, 2) := by decide +kernel
theorem dGR_guessesAfter_56 : decode cGR_guessesAfter 56 = .ok (.iconst 1, 1) := by decide +kernel
theorem dGR_guessesAfter_57 : decode cGR_guessesAfter 57 = .ok (.iload 6, 2) := by decide +kernel
theorem dGR_guessesAfter_59 : decode cGR_guessesAfter 59 = .ok (.ishl, 1) := by decide +kernel
theorem dGR_guessesAfter_60 : decode cGR_guessesAfter 60 = .ok (.ior, 1) := by decide +kernel
theorem dGR_guessesAfter_61 : decode cGR_guessesAfter 61 = .ok (.istore 5, 2) := by decide +kernel
theorem dGR_guessesAfter_63 : decode cGR_guessesAfter 63 = .ok (.iinc 6 1, 3) := by decide +kernel
theorem dGR_guessesAfter_66 : decode cGR_guessesAfter 66 = .ok (.goto (-60), 3) := by decide +kernel
theorem dGR_guessesAfter_69 : decode cGR_guessesAfter 69 = .ok (.iload 5, 2) := by decide +kernel
theorem dGR_guessesAfter_71 : decode cGR_guessesAfter 71 = .ok (.ireturn, 1) := by decide +kernel
