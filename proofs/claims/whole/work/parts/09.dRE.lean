theorem dRE_init_0 : decode cRE_init 0 = .ok (.aload_n 0, 1) := by decide +kernel
theorem dRE_init_1 : decode cRE_init 1 = .ok (.invokespecial 3, 3) := by decide +kernel
theorem dRE_init_4 : decode cRE_init 4 = .ok (.aload_n 0, 1) := by decide +kernel
theorem dRE_init_5 : decode cRE_init 5 = .ok (.bipush 32, 2) := by decide +kernel
theorem dRE_init_7 : decode cRE_init 7 = .ok (.newarray .char, 2) := by decide +kernel
theorem dRE_init_9 : decode cRE_init 9 = .ok (.putfield 9, 3) := by decide +kernel
theorem dRE_init_12 : decode cRE_init 12 = .ok (.aload_n 0, 1) := by decide +kernel
theorem dRE_init_13 : decode cRE_init 13 = .ok (.bipush 32, 2) := by decide +kernel
theorem dRE_init_15 : decode cRE_init 15 = .ok (.newarray .int, 2) := by decide +kernel
theorem dRE_init_17 : decode cRE_init 17 = .ok (.putfield 15, 3) := by decide +kernel
theorem dRE_init_20 : decode cRE_init 20 = .ok (.aload_n 0, 1) := by decide +kernel
theorem dRE_init_21 : decode cRE_init 21 = .ok (.bipush 32, 2) := by decide +kernel
theorem dRE_init_23 : decode cRE_init 23 = .ok (.newarray .int, 2) := by decide +kernel
theorem dRE_init_25 : decode cRE_init 25 = .ok (.putfield 19, 3) := by decide +kernel
theorem dRE_init_28 : decode cRE_init 28 = .ok (.aload_n 0, 1) := by decide +kernel
theorem dRE_init_29 : decode cRE_init 29 = .ok (.bipush 32, 2) := by decide +kernel
theorem dRE_init_31 : decode cRE_init 31 = .ok (.newarray .char, 2) := by decide +kernel
theorem dRE_init_33 : decode cRE_init 33 = .ok (.putfield 22, 3) := by decide +kernel
theorem dRE_init_36 : decode cRE_init 36 = .ok (.aload_n 0, 1) := by decide +kernel
theorem dRE_init_37 : decode cRE_init 37 = .ok (.bipush 32, 2) := by decide +kernel
theorem dRE_init_39 : decode cRE_init 39 = .ok (.newarray .int, 2) := by decide +kernel
theorem dRE_init_41 : decode cRE_init 41 = .ok (.putfield 25, 3) := by decide +kernel
theorem dRE_init_44 : decode cRE_init 44 = .ok (.return_, 1) := by decide +kernel
theorem dRE_reads_0 : decode cRE_reads 0 = .ok (.aload_n 0, 1) := by decide +kernel
theorem dRE_reads_1 : decode cRE_reads 1 = .ok (.invokevirtual 28, 3) := by decide +kernel
theorem dRE_reads_4 : decode cRE_reads 4 = .ok (.iconst 0, 1) := by decide +kernel
theorem dRE_reads_5 : decode cRE_reads 5 = .ok (.istore_n 3, 1) := by decide +kernel
theorem dRE_reads_6 : decode cRE_reads 6 = .ok (.iload_n 3, 1) := by decide +kernel
theorem dRE_reads_7 : decode cRE_reads 7 = .ok (.iload_n 2, 1) := by decide +kernel
theorem dRE_reads_8 : decode cRE_reads 8 = .ok (.if_icmp .ge 67, 3) := by decide +kernel
theorem dRE_reads_11 : decode cRE_reads 11 = .ok (.iload_n 3, 1) := by decide +kernel
theorem dRE_reads_12 : decode cRE_reads 12 = .ok (.bipush 32, 2) := by decide +kernel
theorem dRE_reads_14 : decode cRE_reads 14 = .ok (.if_icmp .ge 61, 3) := by decide +kernel
theorem dRE_reads_17 : decode cRE_reads 17 = .ok (.aload_n 0, 1) := by decide +kernel
theorem dRE_reads_18 : decode cRE_reads 18 = .ok (.getfield 31, 3) := by decide +kernel
theorem dRE_reads_21 : decode cRE_reads 21 = .ok (.ifCond .eq 13, 3) := by decide +kernel
theorem dRE_reads_24 : decode cRE_reads 24 = .ok (.aload_n 0, 1) := by decide +kernel
theorem dRE_reads_25 : decode cRE_reads 25 = .ok (.aload_n 1, 1) := by decide +kernel
theorem dRE_reads_26 : decode cRE_reads 26 = .ok (.iload_n 3, 1) := by decide +kernel
theorem dRE_reads_27 : decode cRE_reads 27 = .ok (.caload, 1) := by decide +kernel
theorem dRE_reads_28 : decode cRE_reads 28 = .ok (.invokevirtual 35, 3) := by decide +kernel
theorem dRE_reads_31 : decode cRE_reads 31 = .ok (.goto 10, 3) := by decide +kernel
theorem dRE_reads_34 : decode cRE_reads 34 = .ok (.aload_n 0, 1) := by decide +kernel
theorem dRE_reads_35 : decode cRE_reads 35 = .ok (.aload_n 1, 1) := by decide +kernel
theorem dRE_reads_36 : decode cRE_reads 36 = .ok (.iload_n 3, 1) := by decide +kernel
theorem dRE_reads_37 : decode cRE_reads 37 = .ok (.caload, 1) := by decide +kernel
theorem dRE_reads_38 : decode cRE_reads 38 = .ok (.invokevirtual 39, 3) := by decide +kernel
theorem dRE_reads_41 : decode cRE_reads 41 = .ok (.istore 4, 2) := by decide +kernel
theorem dRE_reads_43 : decode cRE_reads 43 = .ok (.iload 4, 2) := by decide +kernel
theorem dRE_reads_45 : decode cRE_reads 45 = .ok (.ifCond .ne 5, 3) := by decide +kernel
theorem dRE_reads_48 : decode cRE_reads 48 = .ok (.iconst 0, 1) := by decide +kernel
theorem dRE_reads_49 : decode cRE_reads 49 = .ok (.ireturn, 1) := by decide +kernel
theorem dRE_reads_50 : decode cRE_reads 50 = .ok (.aload_n 1, 1) := by decide +kernel
theorem dRE_reads_51 : decode cRE_reads 51 = .ok (.iload_n 3, 1) := by decide +kernel
theorem dRE_reads_52 : decode cRE_reads 52 = .ok (.caload, 1) := by decide +kernel
theorem dRE_reads_53 : decode cRE_reads 53 = .ok (.invokestatic 42, 3) := by decide +kernel
theorem dRE_reads_56 : decode cRE_reads 56 = .ok (.ifCond .eq 13, 3) := by decide +kernel
theorem dRE_reads_59 : decode cRE_reads 59 = .ok (.aload_n 0, 1) := by decide +kernel
theorem dRE_reads_60 : decode cRE_reads 60 = .ok (.dup, 1) := by decide +kernel
theorem dRE_reads_61 : decode cRE_reads 61 = .ok (.getfield 45, 3) := by decide +kernel
theorem dRE_reads_64 : decode cRE_reads 64 = .ok (.iconst 1, 1) := by decide +kernel
theorem dRE_reads_65 : decode cRE_reads 65 = .ok (.iadd, 1) := by decide +kernel
theorem dRE_reads_66 : decode cRE_reads 66 = .ok (.putfield 45, 3) := by decide +kernel
theorem dRE_reads_69 : decode cRE_reads 69 = .ok (.iinc 3 1, 3) := by decide +kernel
theorem dRE_reads_72 : decode cRE_reads 72 = .ok (.goto (-66), 3) := by decide +kernel
theorem dRE_reads_75 : decode cRE_reads 75 = .ok (.aload_n 0, 1) := by decide +kernel
theorem dRE_reads_76 : decode cRE_reads 76 = .ok (.getfield 31, 3) := by decide +kernel
theorem dRE_reads_79 : decode cRE_reads 79 = .ok (.ifCond .ne 10, 3) := by decide +kernel
theorem dRE_reads_82 : decode cRE_reads 82 = .ok (.aload_n 0, 1) := by decide +kernel
theorem dRE_reads_83 : decode cRE_reads 83 = .ok (.getfield 49, 3) := by decide +kernel
theorem dRE_reads_86 : decode cRE_reads 86 = .ok (.ifCond .le 5, 3) := by decide +kernel
theorem dRE_reads_89 : decode cRE_reads 89 = .ok (.iconst 0, 1) := by decide +kernel
theorem dRE_reads_90 : decode cRE_reads 90 = .ok (.ireturn, 1) := by decide +kernel
theorem dRE_reads_91 : decode cRE_reads 91 = .ok (.aload_n 0, 1) := by decide +kernel
theorem dRE_reads_92 : decode cRE_reads 92 = .ok (.iconst 1, 1) := by decide +kernel
theorem dRE_reads_93 : decode cRE_reads 93 = .ok (.invokevirtual 52, 3) := by decide +kernel
theorem dRE_reads_96 : decode cRE_reads 96 = .ok (.iconst 1, 1) := by decide +kernel
theorem dRE_reads_97 : decode cRE_reads 97 = .ok (.ireturn, 1) := by decide +kernel
theorem dRE_startAnew_0 : decode cRE_startAnew 0 = .ok (.aload_n 0, 1) := by decide +kernel
theorem dRE_startAnew_1 : decode cRE_startAnew 1 = .ok (.iconst 0, 1) := by decide +kernel
theorem dRE_startAnew_2 : decode cRE_startAnew 2 = .ok (.putfield 56, 3) := by decide +kernel
theorem dRE_startAnew_5 : decode cRE_startAnew 5 = .ok (.aload_n 0, 1) := by decide +kernel
theorem dRE_startAnew_6 : decode cRE_startAnew 6 = .ok (.iconst 0, 1) := by decide +kernel
theorem dRE_startAnew_7 : decode cRE_startAnew 7 = .ok (.putfield 45, 3) := by decide +kernel
theorem dRE_startAnew_10 : decode cRE_startAnew 10 = .ok (.aload_n 0, 1) := by decide +kernel
theorem dRE_startAnew_11 : decode cRE_startAnew 11 = .ok (.iconst 0, 1) := by decide +kernel
theorem dRE_startAnew_12 : decode cRE_startAnew 12 = .ok (.putfield 59, 3) := by decide +kernel
theorem dRE_startAnew_15 : decode cRE_startAnew 15 = .ok (.aload_n 0, 1) := by decide +kernel
theorem dRE_startAnew_16 : decode cRE_startAnew 16 = .ok (.iconst 0, 1) := by decide +kernel
theorem dRE_startAnew_17 : decode cRE_startAnew 17 = .ok (.putfield 62, 3) := by decide +kernel
theorem dRE_startAnew_20 : decode cRE_startAnew 20 = .ok (.aload_n 0, 1) := by decide +kernel
theorem dRE_startAnew_21 : decode cRE_startAnew 21 = .ok (.iconst 0, 1) := by decide +kernel
theorem dRE_startAnew_22 : decode cRE_startAnew 22 = .ok (.putfield 49, 3) := by decide +kernel
theorem dRE_startAnew_25 : decode cRE_startAnew 25 = .ok (.aload_n 0, 1) := by decide +kernel
theorem dRE_startAnew_26 : decode cRE_startAnew 26 = .ok (.iconst 1, 1) := by decide +kernel
theorem dRE_startAnew_27 : decode cRE_startAnew 27 = .ok (.putfield 31, 3) := by decide +kernel
theorem dRE_startAnew_30 : decode cRE_startAnew 30 = .ok (.return_, 1) := by decide +kernel
theorem dRE_takeInUnit_0 : decode cRE_takeInUnit 0 = .ok (.iload_n 1, 1) := by decide +kernel
theorem dRE_takeInUnit_1 : decode cRE_takeInUnit 1 = .ok (.invokestatic 65, 3) := by decide +kernel
theorem dRE_takeInUnit_4 : decode cRE_takeInUnit 4 = .ok (.ifCond .eq 36, 3) := by decide +kernel
theorem dRE_takeInUnit_7 : decode cRE_takeInUnit 7 = .ok (.aload_n 0, 1) := by decide +kernel
theorem dRE_takeInUnit_8 : decode cRE_takeInUnit 8 = .ok (.getfield 25, 3) := by decide +kernel
theorem dRE_takeInUnit_11 : decode cRE_takeInUnit 11 = .ok (.aload_n 0, 1) := by decide +kernel
theorem dRE_takeInUnit_12 : decode cRE_takeInUnit 12 = .ok (.getfield 62, 3) := by decide +kernel
theorem dRE_takeInUnit_15 : decode cRE_takeInUnit 15 = .ok (.aload_n 0, 1) := by decide +kernel
theorem dRE_takeInUnit_16 : decode cRE_takeInUnit 16 = .ok (.iload_n 1, 1) := by decide +kernel
theorem dRE_takeInUnit_17 : decode cRE_takeInUnit 17 = .ok (.iconst (-1), 1) := by decide +kernel
theorem dRE_takeInUnit_18 : decode cRE_takeInUnit 18 = .ok (.iconst (-1), 1) := by decide +kernel
theorem dRE_takeInUnit_19 : decode cRE_takeInUnit 19 = .ok (.invokevirtual 68, 3) := by decide +kernel
theorem dRE_takeInUnit_22 : decode cRE_takeInUnit 22 = .ok (.iastore, 1) := by decide +kernel
theorem dRE_takeInUnit_23 : decode cRE_takeInUnit 23 = .ok (.aload_n 0, 1) := by decide +kernel
theorem dRE_takeInUnit_24 : decode cRE_takeInUnit 24 = .ok (.dup, 1) := by decide +kernel
theorem dRE_takeInUnit_25 : decode cRE_takeInUnit 25 = .ok (.getfield 62, 3) := by decide +kernel
theorem dRE_takeInUnit_28 : decode cRE_takeInUnit 28 = .ok (.iconst 1, 1) := by decide +kernel
theorem dRE_takeInUnit_29 : decode cRE_takeInUnit 29 = .ok (.iadd, 1) := by decide +kernel
theorem dRE_takeInUnit_30 : decode cRE_takeInUnit 30 = .ok (.putfield 62, 3) := by decide +kernel
theorem dRE_takeInUnit_33 : decode cRE_takeInUnit 33 = .ok (.aload_n 0, 1) := by decide +kernel
theorem dRE_takeInUnit_34 : decode cRE_takeInUnit 34 = .ok (.iconst 0, 1) := by decide +kernel
theorem dRE_takeInUnit_35 : decode cRE_takeInUnit 35 = .ok (.putfield 31, 3) := by decide +kernel
theorem dRE_takeInUnit_38 : decode cRE_takeInUnit 38 = .ok (.iconst 1, 1) := by decide +kernel
theorem dRE_takeInUnit_39 : decode cRE_takeInUnit 39 = .ok (.ireturn, 1) := by decide +kernel
theorem dRE_takeInUnit_40 : decode cRE_takeInUnit 40 = .ok (.iload_n 1, 1) := by decide +kernel
theorem dRE_takeInUnit_41 : decode cRE_takeInUnit 41 = .ok (.bipush 40, 2) := by decide +kernel
theorem dRE_takeInUnit_43 : decode cRE_takeInUnit 43 = .ok (.if_icmp .ne 16, 3) := by decide +kernel
theorem dRE_takeInUnit_46 : decode cRE_takeInUnit 46 = .ok (.aload_n 0, 1) := by decide +kernel
theorem dRE_takeInUnit_47 : decode cRE_takeInUnit 47 = .ok (.dup, 1) := by decide +kernel
theorem dRE_takeInUnit_48 : decode cRE_takeInUnit 48 = .ok (.getfield 49, 3) := by decide +kernel
theorem dRE_takeInUnit_51 : decode cRE_takeInUnit 51 = .ok (.iconst 1, 1) := by decide +kernel
theorem dRE_takeInUnit_52 : decode cRE_takeInUnit 52 = .ok (.iadd, 1) := by decide +kernel
theorem dRE_takeInUnit_53 : decode cRE_takeInUnit 53 = .ok (.putfield 49, 3) := by decide +kernel
theorem dRE_takeInUnit_56 : decode cRE_takeInUnit 56 = .ok (.goto 13, 3) := by decide +kernel
theorem dRE_takeInUnit_59 : decode cRE_takeInUnit 59 = .ok (.iload_n 1, 1) := by decide +kernel
theorem dRE_takeInUnit_60 : decode cRE_takeInUnit 60 = .ok (.invokestatic 72, 3) := by decide +kernel
theorem dRE_takeInUnit_63 : decode cRE_takeInUnit 63 = .ok (.iconst 5, 1) := by decide +kernel
theorem dRE_takeInUnit_64 : decode cRE_takeInUnit 64 = .ok (.if_icmp .eq 5, 3) := by decide +kernel
theorem dRE_takeInUnit_67 : decode cRE_takeInUnit 67 = .ok (.iconst 0, 1) := by decide +kernel
theorem dRE_takeInUnit_68 : decode cRE_takeInUnit 68 = .ok (.ireturn, 1) := by decide +kernel
theorem dRE_takeInUnit_69 : decode cRE_takeInUnit 69 = .ok (.aload_n 0, 1) := by decide +kernel
theorem dRE_takeInUnit_70 : decode cRE_takeInUnit 70 = .ok (.iload_n 1, 1) := by decide +kernel
theorem dRE_takeInUnit_71 : decode cRE_takeInUnit 71 = .ok (.invokevirtual 76, 3) := by decide +kernel
theorem dRE_takeInUnit_74 : decode cRE_takeInUnit 74 = .ok (.aload_n 0, 1) := by decide +kernel
theorem dRE_takeInUnit_75 : decode cRE_takeInUnit 75 = .ok (.getfield 49, 3) := by decide +kernel
theorem dRE_takeInUnit_78 : decode cRE_takeInUnit 78 = .ok (.bipush 6, 2) := by decide +kernel
theorem dRE_takeInUnit_80 : decode cRE_takeInUnit 80 = .ok (.if_icmp .gt 7, 3) := by decide +kernel
theorem dRE_takeInUnit_83 : decode cRE_takeInUnit 83 = .ok (.iconst 1, 1) := by decide +kernel
theorem dRE_takeInUnit_84 : decode cRE_takeInUnit 84 = .ok (.goto 4, 3) := by decide +kernel
theorem dRE_takeInUnit_87 : decode cRE_takeInUnit 87 = .ok (.iconst 0, 1) := by decide +kernel
theorem dRE_takeInUnit_88 : decode cRE_takeInUnit 88 = .ok (.ireturn, 1) := by decide +kernel
theorem dRE_takeBehindUnit_0 : decode cRE_takeBehindUnit 0 = .ok (.iload_n 1, 1) := by decide +kernel
theorem dRE_takeBehindUnit_1 : decode cRE_takeBehindUnit 1 = .ok (.bipush 41, 2) := by decide +kernel
theorem dRE_takeBehindUnit_3 : decode cRE_takeBehindUnit 3 = .ok (.if_icmp .ne 45, 3) := by decide +kernel
theorem dRE_takeBehindUnit_6 : decode cRE_takeBehindUnit 6 = .ok (.aload_n 0, 1) := by decide +kernel
theorem dRE_takeBehindUnit_7 : decode cRE_takeBehindUnit 7 = .ok (.iconst 1, 1) := by decide +kernel
theorem dRE_takeBehindUnit_8 : decode cRE_takeBehindUnit 8 = .ok (.invokevirtual 52, 3) := by decide +kernel
theorem dRE_takeBehindUnit_11 : decode cRE_takeBehindUnit 11 = .ok (.aload_n 0, 1) := by decide +kernel
theorem dRE_takeBehindUnit_12 : decode cRE_takeBehindUnit 12 = .ok (.aload_n 0, 1) := by decide +kernel
theorem dRE_takeBehindUnit_13 : decode cRE_takeBehindUnit 13 = .ok (.getfield 59, 3) := by decide +kernel
theorem dRE_takeBehindUnit_16 : decode cRE_takeBehindUnit 16 = .ok (.iconst 1, 1) := by decide +kernel
theorem dRE_takeBehindUnit_17 : decode cRE_takeBehindUnit 17 = .ok (.isub, 1) := by decide +kernel
theorem dRE_takeBehindUnit_18 : decode cRE_takeBehindUnit 18 = .ok (.iconst 0, 1) := by decide +kernel
theorem dRE_takeBehindUnit_19 : decode cRE_takeBehindUnit 19 = .ok (.invokestatic 80, 3) := by decide +kernel
theorem dRE_takeBehindUnit_22 : decode cRE_takeBehindUnit 22 = .ok (.putfield 59, 3) := by decide +kernel
theorem dRE_takeBehindUnit_25 : decode cRE_takeBehindUnit 25 = .ok (.aload_n 0, 1) := by decide +kernel
theorem dRE_takeBehindUnit_26 : decode cRE_takeBehindUnit 26 = .ok (.dup, 1) := by decide +kernel
theorem dRE_takeBehindUnit_27 : decode cRE_takeBehindUnit 27 = .ok (.getfield 49, 3) := by decide +kernel
theorem dRE_takeBehindUnit_30 : decode cRE_takeBehindUnit 30 = .ok (.iconst 1, 1) := by decide +kernel
theorem dRE_takeBehindUnit_31 : decode cRE_takeBehindUnit 31 = .ok (.isub, 1) := by decide +kernel
theorem dRE_takeBehindUnit_32 : decode cRE_takeBehindUnit 32 = .ok (.putfield 49, 3) := by decide +kernel
theorem dRE_takeBehindUnit_35 : decode cRE_takeBehindUnit 35 = .ok (.aload_n 0, 1) := by decide +kernel
theorem dRE_takeBehindUnit_36 : decode cRE_takeBehindUnit 36 = .ok (.getfield 49, 3) := by decide +kernel
theorem dRE_takeBehindUnit_39 : decode cRE_takeBehindUnit 39 = .ok (.ifCond .lt 7, 3) := by decide +kernel
theorem dRE_takeBehindUnit_42 : decode cRE_takeBehindUnit 42 = .ok (.iconst 1, 1) := by decide +kernel
theorem dRE_takeBehindUnit_43 : decode cRE_takeBehindUnit 43 = .ok (.goto 4, 3) := by decide +kernel
theorem dRE_takeBehindUnit_46 : decode cRE_takeBehindUnit 46 = .ok (.iconst 0, 1) := by decide +kernel
theorem dRE_takeBehindUnit_47 : decode cRE_takeBehindUnit 47 = .ok (.ireturn, 1) := by decide +kernel
theorem dRE_takeBehindUnit_48 : decode cRE_takeBehindUnit 48 = .ok (.iload_n 1, 1) := by decide +kernel
theorem dRE_takeBehindUnit_49 : decode cRE_takeBehindUnit 49 = .ok (.invokestatic 72, 3) := by decide +kernel
theorem dRE_takeBehindUnit_52 : decode cRE_takeBehindUnit 52 = .ok (.istore_n 2, 1) := by decide +kernel
theorem dRE_takeBehindUnit_53 : decode cRE_takeBehindUnit 53 = .ok (.iload_n 2, 1) := by decide +kernel
theorem dRE_takeBehindUnit_54 : decode cRE_takeBehindUnit 54 = .ok (.iconst 1, 1) := by decide +kernel
theorem dRE_takeBehindUnit_55 : decode cRE_takeBehindUnit 55 = .ok (.if_icmp .lt 8, 3) := by decide +kernel
theorem dRE_takeBehindUnit_58 : decode cRE_takeBehindUnit 58 = .ok (.iload_n 2, 1) := by decide +kernel
theorem dRE_takeBehindUnit_59 : decode cRE_takeBehindUnit 59 = .ok (.iconst 5, 1) := by decide +kernel
theorem dRE_takeBehindUnit_60 : decode cRE_takeBehindUnit 60 = .ok (.if_icmp .ne 5, 3) := by decide +kernel
theorem dRE_takeBehindUnit_63 : decode cRE_takeBehindUnit 63 = .ok (.iconst 0, 1) := by decide +kernel
theorem dRE_takeBehindUnit_64 : decode cRE_takeBehindUnit 64 = .ok (.ireturn, 1) := by decide +kernel
theorem dRE_takeBehindUnit_65 : decode cRE_takeBehindUnit 65 = .ok (.aload_n 0, 1) := by decide +kernel
theorem dRE_takeBehindUnit_66 : decode cRE_takeBehindUnit 66 = .ok (.iload_n 1, 1) := by decide +kernel
theorem dRE_takeBehindUnit_67 : decode cRE_takeBehindUnit 67 = .ok (.invokestatic 86, 3) := by decide +kernel
theorem dRE_takeBehindUnit_70 : decode cRE_takeBehindUnit 70 = .ok (.ifCond .eq 9, 3) := by decide +kernel
theorem dRE_takeBehindUnit_73 : decode cRE_takeBehindUnit 73 = .ok (.iload_n 2, 1) := by decide +kernel
theorem dRE_takeBehindUnit_74 : decode cRE_takeBehindUnit 74 = .ok (.iconst 1, 1) := by decide +kernel
theorem dRE_takeBehindUnit_75 : decode cRE_takeBehindUnit 75 = .ok (.iadd, 1) := by decide +kernel
theorem dRE_takeBehindUnit_76 : decode cRE_takeBehindUnit 76 = .ok (.goto 4, 3) := by decide +kernel
theorem dRE_takeBehindUnit_79 : decode cRE_takeBehindUnit 79 = .ok (.iload_n 2, 1) := by decide +kernel
theorem dRE_takeBehindUnit_80 : decode cRE_takeBehindUnit 80 = .ok (.invokevirtual 52, 3) := by decide +kernel
theorem dRE_takeBehindUnit_83 : decode cRE_takeBehindUnit 83 = .ok (.aload_n 0, 1) := by decide +kernel
theorem dRE_takeBehindUnit_84 : decode cRE_takeBehindUnit 84 = .ok (.iload_n 1, 1) := by decide +kernel
theorem dRE_takeBehindUnit_85 : decode cRE_takeBehindUnit 85 = .ok (.invokevirtual 76, 3) := by decide +kernel
theorem dRE_takeBehindUnit_88 : decode cRE_takeBehindUnit 88 = .ok (.aload_n 0, 1) := by decide +kernel
theorem dRE_takeBehindUnit_89 : decode cRE_takeBehindUnit 89 = .ok (.iconst 1, 1) := by decide +kernel
theorem dRE_takeBehindUnit_90 : decode cRE_takeBehindUnit 90 = .ok (.putfield 31, 3) := by decide +kernel
theorem dRE_takeBehindUnit_93 : decode cRE_takeBehindUnit 93 = .ok (.iconst 1, 1) := by decide +kernel
theorem dRE_takeBehindUnit_94 : decode cRE_takeBehindUnit 94 = .ok (.ireturn, 1) := by decide +kernel
theorem dRE_await_0 : decode cRE_await 0 = .ok (.aload_n 0, 1) := by decide +kernel
theorem dRE_await_1 : decode cRE_await 1 = .ok (.getfield 22, 3) := by decide +kernel
theorem dRE_await_4 : decode cRE_await 4 = .ok (.aload_n 0, 1) := by decide +kernel
theorem dRE_await_5 : decode cRE_await 5 = .ok (.getfield 59, 3) := by decide +kernel
theorem dRE_await_8 : decode cRE_await 8 = .ok (.iload_n 1, 1) := by decide +kernel
theorem dRE_await_9 : decode cRE_await 9 = .ok (.castore, 1) := by decide +kernel
theorem dRE_await_10 : decode cRE_await 10 = .ok (.aload_n 0, 1) := by decide +kernel
theorem dRE_await_11 : decode cRE_await 11 = .ok (.dup, 1) := by decide +kernel
theorem dRE_await_12 : decode cRE_await 12 = .ok (.getfield 59, 3) := by decide +kernel
theorem dRE_await_15 : decode cRE_await 15 = .ok (.iconst 1, 1) := by decide +kernel
theorem dRE_await_16 : decode cRE_await 16 = .ok (.iadd, 1) := by decide +kernel
theorem dRE_await_17 : decode cRE_await 17 = .ok (.putfield 59, 3) := by decide +kernel
theorem dRE_await_20 : decode cRE_await 20 = .ok (.return_, 1) := by decide +kernel
theorem dRE_joinDownTo_0 : decode cRE_joinDownTo 0 = .ok (.aload_n 0, 1) := by decide +kernel
theorem dRE_joinDownTo_1 : decode cRE_joinDownTo 1 = .ok (.getfield 59, 3) := by decide +kernel
theorem dRE_joinDownTo_4 : decode cRE_joinDownTo 4 = .ok (.ifCond .le 47, 3) := by decide +kernel
theorem dRE_joinDownTo_7 : decode cRE_joinDownTo 7 = .ok (.aload_n 0, 1) := by decide +kernel
theorem dRE_joinDownTo_8 : decode cRE_joinDownTo 8 = .ok (.getfield 22, 3) := by decide +kernel
theorem dRE_joinDownTo_11 : decode cRE_joinDownTo 11 = .ok (.aload_n 0, 1) := by decide +kernel
theorem dRE_joinDownTo_12 : decode cRE_joinDownTo 12 = .ok (.getfield 59, 3) := by decide +kernel
theorem dRE_joinDownTo_15 : decode cRE_joinDownTo 15 = .ok (.iconst 1, 1) := by decide +kernel
theorem dRE_joinDownTo_16 : decode cRE_joinDownTo 16 = .ok (.isub, 1) := by decide +kernel
theorem dRE_joinDownTo_17 : decode cRE_joinDownTo 17 = .ok (.caload, 1) := by decide +kernel
theorem dRE_joinDownTo_18 : decode cRE_joinDownTo 18 = .ok (.invokestatic 72, 3) := by decide +kernel
theorem dRE_joinDownTo_21 : decode cRE_joinDownTo 21 = .ok (.iload_n 1, 1) := by decide +kernel
theorem dRE_joinDownTo_22 : decode cRE_joinDownTo 22 = .ok (.if_icmp .lt 29, 3) := by decide +kernel
theorem dRE_joinDownTo_25 : decode cRE_joinDownTo 25 = .ok (.aload_n 0, 1) := by decide +kernel
theorem dRE_joinDownTo_26 : decode cRE_joinDownTo 26 = .ok (.dup, 1) := by decide +kernel
theorem dRE_joinDownTo_27 : decode cRE_joinDownTo 27 = .ok (.getfield 59, 3) := by decide +kernel
theorem dRE_joinDownTo_30 : decode cRE_joinDownTo 30 = .ok (.iconst 1, 1) := by decide +kernel
theorem dRE_joinDownTo_31 : decode cRE_joinDownTo 31 = .ok (.isub, 1) := by decide +kernel
theorem dRE_joinDownTo_32 : decode cRE_joinDownTo 32 = .ok (.putfield 59, 3) := by decide +kernel
theorem dRE_joinDownTo_35 : decode cRE_joinDownTo 35 = .ok (.aload_n 0, 1) := by decide +kernel
theorem dRE_joinDownTo_36 : decode cRE_joinDownTo 36 = .ok (.aload_n 0, 1) := by decide +kernel
theorem dRE_joinDownTo_37 : decode cRE_joinDownTo 37 = .ok (.getfield 22, 3) := by decide +kernel
theorem dRE_joinDownTo_40 : decode cRE_joinDownTo 40 = .ok (.aload_n 0, 1) := by decide +kernel
theorem dRE_joinDownTo_41 : decode cRE_joinDownTo 41 = .ok (.getfield 59, 3) := by decide +kernel
theorem dRE_joinDownTo_44 : decode cRE_joinDownTo 44 = .ok (.caload, 1) := by decide +kernel
theorem dRE_joinDownTo_45 : decode cRE_joinDownTo 45 = .ok (.invokevirtual 89, 3) := by decide +kernel
theorem dRE_joinDownTo_48 : decode cRE_joinDownTo 48 = .ok (.goto (-48), 3) := by decide +kernel
theorem dRE_joinDownTo_51 : decode cRE_joinDownTo 51 = .ok (.return_, 1) := by decide +kernel
theorem dRE_join_0 : decode cRE_join 0 = .ok (.aload_n 0, 1) := by decide +kernel
theorem dRE_join_1 : decode cRE_join 1 = .ok (.getfield 25, 3) := by decide +kernel
theorem dRE_join_4 : decode cRE_join 4 = .ok (.aload_n 0, 1) := by decide +kernel
theorem dRE_join_5 : decode cRE_join 5 = .ok (.getfield 62, 3) := by decide +kernel
theorem dRE_join_8 : decode cRE_join 8 = .ok (.iconst 1, 1) := by decide +kernel
theorem dRE_join_9 : decode cRE_join 9 = .ok (.isub, 1) := by decide +kernel
theorem dRE_join_10 : decode cRE_join 10 = .ok (.iaload, 1) := by decide +kernel
theorem dRE_join_11 : decode cRE_join 11 = .ok (.istore_n 2, 1) := by decide +kernel
theorem dRE_join_12 : decode cRE_join 12 = .ok (.iload_n 1, 1) := by decide +kernel
theorem dRE_join_13 : decode cRE_join 13 = .ok (.invokestatic 72, 3) := by decide +kernel
theorem dRE_join_16 : decode cRE_join 16 = .ok (.iconst 5, 1) := by decide +kernel
theorem dRE_join_17 : decode cRE_join 17 = .ok (.if_icmp .ne 24, 3) := by decide +kernel
theorem dRE_join_20 : decode cRE_join 20 = .ok (.aload_n 0, 1) := by decide +kernel
theorem dRE_join_21 : decode cRE_join 21 = .ok (.getfield 25, 3) := by decide +kernel
theorem dRE_join_24 : decode cRE_join 24 = .ok (.aload_n 0, 1) := by decide +kernel
theorem dRE_join_25 : decode cRE_join 25 = .ok (.getfield 62, 3) := by decide +kernel
theorem dRE_join_28 : decode cRE_join 28 = .ok (.iconst 1, 1) := by decide +kernel
theorem dRE_join_29 : decode cRE_join 29 = .ok (.isub, 1) := by decide +kernel
theorem dRE_join_30 : decode cRE_join 30 = .ok (.aload_n 0, 1) := by decide +kernel
theorem dRE_join_31 : decode cRE_join 31 = .ok (.iload_n 1, 1) := by decide +kernel
theorem dRE_join_32 : decode cRE_join 32 = .ok (.iload_n 2, 1) := by decide +kernel
theorem dRE_join_33 : decode cRE_join 33 = .ok (.iconst (-1), 1) := by decide +kernel
theorem dRE_join_34 : decode cRE_join 34 = .ok (.invokevirtual 68, 3) := by decide +kernel
theorem dRE_join_37 : decode cRE_join 37 = .ok (.iastore, 1) := by decide +kernel
theorem dRE_join_38 : decode cRE_join 38 = .ok (.goto 41, 3) := by decide +kernel
theorem dRE_join_41 : decode cRE_join 41 = .ok (.aload_n 0, 1) := by decide +kernel
theorem dRE_join_42 : decode cRE_join 42 = .ok (.dup, 1) := by decide +kernel
theorem dRE_join_43 : decode cRE_join 43 = .ok (.getfield 62, 3) := by decide +kernel
theorem dRE_join_46 : decode cRE_join 46 = .ok (.iconst 1, 1) := by decide +kernel
theorem dRE_join_47 : decode cRE_join 47 = .ok (.isub, 1) := by decide +kernel
theorem dRE_join_48 : decode cRE_join 48 = .ok (.putfield 62, 3) := by decide +kernel
theorem dRE_join_51 : decode cRE_join 51 = .ok (.aload_n 0, 1) := by decide +kernel
theorem dRE_join_52 : decode cRE_join 52 = .ok (.getfield 25, 3) := by decide +kernel
theorem dRE_join_55 : decode cRE_join 55 = .ok (.aload_n 0, 1) := by decide +kernel
theorem dRE_join_56 : decode cRE_join 56 = .ok (.getfield 62, 3) := by decide +kernel
theorem dRE_join_59 : decode cRE_join 59 = .ok (.iconst 1, 1) := by decide +kernel
theorem dRE_join_60 : decode cRE_join 60 = .ok (.isub, 1) := by decide +kernel
theorem dRE_join_61 : decode cRE_join 61 = .ok (.aload_n 0, 1) := by decide +kernel
theorem dRE_join_62 : decode cRE_join 62 = .ok (.iload_n 1, 1) := by decide +kernel
theorem dRE_join_63 : decode cRE_join 63 = .ok (.aload_n 0, 1) := by decide +kernel
theorem dRE_join_64 : decode cRE_join 64 = .ok (.getfield 25, 3) := by decide +kernel
theorem dRE_join_67 : decode cRE_join 67 = .ok (.aload_n 0, 1) := by decide +kernel
theorem dRE_join_68 : decode cRE_join 68 = .ok (.getfield 62, 3) := by decide +kernel
theorem dRE_join_71 : decode cRE_join 71 = .ok (.iconst 1, 1) := by decide +kernel
theorem dRE_join_72 : decode cRE_join 72 = .ok (.isub, 1) := by decide +kernel
theorem dRE_join_73 : decode cRE_join 73 = .ok (.iaload, 1) := by decide +kernel
theorem dRE_join_74 : decode cRE_join 74 = .ok (.iload_n 2, 1) := by decide +kernel
theorem dRE_join_75 : decode cRE_join 75 = .ok (.invokevirtual 68, 3) := by decide +kernel
theorem dRE_join_78 : decode cRE_join 78 = .ok (.iastore, 1) := by decide +kernel
theorem dRE_join_79 : decode cRE_join 79 = .ok (.return_, 1) := by decide +kernel
theorem dRE_newPart_0 : decode cRE_newPart 0 = .ok (.aload_n 0, 1) := by decide +kernel
theorem dRE_newPart_1 : decode cRE_newPart 1 = .ok (.getfield 56, 3) := by decide +kernel
theorem dRE_newPart_4 : decode cRE_newPart 4 = .ok (.istore 4, 2) := by decide +kernel
theorem dRE_newPart_6 : decode cRE_newPart 6 = .ok (.aload_n 0, 1) := by decide +kernel
theorem dRE_newPart_7 : decode cRE_newPart 7 = .ok (.getfield 9, 3) := by decide +kernel
theorem dRE_newPart_10 : decode cRE_newPart 10 = .ok (.iload 4, 2) := by decide +kernel
theorem dRE_newPart_12 : decode cRE_newPart 12 = .ok (.iload_n 1, 1) := by decide +kernel
theorem dRE_newPart_13 : decode cRE_newPart 13 = .ok (.castore, 1) := by decide +kernel
theorem dRE_newPart_14 : decode cRE_newPart 14 = .ok (.aload_n 0, 1) := by decide +kernel
theorem dRE_newPart_15 : decode cRE_newPart 15 = .ok (.getfield 15, 3) := by decide +kernel
theorem dRE_newPart_18 : decode cRE_newPart 18 = .ok (.iload 4, 2) := by decide +kernel
theorem dRE_newPart_20 : decode cRE_newPart 20 = .ok (.iload_n 2, 1) := by decide +kernel
theorem dRE_newPart_21 : decode cRE_newPart 21 = .ok (.iastore, 1) := by decide +kernel
theorem dRE_newPart_22 : decode cRE_newPart 22 = .ok (.aload_n 0, 1) := by decide +kernel
theorem dRE_newPart_23 : decode cRE_newPart 23 = .ok (.getfield 19, 3) := by decide +kernel
theorem dRE_newPart_26 : decode cRE_newPart 26 = .ok (.iload 4, 2) := by decide +kernel
theorem dRE_newPart_28 : decode cRE_newPart 28 = .ok (.iload_n 3, 1) := by decide +kernel
theorem dRE_newPart_29 : decode cRE_newPart 29 = .ok (.iastore, 1) := by decide +kernel
theorem dRE_newPart_30 : decode cRE_newPart 30 = .ok (.aload_n 0, 1) := by decide +kernel
theorem dRE_newPart_31 : decode cRE_newPart 31 = .ok (.dup, 1) := by decide +kernel
theorem dRE_newPart_32 : decode cRE_newPart 32 = .ok (.getfield 56, 3) := by decide +kernel
theorem dRE_newPart_35 : decode cRE_newPart 35 = .ok (.iconst 1, 1) := by decide +kernel
theorem dRE_newPart_36 : decode cRE_newPart 36 = .ok (.iadd, 1) := by decide +kernel
theorem dRE_newPart_37 : decode cRE_newPart 37 = .ok (.putfield 56, 3) := by decide +kernel
theorem dRE_newPart_40 : decode cRE_newPart 40 = .ok (.iload 4, 2) := by decide +kernel
theorem dRE_newPart_42 : decode cRE_newPart 42 = .ok (.ireturn, 1) := by decide +kernel
theorem dRE_isLeaf_0 : decode cRE_isLeaf 0 = .ok (.iload_n 0, 1) := by decide +kernel
theorem dRE_isLeaf_1 : decode cRE_isLeaf 1 = .ok (.bipush 112, 2) := by decide +kernel
theorem dRE_isLeaf_3 : decode cRE_isLeaf 3 = .ok (.if_icmp .lt 9, 3) := by decide +kernel
theorem dRE_isLeaf_6 : decode cRE_isLeaf 6 = .ok (.iload_n 0, 1) := by decide +kernel
theorem dRE_isLeaf_7 : decode cRE_isLeaf 7 = .ok (.bipush 115, 2) := by decide +kernel
theorem dRE_isLeaf_9 : decode cRE_isLeaf 9 = .ok (.if_icmp .le 15, 3) := by decide +kernel
theorem dRE_isLeaf_12 : decode cRE_isLeaf 12 = .ok (.iload_n 0, 1) := by decide +kernel
theorem dRE_isLeaf_13 : decode cRE_isLeaf 13 = .ok (.bipush 49, 2) := by decide +kernel
theorem dRE_isLeaf_15 : decode cRE_isLeaf 15 = .ok (.if_icmp .eq 9, 3) := by decide +kernel
theorem dRE_isLeaf_18 : decode cRE_isLeaf 18 = .ok (.iload_n 0, 1) := by decide +kernel
theorem dRE_isLeaf_19 : decode cRE_isLeaf 19 = .ok (.bipush 48, 2) := by decide +kernel
theorem dRE_isLeaf_21 : decode cRE_isLeaf 21 = .ok (.if_icmp .ne 7, 3) := by decide +kernel
theorem dRE_isLeaf_24 : decode cRE_isLeaf 24 = .ok (.iconst 1, 1) := by decide +kernel
theorem dRE_isLeaf_25 : decode cRE_isLeaf 25 = .ok (.goto 4, 3) := by decide +kernel
theorem dRE_isLeaf_28 : decode cRE_isLeaf 28 = .ok (.iconst 0, 1) := by decide +kernel
theorem dRE_isLeaf_29 : decode cRE_isLeaf 29 = .ok (.ireturn, 1) := by decide +kernel
theorem dRE_isTimed_0 : decode cRE_isTimed 0 = .ok (.iload_n 0, 1) := by decide +kernel
theorem dRE_isTimed_1 : decode cRE_isTimed 1 = .ok (.bipush 88, 2) := by decide +kernel
theorem dRE_isTimed_3 : decode cRE_isTimed 3 = .ok (.if_icmp .eq 27, 3) := by decide +kernel
theorem dRE_isTimed_6 : decode cRE_isTimed 6 = .ok (.iload_n 0, 1) := by decide +kernel
theorem dRE_isTimed_7 : decode cRE_isTimed 7 = .ok (.bipush 70, 2) := by decide +kernel
theorem dRE_isTimed_9 : decode cRE_isTimed 9 = .ok (.if_icmp .eq 21, 3) := by decide +kernel
theorem dRE_isTimed_12 : decode cRE_isTimed 12 = .ok (.iload_n 0, 1) := by decide +kernel
theorem dRE_isTimed_13 : decode cRE_isTimed 13 = .ok (.bipush 71, 2) := by decide +kernel
theorem dRE_isTimed_15 : decode cRE_isTimed 15 = .ok (.if_icmp .eq 15, 3) := by decide +kernel
theorem dRE_isTimed_18 : decode cRE_isTimed 18 = .ok (.iload_n 0, 1) := by decide +kernel
theorem dRE_isTimed_19 : decode cRE_isTimed 19 = .ok (.bipush 85, 2) := by decide +kernel
theorem dRE_isTimed_21 : decode cRE_isTimed 21 = .ok (.if_icmp .eq 9, 3) := by decide +kernel
theorem dRE_isTimed_24 : decode cRE_isTimed 24 = .ok (.iload_n 0, 1) := by decide +kernel
theorem dRE_isTimed_25 : decode cRE_isTimed 25 = .ok (.bipush 82, 2) := by decide +kernel
theorem dRE_isTimed_27 : decode cRE_isTimed 27 = .ok (.if_icmp .ne 7, 3) := by decide +kernel
theorem dRE_isTimed_30 : decode cRE_isTimed 30 = .ok (.iconst 1, 1) := by decide +kernel
theorem dRE_isTimed_31 : decode cRE_isTimed 31 = .ok (.goto 4, 3) := by decide +kernel
theorem dRE_isTimed_34 : decode cRE_isTimed 34 = .ok (.iconst 0, 1) := by decide +kernel
theorem dRE_isTimed_35 : decode cRE_isTimed 35 = .ok (.ireturn, 1) := by decide +kernel
theorem dRE_groupsToTheRight_0 : decode cRE_groupsToTheRight 0 = .ok (.iload_n 0, 1) := by decide +kernel
theorem dRE_groupsToTheRight_1 : decode cRE_groupsToTheRight 1 = .ok (.bipush 62, 2) := by decide +kernel
theorem dRE_groupsToTheRight_3 : decode cRE_groupsToTheRight 3 = .ok (.if_icmp .eq 15, 3) := by decide +kernel
theorem dRE_groupsToTheRight_6 : decode cRE_groupsToTheRight 6 = .ok (.iload_n 0, 1) := by decide +kernel
theorem dRE_groupsToTheRight_7 : decode cRE_groupsToTheRight 7 = .ok (.bipush 85, 2) := by decide +kernel
theorem dRE_groupsToTheRight_9 : decode cRE_groupsToTheRight 9 = .ok (.if_icmp .eq 9, 3) := by decide +kernel
theorem dRE_groupsToTheRight_12 : decode cRE_groupsToTheRight 12 = .ok (.iload_n 0, 1) := by decide +kernel
theorem dRE_groupsToTheRight_13 : decode cRE_groupsToTheRight 13 = .ok (.bipush 82, 2) := by decide +kernel
theorem dRE_groupsToTheRight_15 : decode cRE_groupsToTheRight 15 = .ok (.if_icmp .ne 7, 3) := by decide +kernel
theorem dRE_groupsToTheRight_18 : decode cRE_groupsToTheRight 18 = .ok (.iconst 1, 1) := by decide +kernel
theorem dRE_groupsToTheRight_19 : decode cRE_groupsToTheRight 19 = .ok (.goto 4, 3) := by decide +kernel
theorem dRE_groupsToTheRight_22 : decode cRE_groupsToTheRight 22 = .ok (.iconst 0, 1) := by decide +kernel
theorem dRE_groupsToTheRight_23 : decode cRE_groupsToTheRight 23 = .ok (.ireturn, 1) := by decide +kernel
theorem dRE_rank_0 : decode cRE_rank 0 = .ok (.iload_n 0, 1) := by decide +kernel
theorem dRE_rank_1 : decode cRE_rank 1 = .ok (.lookupswitch 93 #[(33, 91), (38, 87), (62, 83), (70, 91), (71, 91), (82, 89), (85, 89), (88, 91), (124, 85)], 83) := by decide +kernel
theorem dRE_rank_84 : decode cRE_rank 84 = .ok (.iconst 1, 1) := by decide +kernel
theorem dRE_rank_85 : decode cRE_rank 85 = .ok (.ireturn, 1) := by decide +kernel
theorem dRE_rank_86 : decode cRE_rank 86 = .ok (.iconst 2, 1) := by decide +kernel
theorem dRE_rank_87 : decode cRE_rank 87 = .ok (.ireturn, 1) := by decide +kernel
theorem dRE_rank_88 : decode cRE_rank 88 = .ok (.iconst 3, 1) := by decide +kernel
theorem dRE_rank_89 : decode cRE_rank 89 = .ok (.ireturn, 1) := by decide +kernel
theorem dRE_rank_90 : decode cRE_rank 90 = .ok (.iconst 4, 1) := by decide +kernel
theorem dRE_rank_91 : decode cRE_rank 91 = .ok (.ireturn, 1) := by decide +kernel
theorem dRE_rank_92 : decode cRE_rank 92 = .ok (.iconst 5, 1) := by decide +kernel
theorem dRE_rank_93 : decode cRE_rank 93 = .ok (.ireturn, 1) := by decide +kernel
theorem dRE_rank_94 : decode cRE_rank 94 = .ok (.iconst 0, 1) := by decide +kernel
theorem dRE_rank_95 : decode cRE_rank 95 = .ok (.ireturn, 1) := by decide +kernel
