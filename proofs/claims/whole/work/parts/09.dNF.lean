theorem dNF_init_0 : decode cNF_init 0 = .ok (.aload_n 0, 1) := by decide +kernel
theorem dNF_init_1 : decode cNF_init 1 = .ok (.invokespecial 3, 3) := by decide +kernel
theorem dNF_init_4 : decode cNF_init 4 = .ok (.aload_n 0, 1) := by decide +kernel
theorem dNF_init_5 : decode cNF_init 5 = .ok (.bipush 37, 2) := by decide +kernel
theorem dNF_init_7 : decode cNF_init 7 = .ok (.newarray .char, 2) := by decide +kernel
theorem dNF_init_9 : decode cNF_init 9 = .ok (.putfield 9, 3) := by decide +kernel
theorem dNF_init_12 : decode cNF_init 12 = .ok (.aload_n 0, 1) := by decide +kernel
theorem dNF_init_13 : decode cNF_init 13 = .ok (.bipush 37, 2) := by decide +kernel
theorem dNF_init_15 : decode cNF_init 15 = .ok (.newarray .int, 2) := by decide +kernel
theorem dNF_init_17 : decode cNF_init 17 = .ok (.putfield 15, 3) := by decide +kernel
theorem dNF_init_20 : decode cNF_init 20 = .ok (.aload_n 0, 1) := by decide +kernel
theorem dNF_init_21 : decode cNF_init 21 = .ok (.bipush 37, 2) := by decide +kernel
theorem dNF_init_23 : decode cNF_init 23 = .ok (.newarray .int, 2) := by decide +kernel
theorem dNF_init_25 : decode cNF_init 25 = .ok (.putfield 19, 3) := by decide +kernel
theorem dNF_init_28 : decode cNF_init 28 = .ok (.aload_n 0, 1) := by decide +kernel
theorem dNF_init_29 : decode cNF_init 29 = .ok (.iconst 5, 1) := by decide +kernel
theorem dNF_init_30 : decode cNF_init 30 = .ok (.newarray .int, 2) := by decide +kernel
theorem dNF_init_32 : decode cNF_init 32 = .ok (.putfield 22, 3) := by decide +kernel
theorem dNF_init_35 : decode cNF_init 35 = .ok (.aload_n 0, 1) := by decide +kernel
theorem dNF_init_36 : decode cNF_init 36 = .ok (.bipush 37, 2) := by decide +kernel
theorem dNF_init_38 : decode cNF_init 38 = .ok (.newarray .int, 2) := by decide +kernel
theorem dNF_init_40 : decode cNF_init 40 = .ok (.putfield 25, 3) := by decide +kernel
theorem dNF_init_43 : decode cNF_init 43 = .ok (.aload_n 0, 1) := by decide +kernel
theorem dNF_init_44 : decode cNF_init 44 = .ok (.bipush 32, 2) := by decide +kernel
theorem dNF_init_46 : decode cNF_init 46 = .ok (.newarray .int, 2) := by decide +kernel
theorem dNF_init_48 : decode cNF_init 48 = .ok (.putfield 28, 3) := by decide +kernel
theorem dNF_init_51 : decode cNF_init 51 = .ok (.aload_n 0, 1) := by decide +kernel
theorem dNF_init_52 : decode cNF_init 52 = .ok (.bipush 32, 2) := by decide +kernel
theorem dNF_init_54 : decode cNF_init 54 = .ok (.newarray .boolean, 2) := by decide +kernel
theorem dNF_init_56 : decode cNF_init 56 = .ok (.putfield 31, 3) := by decide +kernel
theorem dNF_init_59 : decode cNF_init 59 = .ok (.return_, 1) := by decide +kernel
theorem dNF_isMissing_0 : decode cNF_isMissing 0 = .ok (.aload_n 0, 1) := by decide +kernel
theorem dNF_isMissing_1 : decode cNF_isMissing 1 = .ok (.getfield 35, 3) := by decide +kernel
theorem dNF_isMissing_4 : decode cNF_isMissing 4 = .ok (.ifCond .ne 7, 3) := by decide +kernel
theorem dNF_isMissing_7 : decode cNF_isMissing 7 = .ok (.iconst 1, 1) := by decide +kernel
theorem dNF_isMissing_8 : decode cNF_isMissing 8 = .ok (.goto 4, 3) := by decide +kernel
theorem dNF_isMissing_11 : decode cNF_isMissing 11 = .ok (.iconst 0, 1) := by decide +kernel
theorem dNF_isMissing_12 : decode cNF_isMissing 12 = .ok (.ireturn, 1) := by decide +kernel
theorem dNF_take_0 : decode cNF_take 0 = .ok (.aload_n 0, 1) := by decide +kernel
theorem dNF_take_1 : decode cNF_take 1 = .ok (.aload_n 1, 1) := by decide +kernel
theorem dNF_take_2 : decode cNF_take 2 = .ok (.invokevirtual 39, 3) := by decide +kernel
theorem dNF_take_5 : decode cNF_take 5 = .ok (.aload_n 0, 1) := by decide +kernel
theorem dNF_take_6 : decode cNF_take 6 = .ok (.invokevirtual 43, 3) := by decide +kernel
theorem dNF_take_9 : decode cNF_take 9 = .ok (.return_, 1) := by decide +kernel
theorem dNF_write_0 : decode cNF_write 0 = .ok (.aload_n 0, 1) := by decide +kernel
theorem dNF_write_1 : decode cNF_write 1 = .ok (.iconst 0, 1) := by decide +kernel
theorem dNF_write_2 : decode cNF_write 2 = .ok (.putfield 35, 3) := by decide +kernel
theorem dNF_write_5 : decode cNF_write 5 = .ok (.aload_n 0, 1) := by decide +kernel
theorem dNF_write_6 : decode cNF_write 6 = .ok (.iconst 0, 1) := by decide +kernel
theorem dNF_write_7 : decode cNF_write 7 = .ok (.putfield 46, 3) := by decide +kernel
theorem dNF_write_10 : decode cNF_write 10 = .ok (.aload_n 0, 1) := by decide +kernel
theorem dNF_write_11 : decode cNF_write 11 = .ok (.aload_n 1, 1) := by decide +kernel
theorem dNF_write_12 : decode cNF_write 12 = .ok (.getfield 49, 3) := by decide +kernel
theorem dNF_write_15 : decode cNF_write 15 = .ok (.iconst 1, 1) := by decide +kernel
theorem dNF_write_16 : decode cNF_write 16 = .ok (.isub, 1) := by decide +kernel
theorem dNF_write_17 : decode cNF_write 17 = .ok (.iconst 0, 1) := by decide +kernel
theorem dNF_write_18 : decode cNF_write 18 = .ok (.invokevirtual 54, 3) := by decide +kernel
theorem dNF_write_21 : decode cNF_write 21 = .ok (.iconst 0, 1) := by decide +kernel
theorem dNF_write_22 : decode cNF_write 22 = .ok (.istore_n 2, 1) := by decide +kernel
theorem dNF_write_23 : decode cNF_write 23 = .ok (.iload_n 2, 1) := by decide +kernel
theorem dNF_write_24 : decode cNF_write 24 = .ok (.bipush 32, 2) := by decide +kernel
theorem dNF_write_26 : decode cNF_write 26 = .ok (.if_icmp .ge 138, 3) := by decide +kernel
theorem dNF_write_29 : decode cNF_write 29 = .ok (.aload_n 0, 1) := by decide +kernel
theorem dNF_write_30 : decode cNF_write 30 = .ok (.getfield 46, 3) := by decide +kernel
theorem dNF_write_33 : decode cNF_write 33 = .ok (.ifCond .le 131, 3) := by decide +kernel
theorem dNF_write_36 : decode cNF_write 36 = .ok (.aload_n 0, 1) := by decide +kernel
theorem dNF_write_37 : decode cNF_write 37 = .ok (.dup, 1) := by decide +kernel
theorem dNF_write_38 : decode cNF_write 38 = .ok (.getfield 46, 3) := by decide +kernel
theorem dNF_write_41 : decode cNF_write 41 = .ok (.iconst 1, 1) := by decide +kernel
theorem dNF_write_42 : decode cNF_write 42 = .ok (.isub, 1) := by decide +kernel
theorem dNF_write_43 : decode cNF_write 43 = .ok (.putfield 46, 3) := by decide +kernel
theorem dNF_write_46 : decode cNF_write 46 = .ok (.aload_n 0, 1) := by decide +kernel
theorem dNF_write_47 : decode cNF_write 47 = .ok (.getfield 28, 3) := by decide +kernel
theorem dNF_write_50 : decode cNF_write 50 = .ok (.aload_n 0, 1) := by decide +kernel
theorem dNF_write_51 : decode cNF_write 51 = .ok (.getfield 46, 3) := by decide +kernel
theorem dNF_write_54 : decode cNF_write 54 = .ok (.iaload, 1) := by decide +kernel
theorem dNF_write_55 : decode cNF_write 55 = .ok (.istore_n 3, 1) := by decide +kernel
theorem dNF_write_56 : decode cNF_write 56 = .ok (.aload_n 0, 1) := by decide +kernel
theorem dNF_write_57 : decode cNF_write 57 = .ok (.getfield 31, 3) := by decide +kernel
theorem dNF_write_60 : decode cNF_write 60 = .ok (.aload_n 0, 1) := by decide +kernel
theorem dNF_write_61 : decode cNF_write 61 = .ok (.getfield 46, 3) := by decide +kernel
theorem dNF_write_64 : decode cNF_write 64 = .ok (.baload, 1) := by decide +kernel
theorem dNF_write_65 : decode cNF_write 65 = .ok (.istore 4, 2) := by decide +kernel
theorem dNF_write_67 : decode cNF_write 67 = .ok (.aload_n 1, 1) := by decide +kernel
theorem dNF_write_68 : decode cNF_write 68 = .ok (.getfield 58, 3) := by decide +kernel
theorem dNF_write_71 : decode cNF_write 71 = .ok (.iload_n 3, 1) := by decide +kernel
theorem dNF_write_72 : decode cNF_write 72 = .ok (.caload, 1) := by decide +kernel
theorem dNF_write_73 : decode cNF_write 73 = .ok (.istore 5, 2) := by decide +kernel
theorem dNF_write_75 : decode cNF_write 75 = .ok (.aload_n 0, 1) := by decide +kernel
theorem dNF_write_76 : decode cNF_write 76 = .ok (.iload 5, 2) := by decide +kernel
theorem dNF_write_78 : decode cNF_write 78 = .ok (.iload 4, 2) := by decide +kernel
theorem dNF_write_80 : decode cNF_write 80 = .ok (.invokevirtual 59, 3) := by decide +kernel
theorem dNF_write_83 : decode cNF_write 83 = .ok (.aload_n 1, 1) := by decide +kernel
theorem dNF_write_84 : decode cNF_write 84 = .ok (.getfield 63, 3) := by decide +kernel
theorem dNF_write_87 : decode cNF_write 87 = .ok (.iload_n 3, 1) := by decide +kernel
theorem dNF_write_88 : decode cNF_write 88 = .ok (.iaload, 1) := by decide +kernel
theorem dNF_write_89 : decode cNF_write 89 = .ok (.iconst (-1), 1) := by decide +kernel
theorem dNF_write_90 : decode cNF_write 90 = .ok (.if_icmp .eq 15, 3) := by decide +kernel
theorem dNF_write_93 : decode cNF_write 93 = .ok (.aload_n 0, 1) := by decide +kernel
theorem dNF_write_94 : decode cNF_write 94 = .ok (.aload_n 1, 1) := by decide +kernel
theorem dNF_write_95 : decode cNF_write 95 = .ok (.getfield 63, 3) := by decide +kernel
theorem dNF_write_98 : decode cNF_write 98 = .ok (.iload_n 3, 1) := by decide +kernel
theorem dNF_write_99 : decode cNF_write 99 = .ok (.iaload, 1) := by decide +kernel
theorem dNF_write_100 : decode cNF_write 100 = .ok (.iload 4, 2) := by decide +kernel
theorem dNF_write_102 : decode cNF_write 102 = .ok (.invokevirtual 54, 3) := by decide +kernel
theorem dNF_write_105 : decode cNF_write 105 = .ok (.aload_n 1, 1) := by decide +kernel
theorem dNF_write_106 : decode cNF_write 106 = .ok (.getfield 64, 3) := by decide +kernel
theorem dNF_write_109 : decode cNF_write 109 = .ok (.iload_n 3, 1) := by decide +kernel
theorem dNF_write_110 : decode cNF_write 110 = .ok (.iaload, 1) := by decide +kernel
theorem dNF_write_111 : decode cNF_write 111 = .ok (.iconst (-1), 1) := by decide +kernel
theorem dNF_write_112 : decode cNF_write 112 = .ok (.if_icmp .eq 46, 3) := by decide +kernel
theorem dNF_write_115 : decode cNF_write 115 = .ok (.iload 5, 2) := by decide +kernel
theorem dNF_write_117 : decode cNF_write 117 = .ok (.bipush 33, 2) := by decide +kernel
theorem dNF_write_119 : decode cNF_write 119 = .ok (.if_icmp .eq 10, 3) := by decide +kernel
theorem dNF_write_122 : decode cNF_write 122 = .ok (.iload 5, 2) := by decide +kernel
theorem dNF_write_124 : decode cNF_write 124 = .ok (.bipush 62, 2) := by decide +kernel
theorem dNF_write_126 : decode cNF_write 126 = .ok (.if_icmp .ne 7, 3) := by decide +kernel
theorem dNF_write_129 : decode cNF_write 129 = .ok (.iconst 1, 1) := by decide +kernel
theorem dNF_write_130 : decode cNF_write 130 = .ok (.goto 4, 3) := by decide +kernel
theorem dNF_write_133 : decode cNF_write 133 = .ok (.iconst 0, 1) := by decide +kernel
theorem dNF_write_134 : decode cNF_write 134 = .ok (.istore 6, 2) := by decide +kernel
theorem dNF_write_136 : decode cNF_write 136 = .ok (.aload_n 0, 1) := by decide +kernel
theorem dNF_write_137 : decode cNF_write 137 = .ok (.aload_n 1, 1) := by decide +kernel
theorem dNF_write_138 : decode cNF_write 138 = .ok (.getfield 64, 3) := by decide +kernel
theorem dNF_write_141 : decode cNF_write 141 = .ok (.iload_n 3, 1) := by decide +kernel
theorem dNF_write_142 : decode cNF_write 142 = .ok (.iaload, 1) := by decide +kernel
theorem dNF_write_143 : decode cNF_write 143 = .ok (.iload 4, 2) := by decide +kernel
theorem dNF_write_145 : decode cNF_write 145 = .ok (.iload 6, 2) := by decide +kernel
theorem dNF_write_147 : decode cNF_write 147 = .ok (.if_icmp .eq 7, 3) := by decide +kernel
theorem dNF_write_150 : decode cNF_write 150 = .ok (.iconst 1, 1) := by decide +kernel
theorem dNF_write_151 : decode cNF_write 151 = .ok (.goto 4, 3) := by decide +kernel
theorem dNF_write_154 : decode cNF_write 154 = .ok (.iconst 0, 1) := by decide +kernel
theorem dNF_write_155 : decode cNF_write 155 = .ok (.invokevirtual 54, 3) := by decide +kernel
theorem dNF_write_158 : decode cNF_write 158 = .ok (.iinc 2 1, 3) := by decide +kernel
theorem dNF_write_161 : decode cNF_write 161 = .ok (.goto (-138), 3) := by decide +kernel
theorem dNF_write_164 : decode cNF_write 164 = .ok (.return_, 1) := by decide +kernel
theorem dNF_keepForLater_0 : decode cNF_keepForLater 0 = .ok (.aload_n 0, 1) := by decide +kernel
theorem dNF_keepForLater_1 : decode cNF_keepForLater 1 = .ok (.getfield 28, 3) := by decide +kernel
theorem dNF_keepForLater_4 : decode cNF_keepForLater 4 = .ok (.aload_n 0, 1) := by decide +kernel
theorem dNF_keepForLater_5 : decode cNF_keepForLater 5 = .ok (.getfield 46, 3) := by decide +kernel
theorem dNF_keepForLater_8 : decode cNF_keepForLater 8 = .ok (.iload_n 1, 1) := by decide +kernel
theorem dNF_keepForLater_9 : decode cNF_keepForLater 9 = .ok (.iastore, 1) := by decide +kernel
theorem dNF_keepForLater_10 : decode cNF_keepForLater 10 = .ok (.aload_n 0, 1) := by decide +kernel
theorem dNF_keepForLater_11 : decode cNF_keepForLater 11 = .ok (.getfield 31, 3) := by decide +kernel
theorem dNF_keepForLater_14 : decode cNF_keepForLater 14 = .ok (.aload_n 0, 1) := by decide +kernel
theorem dNF_keepForLater_15 : decode cNF_keepForLater 15 = .ok (.getfield 46, 3) := by decide +kernel
theorem dNF_keepForLater_18 : decode cNF_keepForLater 18 = .ok (.iload_n 2, 1) := by decide +kernel
theorem dNF_keepForLater_19 : decode cNF_keepForLater 19 = .ok (.bastore, 1) := by decide +kernel
theorem dNF_keepForLater_20 : decode cNF_keepForLater 20 = .ok (.aload_n 0, 1) := by decide +kernel
theorem dNF_keepForLater_21 : decode cNF_keepForLater 21 = .ok (.dup, 1) := by decide +kernel
theorem dNF_keepForLater_22 : decode cNF_keepForLater 22 = .ok (.getfield 46, 3) := by decide +kernel
theorem dNF_keepForLater_25 : decode cNF_keepForLater 25 = .ok (.iconst 1, 1) := by decide +kernel
theorem dNF_keepForLater_26 : decode cNF_keepForLater 26 = .ok (.iadd, 1) := by decide +kernel
theorem dNF_keepForLater_27 : decode cNF_keepForLater 27 = .ok (.putfield 46, 3) := by decide +kernel
theorem dNF_keepForLater_30 : decode cNF_keepForLater 30 = .ok (.return_, 1) := by decide +kernel
theorem dNF_writeSigns_0 : decode cNF_writeSigns 0 = .ok (.iload_n 1, 1) := by decide +kernel
theorem dNF_writeSigns_1 : decode cNF_writeSigns 1 = .ok (.lookupswitch 130 #[(33, 43), (62, 46), (70, 64), (71, 97)], 43) := by decide +kernel
theorem dNF_writeSigns_44 : decode cNF_writeSigns 44 = .ok (.goto 103, 3) := by decide +kernel
theorem dNF_writeSigns_47 : decode cNF_writeSigns 47 = .ok (.aload_n 0, 1) := by decide +kernel
theorem dNF_writeSigns_48 : decode cNF_writeSigns 48 = .ok (.iload_n 2, 1) := by decide +kernel
theorem dNF_writeSigns_49 : decode cNF_writeSigns 49 = .ok (.ifCond .eq 8, 3) := by decide +kernel
theorem dNF_writeSigns_52 : decode cNF_writeSigns 52 = .ok (.bipush 38, 2) := by decide +kernel
theorem dNF_writeSigns_54 : decode cNF_writeSigns 54 = .ok (.goto 5, 3) := by decide +kernel
theorem dNF_writeSigns_57 : decode cNF_writeSigns 57 = .ok (.bipush 124, 2) := by decide +kernel
theorem dNF_writeSigns_59 : decode cNF_writeSigns 59 = .ok (.invokevirtual 67, 3) := by decide +kernel
theorem dNF_writeSigns_62 : decode cNF_writeSigns 62 = .ok (.goto 85, 3) := by decide +kernel
theorem dNF_writeSigns_65 : decode cNF_writeSigns 65 = .ok (.aload_n 0, 1) := by decide +kernel
theorem dNF_writeSigns_66 : decode cNF_writeSigns 66 = .ok (.iload_n 2, 1) := by decide +kernel
theorem dNF_writeSigns_67 : decode cNF_writeSigns 67 = .ok (.ifCond .eq 8, 3) := by decide +kernel
theorem dNF_writeSigns_70 : decode cNF_writeSigns 70 = .ok (.bipush 82, 2) := by decide +kernel
theorem dNF_writeSigns_72 : decode cNF_writeSigns 72 = .ok (.goto 5, 3) := by decide +kernel
theorem dNF_writeSigns_75 : decode cNF_writeSigns 75 = .ok (.bipush 85, 2) := by decide +kernel
theorem dNF_writeSigns_77 : decode cNF_writeSigns 77 = .ok (.invokevirtual 67, 3) := by decide +kernel
theorem dNF_writeSigns_80 : decode cNF_writeSigns 80 = .ok (.aload_n 0, 1) := by decide +kernel
theorem dNF_writeSigns_81 : decode cNF_writeSigns 81 = .ok (.iload_n 2, 1) := by decide +kernel
theorem dNF_writeSigns_82 : decode cNF_writeSigns 82 = .ok (.ifCond .eq 8, 3) := by decide +kernel
theorem dNF_writeSigns_85 : decode cNF_writeSigns 85 = .ok (.bipush 48, 2) := by decide +kernel
theorem dNF_writeSigns_87 : decode cNF_writeSigns 87 = .ok (.goto 5, 3) := by decide +kernel
theorem dNF_writeSigns_90 : decode cNF_writeSigns 90 = .ok (.bipush 49, 2) := by decide +kernel
theorem dNF_writeSigns_92 : decode cNF_writeSigns 92 = .ok (.invokevirtual 67, 3) := by decide +kernel
theorem dNF_writeSigns_95 : decode cNF_writeSigns 95 = .ok (.goto 52, 3) := by decide +kernel
theorem dNF_writeSigns_98 : decode cNF_writeSigns 98 = .ok (.aload_n 0, 1) := by decide +kernel
theorem dNF_writeSigns_99 : decode cNF_writeSigns 99 = .ok (.iload_n 2, 1) := by decide +kernel
theorem dNF_writeSigns_100 : decode cNF_writeSigns 100 = .ok (.ifCond .eq 8, 3) := by decide +kernel
theorem dNF_writeSigns_103 : decode cNF_writeSigns 103 = .ok (.bipush 85, 2) := by decide +kernel
theorem dNF_writeSigns_105 : decode cNF_writeSigns 105 = .ok (.goto 5, 3) := by decide +kernel
theorem dNF_writeSigns_108 : decode cNF_writeSigns 108 = .ok (.bipush 82, 2) := by decide +kernel
theorem dNF_writeSigns_110 : decode cNF_writeSigns 110 = .ok (.invokevirtual 67, 3) := by decide +kernel
theorem dNF_writeSigns_113 : decode cNF_writeSigns 113 = .ok (.aload_n 0, 1) := by decide +kernel
theorem dNF_writeSigns_114 : decode cNF_writeSigns 114 = .ok (.iload_n 2, 1) := by decide +kernel
theorem dNF_writeSigns_115 : decode cNF_writeSigns 115 = .ok (.ifCond .eq 8, 3) := by decide +kernel
theorem dNF_writeSigns_118 : decode cNF_writeSigns 118 = .ok (.bipush 49, 2) := by decide +kernel
theorem dNF_writeSigns_120 : decode cNF_writeSigns 120 = .ok (.goto 5, 3) := by decide +kernel
theorem dNF_writeSigns_123 : decode cNF_writeSigns 123 = .ok (.bipush 48, 2) := by decide +kernel
theorem dNF_writeSigns_125 : decode cNF_writeSigns 125 = .ok (.invokevirtual 67, 3) := by decide +kernel
theorem dNF_writeSigns_128 : decode cNF_writeSigns 128 = .ok (.goto 19, 3) := by decide +kernel
theorem dNF_writeSigns_131 : decode cNF_writeSigns 131 = .ok (.aload_n 0, 1) := by decide +kernel
theorem dNF_writeSigns_132 : decode cNF_writeSigns 132 = .ok (.iload_n 2, 1) := by decide +kernel
theorem dNF_writeSigns_133 : decode cNF_writeSigns 133 = .ok (.ifCond .eq 10, 3) := by decide +kernel
theorem dNF_writeSigns_136 : decode cNF_writeSigns 136 = .ok (.iload_n 1, 1) := by decide +kernel
theorem dNF_writeSigns_137 : decode cNF_writeSigns 137 = .ok (.invokestatic 71, 3) := by decide +kernel
theorem dNF_writeSigns_140 : decode cNF_writeSigns 140 = .ok (.goto 4, 3) := by decide +kernel
theorem dNF_writeSigns_143 : decode cNF_writeSigns 143 = .ok (.iload_n 1, 1) := by decide +kernel
theorem dNF_writeSigns_144 : decode cNF_writeSigns 144 = .ok (.invokevirtual 67, 3) := by decide +kernel
theorem dNF_writeSigns_147 : decode cNF_writeSigns 147 = .ok (.return_, 1) := by decide +kernel
theorem dNF_add_0 : decode cNF_add 0 = .ok (.aload_n 0, 1) := by decide +kernel
theorem dNF_add_1 : decode cNF_add 1 = .ok (.getfield 35, 3) := by decide +kernel
theorem dNF_add_4 : decode cNF_add 4 = .ok (.bipush 37, 2) := by decide +kernel
theorem dNF_add_6 : decode cNF_add 6 = .ok (.if_icmp .ge 23, 3) := by decide +kernel
theorem dNF_add_9 : decode cNF_add 9 = .ok (.aload_n 0, 1) := by decide +kernel
theorem dNF_add_10 : decode cNF_add 10 = .ok (.getfield 9, 3) := by decide +kernel
theorem dNF_add_13 : decode cNF_add 13 = .ok (.aload_n 0, 1) := by decide +kernel
theorem dNF_add_14 : decode cNF_add 14 = .ok (.getfield 35, 3) := by decide +kernel
theorem dNF_add_17 : decode cNF_add 17 = .ok (.iload_n 1, 1) := by decide +kernel
theorem dNF_add_18 : decode cNF_add 18 = .ok (.castore, 1) := by decide +kernel
theorem dNF_add_19 : decode cNF_add 19 = .ok (.aload_n 0, 1) := by decide +kernel
theorem dNF_add_20 : decode cNF_add 20 = .ok (.dup, 1) := by decide +kernel
theorem dNF_add_21 : decode cNF_add 21 = .ok (.getfield 35, 3) := by decide +kernel
theorem dNF_add_24 : decode cNF_add 24 = .ok (.iconst 1, 1) := by decide +kernel
theorem dNF_add_25 : decode cNF_add 25 = .ok (.iadd, 1) := by decide +kernel
theorem dNF_add_26 : decode cNF_add 26 = .ok (.putfield 35, 3) := by decide +kernel
theorem dNF_add_29 : decode cNF_add 29 = .ok (.return_, 1) := by decide +kernel
theorem dNF_opposite_0 : decode cNF_opposite 0 = .ok (.iload_n 0, 1) := by decide +kernel
theorem dNF_opposite_1 : decode cNF_opposite 1 = .ok (.lookupswitch 88 #[(38, 67), (48, 82), (49, 79), (82, 76), (85, 73), (88, 85), (124, 70)], 67) := by decide +kernel
theorem dNF_opposite_68 : decode cNF_opposite 68 = .ok (.bipush 124, 2) := by decide +kernel
theorem dNF_opposite_70 : decode cNF_opposite 70 = .ok (.ireturn, 1) := by decide +kernel
theorem dNF_opposite_71 : decode cNF_opposite 71 = .ok (.bipush 38, 2) := by decide +kernel
theorem dNF_opposite_73 : decode cNF_opposite 73 = .ok (.ireturn, 1) := by decide +kernel
theorem dNF_opposite_74 : decode cNF_opposite 74 = .ok (.bipush 82, 2) := by decide +kernel
theorem dNF_opposite_76 : decode cNF_opposite 76 = .ok (.ireturn, 1) := by decide +kernel
theorem dNF_opposite_77 : decode cNF_opposite 77 = .ok (.bipush 85, 2) := by decide +kernel
theorem dNF_opposite_79 : decode cNF_opposite 79 = .ok (.ireturn, 1) := by decide +kernel
theorem dNF_opposite_80 : decode cNF_opposite 80 = .ok (.bipush 48, 2) := by decide +kernel
theorem dNF_opposite_82 : decode cNF_opposite 82 = .ok (.ireturn, 1) := by decide +kernel
theorem dNF_opposite_83 : decode cNF_opposite 83 = .ok (.bipush 49, 2) := by decide +kernel
theorem dNF_opposite_85 : decode cNF_opposite 85 = .ok (.ireturn, 1) := by decide +kernel
theorem dNF_opposite_86 : decode cNF_opposite 86 = .ok (.bipush 88, 2) := by decide +kernel
theorem dNF_opposite_88 : decode cNF_opposite 88 = .ok (.ireturn, 1) := by decide +kernel
theorem dNF_opposite_89 : decode cNF_opposite 89 = .ok (.bipush 65, 2) := by decide +kernel
theorem dNF_opposite_91 : decode cNF_opposite 91 = .ok (.iload_n 0, 1) := by decide +kernel
theorem dNF_opposite_92 : decode cNF_opposite 92 = .ok (.bipush 112, 2) := by decide +kernel
theorem dNF_opposite_94 : decode cNF_opposite 94 = .ok (.isub, 1) := by decide +kernel
theorem dNF_opposite_95 : decode cNF_opposite 95 = .ok (.iadd, 1) := by decide +kernel
theorem dNF_opposite_96 : decode cNF_opposite 96 = .ok (.i2c, 1) := by decide +kernel
theorem dNF_opposite_97 : decode cNF_opposite 97 = .ok (.ireturn, 1) := by decide +kernel
theorem dNF_connect_0 : decode cNF_connect 0 = .ok (.aload_n 0, 1) := by decide +kernel
theorem dNF_connect_1 : decode cNF_connect 1 = .ok (.iconst 0, 1) := by decide +kernel
theorem dNF_connect_2 : decode cNF_connect 2 = .ok (.putfield 75, 3) := by decide +kernel
theorem dNF_connect_5 : decode cNF_connect 5 = .ok (.aload_n 0, 1) := by decide +kernel
theorem dNF_connect_6 : decode cNF_connect 6 = .ok (.getfield 35, 3) := by decide +kernel
theorem dNF_connect_9 : decode cNF_connect 9 = .ok (.iconst 1, 1) := by decide +kernel
theorem dNF_connect_10 : decode cNF_connect 10 = .ok (.isub, 1) := by decide +kernel
theorem dNF_connect_11 : decode cNF_connect 11 = .ok (.istore_n 1, 1) := by decide +kernel
theorem dNF_connect_12 : decode cNF_connect 12 = .ok (.iload_n 1, 1) := by decide +kernel
theorem dNF_connect_13 : decode cNF_connect 13 = .ok (.ifCond .lt 153, 3) := by decide +kernel
theorem dNF_connect_16 : decode cNF_connect 16 = .ok (.aload_n 0, 1) := by decide +kernel
theorem dNF_connect_17 : decode cNF_connect 17 = .ok (.getfield 15, 3) := by decide +kernel
theorem dNF_connect_20 : decode cNF_connect 20 = .ok (.iload_n 1, 1) := by decide +kernel
theorem dNF_connect_21 : decode cNF_connect 21 = .ok (.iconst (-1), 1) := by decide +kernel
theorem dNF_connect_22 : decode cNF_connect 22 = .ok (.iastore, 1) := by decide +kernel
theorem dNF_connect_23 : decode cNF_connect 23 = .ok (.aload_n 0, 1) := by decide +kernel
theorem dNF_connect_24 : decode cNF_connect 24 = .ok (.getfield 25, 3) := by decide +kernel
theorem dNF_connect_27 : decode cNF_connect 27 = .ok (.iload_n 1, 1) := by decide +kernel
theorem dNF_connect_28 : decode cNF_connect 28 = .ok (.iconst (-1), 1) := by decide +kernel
theorem dNF_connect_29 : decode cNF_connect 29 = .ok (.iastore, 1) := by decide +kernel
theorem dNF_connect_30 : decode cNF_connect 30 = .ok (.aload_n 0, 1) := by decide +kernel
theorem dNF_connect_31 : decode cNF_connect 31 = .ok (.getfield 19, 3) := by decide +kernel
theorem dNF_connect_34 : decode cNF_connect 34 = .ok (.iload_n 1, 1) := by decide +kernel
theorem dNF_connect_35 : decode cNF_connect 35 = .ok (.iload_n 1, 1) := by decide +kernel
theorem dNF_connect_36 : decode cNF_connect 36 = .ok (.iconst 1, 1) := by decide +kernel
theorem dNF_connect_37 : decode cNF_connect 37 = .ok (.iadd, 1) := by decide +kernel
theorem dNF_connect_38 : decode cNF_connect 38 = .ok (.iastore, 1) := by decide +kernel
theorem dNF_connect_39 : decode cNF_connect 39 = .ok (.aload_n 0, 1) := by decide +kernel
theorem dNF_connect_40 : decode cNF_connect 40 = .ok (.getfield 9, 3) := by decide +kernel
theorem dNF_connect_43 : decode cNF_connect 43 = .ok (.iload_n 1, 1) := by decide +kernel
theorem dNF_connect_44 : decode cNF_connect 44 = .ok (.caload, 1) := by decide +kernel
theorem dNF_connect_45 : decode cNF_connect 45 = .ok (.bipush 88, 2) := by decide +kernel
theorem dNF_connect_47 : decode cNF_connect 47 = .ok (.if_icmp .ne 20, 3) := by decide +kernel
theorem dNF_connect_50 : decode cNF_connect 50 = .ok (.aload_n 0, 1) := by decide +kernel
theorem dNF_connect_51 : decode cNF_connect 51 = .ok (.getfield 19, 3) := by decide +kernel
theorem dNF_connect_54 : decode cNF_connect 54 = .ok (.iload_n 1, 1) := by decide +kernel
theorem dNF_connect_55 : decode cNF_connect 55 = .ok (.aload_n 0, 1) := by decide +kernel
theorem dNF_connect_56 : decode cNF_connect 56 = .ok (.getfield 19, 3) := by decide +kernel
theorem dNF_connect_59 : decode cNF_connect 59 = .ok (.iload_n 1, 1) := by decide +kernel
theorem dNF_connect_60 : decode cNF_connect 60 = .ok (.iconst 1, 1) := by decide +kernel
theorem dNF_connect_61 : decode cNF_connect 61 = .ok (.iadd, 1) := by decide +kernel
theorem dNF_connect_62 : decode cNF_connect 62 = .ok (.iaload, 1) := by decide +kernel
theorem dNF_connect_63 : decode cNF_connect 63 = .ok (.iastore, 1) := by decide +kernel
theorem dNF_connect_64 : decode cNF_connect 64 = .ok (.goto 46, 3) := by decide +kernel
theorem dNF_connect_67 : decode cNF_connect 67 = .ok (.aload_n 0, 1) := by decide +kernel
theorem dNF_connect_68 : decode cNF_connect 68 = .ok (.getfield 9, 3) := by decide +kernel
theorem dNF_connect_71 : decode cNF_connect 71 = .ok (.iload_n 1, 1) := by decide +kernel
theorem dNF_connect_72 : decode cNF_connect 72 = .ok (.caload, 1) := by decide +kernel
theorem dNF_connect_73 : decode cNF_connect 73 = .ok (.invokestatic 78, 3) := by decide +kernel
theorem dNF_connect_76 : decode cNF_connect 76 = .ok (.ifCond .eq 34, 3) := by decide +kernel
theorem dNF_connect_79 : decode cNF_connect 79 = .ok (.aload_n 0, 1) := by decide +kernel
theorem dNF_connect_80 : decode cNF_connect 80 = .ok (.getfield 15, 3) := by decide +kernel
theorem dNF_connect_83 : decode cNF_connect 83 = .ok (.iload_n 1, 1) := by decide +kernel
theorem dNF_connect_84 : decode cNF_connect 84 = .ok (.aload_n 0, 1) := by decide +kernel
theorem dNF_connect_85 : decode cNF_connect 85 = .ok (.getfield 19, 3) := by decide +kernel
theorem dNF_connect_88 : decode cNF_connect 88 = .ok (.iload_n 1, 1) := by decide +kernel
theorem dNF_connect_89 : decode cNF_connect 89 = .ok (.iconst 1, 1) := by decide +kernel
theorem dNF_connect_90 : decode cNF_connect 90 = .ok (.iadd, 1) := by decide +kernel
theorem dNF_connect_91 : decode cNF_connect 91 = .ok (.iaload, 1) := by decide +kernel
theorem dNF_connect_92 : decode cNF_connect 92 = .ok (.iastore, 1) := by decide +kernel
theorem dNF_connect_93 : decode cNF_connect 93 = .ok (.aload_n 0, 1) := by decide +kernel
theorem dNF_connect_94 : decode cNF_connect 94 = .ok (.getfield 19, 3) := by decide +kernel
theorem dNF_connect_97 : decode cNF_connect 97 = .ok (.iload_n 1, 1) := by decide +kernel
theorem dNF_connect_98 : decode cNF_connect 98 = .ok (.aload_n 0, 1) := by decide +kernel
theorem dNF_connect_99 : decode cNF_connect 99 = .ok (.getfield 19, 3) := by decide +kernel
theorem dNF_connect_102 : decode cNF_connect 102 = .ok (.aload_n 0, 1) := by decide +kernel
theorem dNF_connect_103 : decode cNF_connect 103 = .ok (.getfield 15, 3) := by decide +kernel
theorem dNF_connect_106 : decode cNF_connect 106 = .ok (.iload_n 1, 1) := by decide +kernel
theorem dNF_connect_107 : decode cNF_connect 107 = .ok (.iaload, 1) := by decide +kernel
theorem dNF_connect_108 : decode cNF_connect 108 = .ok (.iaload, 1) := by decide +kernel
theorem dNF_connect_109 : decode cNF_connect 109 = .ok (.iastore, 1) := by decide +kernel
theorem dNF_connect_110 : decode cNF_connect 110 = .ok (.aload_n 0, 1) := by decide +kernel
theorem dNF_connect_111 : decode cNF_connect 111 = .ok (.getfield 9, 3) := by decide +kernel
theorem dNF_connect_114 : decode cNF_connect 114 = .ok (.iload_n 1, 1) := by decide +kernel
theorem dNF_connect_115 : decode cNF_connect 115 = .ok (.caload, 1) := by decide +kernel
theorem dNF_connect_116 : decode cNF_connect 116 = .ok (.invokestatic 82, 3) := by decide +kernel
theorem dNF_connect_119 : decode cNF_connect 119 = .ok (.ifCond .eq 41, 3) := by decide +kernel
theorem dNF_connect_122 : decode cNF_connect 122 = .ok (.aload_n 0, 1) := by decide +kernel
theorem dNF_connect_123 : decode cNF_connect 123 = .ok (.getfield 75, 3) := by decide +kernel
theorem dNF_connect_126 : decode cNF_connect 126 = .ok (.iconst 5, 1) := by decide +kernel
theorem dNF_connect_127 : decode cNF_connect 127 = .ok (.if_icmp .ge 33, 3) := by decide +kernel
theorem dNF_connect_130 : decode cNF_connect 130 = .ok (.aload_n 0, 1) := by decide +kernel
theorem dNF_connect_131 : decode cNF_connect 131 = .ok (.getfield 25, 3) := by decide +kernel
theorem dNF_connect_134 : decode cNF_connect 134 = .ok (.iload_n 1, 1) := by decide +kernel
theorem dNF_connect_135 : decode cNF_connect 135 = .ok (.aload_n 0, 1) := by decide +kernel
theorem dNF_connect_136 : decode cNF_connect 136 = .ok (.getfield 75, 3) := by decide +kernel
theorem dNF_connect_139 : decode cNF_connect 139 = .ok (.iastore, 1) := by decide +kernel
theorem dNF_connect_140 : decode cNF_connect 140 = .ok (.aload_n 0, 1) := by decide +kernel
theorem dNF_connect_141 : decode cNF_connect 141 = .ok (.getfield 22, 3) := by decide +kernel
theorem dNF_connect_144 : decode cNF_connect 144 = .ok (.aload_n 0, 1) := by decide +kernel
theorem dNF_connect_145 : decode cNF_connect 145 = .ok (.getfield 75, 3) := by decide +kernel
theorem dNF_connect_148 : decode cNF_connect 148 = .ok (.iload_n 1, 1) := by decide +kernel
theorem dNF_connect_149 : decode cNF_connect 149 = .ok (.iastore, 1) := by decide +kernel
theorem dNF_connect_150 : decode cNF_connect 150 = .ok (.aload_n 0, 1) := by decide +kernel
theorem dNF_connect_151 : decode cNF_connect 151 = .ok (.dup, 1) := by decide +kernel
theorem dNF_connect_152 : decode cNF_connect 152 = .ok (.getfield 75, 3) := by decide +kernel
theorem dNF_connect_155 : decode cNF_connect 155 = .ok (.iconst 1, 1) := by decide +kernel
theorem dNF_connect_156 : decode cNF_connect 156 = .ok (.iadd, 1) := by decide +kernel
theorem dNF_connect_157 : decode cNF_connect 157 = .ok (.putfield 75, 3) := by decide +kernel
theorem dNF_connect_160 : decode cNF_connect 160 = .ok (.iinc 1 (-1), 3) := by decide +kernel
theorem dNF_connect_163 : decode cNF_connect 163 = .ok (.goto (-151), 3) := by decide +kernel
theorem dNF_connect_166 : decode cNF_connect 166 = .ok (.return_, 1) := by decide +kernel
theorem dNF_isBinary_0 : decode cNF_isBinary 0 = .ok (.iload_n 0, 1) := by decide +kernel
theorem dNF_isBinary_1 : decode cNF_isBinary 1 = .ok (.bipush 38, 2) := by decide +kernel
theorem dNF_isBinary_3 : decode cNF_isBinary 3 = .ok (.if_icmp .eq 21, 3) := by decide +kernel
theorem dNF_isBinary_6 : decode cNF_isBinary 6 = .ok (.iload_n 0, 1) := by decide +kernel
theorem dNF_isBinary_7 : decode cNF_isBinary 7 = .ok (.bipush 124, 2) := by decide +kernel
theorem dNF_isBinary_9 : decode cNF_isBinary 9 = .ok (.if_icmp .eq 15, 3) := by decide +kernel
theorem dNF_isBinary_12 : decode cNF_isBinary 12 = .ok (.iload_n 0, 1) := by decide +kernel
theorem dNF_isBinary_13 : decode cNF_isBinary 13 = .ok (.bipush 85, 2) := by decide +kernel
theorem dNF_isBinary_15 : decode cNF_isBinary 15 = .ok (.if_icmp .eq 9, 3) := by decide +kernel
theorem dNF_isBinary_18 : decode cNF_isBinary 18 = .ok (.iload_n 0, 1) := by decide +kernel
theorem dNF_isBinary_19 : decode cNF_isBinary 19 = .ok (.bipush 82, 2) := by decide +kernel
theorem dNF_isBinary_21 : decode cNF_isBinary 21 = .ok (.if_icmp .ne 7, 3) := by decide +kernel
theorem dNF_isBinary_24 : decode cNF_isBinary 24 = .ok (.iconst 1, 1) := by decide +kernel
theorem dNF_isBinary_25 : decode cNF_isBinary 25 = .ok (.goto 4, 3) := by decide +kernel
theorem dNF_isBinary_28 : decode cNF_isBinary 28 = .ok (.iconst 0, 1) := by decide +kernel
theorem dNF_isBinary_29 : decode cNF_isBinary 29 = .ok (.ireturn, 1) := by decide +kernel
theorem dNF_leafHolds_0 : decode cNF_leafHolds 0 = .ok (.iload_n 0, 1) := by decide +kernel
theorem dNF_leafHolds_1 : decode cNF_leafHolds 1 = .ok (.bipush 112, 2) := by decide +kernel
theorem dNF_leafHolds_3 : decode cNF_leafHolds 3 = .ok (.if_icmp .lt 27, 3) := by decide +kernel
theorem dNF_leafHolds_6 : decode cNF_leafHolds 6 = .ok (.iload_n 0, 1) := by decide +kernel
theorem dNF_leafHolds_7 : decode cNF_leafHolds 7 = .ok (.bipush 115, 2) := by decide +kernel
theorem dNF_leafHolds_9 : decode cNF_leafHolds 9 = .ok (.if_icmp .gt 21, 3) := by decide +kernel
theorem dNF_leafHolds_12 : decode cNF_leafHolds 12 = .ok (.iload_n 1, 1) := by decide +kernel
theorem dNF_leafHolds_13 : decode cNF_leafHolds 13 = .ok (.iload_n 0, 1) := by decide +kernel
theorem dNF_leafHolds_14 : decode cNF_leafHolds 14 = .ok (.bipush 112, 2) := by decide +kernel
theorem dNF_leafHolds_16 : decode cNF_leafHolds 16 = .ok (.isub, 1) := by decide +kernel
theorem dNF_leafHolds_17 : decode cNF_leafHolds 17 = .ok (.iushr, 1) := by decide +kernel
theorem dNF_leafHolds_18 : decode cNF_leafHolds 18 = .ok (.iconst 1, 1) := by decide +kernel
theorem dNF_leafHolds_19 : decode cNF_leafHolds 19 = .ok (.iand, 1) := by decide +kernel
theorem dNF_leafHolds_20 : decode cNF_leafHolds 20 = .ok (.iconst 1, 1) := by decide +kernel
theorem dNF_leafHolds_21 : decode cNF_leafHolds 21 = .ok (.if_icmp .ne 7, 3) := by decide +kernel
theorem dNF_leafHolds_24 : decode cNF_leafHolds 24 = .ok (.iconst 1, 1) := by decide +kernel
theorem dNF_leafHolds_25 : decode cNF_leafHolds 25 = .ok (.goto 4, 3) := by decide +kernel
theorem dNF_leafHolds_28 : decode cNF_leafHolds 28 = .ok (.iconst 0, 1) := by decide +kernel
theorem dNF_leafHolds_29 : decode cNF_leafHolds 29 = .ok (.ireturn, 1) := by decide +kernel
theorem dNF_leafHolds_30 : decode cNF_leafHolds 30 = .ok (.iload_n 0, 1) := by decide +kernel
theorem dNF_leafHolds_31 : decode cNF_leafHolds 31 = .ok (.bipush 65, 2) := by decide +kernel
theorem dNF_leafHolds_33 : decode cNF_leafHolds 33 = .ok (.if_icmp .lt 26, 3) := by decide +kernel
theorem dNF_leafHolds_36 : decode cNF_leafHolds 36 = .ok (.iload_n 0, 1) := by decide +kernel
theorem dNF_leafHolds_37 : decode cNF_leafHolds 37 = .ok (.bipush 68, 2) := by decide +kernel
theorem dNF_leafHolds_39 : decode cNF_leafHolds 39 = .ok (.if_icmp .gt 20, 3) := by decide +kernel
theorem dNF_leafHolds_42 : decode cNF_leafHolds 42 = .ok (.iload_n 1, 1) := by decide +kernel
theorem dNF_leafHolds_43 : decode cNF_leafHolds 43 = .ok (.iload_n 0, 1) := by decide +kernel
theorem dNF_leafHolds_44 : decode cNF_leafHolds 44 = .ok (.bipush 65, 2) := by decide +kernel
theorem dNF_leafHolds_46 : decode cNF_leafHolds 46 = .ok (.isub, 1) := by decide +kernel
theorem dNF_leafHolds_47 : decode cNF_leafHolds 47 = .ok (.iushr, 1) := by decide +kernel
theorem dNF_leafHolds_48 : decode cNF_leafHolds 48 = .ok (.iconst 1, 1) := by decide +kernel
theorem dNF_leafHolds_49 : decode cNF_leafHolds 49 = .ok (.iand, 1) := by decide +kernel
theorem dNF_leafHolds_50 : decode cNF_leafHolds 50 = .ok (.ifCond .ne 7, 3) := by decide +kernel
theorem dNF_leafHolds_53 : decode cNF_leafHolds 53 = .ok (.iconst 1, 1) := by decide +kernel
theorem dNF_leafHolds_54 : decode cNF_leafHolds 54 = .ok (.goto 4, 3) := by decide +kernel
theorem dNF_leafHolds_57 : decode cNF_leafHolds 57 = .ok (.iconst 0, 1) := by decide +kernel
theorem dNF_leafHolds_58 : decode cNF_leafHolds 58 = .ok (.ireturn, 1) := by decide +kernel
theorem dNF_leafHolds_59 : decode cNF_leafHolds 59 = .ok (.iload_n 0, 1) := by decide +kernel
theorem dNF_leafHolds_60 : decode cNF_leafHolds 60 = .ok (.bipush 49, 2) := by decide +kernel
theorem dNF_leafHolds_62 : decode cNF_leafHolds 62 = .ok (.if_icmp .ne 7, 3) := by decide +kernel
theorem dNF_leafHolds_65 : decode cNF_leafHolds 65 = .ok (.iconst 1, 1) := by decide +kernel
theorem dNF_leafHolds_66 : decode cNF_leafHolds 66 = .ok (.goto 4, 3) := by decide +kernel
theorem dNF_leafHolds_69 : decode cNF_leafHolds 69 = .ok (.iconst 0, 1) := by decide +kernel
theorem dNF_leafHolds_70 : decode cNF_leafHolds 70 = .ok (.ireturn, 1) := by decide +kernel
