theorem dMO_init_0 : decode cMO_init 0 = .ok (.aload_n 0, 1) := by decide +kernel
theorem dMO_init_1 : decode cMO_init 1 = .ok (.invokespecial 1, 3) := by decide +kernel
theorem dMO_init_4 : decode cMO_init 4 = .ok (.aload_n 0, 1) := by decide +kernel
theorem dMO_init_5 : decode cMO_init 5 = .ok (.bipush 32, 2) := by decide +kernel
theorem dMO_init_7 : decode cMO_init 7 = .ok (.newarray .int, 2) := by decide +kernel
theorem dMO_init_9 : decode cMO_init 9 = .ok (.putfield 7, 3) := by decide +kernel
theorem dMO_init_12 : decode cMO_init 12 = .ok (.aload_n 0, 1) := by decide +kernel
theorem dMO_init_13 : decode cMO_init 13 = .ok (.bipush 40, 2) := by decide +kernel
theorem dMO_init_15 : decode cMO_init 15 = .ok (.newarray .int, 2) := by decide +kernel
theorem dMO_init_17 : decode cMO_init 17 = .ok (.putfield 13, 3) := by decide +kernel
theorem dMO_init_20 : decode cMO_init 20 = .ok (.aload_n 0, 1) := by decide +kernel
theorem dMO_init_21 : decode cMO_init 21 = .ok (.bipush 40, 2) := by decide +kernel
theorem dMO_init_23 : decode cMO_init 23 = .ok (.newarray .int, 2) := by decide +kernel
theorem dMO_init_25 : decode cMO_init 25 = .ok (.putfield 16, 3) := by decide +kernel
theorem dMO_init_28 : decode cMO_init 28 = .ok (.aload_n 0, 1) := by decide +kernel
theorem dMO_init_29 : decode cMO_init 29 = .ok (.bipush 40, 2) := by decide +kernel
theorem dMO_init_31 : decode cMO_init 31 = .ok (.newarray .int, 2) := by decide +kernel
theorem dMO_init_33 : decode cMO_init 33 = .ok (.putfield 19, 3) := by decide +kernel
theorem dMO_init_36 : decode cMO_init 36 = .ok (.aload_n 0, 1) := by decide +kernel
theorem dMO_init_37 : decode cMO_init 37 = .ok (.bipush 40, 2) := by decide +kernel
theorem dMO_init_39 : decode cMO_init 39 = .ok (.newarray .int, 2) := by decide +kernel
theorem dMO_init_41 : decode cMO_init 41 = .ok (.putfield 22, 3) := by decide +kernel
theorem dMO_init_44 : decode cMO_init 44 = .ok (.aload_n 0, 1) := by decide +kernel
theorem dMO_init_45 : decode cMO_init 45 = .ok (.bipush 40, 2) := by decide +kernel
theorem dMO_init_47 : decode cMO_init 47 = .ok (.newarray .int, 2) := by decide +kernel
theorem dMO_init_49 : decode cMO_init 49 = .ok (.putfield 25, 3) := by decide +kernel
theorem dMO_init_52 : decode cMO_init 52 = .ok (.aload_n 0, 1) := by decide +kernel
theorem dMO_init_53 : decode cMO_init 53 = .ok (.bipush 40, 2) := by decide +kernel
theorem dMO_init_55 : decode cMO_init 55 = .ok (.newarray .int, 2) := by decide +kernel
theorem dMO_init_57 : decode cMO_init 57 = .ok (.putfield 28, 3) := by decide +kernel
theorem dMO_init_60 : decode cMO_init 60 = .ok (.aload_n 0, 1) := by decide +kernel
theorem dMO_init_61 : decode cMO_init 61 = .ok (.bipush 40, 2) := by decide +kernel
theorem dMO_init_63 : decode cMO_init 63 = .ok (.newarray .int, 2) := by decide +kernel
theorem dMO_init_65 : decode cMO_init 65 = .ok (.putfield 31, 3) := by decide +kernel
theorem dMO_init_68 : decode cMO_init 68 = .ok (.aload_n 0, 1) := by decide +kernel
theorem dMO_init_69 : decode cMO_init 69 = .ok (.bipush 40, 2) := by decide +kernel
theorem dMO_init_71 : decode cMO_init 71 = .ok (.newarray .int, 2) := by decide +kernel
theorem dMO_init_73 : decode cMO_init 73 = .ok (.putfield 34, 3) := by decide +kernel
theorem dMO_init_76 : decode cMO_init 76 = .ok (.aload_n 0, 1) := by decide +kernel
theorem dMO_init_77 : decode cMO_init 77 = .ok (.bipush 40, 2) := by decide +kernel
theorem dMO_init_79 : decode cMO_init 79 = .ok (.newarray .int, 2) := by decide +kernel
theorem dMO_init_81 : decode cMO_init 81 = .ok (.putfield 37, 3) := by decide +kernel
theorem dMO_init_84 : decode cMO_init 84 = .ok (.aload_n 0, 1) := by decide +kernel
theorem dMO_init_85 : decode cMO_init 85 = .ok (.bipush 100, 2) := by decide +kernel
theorem dMO_init_87 : decode cMO_init 87 = .ok (.newarray .int, 2) := by decide +kernel
theorem dMO_init_89 : decode cMO_init 89 = .ok (.putfield 40, 3) := by decide +kernel
theorem dMO_init_92 : decode cMO_init 92 = .ok (.aload_n 0, 1) := by decide +kernel
theorem dMO_init_93 : decode cMO_init 93 = .ok (.bipush 6, 2) := by decide +kernel
theorem dMO_init_95 : decode cMO_init 95 = .ok (.newarray .int, 2) := by decide +kernel
theorem dMO_init_97 : decode cMO_init 97 = .ok (.putfield 43, 3) := by decide +kernel
theorem dMO_init_100 : decode cMO_init 100 = .ok (.aload_n 0, 1) := by decide +kernel
theorem dMO_init_101 : decode cMO_init 101 = .ok (.bipush 36, 2) := by decide +kernel
theorem dMO_init_103 : decode cMO_init 103 = .ok (.newarray .boolean, 2) := by decide +kernel
theorem dMO_init_105 : decode cMO_init 105 = .ok (.putfield 46, 3) := by decide +kernel
theorem dMO_init_108 : decode cMO_init 108 = .ok (.aload_n 0, 1) := by decide +kernel
theorem dMO_init_109 : decode cMO_init 109 = .ok (.bipush 8, 2) := by decide +kernel
theorem dMO_init_111 : decode cMO_init 111 = .ok (.newarray .int, 2) := by decide +kernel
theorem dMO_init_113 : decode cMO_init 113 = .ok (.putfield 50, 3) := by decide +kernel
theorem dMO_init_116 : decode cMO_init 116 = .ok (.aload_n 0, 1) := by decide +kernel
theorem dMO_init_117 : decode cMO_init 117 = .ok (.sipush 2304, 3) := by decide +kernel
theorem dMO_init_120 : decode cMO_init 120 = .ok (.newarray .int, 2) := by decide +kernel
theorem dMO_init_122 : decode cMO_init 122 = .ok (.putfield 53, 3) := by decide +kernel
theorem dMO_init_125 : decode cMO_init 125 = .ok (.aload_n 0, 1) := by decide +kernel
theorem dMO_init_126 : decode cMO_init 126 = .ok (.sipush 384, 3) := by decide +kernel
theorem dMO_init_129 : decode cMO_init 129 = .ok (.newarray .boolean, 2) := by decide +kernel
theorem dMO_init_131 : decode cMO_init 131 = .ok (.putfield 56, 3) := by decide +kernel
theorem dMO_init_134 : decode cMO_init 134 = .ok (.aload_n 0, 1) := by decide +kernel
theorem dMO_init_135 : decode cMO_init 135 = .ok (.bipush 40, 2) := by decide +kernel
theorem dMO_init_137 : decode cMO_init 137 = .ok (.newarray .boolean, 2) := by decide +kernel
theorem dMO_init_139 : decode cMO_init 139 = .ok (.putfield 59, 3) := by decide +kernel
theorem dMO_init_142 : decode cMO_init 142 = .ok (.aload_n 0, 1) := by decide +kernel
theorem dMO_init_143 : decode cMO_init 143 = .ok (.bipush 6, 2) := by decide +kernel
theorem dMO_init_145 : decode cMO_init 145 = .ok (.newarray .long, 2) := by decide +kernel
theorem dMO_init_147 : decode cMO_init 147 = .ok (.putfield 62, 3) := by decide +kernel
theorem dMO_init_150 : decode cMO_init 150 = .ok (.aload_n 0, 1) := by decide +kernel
theorem dMO_init_151 : decode cMO_init 151 = .ok (.bipush 6, 2) := by decide +kernel
theorem dMO_init_153 : decode cMO_init 153 = .ok (.newarray .long, 2) := by decide +kernel
theorem dMO_init_155 : decode cMO_init 155 = .ok (.putfield 66, 3) := by decide +kernel
theorem dMO_init_158 : decode cMO_init 158 = .ok (.aload_n 0, 1) := by decide +kernel
theorem dMO_init_159 : decode cMO_init 159 = .ok (.bipush 6, 2) := by decide +kernel
theorem dMO_init_161 : decode cMO_init 161 = .ok (.newarray .long, 2) := by decide +kernel
theorem dMO_init_163 : decode cMO_init 163 = .ok (.putfield 69, 3) := by decide +kernel
theorem dMO_init_166 : decode cMO_init 166 = .ok (.aload_n 0, 1) := by decide +kernel
theorem dMO_init_167 : decode cMO_init 167 = .ok (.bipush 6, 2) := by decide +kernel
theorem dMO_init_169 : decode cMO_init 169 = .ok (.newarray .long, 2) := by decide +kernel
theorem dMO_init_171 : decode cMO_init 171 = .ok (.putfield 72, 3) := by decide +kernel
theorem dMO_init_174 : decode cMO_init 174 = .ok (.aload_n 0, 1) := by decide +kernel
theorem dMO_init_175 : decode cMO_init 175 = .ok (.bipush 36, 2) := by decide +kernel
theorem dMO_init_177 : decode cMO_init 177 = .ok (.newarray .long, 2) := by decide +kernel
theorem dMO_init_179 : decode cMO_init 179 = .ok (.putfield 75, 3) := by decide +kernel
theorem dMO_init_182 : decode cMO_init 182 = .ok (.aload_n 0, 1) := by decide +kernel
theorem dMO_init_183 : decode cMO_init 183 = .ok (.bipush 8, 2) := by decide +kernel
theorem dMO_init_185 : decode cMO_init 185 = .ok (.newarray .int, 2) := by decide +kernel
theorem dMO_init_187 : decode cMO_init 187 = .ok (.putfield 78, 3) := by decide +kernel
theorem dMO_init_190 : decode cMO_init 190 = .ok (.aload_n 0, 1) := by decide +kernel
theorem dMO_init_191 : decode cMO_init 191 = .ok (.sipush 320, 3) := by decide +kernel
theorem dMO_init_194 : decode cMO_init 194 = .ok (.newarray .boolean, 2) := by decide +kernel
theorem dMO_init_196 : decode cMO_init 196 = .ok (.putfield 81, 3) := by decide +kernel
theorem dMO_init_199 : decode cMO_init 199 = .ok (.aload_n 0, 1) := by decide +kernel
theorem dMO_init_200 : decode cMO_init 200 = .ok (.bipush 6, 2) := by decide +kernel
theorem dMO_init_202 : decode cMO_init 202 = .ok (.newarray .int, 2) := by decide +kernel
theorem dMO_init_204 : decode cMO_init 204 = .ok (.putfield 84, 3) := by decide +kernel
theorem dMO_init_207 : decode cMO_init 207 = .ok (.aload_n 0, 1) := by decide +kernel
theorem dMO_init_208 : decode cMO_init 208 = .ok (.bipush 6, 2) := by decide +kernel
theorem dMO_init_210 : decode cMO_init 210 = .ok (.newarray .int, 2) := by decide +kernel
theorem dMO_init_212 : decode cMO_init 212 = .ok (.putfield 87, 3) := by decide +kernel
theorem dMO_init_215 : decode cMO_init 215 = .ok (.aload_n 0, 1) := by decide +kernel
theorem dMO_init_216 : decode cMO_init 216 = .ok (.bipush 36, 2) := by decide +kernel
theorem dMO_init_218 : decode cMO_init 218 = .ok (.newarray .int, 2) := by decide +kernel
theorem dMO_init_220 : decode cMO_init 220 = .ok (.putfield 90, 3) := by decide +kernel
theorem dMO_init_223 : decode cMO_init 223 = .ok (.return_, 1) := by decide +kernel
theorem dMO_thrown_0 : decode cMO_thrown 0 = .ok (.aload_n 0, 1) := by decide +kernel
theorem dMO_thrown_1 : decode cMO_thrown 1 = .ok (.getfield 93, 3) := by decide +kernel
theorem dMO_thrown_4 : decode cMO_thrown 4 = .ok (.ireturn, 1) := by decide +kernel
theorem dMO_type_0 : decode cMO_type 0 = .ok (.aload_n 0, 1) := by decide +kernel
theorem dMO_type_1 : decode cMO_type 1 = .ok (.iconst 0, 1) := by decide +kernel
theorem dMO_type_2 : decode cMO_type 2 = .ok (.putfield 93, 3) := by decide +kernel
theorem dMO_type_5 : decode cMO_type 5 = .ok (.aload_n 0, 1) := by decide +kernel
theorem dMO_type_6 : decode cMO_type 6 = .ok (.getfield 97, 3) := by decide +kernel
theorem dMO_type_9 : decode cMO_type 9 = .ok (.istore_n 3, 1) := by decide +kernel
theorem dMO_type_10 : decode cMO_type 10 = .ok (.bipush 7, 2) := by decide +kernel
theorem dMO_type_12 : decode cMO_type 12 = .ok (.istore 4, 2) := by decide +kernel
theorem dMO_type_14 : decode cMO_type 14 = .ok (.iload 4, 2) := by decide +kernel
theorem dMO_type_16 : decode cMO_type 16 = .ok (.ifCond .lt 66, 3) := by decide +kernel
theorem dMO_type_19 : decode cMO_type 19 = .ok (.lload_n 1, 1) := by decide +kernel
theorem dMO_type_20 : decode cMO_type 20 = .ok (.bipush 8, 2) := by decide +kernel
theorem dMO_type_22 : decode cMO_type 22 = .ok (.iload 4, 2) := by decide +kernel
theorem dMO_type_24 : decode cMO_type 24 = .ok (.imul, 1) := by decide +kernel
theorem dMO_type_25 : decode cMO_type 25 = .ok (.lshr, 1) := by decide +kernel
theorem dMO_type_26 : decode cMO_type 26 = .ok (.l2i, 1) := by decide +kernel
theorem dMO_type_27 : decode cMO_type 27 = .ok (.sipush 255, 3) := by decide +kernel
theorem dMO_type_30 : decode cMO_type 30 = .ok (.iand, 1) := by decide +kernel
theorem dMO_type_31 : decode cMO_type 31 = .ok (.istore 5, 2) := by decide +kernel
theorem dMO_type_33 : decode cMO_type 33 = .ok (.iload 5, 2) := by decide +kernel
theorem dMO_type_35 : decode cMO_type 35 = .ok (.ifCond .eq 25, 3) := by decide +kernel
theorem dMO_type_38 : decode cMO_type 38 = .ok (.iload 5, 2) := by decide +kernel
theorem dMO_type_40 : decode cMO_type 40 = .ok (.bipush 33, 2) := by decide +kernel
theorem dMO_type_42 : decode cMO_type 42 = .ok (.if_icmp .lt 16, 3) := by decide +kernel
theorem dMO_type_45 : decode cMO_type 45 = .ok (.iload 5, 2) := by decide +kernel
theorem dMO_type_47 : decode cMO_type 47 = .ok (.bipush 126, 2) := by decide +kernel
theorem dMO_type_49 : decode cMO_type 49 = .ok (.if_icmp .gt 9, 3) := by decide +kernel
theorem dMO_type_52 : decode cMO_type 52 = .ok (.iload_n 3, 1) := by decide +kernel
theorem dMO_type_53 : decode cMO_type 53 = .ok (.bipush 32, 2) := by decide +kernel
theorem dMO_type_55 : decode cMO_type 55 = .ok (.if_icmp .ne 5, 3) := by decide +kernel
theorem dMO_type_58 : decode cMO_type 58 = .ok (.iconst 0, 1) := by decide +kernel
theorem dMO_type_59 : decode cMO_type 59 = .ok (.ireturn, 1) := by decide +kernel
theorem dMO_type_60 : decode cMO_type 60 = .ok (.iload 5, 2) := by decide +kernel
theorem dMO_type_62 : decode cMO_type 62 = .ok (.ifCond .eq 14, 3) := by decide +kernel
theorem dMO_type_65 : decode cMO_type 65 = .ok (.aload_n 0, 1) := by decide +kernel
theorem dMO_type_66 : decode cMO_type 66 = .ok (.getfield 7, 3) := by decide +kernel
theorem dMO_type_69 : decode cMO_type 69 = .ok (.iload_n 3, 1) := by decide +kernel
theorem dMO_type_70 : decode cMO_type 70 = .ok (.iload 5, 2) := by decide +kernel
theorem dMO_type_72 : decode cMO_type 72 = .ok (.iastore, 1) := by decide +kernel
theorem dMO_type_73 : decode cMO_type 73 = .ok (.iinc 3 1, 3) := by decide +kernel
theorem dMO_type_76 : decode cMO_type 76 = .ok (.iinc 4 (-1), 3) := by decide +kernel
theorem dMO_type_79 : decode cMO_type 79 = .ok (.goto (-65), 3) := by decide +kernel
theorem dMO_type_82 : decode cMO_type 82 = .ok (.aload_n 0, 1) := by decide +kernel
theorem dMO_type_83 : decode cMO_type 83 = .ok (.iload_n 3, 1) := by decide +kernel
theorem dMO_type_84 : decode cMO_type 84 = .ok (.putfield 97, 3) := by decide +kernel
theorem dMO_type_87 : decode cMO_type 87 = .ok (.iconst 1, 1) := by decide +kernel
theorem dMO_type_88 : decode cMO_type 88 = .ok (.ireturn, 1) := by decide +kernel
theorem dMO_wipe_0 : decode cMO_wipe 0 = .ok (.aload_n 0, 1) := by decide +kernel
theorem dMO_wipe_1 : decode cMO_wipe 1 = .ok (.iconst 0, 1) := by decide +kernel
theorem dMO_wipe_2 : decode cMO_wipe 2 = .ok (.putfield 93, 3) := by decide +kernel
theorem dMO_wipe_5 : decode cMO_wipe 5 = .ok (.aload_n 0, 1) := by decide +kernel
theorem dMO_wipe_6 : decode cMO_wipe 6 = .ok (.iconst 0, 1) := by decide +kernel
theorem dMO_wipe_7 : decode cMO_wipe 7 = .ok (.putfield 97, 3) := by decide +kernel
theorem dMO_wipe_10 : decode cMO_wipe 10 = .ok (.return_, 1) := by decide +kernel
theorem dMO_length_0 : decode cMO_length 0 = .ok (.aload_n 0, 1) := by decide +kernel
theorem dMO_length_1 : decode cMO_length 1 = .ok (.iconst 0, 1) := by decide +kernel
theorem dMO_length_2 : decode cMO_length 2 = .ok (.putfield 93, 3) := by decide +kernel
theorem dMO_length_5 : decode cMO_length 5 = .ok (.aload_n 0, 1) := by decide +kernel
theorem dMO_length_6 : decode cMO_length 6 = .ok (.getfield 97, 3) := by decide +kernel
theorem dMO_length_9 : decode cMO_length 9 = .ok (.ireturn, 1) := by decide +kernel
theorem dMO_isAtom_0 : decode cMO_isAtom 0 = .ok (.iload_n 0, 1) := by decide +kernel
theorem dMO_isAtom_1 : decode cMO_isAtom 1 = .ok (.bipush 112, 2) := by decide +kernel
theorem dMO_isAtom_3 : decode cMO_isAtom 3 = .ok (.if_icmp .lt 9, 3) := by decide +kernel
theorem dMO_isAtom_6 : decode cMO_isAtom 6 = .ok (.iload_n 0, 1) := by decide +kernel
theorem dMO_isAtom_7 : decode cMO_isAtom 7 = .ok (.bipush 115, 2) := by decide +kernel
theorem dMO_isAtom_9 : decode cMO_isAtom 9 = .ok (.if_icmp .le 15, 3) := by decide +kernel
theorem dMO_isAtom_12 : decode cMO_isAtom 12 = .ok (.iload_n 0, 1) := by decide +kernel
theorem dMO_isAtom_13 : decode cMO_isAtom 13 = .ok (.bipush 48, 2) := by decide +kernel
theorem dMO_isAtom_15 : decode cMO_isAtom 15 = .ok (.if_icmp .eq 9, 3) := by decide +kernel
theorem dMO_isAtom_18 : decode cMO_isAtom 18 = .ok (.iload_n 0, 1) := by decide +kernel
theorem dMO_isAtom_19 : decode cMO_isAtom 19 = .ok (.bipush 49, 2) := by decide +kernel
theorem dMO_isAtom_21 : decode cMO_isAtom 21 = .ok (.if_icmp .ne 7, 3) := by decide +kernel
theorem dMO_isAtom_24 : decode cMO_isAtom 24 = .ok (.iconst 1, 1) := by decide +kernel
theorem dMO_isAtom_25 : decode cMO_isAtom 25 = .ok (.goto 4, 3) := by decide +kernel
theorem dMO_isAtom_28 : decode cMO_isAtom 28 = .ok (.iconst 0, 1) := by decide +kernel
theorem dMO_isAtom_29 : decode cMO_isAtom 29 = .ok (.ireturn, 1) := by decide +kernel
theorem dMO_isPrefix_0 : decode cMO_isPrefix 0 = .ok (.iload_n 0, 1) := by decide +kernel
theorem dMO_isPrefix_1 : decode cMO_isPrefix 1 = .ok (.bipush 33, 2) := by decide +kernel
theorem dMO_isPrefix_3 : decode cMO_isPrefix 3 = .ok (.if_icmp .eq 21, 3) := by decide +kernel
theorem dMO_isPrefix_6 : decode cMO_isPrefix 6 = .ok (.iload_n 0, 1) := by decide +kernel
theorem dMO_isPrefix_7 : decode cMO_isPrefix 7 = .ok (.bipush 88, 2) := by decide +kernel
theorem dMO_isPrefix_9 : decode cMO_isPrefix 9 = .ok (.if_icmp .eq 15, 3) := by decide +kernel
theorem dMO_isPrefix_12 : decode cMO_isPrefix 12 = .ok (.iload_n 0, 1) := by decide +kernel
theorem dMO_isPrefix_13 : decode cMO_isPrefix 13 = .ok (.bipush 70, 2) := by decide +kernel
theorem dMO_isPrefix_15 : decode cMO_isPrefix 15 = .ok (.if_icmp .eq 9, 3) := by decide +kernel
theorem dMO_isPrefix_18 : decode cMO_isPrefix 18 = .ok (.iload_n 0, 1) := by decide +kernel
theorem dMO_isPrefix_19 : decode cMO_isPrefix 19 = .ok (.bipush 71, 2) := by decide +kernel
theorem dMO_isPrefix_21 : decode cMO_isPrefix 21 = .ok (.if_icmp .ne 7, 3) := by decide +kernel
theorem dMO_isPrefix_24 : decode cMO_isPrefix 24 = .ok (.iconst 1, 1) := by decide +kernel
theorem dMO_isPrefix_25 : decode cMO_isPrefix 25 = .ok (.goto 4, 3) := by decide +kernel
theorem dMO_isPrefix_28 : decode cMO_isPrefix 28 = .ok (.iconst 0, 1) := by decide +kernel
theorem dMO_isPrefix_29 : decode cMO_isPrefix 29 = .ok (.ireturn, 1) := by decide +kernel
theorem dMO_isTimed_0 : decode cMO_isTimed 0 = .ok (.iload_n 0, 1) := by decide +kernel
theorem dMO_isTimed_1 : decode cMO_isTimed 1 = .ok (.bipush 88, 2) := by decide +kernel
theorem dMO_isTimed_3 : decode cMO_isTimed 3 = .ok (.if_icmp .eq 27, 3) := by decide +kernel
theorem dMO_isTimed_6 : decode cMO_isTimed 6 = .ok (.iload_n 0, 1) := by decide +kernel
theorem dMO_isTimed_7 : decode cMO_isTimed 7 = .ok (.bipush 70, 2) := by decide +kernel
theorem dMO_isTimed_9 : decode cMO_isTimed 9 = .ok (.if_icmp .eq 21, 3) := by decide +kernel
theorem dMO_isTimed_12 : decode cMO_isTimed 12 = .ok (.iload_n 0, 1) := by decide +kernel
theorem dMO_isTimed_13 : decode cMO_isTimed 13 = .ok (.bipush 71, 2) := by decide +kernel
theorem dMO_isTimed_15 : decode cMO_isTimed 15 = .ok (.if_icmp .eq 15, 3) := by decide +kernel
theorem dMO_isTimed_18 : decode cMO_isTimed 18 = .ok (.iload_n 0, 1) := by decide +kernel
theorem dMO_isTimed_19 : decode cMO_isTimed 19 = .ok (.bipush 85, 2) := by decide +kernel
theorem dMO_isTimed_21 : decode cMO_isTimed 21 = .ok (.if_icmp .eq 9, 3) := by decide +kernel
theorem dMO_isTimed_24 : decode cMO_isTimed 24 = .ok (.iload_n 0, 1) := by decide +kernel
theorem dMO_isTimed_25 : decode cMO_isTimed 25 = .ok (.bipush 82, 2) := by decide +kernel
theorem dMO_isTimed_27 : decode cMO_isTimed 27 = .ok (.if_icmp .ne 7, 3) := by decide +kernel
theorem dMO_isTimed_30 : decode cMO_isTimed 30 = .ok (.iconst 1, 1) := by decide +kernel
theorem dMO_isTimed_31 : decode cMO_isTimed 31 = .ok (.goto 4, 3) := by decide +kernel
theorem dMO_isTimed_34 : decode cMO_isTimed 34 = .ok (.iconst 0, 1) := by decide +kernel
theorem dMO_isTimed_35 : decode cMO_isTimed 35 = .ok (.ireturn, 1) := by decide +kernel
theorem dMO_strength_0 : decode cMO_strength 0 = .ok (.iload_n 0, 1) := by decide +kernel
theorem dMO_strength_1 : decode cMO_strength 1 = .ok (.invokestatic 100, 3) := by decide +kernel
theorem dMO_strength_4 : decode cMO_strength 4 = .ok (.ifCond .eq 7, 3) := by decide +kernel
theorem dMO_strength_7 : decode cMO_strength 7 = .ok (.iconst 5, 1) := by decide +kernel
theorem dMO_strength_8 : decode cMO_strength 8 = .ok (.goto 50, 3) := by decide +kernel
theorem dMO_strength_11 : decode cMO_strength 11 = .ok (.iload_n 0, 1) := by decide +kernel
theorem dMO_strength_12 : decode cMO_strength 12 = .ok (.bipush 85, 2) := by decide +kernel
theorem dMO_strength_14 : decode cMO_strength 14 = .ok (.if_icmp .eq 9, 3) := by decide +kernel
theorem dMO_strength_17 : decode cMO_strength 17 = .ok (.iload_n 0, 1) := by decide +kernel
theorem dMO_strength_18 : decode cMO_strength 18 = .ok (.bipush 82, 2) := by decide +kernel
theorem dMO_strength_20 : decode cMO_strength 20 = .ok (.if_icmp .ne 7, 3) := by decide +kernel
theorem dMO_strength_23 : decode cMO_strength 23 = .ok (.iconst 4, 1) := by decide +kernel
theorem dMO_strength_24 : decode cMO_strength 24 = .ok (.goto 34, 3) := by decide +kernel
theorem dMO_strength_27 : decode cMO_strength 27 = .ok (.iload_n 0, 1) := by decide +kernel
theorem dMO_strength_28 : decode cMO_strength 28 = .ok (.bipush 38, 2) := by decide +kernel
theorem dMO_strength_30 : decode cMO_strength 30 = .ok (.if_icmp .ne 7, 3) := by decide +kernel
theorem dMO_strength_33 : decode cMO_strength 33 = .ok (.iconst 3, 1) := by decide +kernel
theorem dMO_strength_34 : decode cMO_strength 34 = .ok (.goto 24, 3) := by decide +kernel
theorem dMO_strength_37 : decode cMO_strength 37 = .ok (.iload_n 0, 1) := by decide +kernel
theorem dMO_strength_38 : decode cMO_strength 38 = .ok (.bipush 124, 2) := by decide +kernel
theorem dMO_strength_40 : decode cMO_strength 40 = .ok (.if_icmp .ne 7, 3) := by decide +kernel
theorem dMO_strength_43 : decode cMO_strength 43 = .ok (.iconst 2, 1) := by decide +kernel
theorem dMO_strength_44 : decode cMO_strength 44 = .ok (.goto 14, 3) := by decide +kernel
theorem dMO_strength_47 : decode cMO_strength 47 = .ok (.iload_n 0, 1) := by decide +kernel
theorem dMO_strength_48 : decode cMO_strength 48 = .ok (.bipush 62, 2) := by decide +kernel
theorem dMO_strength_50 : decode cMO_strength 50 = .ok (.if_icmp .ne 7, 3) := by decide +kernel
theorem dMO_strength_53 : decode cMO_strength 53 = .ok (.iconst 1, 1) := by decide +kernel
theorem dMO_strength_54 : decode cMO_strength 54 = .ok (.goto 4, 3) := by decide +kernel
theorem dMO_strength_57 : decode cMO_strength 57 = .ok (.iconst 0, 1) := by decide +kernel
theorem dMO_strength_58 : decode cMO_strength 58 = .ok (.ireturn, 1) := by decide +kernel
theorem dMO_node_0 : decode cMO_node 0 = .ok (.aload_n 0, 1) := by decide +kernel
theorem dMO_node_1 : decode cMO_node 1 = .ok (.getfield 25, 3) := by decide +kernel
theorem dMO_node_4 : decode cMO_node 4 = .ok (.aload_n 0, 1) := by decide +kernel
theorem dMO_node_5 : decode cMO_node 5 = .ok (.getfield 104, 3) := by decide +kernel
theorem dMO_node_8 : decode cMO_node 8 = .ok (.iload_n 1, 1) := by decide +kernel
theorem dMO_node_9 : decode cMO_node 9 = .ok (.iastore, 1) := by decide +kernel
theorem dMO_node_10 : decode cMO_node 10 = .ok (.aload_n 0, 1) := by decide +kernel
theorem dMO_node_11 : decode cMO_node 11 = .ok (.getfield 28, 3) := by decide +kernel
theorem dMO_node_14 : decode cMO_node 14 = .ok (.aload_n 0, 1) := by decide +kernel
theorem dMO_node_15 : decode cMO_node 15 = .ok (.getfield 104, 3) := by decide +kernel
theorem dMO_node_18 : decode cMO_node 18 = .ok (.iload_n 2, 1) := by decide +kernel
theorem dMO_node_19 : decode cMO_node 19 = .ok (.iastore, 1) := by decide +kernel
theorem dMO_node_20 : decode cMO_node 20 = .ok (.aload_n 0, 1) := by decide +kernel
theorem dMO_node_21 : decode cMO_node 21 = .ok (.getfield 31, 3) := by decide +kernel
theorem dMO_node_24 : decode cMO_node 24 = .ok (.aload_n 0, 1) := by decide +kernel
theorem dMO_node_25 : decode cMO_node 25 = .ok (.getfield 104, 3) := by decide +kernel
theorem dMO_node_28 : decode cMO_node 28 = .ok (.iload_n 3, 1) := by decide +kernel
theorem dMO_node_29 : decode cMO_node 29 = .ok (.iastore, 1) := by decide +kernel
theorem dMO_node_30 : decode cMO_node 30 = .ok (.aload_n 0, 1) := by decide +kernel
theorem dMO_node_31 : decode cMO_node 31 = .ok (.getfield 34, 3) := by decide +kernel
theorem dMO_node_34 : decode cMO_node 34 = .ok (.aload_n 0, 1) := by decide +kernel
theorem dMO_node_35 : decode cMO_node 35 = .ok (.getfield 107, 3) := by decide +kernel
theorem dMO_node_38 : decode cMO_node 38 = .ok (.aload_n 0, 1) := by decide +kernel
theorem dMO_node_39 : decode cMO_node 39 = .ok (.getfield 104, 3) := by decide +kernel
theorem dMO_node_42 : decode cMO_node 42 = .ok (.iastore, 1) := by decide +kernel
theorem dMO_node_43 : decode cMO_node 43 = .ok (.aload_n 0, 1) := by decide +kernel
theorem dMO_node_44 : decode cMO_node 44 = .ok (.dup, 1) := by decide +kernel
theorem dMO_node_45 : decode cMO_node 45 = .ok (.getfield 107, 3) := by decide +kernel
theorem dMO_node_48 : decode cMO_node 48 = .ok (.iconst 1, 1) := by decide +kernel
theorem dMO_node_49 : decode cMO_node 49 = .ok (.iadd, 1) := by decide +kernel
theorem dMO_node_50 : decode cMO_node 50 = .ok (.putfield 107, 3) := by decide +kernel
theorem dMO_node_53 : decode cMO_node 53 = .ok (.aload_n 0, 1) := by decide +kernel
theorem dMO_node_54 : decode cMO_node 54 = .ok (.dup, 1) := by decide +kernel
theorem dMO_node_55 : decode cMO_node 55 = .ok (.getfield 104, 3) := by decide +kernel
theorem dMO_node_58 : decode cMO_node 58 = .ok (.iconst 1, 1) := by decide +kernel
theorem dMO_node_59 : decode cMO_node 59 = .ok (.iadd, 1) := by decide +kernel
theorem dMO_node_60 : decode cMO_node 60 = .ok (.putfield 104, 3) := by decide +kernel
theorem dMO_node_63 : decode cMO_node 63 = .ok (.return_, 1) := by decide +kernel
theorem dMO_reduce_0 : decode cMO_reduce 0 = .ok (.aload_n 0, 1) := by decide +kernel
theorem dMO_reduce_1 : decode cMO_reduce 1 = .ok (.dup, 1) := by decide +kernel
theorem dMO_reduce_2 : decode cMO_reduce 2 = .ok (.getfield 110, 3) := by decide +kernel
theorem dMO_reduce_5 : decode cMO_reduce 5 = .ok (.iconst 1, 1) := by decide +kernel
theorem dMO_reduce_6 : decode cMO_reduce 6 = .ok (.isub, 1) := by decide +kernel
theorem dMO_reduce_7 : decode cMO_reduce 7 = .ok (.putfield 110, 3) := by decide +kernel
theorem dMO_reduce_10 : decode cMO_reduce 10 = .ok (.aload_n 0, 1) := by decide +kernel
theorem dMO_reduce_11 : decode cMO_reduce 11 = .ok (.getfield 37, 3) := by decide +kernel
theorem dMO_reduce_14 : decode cMO_reduce 14 = .ok (.aload_n 0, 1) := by decide +kernel
theorem dMO_reduce_15 : decode cMO_reduce 15 = .ok (.getfield 110, 3) := by decide +kernel
theorem dMO_reduce_18 : decode cMO_reduce 18 = .ok (.iaload, 1) := by decide +kernel
theorem dMO_reduce_19 : decode cMO_reduce 19 = .ok (.istore_n 1, 1) := by decide +kernel
theorem dMO_reduce_20 : decode cMO_reduce 20 = .ok (.iload_n 1, 1) := by decide +kernel
theorem dMO_reduce_21 : decode cMO_reduce 21 = .ok (.invokestatic 100, 3) := by decide +kernel
theorem dMO_reduce_24 : decode cMO_reduce 24 = .ok (.ifCond .eq 31, 3) := by decide +kernel
theorem dMO_reduce_27 : decode cMO_reduce 27 = .ok (.aload_n 0, 1) := by decide +kernel
theorem dMO_reduce_28 : decode cMO_reduce 28 = .ok (.dup, 1) := by decide +kernel
theorem dMO_reduce_29 : decode cMO_reduce 29 = .ok (.getfield 107, 3) := by decide +kernel
theorem dMO_reduce_32 : decode cMO_reduce 32 = .ok (.iconst 1, 1) := by decide +kernel
theorem dMO_reduce_33 : decode cMO_reduce 33 = .ok (.isub, 1) := by decide +kernel
theorem dMO_reduce_34 : decode cMO_reduce 34 = .ok (.putfield 107, 3) := by decide +kernel
theorem dMO_reduce_37 : decode cMO_reduce 37 = .ok (.aload_n 0, 1) := by decide +kernel
theorem dMO_reduce_38 : decode cMO_reduce 38 = .ok (.iload_n 1, 1) := by decide +kernel
theorem dMO_reduce_39 : decode cMO_reduce 39 = .ok (.aload_n 0, 1) := by decide +kernel
theorem dMO_reduce_40 : decode cMO_reduce 40 = .ok (.getfield 34, 3) := by decide +kernel
theorem dMO_reduce_43 : decode cMO_reduce 43 = .ok (.aload_n 0, 1) := by decide +kernel
theorem dMO_reduce_44 : decode cMO_reduce 44 = .ok (.getfield 107, 3) := by decide +kernel
theorem dMO_reduce_47 : decode cMO_reduce 47 = .ok (.iaload, 1) := by decide +kernel
theorem dMO_reduce_48 : decode cMO_reduce 48 = .ok (.iconst (-1), 1) := by decide +kernel
theorem dMO_reduce_49 : decode cMO_reduce 49 = .ok (.invokevirtual 113, 3) := by decide +kernel
theorem dMO_reduce_52 : decode cMO_reduce 52 = .ok (.goto 38, 3) := by decide +kernel
theorem dMO_reduce_55 : decode cMO_reduce 55 = .ok (.aload_n 0, 1) := by decide +kernel
theorem dMO_reduce_56 : decode cMO_reduce 56 = .ok (.dup, 1) := by decide +kernel
theorem dMO_reduce_57 : decode cMO_reduce 57 = .ok (.getfield 107, 3) := by decide +kernel
theorem dMO_reduce_60 : decode cMO_reduce 60 = .ok (.iconst 2, 1) := by decide +kernel
theorem dMO_reduce_61 : decode cMO_reduce 61 = .ok (.isub, 1) := by decide +kernel
theorem dMO_reduce_62 : decode cMO_reduce 62 = .ok (.putfield 107, 3) := by decide +kernel
theorem dMO_reduce_65 : decode cMO_reduce 65 = .ok (.aload_n 0, 1) := by decide +kernel
theorem dMO_reduce_66 : decode cMO_reduce 66 = .ok (.iload_n 1, 1) := by decide +kernel
theorem dMO_reduce_67 : decode cMO_reduce 67 = .ok (.aload_n 0, 1) := by decide +kernel
theorem dMO_reduce_68 : decode cMO_reduce 68 = .ok (.getfield 34, 3) := by decide +kernel
theorem dMO_reduce_71 : decode cMO_reduce 71 = .ok (.aload_n 0, 1) := by decide +kernel
theorem dMO_reduce_72 : decode cMO_reduce 72 = .ok (.getfield 107, 3) := by decide +kernel
theorem dMO_reduce_75 : decode cMO_reduce 75 = .ok (.iaload, 1) := by decide +kernel
theorem dMO_reduce_76 : decode cMO_reduce 76 = .ok (.aload_n 0, 1) := by decide +kernel
theorem dMO_reduce_77 : decode cMO_reduce 77 = .ok (.getfield 34, 3) := by decide +kernel
theorem dMO_reduce_80 : decode cMO_reduce 80 = .ok (.aload_n 0, 1) := by decide +kernel
theorem dMO_reduce_81 : decode cMO_reduce 81 = .ok (.getfield 107, 3) := by decide +kernel
theorem dMO_reduce_84 : decode cMO_reduce 84 = .ok (.iconst 1, 1) := by decide +kernel
theorem dMO_reduce_85 : decode cMO_reduce 85 = .ok (.iadd, 1) := by decide +kernel
theorem dMO_reduce_86 : decode cMO_reduce 86 = .ok (.iaload, 1) := by decide +kernel
theorem dMO_reduce_87 : decode cMO_reduce 87 = .ok (.invokevirtual 113, 3) := by decide +kernel
theorem dMO_reduce_90 : decode cMO_reduce 90 = .ok (.return_, 1) := by decide +kernel
theorem dMO_reduceFrom_0 : decode cMO_reduceFrom 0 = .ok (.aload_n 0, 1) := by decide +kernel
theorem dMO_reduceFrom_1 : decode cMO_reduceFrom 1 = .ok (.getfield 110, 3) := by decide +kernel
theorem dMO_reduceFrom_4 : decode cMO_reduceFrom 4 = .ok (.ifCond .le 44, 3) := by decide +kernel
theorem dMO_reduceFrom_7 : decode cMO_reduceFrom 7 = .ok (.aload_n 0, 1) := by decide +kernel
theorem dMO_reduceFrom_8 : decode cMO_reduceFrom 8 = .ok (.getfield 37, 3) := by decide +kernel
theorem dMO_reduceFrom_11 : decode cMO_reduceFrom 11 = .ok (.aload_n 0, 1) := by decide +kernel
theorem dMO_reduceFrom_12 : decode cMO_reduceFrom 12 = .ok (.getfield 110, 3) := by decide +kernel
theorem dMO_reduceFrom_15 : decode cMO_reduceFrom 15 = .ok (.iconst 1, 1) := by decide +kernel
theorem dMO_reduceFrom_16 : decode cMO_reduceFrom 16 = .ok (.isub, 1) := by decide +kernel
theorem dMO_reduceFrom_17 : decode cMO_reduceFrom 17 = .ok (.iaload, 1) := by decide +kernel
theorem dMO_reduceFrom_18 : decode cMO_reduceFrom 18 = .ok (.bipush 40, 2) := by decide +kernel
theorem dMO_reduceFrom_20 : decode cMO_reduceFrom 20 = .ok (.if_icmp .eq 28, 3) := by decide +kernel
theorem dMO_reduceFrom_23 : decode cMO_reduceFrom 23 = .ok (.aload_n 0, 1) := by decide +kernel
theorem dMO_reduceFrom_24 : decode cMO_reduceFrom 24 = .ok (.getfield 37, 3) := by decide +kernel
theorem dMO_reduceFrom_27 : decode cMO_reduceFrom 27 = .ok (.aload_n 0, 1) := by decide +kernel
theorem dMO_reduceFrom_28 : decode cMO_reduceFrom 28 = .ok (.getfield 110, 3) := by decide +kernel
theorem dMO_reduceFrom_31 : decode cMO_reduceFrom 31 = .ok (.iconst 1, 1) := by decide +kernel
theorem dMO_reduceFrom_32 : decode cMO_reduceFrom 32 = .ok (.isub, 1) := by decide +kernel
theorem dMO_reduceFrom_33 : decode cMO_reduceFrom 33 = .ok (.iaload, 1) := by decide +kernel
theorem dMO_reduceFrom_34 : decode cMO_reduceFrom 34 = .ok (.invokestatic 117, 3) := by decide +kernel
theorem dMO_reduceFrom_37 : decode cMO_reduceFrom 37 = .ok (.iload_n 1, 1) := by decide +kernel
theorem dMO_reduceFrom_38 : decode cMO_reduceFrom 38 = .ok (.if_icmp .lt 10, 3) := by decide +kernel
theorem dMO_reduceFrom_41 : decode cMO_reduceFrom 41 = .ok (.aload_n 0, 1) := by decide +kernel
theorem dMO_reduceFrom_42 : decode cMO_reduceFrom 42 = .ok (.invokevirtual 121, 3) := by decide +kernel
theorem dMO_reduceFrom_45 : decode cMO_reduceFrom 45 = .ok (.goto (-45), 3) := by decide +kernel
theorem dMO_reduceFrom_48 : decode cMO_reduceFrom 48 = .ok (.return_, 1) := by decide +kernel
theorem dMO_reads_0 : decode cMO_reads 0 = .ok (.aload_n 0, 1) := by decide +kernel
theorem dMO_reads_1 : decode cMO_reads 1 = .ok (.iconst 0, 1) := by decide +kernel
theorem dMO_reads_2 : decode cMO_reads 2 = .ok (.putfield 104, 3) := by decide +kernel
theorem dMO_reads_5 : decode cMO_reads 5 = .ok (.aload_n 0, 1) := by decide +kernel
theorem dMO_reads_6 : decode cMO_reads 6 = .ok (.iconst 0, 1) := by decide +kernel
theorem dMO_reads_7 : decode cMO_reads 7 = .ok (.putfield 107, 3) := by decide +kernel
theorem dMO_reads_10 : decode cMO_reads 10 = .ok (.aload_n 0, 1) := by decide +kernel
theorem dMO_reads_11 : decode cMO_reads 11 = .ok (.iconst 0, 1) := by decide +kernel
theorem dMO_reads_12 : decode cMO_reads 12 = .ok (.putfield 110, 3) := by decide +kernel
theorem dMO_reads_15 : decode cMO_reads 15 = .ok (.aload_n 0, 1) := by decide +kernel
theorem dMO_reads_16 : decode cMO_reads 16 = .ok (.iconst 0, 1) := by decide +kernel
theorem dMO_reads_17 : decode cMO_reads 17 = .ok (.putfield 124, 3) := by decide +kernel
theorem dMO_reads_20 : decode cMO_reads 20 = .ok (.iconst 0, 1) := by decide +kernel
theorem dMO_reads_21 : decode cMO_reads 21 = .ok (.istore_n 1, 1) := by decide +kernel
theorem dMO_reads_22 : decode cMO_reads 22 = .ok (.iconst 1, 1) := by decide +kernel
theorem dMO_reads_23 : decode cMO_reads 23 = .ok (.istore_n 2, 1) := by decide +kernel
theorem dMO_reads_24 : decode cMO_reads 24 = .ok (.iconst 0, 1) := by decide +kernel
theorem dMO_reads_25 : decode cMO_reads 25 = .ok (.istore_n 3, 1) := by decide +kernel
theorem dMO_reads_26 : decode cMO_reads 26 = .ok (.iload_n 3, 1) := by decide +kernel
theorem dMO_reads_27 : decode cMO_reads 27 = .ok (.aload_n 0, 1) := by decide +kernel
theorem dMO_reads_28 : decode cMO_reads 28 = .ok (.getfield 97, 3) := by decide +kernel
theorem dMO_reads_31 : decode cMO_reads 31 = .ok (.if_icmp .ge 224, 3) := by decide +kernel
theorem dMO_reads_34 : decode cMO_reads 34 = .ok (.aload_n 0, 1) := by decide +kernel
theorem dMO_reads_35 : decode cMO_reads 35 = .ok (.getfield 7, 3) := by decide +kernel
theorem dMO_reads_38 : decode cMO_reads 38 = .ok (.iload_n 3, 1) := by decide +kernel
theorem dMO_reads_39 : decode cMO_reads 39 = .ok (.iaload, 1) := by decide +kernel
theorem dMO_reads_40 : decode cMO_reads 40 = .ok (.istore 4, 2) := by decide +kernel
theorem dMO_reads_42 : decode cMO_reads 42 = .ok (.iload_n 2, 1) := by decide +kernel
theorem dMO_reads_43 : decode cMO_reads 43 = .ok (.ifCond .eq 100, 3) := by decide +kernel
theorem dMO_reads_46 : decode cMO_reads 46 = .ok (.iload 4, 2) := by decide +kernel
theorem dMO_reads_48 : decode cMO_reads 48 = .ok (.invokestatic 127, 3) := by decide +kernel
theorem dMO_reads_51 : decode cMO_reads 51 = .ok (.ifCond .eq 16, 3) := by decide +kernel
theorem dMO_reads_54 : decode cMO_reads 54 = .ok (.aload_n 0, 1) := by decide +kernel
theorem dMO_reads_55 : decode cMO_reads 55 = .ok (.iload 4, 2) := by decide +kernel
theorem dMO_reads_57 : decode cMO_reads 57 = .ok (.iconst (-1), 1) := by decide +kernel
theorem dMO_reads_58 : decode cMO_reads 58 = .ok (.iconst (-1), 1) := by decide +kernel
theorem dMO_reads_59 : decode cMO_reads 59 = .ok (.invokevirtual 113, 3) := by decide +kernel
theorem dMO_reads_62 : decode cMO_reads 62 = .ok (.iconst 0, 1) := by decide +kernel
theorem dMO_reads_63 : decode cMO_reads 63 = .ok (.istore_n 2, 1) := by decide +kernel
theorem dMO_reads_64 : decode cMO_reads 64 = .ok (.goto 185, 3) := by decide +kernel
theorem dMO_reads_67 : decode cMO_reads 67 = .ok (.iload 4, 2) := by decide +kernel
theorem dMO_reads_69 : decode cMO_reads 69 = .ok (.invokestatic 100, 3) := by decide +kernel
theorem dMO_reads_72 : decode cMO_reads 72 = .ok (.ifCond .ne 10, 3) := by decide +kernel
theorem dMO_reads_75 : decode cMO_reads 75 = .ok (.iload 4, 2) := by decide +kernel
theorem dMO_reads_77 : decode cMO_reads 77 = .ok (.bipush 40, 2) := by decide +kernel
theorem dMO_reads_79 : decode cMO_reads 79 = .ok (.if_icmp .ne 62, 3) := by decide +kernel
theorem dMO_reads_82 : decode cMO_reads 82 = .ok (.aload_n 0, 1) := by decide +kernel
theorem dMO_reads_83 : decode cMO_reads 83 = .ok (.getfield 37, 3) := by decide +kernel
theorem dMO_reads_86 : decode cMO_reads 86 = .ok (.aload_n 0, 1) := by decide +kernel
theorem dMO_reads_87 : decode cMO_reads 87 = .ok (.getfield 110, 3) := by decide +kernel
theorem dMO_reads_90 : decode cMO_reads 90 = .ok (.iload 4, 2) := by decide +kernel
theorem dMO_reads_92 : decode cMO_reads 92 = .ok (.iastore, 1) := by decide +kernel
theorem dMO_reads_93 : decode cMO_reads 93 = .ok (.aload_n 0, 1) := by decide +kernel
theorem dMO_reads_94 : decode cMO_reads 94 = .ok (.dup, 1) := by decide +kernel
theorem dMO_reads_95 : decode cMO_reads 95 = .ok (.getfield 110, 3) := by decide +kernel
theorem dMO_reads_98 : decode cMO_reads 98 = .ok (.iconst 1, 1) := by decide +kernel
theorem dMO_reads_99 : decode cMO_reads 99 = .ok (.iadd, 1) := by decide +kernel
theorem dMO_reads_100 : decode cMO_reads 100 = .ok (.putfield 110, 3) := by decide +kernel
theorem dMO_reads_103 : decode cMO_reads 103 = .ok (.iload 4, 2) := by decide +kernel
theorem dMO_reads_105 : decode cMO_reads 105 = .ok (.bipush 40, 2) := by decide +kernel
theorem dMO_reads_107 : decode cMO_reads 107 = .ok (.if_icmp .ne 9, 3) := by decide +kernel
theorem dMO_reads_110 : decode cMO_reads 110 = .ok (.iload_n 1, 1) := by decide +kernel
theorem dMO_reads_111 : decode cMO_reads 111 = .ok (.iconst 1, 1) := by decide +kernel
theorem dMO_reads_112 : decode cMO_reads 112 = .ok (.iadd, 1) := by decide +kernel
theorem dMO_reads_113 : decode cMO_reads 113 = .ok (.goto 4, 3) := by decide +kernel
theorem dMO_reads_116 : decode cMO_reads 116 = .ok (.iload_n 1, 1) := by decide +kernel
theorem dMO_reads_117 : decode cMO_reads 117 = .ok (.istore_n 1, 1) := by decide +kernel
theorem dMO_reads_118 : decode cMO_reads 118 = .ok (.aload_n 0, 1) := by decide +kernel
theorem dMO_reads_119 : decode cMO_reads 119 = .ok (.iload_n 1, 1) := by decide +kernel
theorem dMO_reads_120 : decode cMO_reads 120 = .ok (.aload_n 0, 1) := by decide +kernel
theorem dMO_reads_121 : decode cMO_reads 121 = .ok (.getfield 124, 3) := by decide +kernel
theorem dMO_reads_124 : decode cMO_reads 124 = .ok (.if_icmp .le 7, 3) := by decide +kernel
theorem dMO_reads_127 : decode cMO_reads 127 = .ok (.iload_n 1, 1) := by decide +kernel
theorem dMO_reads_128 : decode cMO_reads 128 = .ok (.goto 7, 3) := by decide +kernel
theorem dMO_reads_131 : decode cMO_reads 131 = .ok (.aload_n 0, 1) := by decide +kernel
theorem dMO_reads_132 : decode cMO_reads 132 = .ok (.getfield 124, 3) := by decide +kernel
theorem dMO_reads_135 : decode cMO_reads 135 = .ok (.putfield 124, 3) := by decide +kernel
theorem dMO_reads_138 : decode cMO_reads 138 = .ok (.goto 111, 3) := by decide +kernel
theorem dMO_reads_141 : decode cMO_reads 141 = .ok (.iconst 0, 1) := by decide +kernel
theorem dMO_reads_142 : decode cMO_reads 142 = .ok (.ireturn, 1) := by decide +kernel
theorem dMO_reads_143 : decode cMO_reads 143 = .ok (.iload 4, 2) := by decide +kernel
theorem dMO_reads_145 : decode cMO_reads 145 = .ok (.bipush 41, 2) := by decide +kernel
theorem dMO_reads_147 : decode cMO_reads 147 = .ok (.if_icmp .ne 33, 3) := by decide +kernel
theorem dMO_reads_150 : decode cMO_reads 150 = .ok (.aload_n 0, 1) := by decide +kernel
theorem dMO_reads_151 : decode cMO_reads 151 = .ok (.iconst 1, 1) := by decide +kernel
theorem dMO_reads_152 : decode cMO_reads 152 = .ok (.invokevirtual 130, 3) := by decide +kernel
theorem dMO_reads_155 : decode cMO_reads 155 = .ok (.aload_n 0, 1) := by decide +kernel
theorem dMO_reads_156 : decode cMO_reads 156 = .ok (.getfield 110, 3) := by decide +kernel
theorem dMO_reads_159 : decode cMO_reads 159 = .ok (.ifCond .ne 5, 3) := by decide +kernel
theorem dMO_reads_162 : decode cMO_reads 162 = .ok (.iconst 0, 1) := by decide +kernel
theorem dMO_reads_163 : decode cMO_reads 163 = .ok (.ireturn, 1) := by decide +kernel
theorem dMO_reads_164 : decode cMO_reads 164 = .ok (.aload_n 0, 1) := by decide +kernel
theorem dMO_reads_165 : decode cMO_reads 165 = .ok (.dup, 1) := by decide +kernel
theorem dMO_reads_166 : decode cMO_reads 166 = .ok (.getfield 110, 3) := by decide +kernel
theorem dMO_reads_169 : decode cMO_reads 169 = .ok (.iconst 1, 1) := by decide +kernel
theorem dMO_reads_170 : decode cMO_reads 170 = .ok (.isub, 1) := by decide +kernel
theorem dMO_reads_171 : decode cMO_reads 171 = .ok (.putfield 110, 3) := by decide +kernel
theorem dMO_reads_174 : decode cMO_reads 174 = .ok (.iinc 1 (-1), 3) := by decide +kernel
theorem dMO_reads_177 : decode cMO_reads 177 = .ok (.goto 72, 3) := by decide +kernel
theorem dMO_reads_180 : decode cMO_reads 180 = .ok (.iload 4, 2) := by decide +kernel
theorem dMO_reads_182 : decode cMO_reads 182 = .ok (.invokestatic 117, 3) := by decide +kernel
theorem dMO_reads_185 : decode cMO_reads 185 = .ok (.istore 5, 2) := by decide +kernel
theorem dMO_reads_187 : decode cMO_reads 187 = .ok (.iload 5, 2) := by decide +kernel
theorem dMO_reads_189 : decode cMO_reads 189 = .ok (.iconst 1, 1) := by decide +kernel
theorem dMO_reads_190 : decode cMO_reads 190 = .ok (.if_icmp .lt 9, 3) := by decide +kernel
theorem dMO_reads_193 : decode cMO_reads 193 = .ok (.iload 5, 2) := by decide +kernel
theorem dMO_reads_195 : decode cMO_reads 195 = .ok (.iconst 4, 1) := by decide +kernel
theorem dMO_reads_196 : decode cMO_reads 196 = .ok (.if_icmp .le 5, 3) := by decide +kernel
theorem dMO_reads_199 : decode cMO_reads 199 = .ok (.iconst 0, 1) := by decide +kernel
theorem dMO_reads_200 : decode cMO_reads 200 = .ok (.ireturn, 1) := by decide +kernel
theorem dMO_reads_201 : decode cMO_reads 201 = .ok (.aload_n 0, 1) := by decide +kernel
theorem dMO_reads_202 : decode cMO_reads 202 = .ok (.iload 5, 2) := by decide +kernel
theorem dMO_reads_204 : decode cMO_reads 204 = .ok (.iconst 4, 1) := by decide +kernel
theorem dMO_reads_205 : decode cMO_reads 205 = .ok (.if_icmp .eq 9, 3) := by decide +kernel
theorem dMO_reads_208 : decode cMO_reads 208 = .ok (.iload 5, 2) := by decide +kernel
theorem dMO_reads_210 : decode cMO_reads 210 = .ok (.iconst 1, 1) := by decide +kernel
theorem dMO_reads_211 : decode cMO_reads 211 = .ok (.if_icmp .ne 10, 3) := by decide +kernel
theorem dMO_reads_214 : decode cMO_reads 214 = .ok (.iload 5, 2) := by decide +kernel
theorem dMO_reads_216 : decode cMO_reads 216 = .ok (.iconst 1, 1) := by decide +kernel
theorem dMO_reads_217 : decode cMO_reads 217 = .ok (.iadd, 1) := by decide +kernel
theorem dMO_reads_218 : decode cMO_reads 218 = .ok (.goto 5, 3) := by decide +kernel
theorem dMO_reads_221 : decode cMO_reads 221 = .ok (.iload 5, 2) := by decide +kernel
theorem dMO_reads_223 : decode cMO_reads 223 = .ok (.invokevirtual 130, 3) := by decide +kernel
theorem dMO_reads_226 : decode cMO_reads 226 = .ok (.aload_n 0, 1) := by decide +kernel
theorem dMO_reads_227 : decode cMO_reads 227 = .ok (.getfield 37, 3) := by decide +kernel
theorem dMO_reads_230 : decode cMO_reads 230 = .ok (.aload_n 0, 1) := by decide +kernel
theorem dMO_reads_231 : decode cMO_reads 231 = .ok (.getfield 110, 3) := by decide +kernel
theorem dMO_reads_234 : decode cMO_reads 234 = .ok (.iload 4, 2) := by decide +kernel
theorem dMO_reads_236 : decode cMO_reads 236 = .ok (.iastore, 1) := by decide +kernel
theorem dMO_reads_237 : decode cMO_reads 237 = .ok (.aload_n 0, 1) := by decide +kernel
theorem dMO_reads_238 : decode cMO_reads 238 = .ok (.dup, 1) := by decide +kernel
theorem dMO_reads_239 : decode cMO_reads 239 = .ok (.getfield 110, 3) := by decide +kernel
theorem dMO_reads_242 : decode cMO_reads 242 = .ok (.iconst 1, 1) := by decide +kernel
theorem dMO_reads_243 : decode cMO_reads 243 = .ok (.iadd, 1) := by decide +kernel
theorem dMO_reads_244 : decode cMO_reads 244 = .ok (.putfield 110, 3) := by decide +kernel
theorem dMO_reads_247 : decode cMO_reads 247 = .ok (.iconst 1, 1) := by decide +kernel
theorem dMO_reads_248 : decode cMO_reads 248 = .ok (.istore_n 2, 1) := by decide +kernel
theorem dMO_reads_249 : decode cMO_reads 249 = .ok (.iinc 3 1, 3) := by decide +kernel
theorem dMO_reads_252 : decode cMO_reads 252 = .ok (.goto (-226), 3) := by decide +kernel
theorem dMO_reads_255 : decode cMO_reads 255 = .ok (.iload_n 2, 1) := by decide +kernel
theorem dMO_reads_256 : decode cMO_reads 256 = .ok (.ifCond .eq 5, 3) := by decide +kernel
theorem dMO_reads_259 : decode cMO_reads 259 = .ok (.iconst 0, 1) := by decide +kernel
theorem dMO_reads_260 : decode cMO_reads 260 = .ok (.ireturn, 1) := by decide +kernel
theorem dMO_reads_261 : decode cMO_reads 261 = .ok (.aload_n 0, 1) := by decide +kernel
theorem dMO_reads_262 : decode cMO_reads 262 = .ok (.iconst 1, 1) := by decide +kernel
theorem dMO_reads_263 : decode cMO_reads 263 = .ok (.invokevirtual 130, 3) := by decide +kernel
theorem dMO_reads_266 : decode cMO_reads 266 = .ok (.aload_n 0, 1) := by decide +kernel
theorem dMO_reads_267 : decode cMO_reads 267 = .ok (.getfield 110, 3) := by decide +kernel
theorem dMO_reads_270 : decode cMO_reads 270 = .ok (.ifCond .ne 7, 3) := by decide +kernel
theorem dMO_reads_273 : decode cMO_reads 273 = .ok (.iconst 1, 1) := by decide +kernel
theorem dMO_reads_274 : decode cMO_reads 274 = .ok (.goto 4, 3) := by decide +kernel
theorem dMO_reads_277 : decode cMO_reads 277 = .ok (.iconst 0, 1) := by decide +kernel
theorem dMO_reads_278 : decode cMO_reads 278 = .ok (.ireturn, 1) := by decide +kernel
theorem dMO_countTimed_0 : decode cMO_countTimed 0 = .ok (.iconst 0, 1) := by decide +kernel
theorem dMO_countTimed_1 : decode cMO_countTimed 1 = .ok (.istore_n 1, 1) := by decide +kernel
theorem dMO_countTimed_2 : decode cMO_countTimed 2 = .ok (.iconst 0, 1) := by decide +kernel
theorem dMO_countTimed_3 : decode cMO_countTimed 3 = .ok (.istore_n 2, 1) := by decide +kernel
theorem dMO_countTimed_4 : decode cMO_countTimed 4 = .ok (.iload_n 2, 1) := by decide +kernel
theorem dMO_countTimed_5 : decode cMO_countTimed 5 = .ok (.aload_n 0, 1) := by decide +kernel
theorem dMO_countTimed_6 : decode cMO_countTimed 6 = .ok (.getfield 104, 3) := by decide +kernel
theorem dMO_countTimed_9 : decode cMO_countTimed 9 = .ok (.if_icmp .ge 29, 3) := by decide +kernel
theorem dMO_countTimed_12 : decode cMO_countTimed 12 = .ok (.iload_n 1, 1) := by decide +kernel
theorem dMO_countTimed_13 : decode cMO_countTimed 13 = .ok (.aload_n 0, 1) := by decide +kernel
theorem dMO_countTimed_14 : decode cMO_countTimed 14 = .ok (.getfield 25, 3) := by decide +kernel
theorem dMO_countTimed_17 : decode cMO_countTimed 17 = .ok (.iload_n 2, 1) := by decide +kernel
theorem dMO_countTimed_18 : decode cMO_countTimed 18 = .ok (.iaload, 1) := by decide +kernel
theorem dMO_countTimed_19 : decode cMO_countTimed 19 = .ok (.invokestatic 134, 3) := by decide +kernel
theorem dMO_countTimed_22 : decode cMO_countTimed 22 = .ok (.ifCond .eq 7, 3) := by decide +kernel
theorem dMO_countTimed_25 : decode cMO_countTimed 25 = .ok (.iconst 1, 1) := by decide +kernel
theorem dMO_countTimed_26 : decode cMO_countTimed 26 = .ok (.goto 4, 3) := by decide +kernel
theorem dMO_countTimed_29 : decode cMO_countTimed 29 = .ok (.iconst 0, 1) := by decide +kernel
theorem dMO_countTimed_30 : decode cMO_countTimed 30 = .ok (.iadd, 1) := by decide +kernel
theorem dMO_countTimed_31 : decode cMO_countTimed 31 = .ok (.istore_n 1, 1) := by decide +kernel
theorem dMO_countTimed_32 : decode cMO_countTimed 32 = .ok (.iinc 2 1, 3) := by decide +kernel
theorem dMO_countTimed_35 : decode cMO_countTimed 35 = .ok (.goto (-31), 3) := by decide +kernel
theorem dMO_countTimed_38 : decode cMO_countTimed 38 = .ok (.iload_n 1, 1) := by decide +kernel
theorem dMO_countTimed_39 : decode cMO_countTimed 39 = .ok (.ireturn, 1) := by decide +kernel
theorem dMO_formula_0 : decode cMO_formula 0 = .ok (.aload_n 0, 1) := by decide +kernel
theorem dMO_formula_1 : decode cMO_formula 1 = .ok (.aload_n 0, 1) := by decide +kernel
theorem dMO_formula_2 : decode cMO_formula 2 = .ok (.invokevirtual 137, 3) := by decide +kernel
theorem dMO_formula_5 : decode cMO_formula 5 = .ok (.ifCond .eq 12, 3) := by decide +kernel
theorem dMO_formula_8 : decode cMO_formula 8 = .ok (.aload_n 0, 1) := by decide +kernel
theorem dMO_formula_9 : decode cMO_formula 9 = .ok (.getfield 124, 3) := by decide +kernel
theorem dMO_formula_12 : decode cMO_formula 12 = .ok (.bipush 6, 2) := by decide +kernel
theorem dMO_formula_14 : decode cMO_formula 14 = .ok (.if_icmp .le 7, 3) := by decide +kernel
theorem dMO_formula_17 : decode cMO_formula 17 = .ok (.iconst 1, 1) := by decide +kernel
theorem dMO_formula_18 : decode cMO_formula 18 = .ok (.goto 16, 3) := by decide +kernel
theorem dMO_formula_21 : decode cMO_formula 21 = .ok (.aload_n 0, 1) := by decide +kernel
theorem dMO_formula_22 : decode cMO_formula 22 = .ok (.invokevirtual 141, 3) := by decide +kernel
theorem dMO_formula_25 : decode cMO_formula 25 = .ok (.iconst 5, 1) := by decide +kernel
theorem dMO_formula_26 : decode cMO_formula 26 = .ok (.if_icmp .le 7, 3) := by decide +kernel
theorem dMO_formula_29 : decode cMO_formula 29 = .ok (.iconst 2, 1) := by decide +kernel
theorem dMO_formula_30 : decode cMO_formula 30 = .ok (.goto 4, 3) := by decide +kernel
theorem dMO_formula_33 : decode cMO_formula 33 = .ok (.iconst 0, 1) := by decide +kernel
theorem dMO_formula_34 : decode cMO_formula 34 = .ok (.putfield 93, 3) := by decide +kernel
theorem dMO_formula_37 : decode cMO_formula 37 = .ok (.aload_n 0, 1) := by decide +kernel
theorem dMO_formula_38 : decode cMO_formula 38 = .ok (.getfield 93, 3) := by decide +kernel
theorem dMO_formula_41 : decode cMO_formula 41 = .ok (.ifCond .le 5, 3) := by decide +kernel
theorem dMO_formula_44 : decode cMO_formula 44 = .ok (.iconst 0, 1) := by decide +kernel
theorem dMO_formula_45 : decode cMO_formula 45 = .ok (.ireturn, 1) := by decide +kernel
theorem dMO_formula_46 : decode cMO_formula 46 = .ok (.aload_n 0, 1) := by decide +kernel
theorem dMO_formula_47 : decode cMO_formula 47 = .ok (.aload_n 0, 1) := by decide +kernel
theorem dMO_formula_48 : decode cMO_formula 48 = .ok (.getfield 104, 3) := by decide +kernel
theorem dMO_formula_51 : decode cMO_formula 51 = .ok (.putfield 145, 3) := by decide +kernel
theorem dMO_formula_54 : decode cMO_formula 54 = .ok (.aload_n 0, 1) := by decide +kernel
theorem dMO_formula_55 : decode cMO_formula 55 = .ok (.iconst 0, 1) := by decide +kernel
theorem dMO_formula_56 : decode cMO_formula 56 = .ok (.putfield 148, 3) := by decide +kernel
theorem dMO_formula_59 : decode cMO_formula 59 = .ok (.iconst 0, 1) := by decide +kernel
theorem dMO_formula_60 : decode cMO_formula 60 = .ok (.istore_n 1, 1) := by decide +kernel
theorem dMO_formula_61 : decode cMO_formula 61 = .ok (.iload_n 1, 1) := by decide +kernel
theorem dMO_formula_62 : decode cMO_formula 62 = .ok (.aload_n 0, 1) := by decide +kernel
theorem dMO_formula_63 : decode cMO_formula 63 = .ok (.getfield 145, 3) := by decide +kernel
theorem dMO_formula_66 : decode cMO_formula 66 = .ok (.if_icmp .ge 77, 3) := by decide +kernel
theorem dMO_formula_69 : decode cMO_formula 69 = .ok (.aload_n 0, 1) := by decide +kernel
theorem dMO_formula_70 : decode cMO_formula 70 = .ok (.getfield 13, 3) := by decide +kernel
theorem dMO_formula_73 : decode cMO_formula 73 = .ok (.iload_n 1, 1) := by decide +kernel
theorem dMO_formula_74 : decode cMO_formula 74 = .ok (.aload_n 0, 1) := by decide +kernel
theorem dMO_formula_75 : decode cMO_formula 75 = .ok (.getfield 25, 3) := by decide +kernel
theorem dMO_formula_78 : decode cMO_formula 78 = .ok (.iload_n 1, 1) := by decide +kernel
theorem dMO_formula_79 : decode cMO_formula 79 = .ok (.iaload, 1) := by decide +kernel
theorem dMO_formula_80 : decode cMO_formula 80 = .ok (.iastore, 1) := by decide +kernel
theorem dMO_formula_81 : decode cMO_formula 81 = .ok (.aload_n 0, 1) := by decide +kernel
theorem dMO_formula_82 : decode cMO_formula 82 = .ok (.getfield 16, 3) := by decide +kernel
theorem dMO_formula_85 : decode cMO_formula 85 = .ok (.iload_n 1, 1) := by decide +kernel
theorem dMO_formula_86 : decode cMO_formula 86 = .ok (.aload_n 0, 1) := by decide +kernel
theorem dMO_formula_87 : decode cMO_formula 87 = .ok (.getfield 28, 3) := by decide +kernel
theorem dMO_formula_90 : decode cMO_formula 90 = .ok (.iload_n 1, 1) := by decide +kernel
theorem dMO_formula_91 : decode cMO_formula 91 = .ok (.iaload, 1) := by decide +kernel
theorem dMO_formula_92 : decode cMO_formula 92 = .ok (.iastore, 1) := by decide +kernel
theorem dMO_formula_93 : decode cMO_formula 93 = .ok (.aload_n 0, 1) := by decide +kernel
theorem dMO_formula_94 : decode cMO_formula 94 = .ok (.getfield 19, 3) := by decide +kernel
theorem dMO_formula_97 : decode cMO_formula 97 = .ok (.iload_n 1, 1) := by decide +kernel
theorem dMO_formula_98 : decode cMO_formula 98 = .ok (.aload_n 0, 1) := by decide +kernel
theorem dMO_formula_99 : decode cMO_formula 99 = .ok (.getfield 31, 3) := by decide +kernel
theorem dMO_formula_102 : decode cMO_formula 102 = .ok (.iload_n 1, 1) := by decide +kernel
theorem dMO_formula_103 : decode cMO_formula 103 = .ok (.iaload, 1) := by decide +kernel
theorem dMO_formula_104 : decode cMO_formula 104 = .ok (.iastore, 1) := by decide +kernel
theorem dMO_formula_105 : decode cMO_formula 105 = .ok (.aload_n 0, 1) := by decide +kernel
theorem dMO_formula_106 : decode cMO_formula 106 = .ok (.getfield 13, 3) := by decide +kernel
theorem dMO_formula_109 : decode cMO_formula 109 = .ok (.iload_n 1, 1) := by decide +kernel
theorem dMO_formula_110 : decode cMO_formula 110 = .ok (.iaload, 1) := by decide +kernel
theorem dMO_formula_111 : decode cMO_formula 111 = .ok (.invokestatic 134, 3) := by decide +kernel
theorem dMO_formula_114 : decode cMO_formula 114 = .ok (.ifCond .eq 23, 3) := by decide +kernel
theorem dMO_formula_117 : decode cMO_formula 117 = .ok (.aload_n 0, 1) := by decide +kernel
theorem dMO_formula_118 : decode cMO_formula 118 = .ok (.getfield 22, 3) := by decide +kernel
theorem dMO_formula_121 : decode cMO_formula 121 = .ok (.iload_n 1, 1) := by decide +kernel
theorem dMO_formula_122 : decode cMO_formula 122 = .ok (.aload_n 0, 1) := by decide +kernel
theorem dMO_formula_123 : decode cMO_formula 123 = .ok (.getfield 148, 3) := by decide +kernel
theorem dMO_formula_126 : decode cMO_formula 126 = .ok (.iastore, 1) := by decide +kernel
theorem dMO_formula_127 : decode cMO_formula 127 = .ok (.aload_n 0, 1) := by decide +kernel
theorem dMO_formula_128 : decode cMO_formula 128 = .ok (.dup, 1) := by decide +kernel
theorem dMO_formula_129 : decode cMO_formula 129 = .ok (.getfield 148, 3) := by decide +kernel
theorem dMO_formula_132 : decode cMO_formula 132 = .ok (.iconst 1, 1) := by decide +kernel
theorem dMO_formula_133 : decode cMO_formula 133 = .ok (.iadd, 1) := by decide +kernel
theorem dMO_formula_134 : decode cMO_formula 134 = .ok (.putfield 148, 3) := by decide +kernel
theorem dMO_formula_137 : decode cMO_formula 137 = .ok (.iinc 1 1, 3) := by decide +kernel
theorem dMO_formula_140 : decode cMO_formula 140 = .ok (.goto (-79), 3) := by decide +kernel
theorem dMO_formula_143 : decode cMO_formula 143 = .ok (.aload_n 0, 1) := by decide +kernel
theorem dMO_formula_144 : decode cMO_formula 144 = .ok (.iconst 1, 1) := by decide +kernel
theorem dMO_formula_145 : decode cMO_formula 145 = .ok (.putfield 151, 3) := by decide +kernel
theorem dMO_formula_148 : decode cMO_formula 148 = .ok (.aload_n 0, 1) := by decide +kernel
theorem dMO_formula_149 : decode cMO_formula 149 = .ok (.iconst 0, 1) := by decide +kernel
theorem dMO_formula_150 : decode cMO_formula 150 = .ok (.putfield 97, 3) := by decide +kernel
theorem dMO_formula_153 : decode cMO_formula 153 = .ok (.aload_n 0, 1) := by decide +kernel
theorem dMO_formula_154 : decode cMO_formula 154 = .ok (.invokevirtual 155, 3) := by decide +kernel
theorem dMO_formula_157 : decode cMO_formula 157 = .ok (.aload_n 0, 1) := by decide +kernel
theorem dMO_formula_158 : decode cMO_formula 158 = .ok (.invokevirtual 158, 3) := by decide +kernel
theorem dMO_formula_161 : decode cMO_formula 161 = .ok (.aload_n 0, 1) := by decide +kernel
theorem dMO_formula_162 : decode cMO_formula 162 = .ok (.getfield 148, 3) := by decide +kernel
theorem dMO_formula_165 : decode cMO_formula 165 = .ok (.ireturn, 1) := by decide +kernel
theorem dMO_emit_0 : decode cMO_emit 0 = .ok (.aload_n 0, 1) := by decide +kernel
theorem dMO_emit_1 : decode cMO_emit 1 = .ok (.getfield 40, 3) := by decide +kernel
theorem dMO_emit_4 : decode cMO_emit 4 = .ok (.aload_n 0, 1) := by decide +kernel
theorem dMO_emit_5 : decode cMO_emit 5 = .ok (.getfield 161, 3) := by decide +kernel
theorem dMO_emit_8 : decode cMO_emit 8 = .ok (.iload_n 1, 1) := by decide +kernel
theorem dMO_emit_9 : decode cMO_emit 9 = .ok (.iastore, 1) := by decide +kernel
theorem dMO_emit_10 : decode cMO_emit 10 = .ok (.aload_n 0, 1) := by decide +kernel
theorem dMO_emit_11 : decode cMO_emit 11 = .ok (.dup, 1) := by decide +kernel
theorem dMO_emit_12 : decode cMO_emit 12 = .ok (.getfield 161, 3) := by decide +kernel
theorem dMO_emit_15 : decode cMO_emit 15 = .ok (.iconst 1, 1) := by decide +kernel
theorem dMO_emit_16 : decode cMO_emit 16 = .ok (.iadd, 1) := by decide +kernel
theorem dMO_emit_17 : decode cMO_emit 17 = .ok (.putfield 161, 3) := by decide +kernel
theorem dMO_emit_20 : decode cMO_emit 20 = .ok (.return_, 1) := by decide +kernel
theorem dMO_hold_0 : decode cMO_hold 0 = .ok (.aload_n 0, 1) := by decide +kernel
theorem dMO_hold_1 : decode cMO_hold 1 = .ok (.getfield 34, 3) := by decide +kernel
theorem dMO_hold_4 : decode cMO_hold 4 = .ok (.aload_n 0, 1) := by decide +kernel
theorem dMO_hold_5 : decode cMO_hold 5 = .ok (.getfield 110, 3) := by decide +kernel
theorem dMO_hold_8 : decode cMO_hold 8 = .ok (.iload_n 1, 1) := by decide +kernel
theorem dMO_hold_9 : decode cMO_hold 9 = .ok (.iastore, 1) := by decide +kernel
theorem dMO_hold_10 : decode cMO_hold 10 = .ok (.aload_n 0, 1) := by decide +kernel
theorem dMO_hold_11 : decode cMO_hold 11 = .ok (.getfield 37, 3) := by decide +kernel
theorem dMO_hold_14 : decode cMO_hold 14 = .ok (.aload_n 0, 1) := by decide +kernel
theorem dMO_hold_15 : decode cMO_hold 15 = .ok (.getfield 110, 3) := by decide +kernel
theorem dMO_hold_18 : decode cMO_hold 18 = .ok (.iload_n 2, 1) := by decide +kernel
theorem dMO_hold_19 : decode cMO_hold 19 = .ok (.ifCond .eq 7, 3) := by decide +kernel
theorem dMO_hold_22 : decode cMO_hold 22 = .ok (.iconst 1, 1) := by decide +kernel
theorem dMO_hold_23 : decode cMO_hold 23 = .ok (.goto 4, 3) := by decide +kernel
theorem dMO_hold_26 : decode cMO_hold 26 = .ok (.iconst 0, 1) := by decide +kernel
theorem dMO_hold_27 : decode cMO_hold 27 = .ok (.iastore, 1) := by decide +kernel
theorem dMO_hold_28 : decode cMO_hold 28 = .ok (.aload_n 0, 1) := by decide +kernel
theorem dMO_hold_29 : decode cMO_hold 29 = .ok (.dup, 1) := by decide +kernel
theorem dMO_hold_30 : decode cMO_hold 30 = .ok (.getfield 110, 3) := by decide +kernel
theorem dMO_hold_33 : decode cMO_hold 33 = .ok (.iconst 1, 1) := by decide +kernel
theorem dMO_hold_34 : decode cMO_hold 34 = .ok (.iadd, 1) := by decide +kernel
theorem dMO_hold_35 : decode cMO_hold 35 = .ok (.putfield 110, 3) := by decide +kernel
theorem dMO_hold_38 : decode cMO_hold 38 = .ok (.return_, 1) := by decide +kernel
theorem dMO_write_0 : decode cMO_write 0 = .ok (.aload_n 0, 1) := by decide +kernel
theorem dMO_write_1 : decode cMO_write 1 = .ok (.iconst 0, 1) := by decide +kernel
theorem dMO_write_2 : decode cMO_write 2 = .ok (.putfield 161, 3) := by decide +kernel
theorem dMO_write_5 : decode cMO_write 5 = .ok (.aload_n 0, 1) := by decide +kernel
theorem dMO_write_6 : decode cMO_write 6 = .ok (.iconst 0, 1) := by decide +kernel
theorem dMO_write_7 : decode cMO_write 7 = .ok (.putfield 110, 3) := by decide +kernel
theorem dMO_write_10 : decode cMO_write 10 = .ok (.aload_n 0, 1) := by decide +kernel
theorem dMO_write_11 : decode cMO_write 11 = .ok (.aload_n 0, 1) := by decide +kernel
theorem dMO_write_12 : decode cMO_write 12 = .ok (.getfield 145, 3) := by decide +kernel
theorem dMO_write_15 : decode cMO_write 15 = .ok (.iconst 1, 1) := by decide +kernel
theorem dMO_write_16 : decode cMO_write 16 = .ok (.isub, 1) := by decide +kernel
theorem dMO_write_17 : decode cMO_write 17 = .ok (.iconst 0, 1) := by decide +kernel
theorem dMO_write_18 : decode cMO_write 18 = .ok (.invokevirtual 164, 3) := by decide +kernel
theorem dMO_write_21 : decode cMO_write 21 = .ok (.aload_n 0, 1) := by decide +kernel
theorem dMO_write_22 : decode cMO_write 22 = .ok (.getfield 110, 3) := by decide +kernel
theorem dMO_write_25 : decode cMO_write 25 = .ok (.ifCond .le 359, 3) := by decide +kernel
theorem dMO_write_28 : decode cMO_write 28 = .ok (.aload_n 0, 1) := by decide +kernel
theorem dMO_write_29 : decode cMO_write 29 = .ok (.dup, 1) := by decide +kernel
theorem dMO_write_30 : decode cMO_write 30 = .ok (.getfield 110, 3) := by decide +kernel
theorem dMO_write_33 : decode cMO_write 33 = .ok (.iconst 1, 1) := by decide +kernel
theorem dMO_write_34 : decode cMO_write 34 = .ok (.isub, 1) := by decide +kernel
theorem dMO_write_35 : decode cMO_write 35 = .ok (.putfield 110, 3) := by decide +kernel
