theorem dLAW_formula_0 : decode cLAW_formula 0 = .ok (.aload_n 1, 1) := by decide +kernel
theorem dLAW_formula_1 : decode cLAW_formula 1 = .ok (.iconst 0, 1) := by decide +kernel
theorem dLAW_formula_2 : decode cLAW_formula 2 = .ok (.aload_n 0, 1) := by decide +kernel
theorem dLAW_formula_3 : decode cLAW_formula 3 = .ok (.invokevirtual 7, 3) := by decide +kernel
theorem dLAW_formula_6 : decode cLAW_formula 6 = .ok (.i2l, 1) := by decide +kernel
theorem dLAW_formula_7 : decode cLAW_formula 7 = .ok (.lastore, 1) := by decide +kernel
theorem dLAW_formula_8 : decode cLAW_formula 8 = .ok (.goto 9, 3) := by decide +kernel
theorem dLAW_formula_11 : decode cLAW_formula 11 = .ok (.astore_n 2, 1) := by decide +kernel
theorem dLAW_formula_12 : decode cLAW_formula 12 = .ok (.iconst 1, 1) := by decide +kernel
theorem dLAW_formula_13 : decode cLAW_formula 13 = .ok (.ireturn, 1) := by decide +kernel
theorem dLAW_formula_14 : decode cLAW_formula 14 = .ok (.astore_n 2, 1) := by decide +kernel
theorem dLAW_formula_15 : decode cLAW_formula 15 = .ok (.iconst 2, 1) := by decide +kernel
theorem dLAW_formula_16 : decode cLAW_formula 16 = .ok (.ireturn, 1) := by decide +kernel
theorem dLAW_formula_17 : decode cLAW_formula 17 = .ok (.iconst 0, 1) := by decide +kernel
theorem dLAW_formula_18 : decode cLAW_formula 18 = .ok (.ireturn, 1) := by decide +kernel
theorem dLAW_normal_0 : decode cLAW_normal 0 = .ok (.aload_n 2, 1) := by decide +kernel
theorem dLAW_normal_1 : decode cLAW_normal 1 = .ok (.iconst 0, 1) := by decide +kernel
theorem dLAW_normal_2 : decode cLAW_normal 2 = .ok (.aload_n 0, 1) := by decide +kernel
theorem dLAW_normal_3 : decode cLAW_normal 3 = .ok (.iload_n 1, 1) := by decide +kernel
theorem dLAW_normal_4 : decode cLAW_normal 4 = .ok (.invokevirtual 17, 3) := by decide +kernel
theorem dLAW_normal_7 : decode cLAW_normal 7 = .ok (.i2l, 1) := by decide +kernel
theorem dLAW_normal_8 : decode cLAW_normal 8 = .ok (.lastore, 1) := by decide +kernel
theorem dLAW_normal_9 : decode cLAW_normal 9 = .ok (.goto 6, 3) := by decide +kernel
theorem dLAW_normal_12 : decode cLAW_normal 12 = .ok (.astore_n 3, 1) := by decide +kernel
theorem dLAW_normal_13 : decode cLAW_normal 13 = .ok (.iconst 1, 1) := by decide +kernel
theorem dLAW_normal_14 : decode cLAW_normal 14 = .ok (.ireturn, 1) := by decide +kernel
theorem dLAW_normal_15 : decode cLAW_normal 15 = .ok (.iconst 0, 1) := by decide +kernel
theorem dLAW_normal_16 : decode cLAW_normal 16 = .ok (.ireturn, 1) := by decide +kernel
theorem dLAW_keeps_0 : decode cLAW_keeps 0 = .ok (.aload_n 2, 1) := by decide +kernel
theorem dLAW_keeps_1 : decode cLAW_keeps 1 = .ok (.iconst 0, 1) := by decide +kernel
theorem dLAW_keeps_2 : decode cLAW_keeps 2 = .ok (.aload_n 0, 1) := by decide +kernel
theorem dLAW_keeps_3 : decode cLAW_keeps 3 = .ok (.iload_n 1, 1) := by decide +kernel
theorem dLAW_keeps_4 : decode cLAW_keeps 4 = .ok (.invokevirtual 23, 3) := by decide +kernel
theorem dLAW_keeps_7 : decode cLAW_keeps 7 = .ok (.ifCond .eq 7, 3) := by decide +kernel
theorem dLAW_keeps_10 : decode cLAW_keeps 10 = .ok (.lconst 1, 1) := by decide +kernel
theorem dLAW_keeps_11 : decode cLAW_keeps 11 = .ok (.goto 4, 3) := by decide +kernel
theorem dLAW_keeps_14 : decode cLAW_keeps 14 = .ok (.lconst 0, 1) := by decide +kernel
theorem dLAW_keeps_15 : decode cLAW_keeps 15 = .ok (.lastore, 1) := by decide +kernel
theorem dLAW_keeps_16 : decode cLAW_keeps 16 = .ok (.goto 9, 3) := by decide +kernel
theorem dLAW_keeps_19 : decode cLAW_keeps 19 = .ok (.astore_n 3, 1) := by decide +kernel
theorem dLAW_keeps_20 : decode cLAW_keeps 20 = .ok (.iconst 1, 1) := by decide +kernel
theorem dLAW_keeps_21 : decode cLAW_keeps 21 = .ok (.ireturn, 1) := by decide +kernel
theorem dLAW_keeps_22 : decode cLAW_keeps 22 = .ok (.astore_n 3, 1) := by decide +kernel
theorem dLAW_keeps_23 : decode cLAW_keeps 23 = .ok (.iconst 2, 1) := by decide +kernel
theorem dLAW_keeps_24 : decode cLAW_keeps 24 = .ok (.ireturn, 1) := by decide +kernel
theorem dLAW_keeps_25 : decode cLAW_keeps 25 = .ok (.iconst 0, 1) := by decide +kernel
theorem dLAW_keeps_26 : decode cLAW_keeps 26 = .ok (.ireturn, 1) := by decide +kernel
theorem dLAW_breaking_0 : decode cLAW_breaking 0 = .ok (.aload_n 1, 1) := by decide +kernel
theorem dLAW_breaking_1 : decode cLAW_breaking 1 = .ok (.iconst 0, 1) := by decide +kernel
theorem dLAW_breaking_2 : decode cLAW_breaking 2 = .ok (.aload_n 0, 1) := by decide +kernel
theorem dLAW_breaking_3 : decode cLAW_breaking 3 = .ok (.invokevirtual 29, 3) := by decide +kernel
theorem dLAW_breaking_6 : decode cLAW_breaking 6 = .ok (.i2l, 1) := by decide +kernel
theorem dLAW_breaking_7 : decode cLAW_breaking 7 = .ok (.lastore, 1) := by decide +kernel
theorem dLAW_breaking_8 : decode cLAW_breaking 8 = .ok (.goto 6, 3) := by decide +kernel
theorem dLAW_breaking_11 : decode cLAW_breaking 11 = .ok (.astore_n 2, 1) := by decide +kernel
theorem dLAW_breaking_12 : decode cLAW_breaking 12 = .ok (.iconst 1, 1) := by decide +kernel
theorem dLAW_breaking_13 : decode cLAW_breaking 13 = .ok (.ireturn, 1) := by decide +kernel
theorem dLAW_breaking_14 : decode cLAW_breaking 14 = .ok (.iconst 0, 1) := by decide +kernel
theorem dLAW_breaking_15 : decode cLAW_breaking 15 = .ok (.ireturn, 1) := by decide +kernel
theorem dLAW_keeping_0 : decode cLAW_keeping 0 = .ok (.aload_n 1, 1) := by decide +kernel
theorem dLAW_keeping_1 : decode cLAW_keeping 1 = .ok (.iconst 0, 1) := by decide +kernel
theorem dLAW_keeping_2 : decode cLAW_keeping 2 = .ok (.aload_n 0, 1) := by decide +kernel
theorem dLAW_keeping_3 : decode cLAW_keeping 3 = .ok (.invokevirtual 32, 3) := by decide +kernel
theorem dLAW_keeping_6 : decode cLAW_keeping 6 = .ok (.i2l, 1) := by decide +kernel
theorem dLAW_keeping_7 : decode cLAW_keeping 7 = .ok (.lastore, 1) := by decide +kernel
theorem dLAW_keeping_8 : decode cLAW_keeping 8 = .ok (.goto 6, 3) := by decide +kernel
theorem dLAW_keeping_11 : decode cLAW_keeping 11 = .ok (.astore_n 2, 1) := by decide +kernel
theorem dLAW_keeping_12 : decode cLAW_keeping 12 = .ok (.iconst 1, 1) := by decide +kernel
theorem dLAW_keeping_13 : decode cLAW_keeping 13 = .ok (.ireturn, 1) := by decide +kernel
theorem dLAW_keeping_14 : decode cLAW_keeping 14 = .ok (.iconst 0, 1) := by decide +kernel
theorem dLAW_keeping_15 : decode cLAW_keeping 15 = .ok (.ireturn, 1) := by decide +kernel
theorem dLAW_witness_0 : decode cLAW_witness 0 = .ok (.aload_n 3, 1) := by decide +kernel
theorem dLAW_witness_1 : decode cLAW_witness 1 = .ok (.iconst 0, 1) := by decide +kernel
theorem dLAW_witness_2 : decode cLAW_witness 2 = .ok (.aload_n 0, 1) := by decide +kernel
theorem dLAW_witness_3 : decode cLAW_witness 3 = .ok (.iload_n 1, 1) := by decide +kernel
theorem dLAW_witness_4 : decode cLAW_witness 4 = .ok (.iload_n 2, 1) := by decide +kernel
theorem dLAW_witness_5 : decode cLAW_witness 5 = .ok (.invokevirtual 35, 3) := by decide +kernel
theorem dLAW_witness_8 : decode cLAW_witness 8 = .ok (.i2l, 1) := by decide +kernel
theorem dLAW_witness_9 : decode cLAW_witness 9 = .ok (.lastore, 1) := by decide +kernel
theorem dLAW_witness_10 : decode cLAW_witness 10 = .ok (.goto 7, 3) := by decide +kernel
theorem dLAW_witness_13 : decode cLAW_witness 13 = .ok (.astore 4, 2) := by decide +kernel
theorem dLAW_witness_15 : decode cLAW_witness 15 = .ok (.iconst 1, 1) := by decide +kernel
theorem dLAW_witness_16 : decode cLAW_witness 16 = .ok (.ireturn, 1) := by decide +kernel
theorem dLAW_witness_17 : decode cLAW_witness 17 = .ok (.iconst 0, 1) := by decide +kernel
theorem dLAW_witness_18 : decode cLAW_witness 18 = .ok (.ireturn, 1) := by decide +kernel
theorem dLAW_judge_0 : decode cLAW_judge 0 = .ok (.aload_n 3, 1) := by decide +kernel
theorem dLAW_judge_1 : decode cLAW_judge 1 = .ok (.iconst 0, 1) := by decide +kernel
theorem dLAW_judge_2 : decode cLAW_judge 2 = .ok (.aload_n 0, 1) := by decide +kernel
theorem dLAW_judge_3 : decode cLAW_judge 3 = .ok (.iload_n 1, 1) := by decide +kernel
theorem dLAW_judge_4 : decode cLAW_judge 4 = .ok (.iload_n 2, 1) := by decide +kernel
theorem dLAW_judge_5 : decode cLAW_judge 5 = .ok (.invokevirtual 39, 3) := by decide +kernel
theorem dLAW_judge_8 : decode cLAW_judge 8 = .ok (.ifCond .eq 7, 3) := by decide +kernel
theorem dLAW_judge_11 : decode cLAW_judge 11 = .ok (.lconst 1, 1) := by decide +kernel
theorem dLAW_judge_12 : decode cLAW_judge 12 = .ok (.goto 4, 3) := by decide +kernel
theorem dLAW_judge_15 : decode cLAW_judge 15 = .ok (.lconst 0, 1) := by decide +kernel
theorem dLAW_judge_16 : decode cLAW_judge 16 = .ok (.lastore, 1) := by decide +kernel
theorem dLAW_judge_17 : decode cLAW_judge 17 = .ok (.goto 15, 3) := by decide +kernel
theorem dLAW_judge_20 : decode cLAW_judge 20 = .ok (.astore 4, 2) := by decide +kernel
theorem dLAW_judge_22 : decode cLAW_judge 22 = .ok (.iconst 1, 1) := by decide +kernel
theorem dLAW_judge_23 : decode cLAW_judge 23 = .ok (.ireturn, 1) := by decide +kernel
theorem dLAW_judge_24 : decode cLAW_judge 24 = .ok (.astore 4, 2) := by decide +kernel
theorem dLAW_judge_26 : decode cLAW_judge 26 = .ok (.iconst 2, 1) := by decide +kernel
theorem dLAW_judge_27 : decode cLAW_judge 27 = .ok (.ireturn, 1) := by decide +kernel
theorem dLAW_judge_28 : decode cLAW_judge 28 = .ok (.astore 4, 2) := by decide +kernel
theorem dLAW_judge_30 : decode cLAW_judge 30 = .ok (.iconst 3, 1) := by decide +kernel
theorem dLAW_judge_31 : decode cLAW_judge 31 = .ok (.ireturn, 1) := by decide +kernel
theorem dLAW_judge_32 : decode cLAW_judge 32 = .ok (.iconst 0, 1) := by decide +kernel
theorem dLAW_judge_33 : decode cLAW_judge 33 = .ok (.ireturn, 1) := by decide +kernel
theorem dLAW_law_0 : decode cLAW_law 0 = .ok (.new 8, 3) := by decide +kernel
theorem dLAW_law_3 : decode cLAW_law 3 = .ok (.dup, 1) := by decide +kernel
theorem dLAW_law_4 : decode cLAW_law 4 = .ok (.invokespecial 43, 3) := by decide +kernel
theorem dLAW_law_7 : decode cLAW_law 7 = .ok (.astore_n 1, 1) := by decide +kernel
theorem dLAW_law_8 : decode cLAW_law 8 = .ok (.new 44, 3) := by decide +kernel
theorem dLAW_law_11 : decode cLAW_law 11 = .ok (.dup, 1) := by decide +kernel
theorem dLAW_law_12 : decode cLAW_law 12 = .ok (.invokespecial 46, 3) := by decide +kernel
theorem dLAW_law_15 : decode cLAW_law 15 = .ok (.astore_n 2, 1) := by decide +kernel
theorem dLAW_law_16 : decode cLAW_law 16 = .ok (.iconst 1, 1) := by decide +kernel
theorem dLAW_law_17 : decode cLAW_law 17 = .ok (.newarray .long, 2) := by decide +kernel
theorem dLAW_law_19 : decode cLAW_law 19 = .ok (.astore_n 3, 1) := by decide +kernel
theorem dLAW_law_20 : decode cLAW_law 20 = .ok (.iconst 0, 1) := by decide +kernel
theorem dLAW_law_21 : decode cLAW_law 21 = .ok (.istore 4, 2) := by decide +kernel
theorem dLAW_law_23 : decode cLAW_law 23 = .ok (.iload 4, 2) := by decide +kernel
theorem dLAW_law_25 : decode cLAW_law 25 = .ok (.aload_n 0, 1) := by decide +kernel
theorem dLAW_law_26 : decode cLAW_law 26 = .ok (.arraylength, 1) := by decide +kernel
theorem dLAW_law_27 : decode cLAW_law 27 = .ok (.iconst 4, 1) := by decide +kernel
theorem dLAW_law_28 : decode cLAW_law 28 = .ok (.isub, 1) := by decide +kernel
theorem dLAW_law_29 : decode cLAW_law 29 = .ok (.if_icmp .gt 768, 3) := by decide +kernel
theorem dLAW_law_32 : decode cLAW_law 32 = .ok (.aload_n 0, 1) := by decide +kernel
theorem dLAW_law_33 : decode cLAW_law 33 = .ok (.iload 4, 2) := by decide +kernel
theorem dLAW_law_35 : decode cLAW_law 35 = .ok (.iaload, 1) := by decide +kernel
theorem dLAW_law_36 : decode cLAW_law 36 = .ok (.bipush 15, 2) := by decide +kernel
theorem dLAW_law_38 : decode cLAW_law 38 = .ok (.iand, 1) := by decide +kernel
theorem dLAW_law_39 : decode cLAW_law 39 = .ok (.tableswitch 752 0 15 #[77, 134, 145, 158, 202, 258, 295, 360, 397, 422, 485, 529, 573, 641, 666, 677], 77) := by decide +kernel
theorem dLAW_law_116 : decode cLAW_law 116 = .ok (.aload_n 1, 1) := by decide +kernel
theorem dLAW_law_117 : decode cLAW_law 117 = .ok (.aload_n 0, 1) := by decide +kernel
theorem dLAW_law_118 : decode cLAW_law 118 = .ok (.iload 4, 2) := by decide +kernel
theorem dLAW_law_120 : decode cLAW_law 120 = .ok (.iconst 1, 1) := by decide +kernel
theorem dLAW_law_121 : decode cLAW_law 121 = .ok (.iadd, 1) := by decide +kernel
theorem dLAW_law_122 : decode cLAW_law 122 = .ok (.iaload, 1) := by decide +kernel
theorem dLAW_law_123 : decode cLAW_law 123 = .ok (.i2l, 1) := by decide +kernel
theorem dLAW_law_124 : decode cLAW_law 124 = .ok (.bipush 32, 2) := by decide +kernel
theorem dLAW_law_126 : decode cLAW_law 126 = .ok (.lshl, 1) := by decide +kernel
theorem dLAW_law_127 : decode cLAW_law 127 = .ok (.aload_n 0, 1) := by decide +kernel
theorem dLAW_law_128 : decode cLAW_law 128 = .ok (.iload 4, 2) := by decide +kernel
theorem dLAW_law_130 : decode cLAW_law 130 = .ok (.iconst 2, 1) := by decide +kernel
theorem dLAW_law_131 : decode cLAW_law 131 = .ok (.iadd, 1) := by decide +kernel
theorem dLAW_law_132 : decode cLAW_law 132 = .ok (.iaload, 1) := by decide +kernel
theorem dLAW_law_133 : decode cLAW_law 133 = .ok (.i2l, 1) := by decide +kernel
theorem dLAW_law_134 : decode cLAW_law 134 = .ok (.ldc2_w 47, 3) := by decide +kernel
theorem dLAW_law_137 : decode cLAW_law 137 = .ok (.land, 1) := by decide +kernel
theorem dLAW_law_138 : decode cLAW_law 138 = .ok (.lor, 1) := by decide +kernel
theorem dLAW_law_139 : decode cLAW_law 139 = .ok (.invokevirtual 49, 3) := by decide +kernel
theorem dLAW_law_142 : decode cLAW_law 142 = .ok (.aload_n 2, 1) := by decide +kernel
theorem dLAW_law_143 : decode cLAW_law 143 = .ok (.aload_n 0, 1) := by decide +kernel
theorem dLAW_law_144 : decode cLAW_law 144 = .ok (.iload 4, 2) := by decide +kernel
theorem dLAW_law_146 : decode cLAW_law 146 = .ok (.iconst 1, 1) := by decide +kernel
theorem dLAW_law_147 : decode cLAW_law 147 = .ok (.iadd, 1) := by decide +kernel
theorem dLAW_law_148 : decode cLAW_law 148 = .ok (.iaload, 1) := by decide +kernel
theorem dLAW_law_149 : decode cLAW_law 149 = .ok (.i2l, 1) := by decide +kernel
theorem dLAW_law_150 : decode cLAW_law 150 = .ok (.bipush 32, 2) := by decide +kernel
theorem dLAW_law_152 : decode cLAW_law 152 = .ok (.lshl, 1) := by decide +kernel
theorem dLAW_law_153 : decode cLAW_law 153 = .ok (.aload_n 0, 1) := by decide +kernel
theorem dLAW_law_154 : decode cLAW_law 154 = .ok (.iload 4, 2) := by decide +kernel
theorem dLAW_law_156 : decode cLAW_law 156 = .ok (.iconst 2, 1) := by decide +kernel
theorem dLAW_law_157 : decode cLAW_law 157 = .ok (.iadd, 1) := by decide +kernel
theorem dLAW_law_158 : decode cLAW_law 158 = .ok (.iaload, 1) := by decide +kernel
theorem dLAW_law_159 : decode cLAW_law 159 = .ok (.i2l, 1) := by decide +kernel
theorem dLAW_law_160 : decode cLAW_law 160 = .ok (.ldc2_w 47, 3) := by decide +kernel
theorem dLAW_law_163 : decode cLAW_law 163 = .ok (.land, 1) := by decide +kernel
theorem dLAW_law_164 : decode cLAW_law 164 = .ok (.lor, 1) := by decide +kernel
theorem dLAW_law_165 : decode cLAW_law 165 = .ok (.invokevirtual 53, 3) := by decide +kernel
theorem dLAW_law_168 : decode cLAW_law 168 = .ok (.if_icmp .eq 623, 3) := by decide +kernel
theorem dLAW_law_171 : decode cLAW_law 171 = .ok (.iconst 0, 1) := by decide +kernel
theorem dLAW_law_172 : decode cLAW_law 172 = .ok (.ireturn, 1) := by decide +kernel
theorem dLAW_law_173 : decode cLAW_law 173 = .ok (.aload_n 1, 1) := by decide +kernel
theorem dLAW_law_174 : decode cLAW_law 174 = .ok (.invokevirtual 54, 3) := by decide +kernel
theorem dLAW_law_177 : decode cLAW_law 177 = .ok (.aload_n 2, 1) := by decide +kernel
theorem dLAW_law_178 : decode cLAW_law 178 = .ok (.invokevirtual 57, 3) := by decide +kernel
theorem dLAW_law_181 : decode cLAW_law 181 = .ok (.goto 610, 3) := by decide +kernel
theorem dLAW_law_184 : decode cLAW_law 184 = .ok (.aload_n 1, 1) := by decide +kernel
theorem dLAW_law_185 : decode cLAW_law 185 = .ok (.invokevirtual 58, 3) := by decide +kernel
theorem dLAW_law_188 : decode cLAW_law 188 = .ok (.aload_n 2, 1) := by decide +kernel
theorem dLAW_law_189 : decode cLAW_law 189 = .ok (.invokevirtual 61, 3) := by decide +kernel
theorem dLAW_law_192 : decode cLAW_law 192 = .ok (.if_icmp .eq 599, 3) := by decide +kernel
theorem dLAW_law_195 : decode cLAW_law 195 = .ok (.iconst 0, 1) := by decide +kernel
theorem dLAW_law_196 : decode cLAW_law 196 = .ok (.ireturn, 1) := by decide +kernel
theorem dLAW_law_197 : decode cLAW_law 197 = .ok (.aload_n 1, 1) := by decide +kernel
theorem dLAW_law_198 : decode cLAW_law 198 = .ok (.aload_n 3, 1) := by decide +kernel
theorem dLAW_law_199 : decode cLAW_law 199 = .ok (.invokestatic 62, 3) := by decide +kernel
theorem dLAW_law_202 : decode cLAW_law 202 = .ok (.istore 5, 2) := by decide +kernel
theorem dLAW_law_204 : decode cLAW_law 204 = .ok (.aload_n 2, 1) := by decide +kernel
theorem dLAW_law_205 : decode cLAW_law 205 = .ok (.invokevirtual 67, 3) := by decide +kernel
theorem dLAW_law_208 : decode cLAW_law 208 = .ok (.istore 6, 2) := by decide +kernel
theorem dLAW_law_210 : decode cLAW_law 210 = .ok (.aload_n 2, 1) := by decide +kernel
theorem dLAW_law_211 : decode cLAW_law 211 = .ok (.invokevirtual 68, 3) := by decide +kernel
theorem dLAW_law_214 : decode cLAW_law 214 = .ok (.iload 5, 2) := by decide +kernel
theorem dLAW_law_216 : decode cLAW_law 216 = .ok (.if_icmp .eq 5, 3) := by decide +kernel
theorem dLAW_law_219 : decode cLAW_law 219 = .ok (.iconst 0, 1) := by decide +kernel
theorem dLAW_law_220 : decode cLAW_law 220 = .ok (.ireturn, 1) := by decide +kernel
theorem dLAW_law_221 : decode cLAW_law 221 = .ok (.iload 5, 2) := by decide +kernel
theorem dLAW_law_223 : decode cLAW_law 223 = .ok (.ifCond .ne 15, 3) := by decide +kernel
theorem dLAW_law_226 : decode cLAW_law 226 = .ok (.aload_n 3, 1) := by decide +kernel
theorem dLAW_law_227 : decode cLAW_law 227 = .ok (.iconst 0, 1) := by decide +kernel
theorem dLAW_law_228 : decode cLAW_law 228 = .ok (.laload, 1) := by decide +kernel
theorem dLAW_law_229 : decode cLAW_law 229 = .ok (.iload 6, 2) := by decide +kernel
theorem dLAW_law_231 : decode cLAW_law 231 = .ok (.i2l, 1) := by decide +kernel
theorem dLAW_law_232 : decode cLAW_law 232 = .ok (.lcmp, 1) := by decide +kernel
theorem dLAW_law_233 : decode cLAW_law 233 = .ok (.ifCond .eq 5, 3) := by decide +kernel
theorem dLAW_law_236 : decode cLAW_law 236 = .ok (.iconst 0, 1) := by decide +kernel
theorem dLAW_law_237 : decode cLAW_law 237 = .ok (.ireturn, 1) := by decide +kernel
theorem dLAW_law_238 : decode cLAW_law 238 = .ok (.goto 553, 3) := by decide +kernel
theorem dLAW_law_241 : decode cLAW_law 241 = .ok (.aload_n 1, 1) := by decide +kernel
theorem dLAW_law_242 : decode cLAW_law 242 = .ok (.aload_n 0, 1) := by decide +kernel
theorem dLAW_law_243 : decode cLAW_law 243 = .ok (.iload 4, 2) := by decide +kernel
theorem dLAW_law_245 : decode cLAW_law 245 = .ok (.iconst 1, 1) := by decide +kernel
theorem dLAW_law_246 : decode cLAW_law 246 = .ok (.iadd, 1) := by decide +kernel
theorem dLAW_law_247 : decode cLAW_law 247 = .ok (.iaload, 1) := by decide +kernel
theorem dLAW_law_248 : decode cLAW_law 248 = .ok (.aload_n 3, 1) := by decide +kernel
theorem dLAW_law_249 : decode cLAW_law 249 = .ok (.invokestatic 71, 3) := by decide +kernel
theorem dLAW_law_252 : decode cLAW_law 252 = .ok (.istore 5, 2) := by decide +kernel
theorem dLAW_law_254 : decode cLAW_law 254 = .ok (.aload_n 2, 1) := by decide +kernel
theorem dLAW_law_255 : decode cLAW_law 255 = .ok (.aload_n 0, 1) := by decide +kernel
theorem dLAW_law_256 : decode cLAW_law 256 = .ok (.iload 4, 2) := by decide +kernel
theorem dLAW_law_258 : decode cLAW_law 258 = .ok (.iconst 1, 1) := by decide +kernel
theorem dLAW_law_259 : decode cLAW_law 259 = .ok (.iadd, 1) := by decide +kernel
theorem dLAW_law_260 : decode cLAW_law 260 = .ok (.iaload, 1) := by decide +kernel
theorem dLAW_law_261 : decode cLAW_law 261 = .ok (.invokevirtual 74, 3) := by decide +kernel
theorem dLAW_law_264 : decode cLAW_law 264 = .ok (.istore 6, 2) := by decide +kernel
theorem dLAW_law_266 : decode cLAW_law 266 = .ok (.aload_n 2, 1) := by decide +kernel
theorem dLAW_law_267 : decode cLAW_law 267 = .ok (.invokevirtual 68, 3) := by decide +kernel
theorem dLAW_law_270 : decode cLAW_law 270 = .ok (.iload 5, 2) := by decide +kernel
theorem dLAW_law_272 : decode cLAW_law 272 = .ok (.if_icmp .eq 5, 3) := by decide +kernel
theorem dLAW_law_275 : decode cLAW_law 275 = .ok (.iconst 0, 1) := by decide +kernel
theorem dLAW_law_276 : decode cLAW_law 276 = .ok (.ireturn, 1) := by decide +kernel
theorem dLAW_law_277 : decode cLAW_law 277 = .ok (.iload 5, 2) := by decide +kernel
theorem dLAW_law_279 : decode cLAW_law 279 = .ok (.ifCond .ne 15, 3) := by decide +kernel
theorem dLAW_law_282 : decode cLAW_law 282 = .ok (.aload_n 3, 1) := by decide +kernel
theorem dLAW_law_283 : decode cLAW_law 283 = .ok (.iconst 0, 1) := by decide +kernel
theorem dLAW_law_284 : decode cLAW_law 284 = .ok (.laload, 1) := by decide +kernel
theorem dLAW_law_285 : decode cLAW_law 285 = .ok (.iload 6, 2) := by decide +kernel
theorem dLAW_law_287 : decode cLAW_law 287 = .ok (.i2l, 1) := by decide +kernel
theorem dLAW_law_288 : decode cLAW_law 288 = .ok (.lcmp, 1) := by decide +kernel
theorem dLAW_law_289 : decode cLAW_law 289 = .ok (.ifCond .eq 5, 3) := by decide +kernel
theorem dLAW_law_292 : decode cLAW_law 292 = .ok (.iconst 0, 1) := by decide +kernel
theorem dLAW_law_293 : decode cLAW_law 293 = .ok (.ireturn, 1) := by decide +kernel
theorem dLAW_law_294 : decode cLAW_law 294 = .ok (.goto 497, 3) := by decide +kernel
theorem dLAW_law_297 : decode cLAW_law 297 = .ok (.aload_n 1, 1) := by decide +kernel
theorem dLAW_law_298 : decode cLAW_law 298 = .ok (.aload_n 0, 1) := by decide +kernel
theorem dLAW_law_299 : decode cLAW_law 299 = .ok (.iload 4, 2) := by decide +kernel
theorem dLAW_law_301 : decode cLAW_law 301 = .ok (.iconst 1, 1) := by decide +kernel
theorem dLAW_law_302 : decode cLAW_law 302 = .ok (.iadd, 1) := by decide +kernel
theorem dLAW_law_303 : decode cLAW_law 303 = .ok (.iaload, 1) := by decide +kernel
theorem dLAW_law_304 : decode cLAW_law 304 = .ok (.aload_n 0, 1) := by decide +kernel
theorem dLAW_law_305 : decode cLAW_law 305 = .ok (.iload 4, 2) := by decide +kernel
theorem dLAW_law_307 : decode cLAW_law 307 = .ok (.iconst 2, 1) := by decide +kernel
theorem dLAW_law_308 : decode cLAW_law 308 = .ok (.iadd, 1) := by decide +kernel
theorem dLAW_law_309 : decode cLAW_law 309 = .ok (.iaload, 1) := by decide +kernel
theorem dLAW_law_310 : decode cLAW_law 310 = .ok (.invokevirtual 75, 3) := by decide +kernel
theorem dLAW_law_313 : decode cLAW_law 313 = .ok (.aload_n 2, 1) := by decide +kernel
theorem dLAW_law_314 : decode cLAW_law 314 = .ok (.aload_n 0, 1) := by decide +kernel
theorem dLAW_law_315 : decode cLAW_law 315 = .ok (.iload 4, 2) := by decide +kernel
theorem dLAW_law_317 : decode cLAW_law 317 = .ok (.iconst 1, 1) := by decide +kernel
theorem dLAW_law_318 : decode cLAW_law 318 = .ok (.iadd, 1) := by decide +kernel
theorem dLAW_law_319 : decode cLAW_law 319 = .ok (.iaload, 1) := by decide +kernel
theorem dLAW_law_320 : decode cLAW_law 320 = .ok (.aload_n 0, 1) := by decide +kernel
theorem dLAW_law_321 : decode cLAW_law 321 = .ok (.iload 4, 2) := by decide +kernel
theorem dLAW_law_323 : decode cLAW_law 323 = .ok (.iconst 2, 1) := by decide +kernel
theorem dLAW_law_324 : decode cLAW_law 324 = .ok (.iadd, 1) := by decide +kernel
theorem dLAW_law_325 : decode cLAW_law 325 = .ok (.iaload, 1) := by decide +kernel
theorem dLAW_law_326 : decode cLAW_law 326 = .ok (.invokevirtual 78, 3) := by decide +kernel
theorem dLAW_law_329 : decode cLAW_law 329 = .ok (.if_icmp .eq 462, 3) := by decide +kernel
theorem dLAW_law_332 : decode cLAW_law 332 = .ok (.iconst 0, 1) := by decide +kernel
theorem dLAW_law_333 : decode cLAW_law 333 = .ok (.ireturn, 1) := by decide +kernel
theorem dLAW_law_334 : decode cLAW_law 334 = .ok (.aload_n 1, 1) := by decide +kernel
theorem dLAW_law_335 : decode cLAW_law 335 = .ok (.aload_n 0, 1) := by decide +kernel
theorem dLAW_law_336 : decode cLAW_law 336 = .ok (.iload 4, 2) := by decide +kernel
theorem dLAW_law_338 : decode cLAW_law 338 = .ok (.iconst 1, 1) := by decide +kernel
theorem dLAW_law_339 : decode cLAW_law 339 = .ok (.iadd, 1) := by decide +kernel
theorem dLAW_law_340 : decode cLAW_law 340 = .ok (.iaload, 1) := by decide +kernel
theorem dLAW_law_341 : decode cLAW_law 341 = .ok (.aload_n 0, 1) := by decide +kernel
theorem dLAW_law_342 : decode cLAW_law 342 = .ok (.iload 4, 2) := by decide +kernel
theorem dLAW_law_344 : decode cLAW_law 344 = .ok (.iconst 2, 1) := by decide +kernel
theorem dLAW_law_345 : decode cLAW_law 345 = .ok (.iadd, 1) := by decide +kernel
theorem dLAW_law_346 : decode cLAW_law 346 = .ok (.iaload, 1) := by decide +kernel
theorem dLAW_law_347 : decode cLAW_law 347 = .ok (.aload_n 0, 1) := by decide +kernel
theorem dLAW_law_348 : decode cLAW_law 348 = .ok (.iload 4, 2) := by decide +kernel
theorem dLAW_law_350 : decode cLAW_law 350 = .ok (.iconst 3, 1) := by decide +kernel
theorem dLAW_law_351 : decode cLAW_law 351 = .ok (.iadd, 1) := by decide +kernel
theorem dLAW_law_352 : decode cLAW_law 352 = .ok (.iaload, 1) := by decide +kernel
theorem dLAW_law_353 : decode cLAW_law 353 = .ok (.ifCond .eq 7, 3) := by decide +kernel
theorem dLAW_law_356 : decode cLAW_law 356 = .ok (.iconst 1, 1) := by decide +kernel
theorem dLAW_law_357 : decode cLAW_law 357 = .ok (.goto 4, 3) := by decide +kernel
theorem dLAW_law_360 : decode cLAW_law 360 = .ok (.iconst 0, 1) := by decide +kernel
theorem dLAW_law_361 : decode cLAW_law 361 = .ok (.invokevirtual 79, 3) := by decide +kernel
theorem dLAW_law_364 : decode cLAW_law 364 = .ok (.aload_n 2, 1) := by decide +kernel
theorem dLAW_law_365 : decode cLAW_law 365 = .ok (.aload_n 0, 1) := by decide +kernel
theorem dLAW_law_366 : decode cLAW_law 366 = .ok (.iload 4, 2) := by decide +kernel
theorem dLAW_law_368 : decode cLAW_law 368 = .ok (.iconst 1, 1) := by decide +kernel
theorem dLAW_law_369 : decode cLAW_law 369 = .ok (.iadd, 1) := by decide +kernel
theorem dLAW_law_370 : decode cLAW_law 370 = .ok (.iaload, 1) := by decide +kernel
theorem dLAW_law_371 : decode cLAW_law 371 = .ok (.aload_n 0, 1) := by decide +kernel
theorem dLAW_law_372 : decode cLAW_law 372 = .ok (.iload 4, 2) := by decide +kernel
theorem dLAW_law_374 : decode cLAW_law 374 = .ok (.iconst 2, 1) := by decide +kernel
theorem dLAW_law_375 : decode cLAW_law 375 = .ok (.iadd, 1) := by decide +kernel
theorem dLAW_law_376 : decode cLAW_law 376 = .ok (.iaload, 1) := by decide +kernel
theorem dLAW_law_377 : decode cLAW_law 377 = .ok (.aload_n 0, 1) := by decide +kernel
theorem dLAW_law_378 : decode cLAW_law 378 = .ok (.iload 4, 2) := by decide +kernel
theorem dLAW_law_380 : decode cLAW_law 380 = .ok (.iconst 3, 1) := by decide +kernel
theorem dLAW_law_381 : decode cLAW_law 381 = .ok (.iadd, 1) := by decide +kernel
theorem dLAW_law_382 : decode cLAW_law 382 = .ok (.iaload, 1) := by decide +kernel
theorem dLAW_law_383 : decode cLAW_law 383 = .ok (.ifCond .eq 7, 3) := by decide +kernel
theorem dLAW_law_386 : decode cLAW_law 386 = .ok (.iconst 1, 1) := by decide +kernel
theorem dLAW_law_387 : decode cLAW_law 387 = .ok (.goto 4, 3) := by decide +kernel
theorem dLAW_law_390 : decode cLAW_law 390 = .ok (.iconst 0, 1) := by decide +kernel
theorem dLAW_law_391 : decode cLAW_law 391 = .ok (.invokevirtual 83, 3) := by decide +kernel
theorem dLAW_law_394 : decode cLAW_law 394 = .ok (.if_icmp .eq 397, 3) := by decide +kernel
theorem dLAW_law_397 : decode cLAW_law 397 = .ok (.iconst 0, 1) := by decide +kernel
theorem dLAW_law_398 : decode cLAW_law 398 = .ok (.ireturn, 1) := by decide +kernel
theorem dLAW_law_399 : decode cLAW_law 399 = .ok (.aload_n 1, 1) := by decide +kernel
theorem dLAW_law_400 : decode cLAW_law 400 = .ok (.aload_n 0, 1) := by decide +kernel
theorem dLAW_law_401 : decode cLAW_law 401 = .ok (.iload 4, 2) := by decide +kernel
theorem dLAW_law_403 : decode cLAW_law 403 = .ok (.iconst 1, 1) := by decide +kernel
theorem dLAW_law_404 : decode cLAW_law 404 = .ok (.iadd, 1) := by decide +kernel
theorem dLAW_law_405 : decode cLAW_law 405 = .ok (.iaload, 1) := by decide +kernel
theorem dLAW_law_406 : decode cLAW_law 406 = .ok (.aload_n 0, 1) := by decide +kernel
theorem dLAW_law_407 : decode cLAW_law 407 = .ok (.iload 4, 2) := by decide +kernel
theorem dLAW_law_409 : decode cLAW_law 409 = .ok (.iconst 2, 1) := by decide +kernel
theorem dLAW_law_410 : decode cLAW_law 410 = .ok (.iadd, 1) := by decide +kernel
theorem dLAW_law_411 : decode cLAW_law 411 = .ok (.iaload, 1) := by decide +kernel
theorem dLAW_law_412 : decode cLAW_law 412 = .ok (.invokevirtual 84, 3) := by decide +kernel
theorem dLAW_law_415 : decode cLAW_law 415 = .ok (.aload_n 2, 1) := by decide +kernel
theorem dLAW_law_416 : decode cLAW_law 416 = .ok (.aload_n 0, 1) := by decide +kernel
theorem dLAW_law_417 : decode cLAW_law 417 = .ok (.iload 4, 2) := by decide +kernel
theorem dLAW_law_419 : decode cLAW_law 419 = .ok (.iconst 1, 1) := by decide +kernel
theorem dLAW_law_420 : decode cLAW_law 420 = .ok (.iadd, 1) := by decide +kernel
theorem dLAW_law_421 : decode cLAW_law 421 = .ok (.iaload, 1) := by decide +kernel
theorem dLAW_law_422 : decode cLAW_law 422 = .ok (.aload_n 0, 1) := by decide +kernel
theorem dLAW_law_423 : decode cLAW_law 423 = .ok (.iload 4, 2) := by decide +kernel
theorem dLAW_law_425 : decode cLAW_law 425 = .ok (.iconst 2, 1) := by decide +kernel
theorem dLAW_law_426 : decode cLAW_law 426 = .ok (.iadd, 1) := by decide +kernel
theorem dLAW_law_427 : decode cLAW_law 427 = .ok (.iaload, 1) := by decide +kernel
theorem dLAW_law_428 : decode cLAW_law 428 = .ok (.invokevirtual 87, 3) := by decide +kernel
theorem dLAW_law_431 : decode cLAW_law 431 = .ok (.if_icmp .eq 360, 3) := by decide +kernel
theorem dLAW_law_434 : decode cLAW_law 434 = .ok (.iconst 0, 1) := by decide +kernel
theorem dLAW_law_435 : decode cLAW_law 435 = .ok (.ireturn, 1) := by decide +kernel
theorem dLAW_law_436 : decode cLAW_law 436 = .ok (.aload_n 1, 1) := by decide +kernel
theorem dLAW_law_437 : decode cLAW_law 437 = .ok (.aload_n 0, 1) := by decide +kernel
theorem dLAW_law_438 : decode cLAW_law 438 = .ok (.iload 4, 2) := by decide +kernel
theorem dLAW_law_440 : decode cLAW_law 440 = .ok (.iconst 1, 1) := by decide +kernel
theorem dLAW_law_441 : decode cLAW_law 441 = .ok (.iadd, 1) := by decide +kernel
theorem dLAW_law_442 : decode cLAW_law 442 = .ok (.iaload, 1) := by decide +kernel
theorem dLAW_law_443 : decode cLAW_law 443 = .ok (.invokevirtual 88, 3) := by decide +kernel
theorem dLAW_law_446 : decode cLAW_law 446 = .ok (.aload_n 2, 1) := by decide +kernel
theorem dLAW_law_447 : decode cLAW_law 447 = .ok (.aload_n 0, 1) := by decide +kernel
theorem dLAW_law_448 : decode cLAW_law 448 = .ok (.iload 4, 2) := by decide +kernel
theorem dLAW_law_450 : decode cLAW_law 450 = .ok (.iconst 1, 1) := by decide +kernel
theorem dLAW_law_451 : decode cLAW_law 451 = .ok (.iadd, 1) := by decide +kernel
theorem dLAW_law_452 : decode cLAW_law 452 = .ok (.iaload, 1) := by decide +kernel
theorem dLAW_law_453 : decode cLAW_law 453 = .ok (.invokevirtual 91, 3) := by decide +kernel
theorem dLAW_law_456 : decode cLAW_law 456 = .ok (.if_icmp .eq 335, 3) := by decide +kernel
theorem dLAW_law_459 : decode cLAW_law 459 = .ok (.iconst 0, 1) := by decide +kernel
theorem dLAW_law_460 : decode cLAW_law 460 = .ok (.ireturn, 1) := by decide +kernel
theorem dLAW_law_461 : decode cLAW_law 461 = .ok (.aload_n 1, 1) := by decide +kernel
theorem dLAW_law_462 : decode cLAW_law 462 = .ok (.aload_n 0, 1) := by decide +kernel
theorem dLAW_law_463 : decode cLAW_law 463 = .ok (.iload 4, 2) := by decide +kernel
theorem dLAW_law_465 : decode cLAW_law 465 = .ok (.iconst 1, 1) := by decide +kernel
theorem dLAW_law_466 : decode cLAW_law 466 = .ok (.iadd, 1) := by decide +kernel
theorem dLAW_law_467 : decode cLAW_law 467 = .ok (.iaload, 1) := by decide +kernel
theorem dLAW_law_468 : decode cLAW_law 468 = .ok (.aload_n 3, 1) := by decide +kernel
theorem dLAW_law_469 : decode cLAW_law 469 = .ok (.invokestatic 92, 3) := by decide +kernel
theorem dLAW_law_472 : decode cLAW_law 472 = .ok (.istore 5, 2) := by decide +kernel
theorem dLAW_law_474 : decode cLAW_law 474 = .ok (.aload_n 2, 1) := by decide +kernel
theorem dLAW_law_475 : decode cLAW_law 475 = .ok (.aload_n 0, 1) := by decide +kernel
theorem dLAW_law_476 : decode cLAW_law 476 = .ok (.iload 4, 2) := by decide +kernel
theorem dLAW_law_478 : decode cLAW_law 478 = .ok (.iconst 1, 1) := by decide +kernel
theorem dLAW_law_479 : decode cLAW_law 479 = .ok (.iadd, 1) := by decide +kernel
theorem dLAW_law_480 : decode cLAW_law 480 = .ok (.iaload, 1) := by decide +kernel
theorem dLAW_law_481 : decode cLAW_law 481 = .ok (.invokevirtual 94, 3) := by decide +kernel
theorem dLAW_law_484 : decode cLAW_law 484 = .ok (.istore 6, 2) := by decide +kernel
theorem dLAW_law_486 : decode cLAW_law 486 = .ok (.aload_n 2, 1) := by decide +kernel
theorem dLAW_law_487 : decode cLAW_law 487 = .ok (.invokevirtual 68, 3) := by decide +kernel
theorem dLAW_law_490 : decode cLAW_law 490 = .ok (.iload 5, 2) := by decide +kernel
theorem dLAW_law_492 : decode cLAW_law 492 = .ok (.if_icmp .eq 5, 3) := by decide +kernel
theorem dLAW_law_495 : decode cLAW_law 495 = .ok (.iconst 0, 1) := by decide +kernel
theorem dLAW_law_496 : decode cLAW_law 496 = .ok (.ireturn, 1) := by decide +kernel
theorem dLAW_law_497 : decode cLAW_law 497 = .ok (.iload 5, 2) := by decide +kernel
theorem dLAW_law_499 : decode cLAW_law 499 = .ok (.ifCond .ne 22, 3) := by decide +kernel
theorem dLAW_law_502 : decode cLAW_law 502 = .ok (.aload_n 3, 1) := by decide +kernel
theorem dLAW_law_503 : decode cLAW_law 503 = .ok (.iconst 0, 1) := by decide +kernel
theorem dLAW_law_504 : decode cLAW_law 504 = .ok (.laload, 1) := by decide +kernel
theorem dLAW_law_505 : decode cLAW_law 505 = .ok (.iload 6, 2) := by decide +kernel
theorem dLAW_law_507 : decode cLAW_law 507 = .ok (.ifCond .eq 7, 3) := by decide +kernel
theorem dLAW_law_510 : decode cLAW_law 510 = .ok (.lconst 1, 1) := by decide +kernel
theorem dLAW_law_511 : decode cLAW_law 511 = .ok (.goto 4, 3) := by decide +kernel
theorem dLAW_law_514 : decode cLAW_law 514 = .ok (.lconst 0, 1) := by decide +kernel
theorem dLAW_law_515 : decode cLAW_law 515 = .ok (.lcmp, 1) := by decide +kernel
theorem dLAW_law_516 : decode cLAW_law 516 = .ok (.ifCond .eq 5, 3) := by decide +kernel
theorem dLAW_law_519 : decode cLAW_law 519 = .ok (.iconst 0, 1) := by decide +kernel
theorem dLAW_law_520 : decode cLAW_law 520 = .ok (.ireturn, 1) := by decide +kernel
theorem dLAW_law_521 : decode cLAW_law 521 = .ok (.goto 270, 3) := by decide +kernel
theorem dLAW_law_524 : decode cLAW_law 524 = .ok (.aload_n 1, 1) := by decide +kernel
theorem dLAW_law_525 : decode cLAW_law 525 = .ok (.aload_n 3, 1) := by decide +kernel
theorem dLAW_law_526 : decode cLAW_law 526 = .ok (.invokestatic 95, 3) := by decide +kernel
theorem dLAW_law_529 : decode cLAW_law 529 = .ok (.istore 5, 2) := by decide +kernel
theorem dLAW_law_531 : decode cLAW_law 531 = .ok (.aload_n 2, 1) := by decide +kernel
theorem dLAW_law_532 : decode cLAW_law 532 = .ok (.invokevirtual 97, 3) := by decide +kernel
theorem dLAW_law_535 : decode cLAW_law 535 = .ok (.istore 6, 2) := by decide +kernel
theorem dLAW_law_537 : decode cLAW_law 537 = .ok (.aload_n 2, 1) := by decide +kernel
theorem dLAW_law_538 : decode cLAW_law 538 = .ok (.invokevirtual 68, 3) := by decide +kernel
theorem dLAW_law_541 : decode cLAW_law 541 = .ok (.iload 5, 2) := by decide +kernel
theorem dLAW_law_543 : decode cLAW_law 543 = .ok (.if_icmp .eq 5, 3) := by decide +kernel
theorem dLAW_law_546 : decode cLAW_law 546 = .ok (.iconst 0, 1) := by decide +kernel
theorem dLAW_law_547 : decode cLAW_law 547 = .ok (.ireturn, 1) := by decide +kernel
theorem dLAW_law_548 : decode cLAW_law 548 = .ok (.iload 5, 2) := by decide +kernel
theorem dLAW_law_550 : decode cLAW_law 550 = .ok (.ifCond .ne 15, 3) := by decide +kernel
theorem dLAW_law_553 : decode cLAW_law 553 = .ok (.aload_n 3, 1) := by decide +kernel
theorem dLAW_law_554 : decode cLAW_law 554 = .ok (.iconst 0, 1) := by decide +kernel
theorem dLAW_law_555 : decode cLAW_law 555 = .ok (.laload, 1) := by decide +kernel
theorem dLAW_law_556 : decode cLAW_law 556 = .ok (.iload 6, 2) := by decide +kernel
theorem dLAW_law_558 : decode cLAW_law 558 = .ok (.i2l, 1) := by decide +kernel
theorem dLAW_law_559 : decode cLAW_law 559 = .ok (.lcmp, 1) := by decide +kernel
theorem dLAW_law_560 : decode cLAW_law 560 = .ok (.ifCond .eq 5, 3) := by decide +kernel
theorem dLAW_law_563 : decode cLAW_law 563 = .ok (.iconst 0, 1) := by decide +kernel
theorem dLAW_law_564 : decode cLAW_law 564 = .ok (.ireturn, 1) := by decide +kernel
theorem dLAW_law_565 : decode cLAW_law 565 = .ok (.goto 226, 3) := by decide +kernel
theorem dLAW_law_568 : decode cLAW_law 568 = .ok (.aload_n 1, 1) := by decide +kernel
theorem dLAW_law_569 : decode cLAW_law 569 = .ok (.aload_n 3, 1) := by decide +kernel
theorem dLAW_law_570 : decode cLAW_law 570 = .ok (.invokestatic 98, 3) := by decide +kernel
theorem dLAW_law_573 : decode cLAW_law 573 = .ok (.istore 5, 2) := by decide +kernel
theorem dLAW_law_575 : decode cLAW_law 575 = .ok (.aload_n 2, 1) := by decide +kernel
theorem dLAW_law_576 : decode cLAW_law 576 = .ok (.invokevirtual 100, 3) := by decide +kernel
theorem dLAW_law_579 : decode cLAW_law 579 = .ok (.istore 6, 2) := by decide +kernel
theorem dLAW_law_581 : decode cLAW_law 581 = .ok (.aload_n 2, 1) := by decide +kernel
theorem dLAW_law_582 : decode cLAW_law 582 = .ok (.invokevirtual 68, 3) := by decide +kernel
theorem dLAW_law_585 : decode cLAW_law 585 = .ok (.iload 5, 2) := by decide +kernel
theorem dLAW_law_587 : decode cLAW_law 587 = .ok (.if_icmp .eq 5, 3) := by decide +kernel
theorem dLAW_law_590 : decode cLAW_law 590 = .ok (.iconst 0, 1) := by decide +kernel
theorem dLAW_law_591 : decode cLAW_law 591 = .ok (.ireturn, 1) := by decide +kernel
theorem dLAW_law_592 : decode cLAW_law 592 = .ok (.iload 5, 2) := by decide +kernel
theorem dLAW_law_594 : decode cLAW_law 594 = .ok (.ifCond .ne 15, 3) := by decide +kernel
theorem dLAW_law_597 : decode cLAW_law 597 = .ok (.aload_n 3, 1) := by decide +kernel
theorem dLAW_law_598 : decode cLAW_law 598 = .ok (.iconst 0, 1) := by decide +kernel
theorem dLAW_law_599 : decode cLAW_law 599 = .ok (.laload, 1) := by decide +kernel
theorem dLAW_law_600 : decode cLAW_law 600 = .ok (.iload 6, 2) := by decide +kernel
theorem dLAW_law_602 : decode cLAW_law 602 = .ok (.i2l, 1) := by decide +kernel
theorem dLAW_law_603 : decode cLAW_law 603 = .ok (.lcmp, 1) := by decide +kernel
theorem dLAW_law_604 : decode cLAW_law 604 = .ok (.ifCond .eq 5, 3) := by decide +kernel
theorem dLAW_law_607 : decode cLAW_law 607 = .ok (.iconst 0, 1) := by decide +kernel
theorem dLAW_law_608 : decode cLAW_law 608 = .ok (.ireturn, 1) := by decide +kernel
theorem dLAW_law_609 : decode cLAW_law 609 = .ok (.goto 182, 3) := by decide +kernel
theorem dLAW_law_612 : decode cLAW_law 612 = .ok (.aload_n 1, 1) := by decide +kernel
theorem dLAW_law_613 : decode cLAW_law 613 = .ok (.aload_n 0, 1) := by decide +kernel
theorem dLAW_law_614 : decode cLAW_law 614 = .ok (.iload 4, 2) := by decide +kernel
theorem dLAW_law_616 : decode cLAW_law 616 = .ok (.iconst 1, 1) := by decide +kernel
theorem dLAW_law_617 : decode cLAW_law 617 = .ok (.iadd, 1) := by decide +kernel
theorem dLAW_law_618 : decode cLAW_law 618 = .ok (.iaload, 1) := by decide +kernel
theorem dLAW_law_619 : decode cLAW_law 619 = .ok (.aload_n 0, 1) := by decide +kernel
theorem dLAW_law_620 : decode cLAW_law 620 = .ok (.iload 4, 2) := by decide +kernel
theorem dLAW_law_622 : decode cLAW_law 622 = .ok (.iconst 2, 1) := by decide +kernel
theorem dLAW_law_623 : decode cLAW_law 623 = .ok (.iadd, 1) := by decide +kernel
theorem dLAW_law_624 : decode cLAW_law 624 = .ok (.iaload, 1) := by decide +kernel
theorem dLAW_law_625 : decode cLAW_law 625 = .ok (.aload_n 3, 1) := by decide +kernel
theorem dLAW_law_626 : decode cLAW_law 626 = .ok (.invokestatic 101, 3) := by decide +kernel
theorem dLAW_law_629 : decode cLAW_law 629 = .ok (.istore 5, 2) := by decide +kernel
theorem dLAW_law_631 : decode cLAW_law 631 = .ok (.aload_n 2, 1) := by decide +kernel
theorem dLAW_law_632 : decode cLAW_law 632 = .ok (.aload_n 0, 1) := by decide +kernel
theorem dLAW_law_633 : decode cLAW_law 633 = .ok (.iload 4, 2) := by decide +kernel
theorem dLAW_law_635 : decode cLAW_law 635 = .ok (.iconst 1, 1) := by decide +kernel
theorem dLAW_law_636 : decode cLAW_law 636 = .ok (.iadd, 1) := by decide +kernel
theorem dLAW_law_637 : decode cLAW_law 637 = .ok (.iaload, 1) := by decide +kernel
theorem dLAW_law_638 : decode cLAW_law 638 = .ok (.aload_n 0, 1) := by decide +kernel
theorem dLAW_law_639 : decode cLAW_law 639 = .ok (.iload 4, 2) := by decide +kernel
theorem dLAW_law_641 : decode cLAW_law 641 = .ok (.iconst 2, 1) := by decide +kernel
theorem dLAW_law_642 : decode cLAW_law 642 = .ok (.iadd, 1) := by decide +kernel
theorem dLAW_law_643 : decode cLAW_law 643 = .ok (.iaload, 1) := by decide +kernel
theorem dLAW_law_644 : decode cLAW_law 644 = .ok (.invokevirtual 104, 3) := by decide +kernel
theorem dLAW_law_647 : decode cLAW_law 647 = .ok (.istore 6, 2) := by decide +kernel
theorem dLAW_law_649 : decode cLAW_law 649 = .ok (.aload_n 2, 1) := by decide +kernel
theorem dLAW_law_650 : decode cLAW_law 650 = .ok (.invokevirtual 68, 3) := by decide +kernel
theorem dLAW_law_653 : decode cLAW_law 653 = .ok (.iload 5, 2) := by decide +kernel
theorem dLAW_law_655 : decode cLAW_law 655 = .ok (.if_icmp .eq 5, 3) := by decide +kernel
theorem dLAW_law_658 : decode cLAW_law 658 = .ok (.iconst 0, 1) := by decide +kernel
theorem dLAW_law_659 : decode cLAW_law 659 = .ok (.ireturn, 1) := by decide +kernel
theorem dLAW_law_660 : decode cLAW_law 660 = .ok (.iload 5, 2) := by decide +kernel
theorem dLAW_law_662 : decode cLAW_law 662 = .ok (.ifCond .ne 15, 3) := by decide +kernel
theorem dLAW_law_665 : decode cLAW_law 665 = .ok (.aload_n 3, 1) := by decide +kernel
theorem dLAW_law_666 : decode cLAW_law 666 = .ok (.iconst 0, 1) := by decide +kernel
theorem dLAW_law_667 : decode cLAW_law 667 = .ok (.laload, 1) := by decide +kernel
theorem dLAW_law_668 : decode cLAW_law 668 = .ok (.iload 6, 2) := by decide +kernel
theorem dLAW_law_670 : decode cLAW_law 670 = .ok (.i2l, 1) := by decide +kernel
theorem dLAW_law_671 : decode cLAW_law 671 = .ok (.lcmp, 1) := by decide +kernel
theorem dLAW_law_672 : decode cLAW_law 672 = .ok (.ifCond .eq 5, 3) := by decide +kernel
theorem dLAW_law_675 : decode cLAW_law 675 = .ok (.iconst 0, 1) := by decide +kernel
theorem dLAW_law_676 : decode cLAW_law 676 = .ok (.ireturn, 1) := by decide +kernel
theorem dLAW_law_677 : decode cLAW_law 677 = .ok (.goto 114, 3) := by decide +kernel
theorem dLAW_law_680 : decode cLAW_law 680 = .ok (.aload_n 1, 1) := by decide +kernel
theorem dLAW_law_681 : decode cLAW_law 681 = .ok (.aload_n 0, 1) := by decide +kernel
theorem dLAW_law_682 : decode cLAW_law 682 = .ok (.iload 4, 2) := by decide +kernel
theorem dLAW_law_684 : decode cLAW_law 684 = .ok (.iconst 1, 1) := by decide +kernel
theorem dLAW_law_685 : decode cLAW_law 685 = .ok (.iadd, 1) := by decide +kernel
theorem dLAW_law_686 : decode cLAW_law 686 = .ok (.iaload, 1) := by decide +kernel
theorem dLAW_law_687 : decode cLAW_law 687 = .ok (.invokevirtual 105, 3) := by decide +kernel
theorem dLAW_law_690 : decode cLAW_law 690 = .ok (.aload_n 2, 1) := by decide +kernel
theorem dLAW_law_691 : decode cLAW_law 691 = .ok (.aload_n 0, 1) := by decide +kernel
theorem dLAW_law_692 : decode cLAW_law 692 = .ok (.iload 4, 2) := by decide +kernel
theorem dLAW_law_694 : decode cLAW_law 694 = .ok (.iconst 1, 1) := by decide +kernel
theorem dLAW_law_695 : decode cLAW_law 695 = .ok (.iadd, 1) := by decide +kernel
theorem dLAW_law_696 : decode cLAW_law 696 = .ok (.iaload, 1) := by decide +kernel
theorem dLAW_law_697 : decode cLAW_law 697 = .ok (.invokevirtual 108, 3) := by decide +kernel
theorem dLAW_law_700 : decode cLAW_law 700 = .ok (.if_icmp .eq 91, 3) := by decide +kernel
theorem dLAW_law_703 : decode cLAW_law 703 = .ok (.iconst 0, 1) := by decide +kernel
theorem dLAW_law_704 : decode cLAW_law 704 = .ok (.ireturn, 1) := by decide +kernel
theorem dLAW_law_705 : decode cLAW_law 705 = .ok (.aload_n 1, 1) := by decide +kernel
theorem dLAW_law_706 : decode cLAW_law 706 = .ok (.invokevirtual 109, 3) := by decide +kernel
theorem dLAW_law_709 : decode cLAW_law 709 = .ok (.aload_n 2, 1) := by decide +kernel
theorem dLAW_law_710 : decode cLAW_law 710 = .ok (.invokevirtual 112, 3) := by decide +kernel
theorem dLAW_law_713 : decode cLAW_law 713 = .ok (.goto 78, 3) := by decide +kernel
theorem dLAW_law_716 : decode cLAW_law 716 = .ok (.aload_n 1, 1) := by decide +kernel
theorem dLAW_law_717 : decode cLAW_law 717 = .ok (.aload_n 0, 1) := by decide +kernel
theorem dLAW_law_718 : decode cLAW_law 718 = .ok (.iload 4, 2) := by decide +kernel
theorem dLAW_law_720 : decode cLAW_law 720 = .ok (.iconst 1, 1) := by decide +kernel
theorem dLAW_law_721 : decode cLAW_law 721 = .ok (.iadd, 1) := by decide +kernel
theorem dLAW_law_722 : decode cLAW_law 722 = .ok (.iaload, 1) := by decide +kernel
theorem dLAW_law_723 : decode cLAW_law 723 = .ok (.aload_n 0, 1) := by decide +kernel
theorem dLAW_law_724 : decode cLAW_law 724 = .ok (.iload 4, 2) := by decide +kernel
theorem dLAW_law_726 : decode cLAW_law 726 = .ok (.iconst 2, 1) := by decide +kernel
theorem dLAW_law_727 : decode cLAW_law 727 = .ok (.iadd, 1) := by decide +kernel
theorem dLAW_law_728 : decode cLAW_law 728 = .ok (.iaload, 1) := by decide +kernel
theorem dLAW_law_729 : decode cLAW_law 729 = .ok (.aload_n 3, 1) := by decide +kernel
theorem dLAW_law_730 : decode cLAW_law 730 = .ok (.invokestatic 113, 3) := by decide +kernel
theorem dLAW_law_733 : decode cLAW_law 733 = .ok (.istore 5, 2) := by decide +kernel
theorem dLAW_law_735 : decode cLAW_law 735 = .ok (.aload_n 2, 1) := by decide +kernel
theorem dLAW_law_736 : decode cLAW_law 736 = .ok (.aload_n 0, 1) := by decide +kernel
theorem dLAW_law_737 : decode cLAW_law 737 = .ok (.iload 4, 2) := by decide +kernel
theorem dLAW_law_739 : decode cLAW_law 739 = .ok (.iconst 1, 1) := by decide +kernel
theorem dLAW_law_740 : decode cLAW_law 740 = .ok (.iadd, 1) := by decide +kernel
theorem dLAW_law_741 : decode cLAW_law 741 = .ok (.iaload, 1) := by decide +kernel
theorem dLAW_law_742 : decode cLAW_law 742 = .ok (.aload_n 0, 1) := by decide +kernel
theorem dLAW_law_743 : decode cLAW_law 743 = .ok (.iload 4, 2) := by decide +kernel
theorem dLAW_law_745 : decode cLAW_law 745 = .ok (.iconst 2, 1) := by decide +kernel
theorem dLAW_law_746 : decode cLAW_law 746 = .ok (.iadd, 1) := by decide +kernel
theorem dLAW_law_747 : decode cLAW_law 747 = .ok (.iaload, 1) := by decide +kernel
theorem dLAW_law_748 : decode cLAW_law 748 = .ok (.invokevirtual 115, 3) := by decide +kernel
theorem dLAW_law_751 : decode cLAW_law 751 = .ok (.istore 6, 2) := by decide +kernel
theorem dLAW_law_753 : decode cLAW_law 753 = .ok (.aload_n 2, 1) := by decide +kernel
theorem dLAW_law_754 : decode cLAW_law 754 = .ok (.invokevirtual 68, 3) := by decide +kernel
theorem dLAW_law_757 : decode cLAW_law 757 = .ok (.iload 5, 2) := by decide +kernel
theorem dLAW_law_759 : decode cLAW_law 759 = .ok (.if_icmp .eq 5, 3) := by decide +kernel
theorem dLAW_law_762 : decode cLAW_law 762 = .ok (.iconst 0, 1) := by decide +kernel
theorem dLAW_law_763 : decode cLAW_law 763 = .ok (.ireturn, 1) := by decide +kernel
theorem dLAW_law_764 : decode cLAW_law 764 = .ok (.iload 5, 2) := by decide +kernel
theorem dLAW_law_766 : decode cLAW_law 766 = .ok (.ifCond .ne 22, 3) := by decide +kernel
theorem dLAW_law_769 : decode cLAW_law 769 = .ok (.aload_n 3, 1) := by decide +kernel
theorem dLAW_law_770 : decode cLAW_law 770 = .ok (.iconst 0, 1) := by decide +kernel
theorem dLAW_law_771 : decode cLAW_law 771 = .ok (.laload, 1) := by decide +kernel
theorem dLAW_law_772 : decode cLAW_law 772 = .ok (.iload 6, 2) := by decide +kernel
theorem dLAW_law_774 : decode cLAW_law 774 = .ok (.ifCond .eq 7, 3) := by decide +kernel
theorem dLAW_law_777 : decode cLAW_law 777 = .ok (.lconst 1, 1) := by decide +kernel
theorem dLAW_law_778 : decode cLAW_law 778 = .ok (.goto 4, 3) := by decide +kernel
theorem dLAW_law_781 : decode cLAW_law 781 = .ok (.lconst 0, 1) := by decide +kernel
theorem dLAW_law_782 : decode cLAW_law 782 = .ok (.lcmp, 1) := by decide +kernel
theorem dLAW_law_783 : decode cLAW_law 783 = .ok (.ifCond .eq 5, 3) := by decide +kernel
theorem dLAW_law_786 : decode cLAW_law 786 = .ok (.iconst 0, 1) := by decide +kernel
theorem dLAW_law_787 : decode cLAW_law 787 = .ok (.ireturn, 1) := by decide +kernel
theorem dLAW_law_788 : decode cLAW_law 788 = .ok (.goto 3, 3) := by decide +kernel
theorem dLAW_law_791 : decode cLAW_law 791 = .ok (.iinc 4 4, 3) := by decide +kernel
theorem dLAW_law_794 : decode cLAW_law 794 = .ok (.goto (-771), 3) := by decide +kernel
theorem dLAW_law_797 : decode cLAW_law 797 = .ok (.iconst 1, 1) := by decide +kernel
theorem dLAW_law_798 : decode cLAW_law 798 = .ok (.ireturn, 1) := by decide +kernel
