theorem dMO_tables_50 : decode cMO_tables 50 = .ok (.getfield 56, 3) := by decide +kernel
theorem dMO_tables_53 : decode cMO_tables 53 = .ok (.bipush 64, 2) := by decide +kernel
theorem dMO_tables_55 : decode cMO_tables 55 = .ok (.iload_n 2, 1) := by decide +kernel
theorem dMO_tables_56 : decode cMO_tables 56 = .ok (.imul, 1) := by decide +kernel
theorem dMO_tables_57 : decode cMO_tables 57 = .ok (.iload_n 3, 1) := by decide +kernel
theorem dMO_tables_58 : decode cMO_tables 58 = .ok (.iadd, 1) := by decide +kernel
theorem dMO_tables_59 : decode cMO_tables 59 = .ok (.aload_n 0, 1) := by decide +kernel
theorem dMO_tables_60 : decode cMO_tables 60 = .ok (.getfield 59, 3) := by decide +kernel
theorem dMO_tables_63 : decode cMO_tables 63 = .ok (.aload_n 0, 1) := by decide +kernel
theorem dMO_tables_64 : decode cMO_tables 64 = .ok (.getfield 145, 3) := by decide +kernel
theorem dMO_tables_67 : decode cMO_tables 67 = .ok (.iconst 1, 1) := by decide +kernel
theorem dMO_tables_68 : decode cMO_tables 68 = .ok (.isub, 1) := by decide +kernel
theorem dMO_tables_69 : decode cMO_tables 69 = .ok (.baload, 1) := by decide +kernel
theorem dMO_tables_70 : decode cMO_tables 70 = .ok (.bastore, 1) := by decide +kernel
theorem dMO_tables_71 : decode cMO_tables 71 = .ok (.iconst 0, 1) := by decide +kernel
theorem dMO_tables_72 : decode cMO_tables 72 = .ok (.istore 4, 2) := by decide +kernel
theorem dMO_tables_74 : decode cMO_tables 74 = .ok (.iconst 0, 1) := by decide +kernel
theorem dMO_tables_75 : decode cMO_tables 75 = .ok (.istore 5, 2) := by decide +kernel
theorem dMO_tables_77 : decode cMO_tables 77 = .ok (.iload 5, 2) := by decide +kernel
theorem dMO_tables_79 : decode cMO_tables 79 = .ok (.aload_n 0, 1) := by decide +kernel
theorem dMO_tables_80 : decode cMO_tables 80 = .ok (.getfield 145, 3) := by decide +kernel
theorem dMO_tables_83 : decode cMO_tables 83 = .ok (.if_icmp .ge 183, 3) := by decide +kernel
theorem dMO_tables_86 : decode cMO_tables 86 = .ok (.aload_n 0, 1) := by decide +kernel
theorem dMO_tables_87 : decode cMO_tables 87 = .ok (.getfield 13, 3) := by decide +kernel
theorem dMO_tables_90 : decode cMO_tables 90 = .ok (.iload 5, 2) := by decide +kernel
theorem dMO_tables_92 : decode cMO_tables 92 = .ok (.iaload, 1) := by decide +kernel
theorem dMO_tables_93 : decode cMO_tables 93 = .ok (.istore 6, 2) := by decide +kernel
theorem dMO_tables_95 : decode cMO_tables 95 = .ok (.iload 6, 2) := by decide +kernel
theorem dMO_tables_97 : decode cMO_tables 97 = .ok (.invokestatic 134, 3) := by decide +kernel
theorem dMO_tables_100 : decode cMO_tables 100 = .ok (.ifCond .eq 160, 3) := by decide +kernel
theorem dMO_tables_103 : decode cMO_tables 103 = .ok (.aload_n 0, 1) := by decide +kernel
theorem dMO_tables_104 : decode cMO_tables 104 = .ok (.getfield 22, 3) := by decide +kernel
theorem dMO_tables_107 : decode cMO_tables 107 = .ok (.iload 5, 2) := by decide +kernel
theorem dMO_tables_109 : decode cMO_tables 109 = .ok (.iaload, 1) := by decide +kernel
theorem dMO_tables_110 : decode cMO_tables 110 = .ok (.istore 7, 2) := by decide +kernel
theorem dMO_tables_112 : decode cMO_tables 112 = .ok (.aload_n 0, 1) := by decide +kernel
theorem dMO_tables_113 : decode cMO_tables 113 = .ok (.getfield 59, 3) := by decide +kernel
theorem dMO_tables_116 : decode cMO_tables 116 = .ok (.aload_n 0, 1) := by decide +kernel
theorem dMO_tables_117 : decode cMO_tables 117 = .ok (.iload 5, 2) := by decide +kernel
theorem dMO_tables_119 : decode cMO_tables 119 = .ok (.invokevirtual 181, 3) := by decide +kernel
theorem dMO_tables_122 : decode cMO_tables 122 = .ok (.baload, 1) := by decide +kernel
theorem dMO_tables_123 : decode cMO_tables 123 = .ok (.istore 8, 2) := by decide +kernel
theorem dMO_tables_125 : decode cMO_tables 125 = .ok (.iload 6, 2) := by decide +kernel
theorem dMO_tables_127 : decode cMO_tables 127 = .ok (.bipush 88, 2) := by decide +kernel
theorem dMO_tables_129 : decode cMO_tables 129 = .ok (.if_icmp .ne 18, 3) := by decide +kernel
theorem dMO_tables_132 : decode cMO_tables 132 = .ok (.iload 8, 2) := by decide +kernel
theorem dMO_tables_134 : decode cMO_tables 134 = .ok (.ifCond .eq 13, 3) := by decide +kernel
theorem dMO_tables_137 : decode cMO_tables 137 = .ok (.iload 4, 2) := by decide +kernel
theorem dMO_tables_139 : decode cMO_tables 139 = .ok (.iconst 1, 1) := by decide +kernel
theorem dMO_tables_140 : decode cMO_tables 140 = .ok (.iload 7, 2) := by decide +kernel
theorem dMO_tables_142 : decode cMO_tables 142 = .ok (.ishl, 1) := by decide +kernel
theorem dMO_tables_143 : decode cMO_tables 143 = .ok (.ior, 1) := by decide +kernel
theorem dMO_tables_144 : decode cMO_tables 144 = .ok (.goto 5, 3) := by decide +kernel
theorem dMO_tables_147 : decode cMO_tables 147 = .ok (.iload 4, 2) := by decide +kernel
theorem dMO_tables_149 : decode cMO_tables 149 = .ok (.istore 4, 2) := by decide +kernel
theorem dMO_tables_151 : decode cMO_tables 151 = .ok (.iload 6, 2) := by decide +kernel
theorem dMO_tables_153 : decode cMO_tables 153 = .ok (.bipush 88, 2) := by decide +kernel
theorem dMO_tables_155 : decode cMO_tables 155 = .ok (.if_icmp .eq 50, 3) := by decide +kernel
theorem dMO_tables_158 : decode cMO_tables 158 = .ok (.iload 6, 2) := by decide +kernel
theorem dMO_tables_160 : decode cMO_tables 160 = .ok (.bipush 85, 2) := by decide +kernel
theorem dMO_tables_162 : decode cMO_tables 162 = .ok (.if_icmp .eq 10, 3) := by decide +kernel
theorem dMO_tables_165 : decode cMO_tables 165 = .ok (.iload 6, 2) := by decide +kernel
theorem dMO_tables_167 : decode cMO_tables 167 = .ok (.bipush 70, 2) := by decide +kernel
theorem dMO_tables_169 : decode cMO_tables 169 = .ok (.if_icmp .ne 21, 3) := by decide +kernel
theorem dMO_tables_172 : decode cMO_tables 172 = .ok (.iload 8, 2) := by decide +kernel
theorem dMO_tables_174 : decode cMO_tables 174 = .ok (.ifCond .ne 31, 3) := by decide +kernel
theorem dMO_tables_177 : decode cMO_tables 177 = .ok (.aload_n 0, 1) := by decide +kernel
theorem dMO_tables_178 : decode cMO_tables 178 = .ok (.getfield 59, 3) := by decide +kernel
theorem dMO_tables_181 : decode cMO_tables 181 = .ok (.iload 5, 2) := by decide +kernel
theorem dMO_tables_183 : decode cMO_tables 183 = .ok (.baload, 1) := by decide +kernel
theorem dMO_tables_184 : decode cMO_tables 184 = .ok (.ifCond .ne 25, 3) := by decide +kernel
theorem dMO_tables_187 : decode cMO_tables 187 = .ok (.goto 18, 3) := by decide +kernel
theorem dMO_tables_190 : decode cMO_tables 190 = .ok (.iload 8, 2) := by decide +kernel
theorem dMO_tables_192 : decode cMO_tables 192 = .ok (.ifCond .eq 13, 3) := by decide +kernel
theorem dMO_tables_195 : decode cMO_tables 195 = .ok (.aload_n 0, 1) := by decide +kernel
theorem dMO_tables_196 : decode cMO_tables 196 = .ok (.getfield 59, 3) := by decide +kernel
theorem dMO_tables_199 : decode cMO_tables 199 = .ok (.iload 5, 2) := by decide +kernel
theorem dMO_tables_201 : decode cMO_tables 201 = .ok (.baload, 1) := by decide +kernel
theorem dMO_tables_202 : decode cMO_tables 202 = .ok (.ifCond .eq 7, 3) := by decide +kernel
theorem dMO_tables_205 : decode cMO_tables 205 = .ok (.iconst 1, 1) := by decide +kernel
theorem dMO_tables_206 : decode cMO_tables 206 = .ok (.goto 4, 3) := by decide +kernel
theorem dMO_tables_209 : decode cMO_tables 209 = .ok (.iconst 0, 1) := by decide +kernel
theorem dMO_tables_210 : decode cMO_tables 210 = .ok (.istore 9, 2) := by decide +kernel
theorem dMO_tables_212 : decode cMO_tables 212 = .ok (.aload_n 0, 1) := by decide +kernel
theorem dMO_tables_213 : decode cMO_tables 213 = .ok (.getfield 75, 3) := by decide +kernel
theorem dMO_tables_216 : decode cMO_tables 216 = .ok (.bipush 6, 2) := by decide +kernel
theorem dMO_tables_218 : decode cMO_tables 218 = .ok (.iload 7, 2) := by decide +kernel
theorem dMO_tables_220 : decode cMO_tables 220 = .ok (.imul, 1) := by decide +kernel
theorem dMO_tables_221 : decode cMO_tables 221 = .ok (.iload_n 2, 1) := by decide +kernel
theorem dMO_tables_222 : decode cMO_tables 222 = .ok (.iadd, 1) := by decide +kernel
theorem dMO_tables_223 : decode cMO_tables 223 = .ok (.iload 9, 2) := by decide +kernel
theorem dMO_tables_225 : decode cMO_tables 225 = .ok (.ifCond .eq 22, 3) := by decide +kernel
theorem dMO_tables_228 : decode cMO_tables 228 = .ok (.aload_n 0, 1) := by decide +kernel
theorem dMO_tables_229 : decode cMO_tables 229 = .ok (.getfield 75, 3) := by decide +kernel
theorem dMO_tables_232 : decode cMO_tables 232 = .ok (.bipush 6, 2) := by decide +kernel
theorem dMO_tables_234 : decode cMO_tables 234 = .ok (.iload 7, 2) := by decide +kernel
theorem dMO_tables_236 : decode cMO_tables 236 = .ok (.imul, 1) := by decide +kernel
theorem dMO_tables_237 : decode cMO_tables 237 = .ok (.iload_n 2, 1) := by decide +kernel
theorem dMO_tables_238 : decode cMO_tables 238 = .ok (.iadd, 1) := by decide +kernel
theorem dMO_tables_239 : decode cMO_tables 239 = .ok (.laload, 1) := by decide +kernel
theorem dMO_tables_240 : decode cMO_tables 240 = .ok (.lconst 1, 1) := by decide +kernel
theorem dMO_tables_241 : decode cMO_tables 241 = .ok (.iload_n 3, 1) := by decide +kernel
theorem dMO_tables_242 : decode cMO_tables 242 = .ok (.lshl, 1) := by decide +kernel
theorem dMO_tables_243 : decode cMO_tables 243 = .ok (.lor, 1) := by decide +kernel
theorem dMO_tables_244 : decode cMO_tables 244 = .ok (.goto 15, 3) := by decide +kernel
theorem dMO_tables_247 : decode cMO_tables 247 = .ok (.aload_n 0, 1) := by decide +kernel
theorem dMO_tables_248 : decode cMO_tables 248 = .ok (.getfield 75, 3) := by decide +kernel
theorem dMO_tables_251 : decode cMO_tables 251 = .ok (.bipush 6, 2) := by decide +kernel
theorem dMO_tables_253 : decode cMO_tables 253 = .ok (.iload 7, 2) := by decide +kernel
theorem dMO_tables_255 : decode cMO_tables 255 = .ok (.imul, 1) := by decide +kernel
theorem dMO_tables_256 : decode cMO_tables 256 = .ok (.iload_n 2, 1) := by decide +kernel
theorem dMO_tables_257 : decode cMO_tables 257 = .ok (.iadd, 1) := by decide +kernel
theorem dMO_tables_258 : decode cMO_tables 258 = .ok (.laload, 1) := by decide +kernel
theorem dMO_tables_259 : decode cMO_tables 259 = .ok (.lastore, 1) := by decide +kernel
theorem dMO_tables_260 : decode cMO_tables 260 = .ok (.iinc 5 1, 3) := by decide +kernel
theorem dMO_tables_263 : decode cMO_tables 263 = .ok (.goto (-186), 3) := by decide +kernel
theorem dMO_tables_266 : decode cMO_tables 266 = .ok (.iconst 0, 1) := by decide +kernel
theorem dMO_tables_267 : decode cMO_tables 267 = .ok (.istore 5, 2) := by decide +kernel
theorem dMO_tables_269 : decode cMO_tables 269 = .ok (.iload 5, 2) := by decide +kernel
theorem dMO_tables_271 : decode cMO_tables 271 = .ok (.bipush 6, 2) := by decide +kernel
theorem dMO_tables_273 : decode cMO_tables 273 = .ok (.if_icmp .ge 36, 3) := by decide +kernel
theorem dMO_tables_276 : decode cMO_tables 276 = .ok (.aload_n 0, 1) := by decide +kernel
theorem dMO_tables_277 : decode cMO_tables 277 = .ok (.getfield 53, 3) := by decide +kernel
theorem dMO_tables_280 : decode cMO_tables 280 = .ok (.sipush 384, 3) := by decide +kernel
theorem dMO_tables_283 : decode cMO_tables 283 = .ok (.iload 5, 2) := by decide +kernel
theorem dMO_tables_285 : decode cMO_tables 285 = .ok (.imul, 1) := by decide +kernel
theorem dMO_tables_286 : decode cMO_tables 286 = .ok (.bipush 64, 2) := by decide +kernel
theorem dMO_tables_288 : decode cMO_tables 288 = .ok (.iload_n 2, 1) := by decide +kernel
theorem dMO_tables_289 : decode cMO_tables 289 = .ok (.imul, 1) := by decide +kernel
theorem dMO_tables_290 : decode cMO_tables 290 = .ok (.iadd, 1) := by decide +kernel
theorem dMO_tables_291 : decode cMO_tables 291 = .ok (.iload_n 3, 1) := by decide +kernel
theorem dMO_tables_292 : decode cMO_tables 292 = .ok (.iadd, 1) := by decide +kernel
theorem dMO_tables_293 : decode cMO_tables 293 = .ok (.aload_n 0, 1) := by decide +kernel
theorem dMO_tables_294 : decode cMO_tables 294 = .ok (.iload 5, 2) := by decide +kernel
theorem dMO_tables_296 : decode cMO_tables 296 = .ok (.iload_n 3, 1) := by decide +kernel
theorem dMO_tables_297 : decode cMO_tables 297 = .ok (.iload 4, 2) := by decide +kernel
theorem dMO_tables_299 : decode cMO_tables 299 = .ok (.invokevirtual 188, 3) := by decide +kernel
theorem dMO_tables_302 : decode cMO_tables 302 = .ok (.iastore, 1) := by decide +kernel
theorem dMO_tables_303 : decode cMO_tables 303 = .ok (.iinc 5 1, 3) := by decide +kernel
theorem dMO_tables_306 : decode cMO_tables 306 = .ok (.goto (-37), 3) := by decide +kernel
theorem dMO_tables_309 : decode cMO_tables 309 = .ok (.iinc 3 1, 3) := by decide +kernel
theorem dMO_tables_312 : decode cMO_tables 312 = .ok (.goto (-274), 3) := by decide +kernel
theorem dMO_tables_315 : decode cMO_tables 315 = .ok (.iinc 2 1, 3) := by decide +kernel
theorem dMO_tables_318 : decode cMO_tables 318 = .ok (.goto (-288), 3) := by decide +kernel
theorem dMO_tables_321 : decode cMO_tables 321 = .ok (.return_, 1) := by decide +kernel
theorem dMO_step_0 : decode cMO_step 0 = .ok (.iconst 1, 1) := by decide +kernel
theorem dMO_step_1 : decode cMO_step 1 = .ok (.aload_n 0, 1) := by decide +kernel
theorem dMO_step_2 : decode cMO_step 2 = .ok (.getfield 148, 3) := by decide +kernel
theorem dMO_step_5 : decode cMO_step 5 = .ok (.ishl, 1) := by decide +kernel
theorem dMO_step_6 : decode cMO_step 6 = .ok (.istore_n 1, 1) := by decide +kernel
theorem dMO_step_7 : decode cMO_step 7 = .ok (.iconst 0, 1) := by decide +kernel
theorem dMO_step_8 : decode cMO_step 8 = .ok (.istore_n 2, 1) := by decide +kernel
theorem dMO_step_9 : decode cMO_step 9 = .ok (.iload_n 2, 1) := by decide +kernel
theorem dMO_step_10 : decode cMO_step 10 = .ok (.bipush 6, 2) := by decide +kernel
theorem dMO_step_12 : decode cMO_step 12 = .ok (.if_icmp .ge 108, 3) := by decide +kernel
theorem dMO_step_15 : decode cMO_step 15 = .ok (.aload_n 0, 1) := by decide +kernel
theorem dMO_step_16 : decode cMO_step 16 = .ok (.getfield 72, 3) := by decide +kernel
theorem dMO_step_19 : decode cMO_step 19 = .ok (.iload_n 2, 1) := by decide +kernel
theorem dMO_step_20 : decode cMO_step 20 = .ok (.lconst 0, 1) := by decide +kernel
theorem dMO_step_21 : decode cMO_step 21 = .ok (.lastore, 1) := by decide +kernel
theorem dMO_step_22 : decode cMO_step 22 = .ok (.iconst 0, 1) := by decide +kernel
theorem dMO_step_23 : decode cMO_step 23 = .ok (.istore_n 3, 1) := by decide +kernel
theorem dMO_step_24 : decode cMO_step 24 = .ok (.iload_n 3, 1) := by decide +kernel
theorem dMO_step_25 : decode cMO_step 25 = .ok (.bipush 6, 2) := by decide +kernel
theorem dMO_step_27 : decode cMO_step 27 = .ok (.if_icmp .ge 87, 3) := by decide +kernel
theorem dMO_step_30 : decode cMO_step 30 = .ok (.iconst 0, 1) := by decide +kernel
theorem dMO_step_31 : decode cMO_step 31 = .ok (.istore 4, 2) := by decide +kernel
theorem dMO_step_33 : decode cMO_step 33 = .ok (.iload 4, 2) := by decide +kernel
theorem dMO_step_35 : decode cMO_step 35 = .ok (.iload_n 1, 1) := by decide +kernel
theorem dMO_step_36 : decode cMO_step 36 = .ok (.if_icmp .ge 72, 3) := by decide +kernel
theorem dMO_step_39 : decode cMO_step 39 = .ok (.aload_n 0, 1) := by decide +kernel
theorem dMO_step_40 : decode cMO_step 40 = .ok (.getfield 46, 3) := by decide +kernel
theorem dMO_step_43 : decode cMO_step 43 = .ok (.bipush 6, 2) := by decide +kernel
theorem dMO_step_45 : decode cMO_step 45 = .ok (.iload_n 2, 1) := by decide +kernel
theorem dMO_step_46 : decode cMO_step 46 = .ok (.imul, 1) := by decide +kernel
theorem dMO_step_47 : decode cMO_step 47 = .ok (.iload_n 3, 1) := by decide +kernel
theorem dMO_step_48 : decode cMO_step 48 = .ok (.iadd, 1) := by decide +kernel
theorem dMO_step_49 : decode cMO_step 49 = .ok (.baload, 1) := by decide +kernel
theorem dMO_step_50 : decode cMO_step 50 = .ok (.ifCond .eq 58, 3) := by decide +kernel
theorem dMO_step_53 : decode cMO_step 53 = .ok (.aload_n 0, 1) := by decide +kernel
theorem dMO_step_54 : decode cMO_step 54 = .ok (.getfield 69, 3) := by decide +kernel
theorem dMO_step_57 : decode cMO_step 57 = .ok (.iload_n 3, 1) := by decide +kernel
theorem dMO_step_58 : decode cMO_step 58 = .ok (.laload, 1) := by decide +kernel
theorem dMO_step_59 : decode cMO_step 59 = .ok (.iload 4, 2) := by decide +kernel
theorem dMO_step_61 : decode cMO_step 61 = .ok (.lshr, 1) := by decide +kernel
theorem dMO_step_62 : decode cMO_step 62 = .ok (.lconst 1, 1) := by decide +kernel
theorem dMO_step_63 : decode cMO_step 63 = .ok (.land, 1) := by decide +kernel
theorem dMO_step_64 : decode cMO_step 64 = .ok (.lconst 1, 1) := by decide +kernel
theorem dMO_step_65 : decode cMO_step 65 = .ok (.lcmp, 1) := by decide +kernel
theorem dMO_step_66 : decode cMO_step 66 = .ok (.ifCond .ne 36, 3) := by decide +kernel
theorem dMO_step_69 : decode cMO_step 69 = .ok (.aload_n 0, 1) := by decide +kernel
theorem dMO_step_70 : decode cMO_step 70 = .ok (.getfield 72, 3) := by decide +kernel
theorem dMO_step_73 : decode cMO_step 73 = .ok (.iload_n 2, 1) := by decide +kernel
theorem dMO_step_74 : decode cMO_step 74 = .ok (.aload_n 0, 1) := by decide +kernel
theorem dMO_step_75 : decode cMO_step 75 = .ok (.getfield 72, 3) := by decide +kernel
theorem dMO_step_78 : decode cMO_step 78 = .ok (.iload_n 2, 1) := by decide +kernel
theorem dMO_step_79 : decode cMO_step 79 = .ok (.laload, 1) := by decide +kernel
theorem dMO_step_80 : decode cMO_step 80 = .ok (.lconst 1, 1) := by decide +kernel
theorem dMO_step_81 : decode cMO_step 81 = .ok (.aload_n 0, 1) := by decide +kernel
theorem dMO_step_82 : decode cMO_step 82 = .ok (.getfield 53, 3) := by decide +kernel
theorem dMO_step_85 : decode cMO_step 85 = .ok (.sipush 384, 3) := by decide +kernel
theorem dMO_step_88 : decode cMO_step 88 = .ok (.iload_n 2, 1) := by decide +kernel
theorem dMO_step_89 : decode cMO_step 89 = .ok (.imul, 1) := by decide +kernel
theorem dMO_step_90 : decode cMO_step 90 = .ok (.bipush 64, 2) := by decide +kernel
theorem dMO_step_92 : decode cMO_step 92 = .ok (.iload_n 3, 1) := by decide +kernel
theorem dMO_step_93 : decode cMO_step 93 = .ok (.imul, 1) := by decide +kernel
theorem dMO_step_94 : decode cMO_step 94 = .ok (.iadd, 1) := by decide +kernel
theorem dMO_step_95 : decode cMO_step 95 = .ok (.iload 4, 2) := by decide +kernel
theorem dMO_step_97 : decode cMO_step 97 = .ok (.iadd, 1) := by decide +kernel
theorem dMO_step_98 : decode cMO_step 98 = .ok (.iaload, 1) := by decide +kernel
theorem dMO_step_99 : decode cMO_step 99 = .ok (.lshl, 1) := by decide +kernel
theorem dMO_step_100 : decode cMO_step 100 = .ok (.lor, 1) := by decide +kernel
theorem dMO_step_101 : decode cMO_step 101 = .ok (.lastore, 1) := by decide +kernel
theorem dMO_step_102 : decode cMO_step 102 = .ok (.iinc 4 1, 3) := by decide +kernel
theorem dMO_step_105 : decode cMO_step 105 = .ok (.goto (-72), 3) := by decide +kernel
theorem dMO_step_108 : decode cMO_step 108 = .ok (.iinc 3 1, 3) := by decide +kernel
theorem dMO_step_111 : decode cMO_step 111 = .ok (.goto (-87), 3) := by decide +kernel
theorem dMO_step_114 : decode cMO_step 114 = .ok (.iinc 2 1, 3) := by decide +kernel
theorem dMO_step_117 : decode cMO_step 117 = .ok (.goto (-108), 3) := by decide +kernel
theorem dMO_step_120 : decode cMO_step 120 = .ok (.return_, 1) := by decide +kernel
theorem dMO_cut_0 : decode cMO_cut 0 = .ok (.iconst 0, 1) := by decide +kernel
theorem dMO_cut_1 : decode cMO_cut 1 = .ok (.istore_n 2, 1) := by decide +kernel
theorem dMO_cut_2 : decode cMO_cut 2 = .ok (.iload_n 2, 1) := by decide +kernel
theorem dMO_cut_3 : decode cMO_cut 3 = .ok (.bipush 6, 2) := by decide +kernel
theorem dMO_cut_5 : decode cMO_cut 5 = .ok (.if_icmp .ge 46, 3) := by decide +kernel
theorem dMO_cut_8 : decode cMO_cut 8 = .ok (.aload_n 0, 1) := by decide +kernel
theorem dMO_cut_9 : decode cMO_cut 9 = .ok (.getfield 69, 3) := by decide +kernel
theorem dMO_cut_12 : decode cMO_cut 12 = .ok (.iload_n 2, 1) := by decide +kernel
theorem dMO_cut_13 : decode cMO_cut 13 = .ok (.iload_n 1, 1) := by decide +kernel
theorem dMO_cut_14 : decode cMO_cut 14 = .ok (.ifCond .ge 12, 3) := by decide +kernel
theorem dMO_cut_17 : decode cMO_cut 17 = .ok (.aload_n 0, 1) := by decide +kernel
theorem dMO_cut_18 : decode cMO_cut 18 = .ok (.getfield 62, 3) := by decide +kernel
theorem dMO_cut_21 : decode cMO_cut 21 = .ok (.iload_n 2, 1) := by decide +kernel
theorem dMO_cut_22 : decode cMO_cut 22 = .ok (.laload, 1) := by decide +kernel
theorem dMO_cut_23 : decode cMO_cut 23 = .ok (.goto 21, 3) := by decide +kernel
theorem dMO_cut_26 : decode cMO_cut 26 = .ok (.aload_n 0, 1) := by decide +kernel
theorem dMO_cut_27 : decode cMO_cut 27 = .ok (.getfield 62, 3) := by decide +kernel
theorem dMO_cut_30 : decode cMO_cut 30 = .ok (.iload_n 2, 1) := by decide +kernel
theorem dMO_cut_31 : decode cMO_cut 31 = .ok (.laload, 1) := by decide +kernel
theorem dMO_cut_32 : decode cMO_cut 32 = .ok (.aload_n 0, 1) := by decide +kernel
theorem dMO_cut_33 : decode cMO_cut 33 = .ok (.getfield 75, 3) := by decide +kernel
theorem dMO_cut_36 : decode cMO_cut 36 = .ok (.bipush 6, 2) := by decide +kernel
theorem dMO_cut_38 : decode cMO_cut 38 = .ok (.iload_n 1, 1) := by decide +kernel
theorem dMO_cut_39 : decode cMO_cut 39 = .ok (.imul, 1) := by decide +kernel
theorem dMO_cut_40 : decode cMO_cut 40 = .ok (.iload_n 2, 1) := by decide +kernel
theorem dMO_cut_41 : decode cMO_cut 41 = .ok (.iadd, 1) := by decide +kernel
theorem dMO_cut_42 : decode cMO_cut 42 = .ok (.laload, 1) := by decide +kernel
theorem dMO_cut_43 : decode cMO_cut 43 = .ok (.land, 1) := by decide +kernel
theorem dMO_cut_44 : decode cMO_cut 44 = .ok (.lastore, 1) := by decide +kernel
theorem dMO_cut_45 : decode cMO_cut 45 = .ok (.iinc 2 1, 3) := by decide +kernel
theorem dMO_cut_48 : decode cMO_cut 48 = .ok (.goto (-46), 3) := by decide +kernel
theorem dMO_cut_51 : decode cMO_cut 51 = .ok (.iload_n 1, 1) := by decide +kernel
theorem dMO_cut_52 : decode cMO_cut 52 = .ok (.ifCond .lt 7, 3) := by decide +kernel
theorem dMO_cut_55 : decode cMO_cut 55 = .ok (.iconst 1, 1) := by decide +kernel
theorem dMO_cut_56 : decode cMO_cut 56 = .ok (.goto 4, 3) := by decide +kernel
theorem dMO_cut_59 : decode cMO_cut 59 = .ok (.iconst 0, 1) := by decide +kernel
theorem dMO_cut_60 : decode cMO_cut 60 = .ok (.istore_n 2, 1) := by decide +kernel
theorem dMO_cut_61 : decode cMO_cut 61 = .ok (.iload_n 2, 1) := by decide +kernel
theorem dMO_cut_62 : decode cMO_cut 62 = .ok (.ifCond .eq 78, 3) := by decide +kernel
theorem dMO_cut_65 : decode cMO_cut 65 = .ok (.aload_n 0, 1) := by decide +kernel
theorem dMO_cut_66 : decode cMO_cut 66 = .ok (.invokevirtual 192, 3) := by decide +kernel
theorem dMO_cut_69 : decode cMO_cut 69 = .ok (.iconst 0, 1) := by decide +kernel
theorem dMO_cut_70 : decode cMO_cut 70 = .ok (.istore_n 2, 1) := by decide +kernel
theorem dMO_cut_71 : decode cMO_cut 71 = .ok (.iconst 0, 1) := by decide +kernel
theorem dMO_cut_72 : decode cMO_cut 72 = .ok (.istore_n 3, 1) := by decide +kernel
theorem dMO_cut_73 : decode cMO_cut 73 = .ok (.iload_n 3, 1) := by decide +kernel
theorem dMO_cut_74 : decode cMO_cut 74 = .ok (.bipush 6, 2) := by decide +kernel
theorem dMO_cut_76 : decode cMO_cut 76 = .ok (.if_icmp .ge 61, 3) := by decide +kernel
theorem dMO_cut_79 : decode cMO_cut 79 = .ok (.aload_n 0, 1) := by decide +kernel
theorem dMO_cut_80 : decode cMO_cut 80 = .ok (.getfield 69, 3) := by decide +kernel
theorem dMO_cut_83 : decode cMO_cut 83 = .ok (.iload_n 3, 1) := by decide +kernel
theorem dMO_cut_84 : decode cMO_cut 84 = .ok (.laload, 1) := by decide +kernel
theorem dMO_cut_85 : decode cMO_cut 85 = .ok (.aload_n 0, 1) := by decide +kernel
theorem dMO_cut_86 : decode cMO_cut 86 = .ok (.getfield 62, 3) := by decide +kernel
theorem dMO_cut_89 : decode cMO_cut 89 = .ok (.iload_n 3, 1) := by decide +kernel
theorem dMO_cut_90 : decode cMO_cut 90 = .ok (.laload, 1) := by decide +kernel
theorem dMO_cut_91 : decode cMO_cut 91 = .ok (.aload_n 0, 1) := by decide +kernel
theorem dMO_cut_92 : decode cMO_cut 92 = .ok (.getfield 72, 3) := by decide +kernel
theorem dMO_cut_95 : decode cMO_cut 95 = .ok (.iload_n 3, 1) := by decide +kernel
theorem dMO_cut_96 : decode cMO_cut 96 = .ok (.laload, 1) := by decide +kernel
theorem dMO_cut_97 : decode cMO_cut 97 = .ok (.land, 1) := by decide +kernel
theorem dMO_cut_98 : decode cMO_cut 98 = .ok (.lor, 1) := by decide +kernel
theorem dMO_cut_99 : decode cMO_cut 99 = .ok (.lstore 4, 2) := by decide +kernel
theorem dMO_cut_101 : decode cMO_cut 101 = .ok (.iload_n 2, 1) := by decide +kernel
theorem dMO_cut_102 : decode cMO_cut 102 = .ok (.ifCond .ne 15, 3) := by decide +kernel
theorem dMO_cut_105 : decode cMO_cut 105 = .ok (.lload 4, 2) := by decide +kernel
theorem dMO_cut_107 : decode cMO_cut 107 = .ok (.aload_n 0, 1) := by decide +kernel
theorem dMO_cut_108 : decode cMO_cut 108 = .ok (.getfield 69, 3) := by decide +kernel
theorem dMO_cut_111 : decode cMO_cut 111 = .ok (.iload_n 3, 1) := by decide +kernel
theorem dMO_cut_112 : decode cMO_cut 112 = .ok (.laload, 1) := by decide +kernel
theorem dMO_cut_113 : decode cMO_cut 113 = .ok (.lcmp, 1) := by decide +kernel
theorem dMO_cut_114 : decode cMO_cut 114 = .ok (.ifCond .eq 7, 3) := by decide +kernel
theorem dMO_cut_117 : decode cMO_cut 117 = .ok (.iconst 1, 1) := by decide +kernel
theorem dMO_cut_118 : decode cMO_cut 118 = .ok (.goto 4, 3) := by decide +kernel
theorem dMO_cut_121 : decode cMO_cut 121 = .ok (.iconst 0, 1) := by decide +kernel
theorem dMO_cut_122 : decode cMO_cut 122 = .ok (.istore_n 2, 1) := by decide +kernel
theorem dMO_cut_123 : decode cMO_cut 123 = .ok (.aload_n 0, 1) := by decide +kernel
theorem dMO_cut_124 : decode cMO_cut 124 = .ok (.getfield 69, 3) := by decide +kernel
theorem dMO_cut_127 : decode cMO_cut 127 = .ok (.iload_n 3, 1) := by decide +kernel
theorem dMO_cut_128 : decode cMO_cut 128 = .ok (.lload 4, 2) := by decide +kernel
theorem dMO_cut_130 : decode cMO_cut 130 = .ok (.lastore, 1) := by decide +kernel
theorem dMO_cut_131 : decode cMO_cut 131 = .ok (.iinc 3 1, 3) := by decide +kernel
theorem dMO_cut_134 : decode cMO_cut 134 = .ok (.goto (-61), 3) := by decide +kernel
theorem dMO_cut_137 : decode cMO_cut 137 = .ok (.goto (-76), 3) := by decide +kernel
theorem dMO_cut_140 : decode cMO_cut 140 = .ok (.aload_n 0, 1) := by decide +kernel
theorem dMO_cut_141 : decode cMO_cut 141 = .ok (.invokevirtual 192, 3) := by decide +kernel
theorem dMO_cut_144 : decode cMO_cut 144 = .ok (.iconst 0, 1) := by decide +kernel
theorem dMO_cut_145 : decode cMO_cut 145 = .ok (.istore_n 3, 1) := by decide +kernel
theorem dMO_cut_146 : decode cMO_cut 146 = .ok (.iconst 0, 1) := by decide +kernel
theorem dMO_cut_147 : decode cMO_cut 147 = .ok (.istore 4, 2) := by decide +kernel
theorem dMO_cut_149 : decode cMO_cut 149 = .ok (.iload 4, 2) := by decide +kernel
theorem dMO_cut_151 : decode cMO_cut 151 = .ok (.bipush 6, 2) := by decide +kernel
theorem dMO_cut_153 : decode cMO_cut 153 = .ok (.if_icmp .ge 58, 3) := by decide +kernel
theorem dMO_cut_156 : decode cMO_cut 156 = .ok (.aload_n 0, 1) := by decide +kernel
theorem dMO_cut_157 : decode cMO_cut 157 = .ok (.getfield 62, 3) := by decide +kernel
theorem dMO_cut_160 : decode cMO_cut 160 = .ok (.iload 4, 2) := by decide +kernel
theorem dMO_cut_162 : decode cMO_cut 162 = .ok (.laload, 1) := by decide +kernel
theorem dMO_cut_163 : decode cMO_cut 163 = .ok (.aload_n 0, 1) := by decide +kernel
theorem dMO_cut_164 : decode cMO_cut 164 = .ok (.getfield 72, 3) := by decide +kernel
theorem dMO_cut_167 : decode cMO_cut 167 = .ok (.iload 4, 2) := by decide +kernel
theorem dMO_cut_169 : decode cMO_cut 169 = .ok (.laload, 1) := by decide +kernel
theorem dMO_cut_170 : decode cMO_cut 170 = .ok (.land, 1) := by decide +kernel
theorem dMO_cut_171 : decode cMO_cut 171 = .ok (.lstore 5, 2) := by decide +kernel
theorem dMO_cut_173 : decode cMO_cut 173 = .ok (.iload_n 3, 1) := by decide +kernel
theorem dMO_cut_174 : decode cMO_cut 174 = .ok (.ifCond .ne 16, 3) := by decide +kernel
theorem dMO_cut_177 : decode cMO_cut 177 = .ok (.lload 5, 2) := by decide +kernel
theorem dMO_cut_179 : decode cMO_cut 179 = .ok (.aload_n 0, 1) := by decide +kernel
theorem dMO_cut_180 : decode cMO_cut 180 = .ok (.getfield 62, 3) := by decide +kernel
theorem dMO_cut_183 : decode cMO_cut 183 = .ok (.iload 4, 2) := by decide +kernel
theorem dMO_cut_185 : decode cMO_cut 185 = .ok (.laload, 1) := by decide +kernel
theorem dMO_cut_186 : decode cMO_cut 186 = .ok (.lcmp, 1) := by decide +kernel
theorem dMO_cut_187 : decode cMO_cut 187 = .ok (.ifCond .eq 7, 3) := by decide +kernel
theorem dMO_cut_190 : decode cMO_cut 190 = .ok (.iconst 1, 1) := by decide +kernel
theorem dMO_cut_191 : decode cMO_cut 191 = .ok (.goto 4, 3) := by decide +kernel
theorem dMO_cut_194 : decode cMO_cut 194 = .ok (.iconst 0, 1) := by decide +kernel
theorem dMO_cut_195 : decode cMO_cut 195 = .ok (.istore_n 3, 1) := by decide +kernel
theorem dMO_cut_196 : decode cMO_cut 196 = .ok (.aload_n 0, 1) := by decide +kernel
theorem dMO_cut_197 : decode cMO_cut 197 = .ok (.getfield 62, 3) := by decide +kernel
theorem dMO_cut_200 : decode cMO_cut 200 = .ok (.iload 4, 2) := by decide +kernel
theorem dMO_cut_202 : decode cMO_cut 202 = .ok (.lload 5, 2) := by decide +kernel
theorem dMO_cut_204 : decode cMO_cut 204 = .ok (.lastore, 1) := by decide +kernel
theorem dMO_cut_205 : decode cMO_cut 205 = .ok (.iinc 4 1, 3) := by decide +kernel
theorem dMO_cut_208 : decode cMO_cut 208 = .ok (.goto (-59), 3) := by decide +kernel
theorem dMO_cut_211 : decode cMO_cut 211 = .ok (.iload_n 3, 1) := by decide +kernel
theorem dMO_cut_212 : decode cMO_cut 212 = .ok (.ireturn, 1) := by decide +kernel
theorem dMO_study_0 : decode cMO_study 0 = .ok (.aload_n 0, 1) := by decide +kernel
theorem dMO_study_1 : decode cMO_study 1 = .ok (.getfield 171, 3) := by decide +kernel
theorem dMO_study_4 : decode cMO_study 4 = .ok (.ifCond .eq 4, 3) := by decide +kernel
theorem dMO_study_7 : decode cMO_study 7 = .ok (.return_, 1) := by decide +kernel
theorem dMO_study_8 : decode cMO_study 8 = .ok (.aload_n 0, 1) := by decide +kernel
theorem dMO_study_9 : decode cMO_study 9 = .ok (.iconst 1, 1) := by decide +kernel
theorem dMO_study_10 : decode cMO_study 10 = .ok (.putfield 171, 3) := by decide +kernel
theorem dMO_study_13 : decode cMO_study 13 = .ok (.aload_n 0, 1) := by decide +kernel
theorem dMO_study_14 : decode cMO_study 14 = .ok (.invokevirtual 195, 3) := by decide +kernel
theorem dMO_study_17 : decode cMO_study 17 = .ok (.lconst 1, 1) := by decide +kernel
theorem dMO_study_18 : decode cMO_study 18 = .ok (.iconst 1, 1) := by decide +kernel
theorem dMO_study_19 : decode cMO_study 19 = .ok (.aload_n 0, 1) := by decide +kernel
theorem dMO_study_20 : decode cMO_study 20 = .ok (.getfield 148, 3) := by decide +kernel
theorem dMO_study_23 : decode cMO_study 23 = .ok (.ishl, 1) := by decide +kernel
theorem dMO_study_24 : decode cMO_study 24 = .ok (.lshl, 1) := by decide +kernel
theorem dMO_study_25 : decode cMO_study 25 = .ok (.lconst 1, 1) := by decide +kernel
theorem dMO_study_26 : decode cMO_study 26 = .ok (.lsub, 1) := by decide +kernel
theorem dMO_study_27 : decode cMO_study 27 = .ok (.lstore_n 1, 1) := by decide +kernel
theorem dMO_study_28 : decode cMO_study 28 = .ok (.iconst 0, 1) := by decide +kernel
theorem dMO_study_29 : decode cMO_study 29 = .ok (.istore_n 3, 1) := by decide +kernel
theorem dMO_study_30 : decode cMO_study 30 = .ok (.iload_n 3, 1) := by decide +kernel
theorem dMO_study_31 : decode cMO_study 31 = .ok (.bipush 6, 2) := by decide +kernel
theorem dMO_study_33 : decode cMO_study 33 = .ok (.if_icmp .ge 16, 3) := by decide +kernel
theorem dMO_study_36 : decode cMO_study 36 = .ok (.aload_n 0, 1) := by decide +kernel
theorem dMO_study_37 : decode cMO_study 37 = .ok (.getfield 62, 3) := by decide +kernel
theorem dMO_study_40 : decode cMO_study 40 = .ok (.iload_n 3, 1) := by decide +kernel
theorem dMO_study_41 : decode cMO_study 41 = .ok (.lload_n 1, 1) := by decide +kernel
theorem dMO_study_42 : decode cMO_study 42 = .ok (.lastore, 1) := by decide +kernel
theorem dMO_study_43 : decode cMO_study 43 = .ok (.iinc 3 1, 3) := by decide +kernel
theorem dMO_study_46 : decode cMO_study 46 = .ok (.goto (-16), 3) := by decide +kernel
theorem dMO_study_49 : decode cMO_study 49 = .ok (.iconst 1, 1) := by decide +kernel
theorem dMO_study_50 : decode cMO_study 50 = .ok (.istore_n 3, 1) := by decide +kernel
theorem dMO_study_51 : decode cMO_study 51 = .ok (.iload_n 3, 1) := by decide +kernel
theorem dMO_study_52 : decode cMO_study 52 = .ok (.ifCond .eq 53, 3) := by decide +kernel
theorem dMO_study_55 : decode cMO_study 55 = .ok (.aload_n 0, 1) := by decide +kernel
theorem dMO_study_56 : decode cMO_study 56 = .ok (.iconst (-1), 1) := by decide +kernel
theorem dMO_study_57 : decode cMO_study 57 = .ok (.invokevirtual 198, 3) := by decide +kernel
theorem dMO_study_60 : decode cMO_study 60 = .ok (.istore_n 3, 1) := by decide +kernel
theorem dMO_study_61 : decode cMO_study 61 = .ok (.iconst 0, 1) := by decide +kernel
theorem dMO_study_62 : decode cMO_study 62 = .ok (.istore 4, 2) := by decide +kernel
theorem dMO_study_64 : decode cMO_study 64 = .ok (.iload 4, 2) := by decide +kernel
theorem dMO_study_66 : decode cMO_study 66 = .ok (.aload_n 0, 1) := by decide +kernel
theorem dMO_study_67 : decode cMO_study 67 = .ok (.getfield 148, 3) := by decide +kernel
theorem dMO_study_70 : decode cMO_study 70 = .ok (.if_icmp .ge 32, 3) := by decide +kernel
theorem dMO_study_73 : decode cMO_study 73 = .ok (.aload_n 0, 1) := by decide +kernel
theorem dMO_study_74 : decode cMO_study 74 = .ok (.iload 4, 2) := by decide +kernel
theorem dMO_study_76 : decode cMO_study 76 = .ok (.invokevirtual 198, 3) := by decide +kernel
theorem dMO_study_79 : decode cMO_study 79 = .ok (.istore 5, 2) := by decide +kernel
theorem dMO_study_81 : decode cMO_study 81 = .ok (.iload_n 3, 1) := by decide +kernel
theorem dMO_study_82 : decode cMO_study 82 = .ok (.ifCond .ne 8, 3) := by decide +kernel
theorem dMO_study_85 : decode cMO_study 85 = .ok (.iload 5, 2) := by decide +kernel
theorem dMO_study_87 : decode cMO_study 87 = .ok (.ifCond .eq 7, 3) := by decide +kernel
theorem dMO_study_90 : decode cMO_study 90 = .ok (.iconst 1, 1) := by decide +kernel
theorem dMO_study_91 : decode cMO_study 91 = .ok (.goto 4, 3) := by decide +kernel
theorem dMO_study_94 : decode cMO_study 94 = .ok (.iconst 0, 1) := by decide +kernel
theorem dMO_study_95 : decode cMO_study 95 = .ok (.istore_n 3, 1) := by decide +kernel
theorem dMO_study_96 : decode cMO_study 96 = .ok (.iinc 4 1, 3) := by decide +kernel
theorem dMO_study_99 : decode cMO_study 99 = .ok (.goto (-35), 3) := by decide +kernel
theorem dMO_study_102 : decode cMO_study 102 = .ok (.goto (-51), 3) := by decide +kernel
theorem dMO_study_105 : decode cMO_study 105 = .ok (.return_, 1) := by decide +kernel
theorem dMO_someone_0 : decode cMO_someone 0 = .ok (.aload_n 0, 1) := by decide +kernel
theorem dMO_someone_1 : decode cMO_someone 1 = .ok (.invokevirtual 201, 3) := by decide +kernel
theorem dMO_someone_4 : decode cMO_someone 4 = .ok (.iconst 0, 1) := by decide +kernel
theorem dMO_someone_5 : decode cMO_someone 5 = .ok (.istore_n 2, 1) := by decide +kernel
theorem dMO_someone_6 : decode cMO_someone 6 = .ok (.iconst 1, 1) := by decide +kernel
theorem dMO_someone_7 : decode cMO_someone 7 = .ok (.aload_n 0, 1) := by decide +kernel
theorem dMO_someone_8 : decode cMO_someone 8 = .ok (.getfield 148, 3) := by decide +kernel
theorem dMO_someone_11 : decode cMO_someone 11 = .ok (.ishl, 1) := by decide +kernel
theorem dMO_someone_12 : decode cMO_someone 12 = .ok (.istore_n 3, 1) := by decide +kernel
theorem dMO_someone_13 : decode cMO_someone 13 = .ok (.iconst 0, 1) := by decide +kernel
theorem dMO_someone_14 : decode cMO_someone 14 = .ok (.istore 4, 2) := by decide +kernel
theorem dMO_someone_16 : decode cMO_someone 16 = .ok (.iload 4, 2) := by decide +kernel
theorem dMO_someone_18 : decode cMO_someone 18 = .ok (.bipush 6, 2) := by decide +kernel
theorem dMO_someone_20 : decode cMO_someone 20 = .ok (.if_icmp .ge 81, 3) := by decide +kernel
theorem dMO_someone_23 : decode cMO_someone 23 = .ok (.iconst 0, 1) := by decide +kernel
theorem dMO_someone_24 : decode cMO_someone 24 = .ok (.istore 5, 2) := by decide +kernel
theorem dMO_someone_26 : decode cMO_someone 26 = .ok (.iload 5, 2) := by decide +kernel
theorem dMO_someone_28 : decode cMO_someone 28 = .ok (.iload_n 3, 1) := by decide +kernel
theorem dMO_someone_29 : decode cMO_someone 29 = .ok (.if_icmp .ge 66, 3) := by decide +kernel
theorem dMO_someone_32 : decode cMO_someone 32 = .ok (.aload_n 0, 1) := by decide +kernel
theorem dMO_someone_33 : decode cMO_someone 33 = .ok (.getfield 62, 3) := by decide +kernel
theorem dMO_someone_36 : decode cMO_someone 36 = .ok (.iload 4, 2) := by decide +kernel
theorem dMO_someone_38 : decode cMO_someone 38 = .ok (.laload, 1) := by decide +kernel
theorem dMO_someone_39 : decode cMO_someone 39 = .ok (.iload 5, 2) := by decide +kernel
theorem dMO_someone_41 : decode cMO_someone 41 = .ok (.lshr, 1) := by decide +kernel
theorem dMO_someone_42 : decode cMO_someone 42 = .ok (.lconst 1, 1) := by decide +kernel
theorem dMO_someone_43 : decode cMO_someone 43 = .ok (.land, 1) := by decide +kernel
theorem dMO_someone_44 : decode cMO_someone 44 = .ok (.lconst 1, 1) := by decide +kernel
theorem dMO_someone_45 : decode cMO_someone 45 = .ok (.lcmp, 1) := by decide +kernel
theorem dMO_someone_46 : decode cMO_someone 46 = .ok (.ifCond .ne 24, 3) := by decide +kernel
theorem dMO_someone_49 : decode cMO_someone 49 = .ok (.aload_n 0, 1) := by decide +kernel
theorem dMO_someone_50 : decode cMO_someone 50 = .ok (.getfield 56, 3) := by decide +kernel
theorem dMO_someone_53 : decode cMO_someone 53 = .ok (.bipush 64, 2) := by decide +kernel
theorem dMO_someone_55 : decode cMO_someone 55 = .ok (.iload 4, 2) := by decide +kernel
theorem dMO_someone_57 : decode cMO_someone 57 = .ok (.imul, 1) := by decide +kernel
theorem dMO_someone_58 : decode cMO_someone 58 = .ok (.iload 5, 2) := by decide +kernel
theorem dMO_someone_60 : decode cMO_someone 60 = .ok (.iadd, 1) := by decide +kernel
theorem dMO_someone_61 : decode cMO_someone 61 = .ok (.baload, 1) := by decide +kernel
theorem dMO_someone_62 : decode cMO_someone 62 = .ok (.iload_n 1, 1) := by decide +kernel
theorem dMO_someone_63 : decode cMO_someone 63 = .ok (.if_icmp .ne 7, 3) := by decide +kernel
theorem dMO_someone_66 : decode cMO_someone 66 = .ok (.iconst 1, 1) := by decide +kernel
theorem dMO_someone_67 : decode cMO_someone 67 = .ok (.goto 4, 3) := by decide +kernel
theorem dMO_someone_70 : decode cMO_someone 70 = .ok (.iconst 0, 1) := by decide +kernel
theorem dMO_someone_71 : decode cMO_someone 71 = .ok (.istore 6, 2) := by decide +kernel
theorem dMO_someone_73 : decode cMO_someone 73 = .ok (.iload 6, 2) := by decide +kernel
theorem dMO_someone_75 : decode cMO_someone 75 = .ok (.ifCond .eq 12, 3) := by decide +kernel
theorem dMO_someone_78 : decode cMO_someone 78 = .ok (.iload_n 2, 1) := by decide +kernel
theorem dMO_someone_79 : decode cMO_someone 79 = .ok (.iconst 1, 1) := by decide +kernel
theorem dMO_someone_80 : decode cMO_someone 80 = .ok (.iload 4, 2) := by decide +kernel
theorem dMO_someone_82 : decode cMO_someone 82 = .ok (.ishl, 1) := by decide +kernel
theorem dMO_someone_83 : decode cMO_someone 83 = .ok (.ior, 1) := by decide +kernel
theorem dMO_someone_84 : decode cMO_someone 84 = .ok (.goto 4, 3) := by decide +kernel
theorem dMO_someone_87 : decode cMO_someone 87 = .ok (.iload_n 2, 1) := by decide +kernel
theorem dMO_someone_88 : decode cMO_someone 88 = .ok (.istore_n 2, 1) := by decide +kernel
theorem dMO_someone_89 : decode cMO_someone 89 = .ok (.iinc 5 1, 3) := by decide +kernel
theorem dMO_someone_92 : decode cMO_someone 92 = .ok (.goto (-66), 3) := by decide +kernel
theorem dMO_someone_95 : decode cMO_someone 95 = .ok (.iinc 4 1, 3) := by decide +kernel
theorem dMO_someone_98 : decode cMO_someone 98 = .ok (.goto (-82), 3) := by decide +kernel
theorem dMO_someone_101 : decode cMO_someone 101 = .ok (.iload_n 2, 1) := by decide +kernel
theorem dMO_someone_102 : decode cMO_someone 102 = .ok (.ireturn, 1) := by decide +kernel
theorem dMO_keeps_0 : decode cMO_keeps 0 = .ok (.aload_n 0, 1) := by decide +kernel
theorem dMO_keeps_1 : decode cMO_keeps 1 = .ok (.aload_n 0, 1) := by decide +kernel
theorem dMO_keeps_2 : decode cMO_keeps 2 = .ok (.getfield 151, 3) := by decide +kernel
theorem dMO_keeps_5 : decode cMO_keeps 5 = .ok (.ifCond .ne 7, 3) := by decide +kernel
theorem dMO_keeps_8 : decode cMO_keeps 8 = .ok (.iconst 1, 1) := by decide +kernel
theorem dMO_keeps_9 : decode cMO_keeps 9 = .ok (.goto 15, 3) := by decide +kernel
theorem dMO_keeps_12 : decode cMO_keeps 12 = .ok (.iload_n 1, 1) := by decide +kernel
theorem dMO_keeps_13 : decode cMO_keeps 13 = .ok (.invokestatic 174, 3) := by decide +kernel
theorem dMO_keeps_16 : decode cMO_keeps 16 = .ok (.ifCond .ne 7, 3) := by decide +kernel
theorem dMO_keeps_19 : decode cMO_keeps 19 = .ok (.iconst 2, 1) := by decide +kernel
theorem dMO_keeps_20 : decode cMO_keeps 20 = .ok (.goto 4, 3) := by decide +kernel
theorem dMO_keeps_23 : decode cMO_keeps 23 = .ok (.iconst 0, 1) := by decide +kernel
theorem dMO_keeps_24 : decode cMO_keeps 24 = .ok (.putfield 93, 3) := by decide +kernel
theorem dMO_keeps_27 : decode cMO_keeps 27 = .ok (.aload_n 0, 1) := by decide +kernel
theorem dMO_keeps_28 : decode cMO_keeps 28 = .ok (.getfield 93, 3) := by decide +kernel
theorem dMO_keeps_31 : decode cMO_keeps 31 = .ok (.ifCond .ne 30, 3) := by decide +kernel
theorem dMO_keeps_34 : decode cMO_keeps 34 = .ok (.aload_n 0, 1) := by decide +kernel
theorem dMO_keeps_35 : decode cMO_keeps 35 = .ok (.iconst 0, 1) := by decide +kernel
theorem dMO_keeps_36 : decode cMO_keeps 36 = .ok (.invokevirtual 204, 3) := by decide +kernel
theorem dMO_keeps_39 : decode cMO_keeps 39 = .ok (.aload_n 0, 1) := by decide +kernel
theorem dMO_keeps_40 : decode cMO_keeps 40 = .ok (.getfield 93, 3) := by decide +kernel
theorem dMO_keeps_43 : decode cMO_keeps 43 = .ok (.ifCond .ne 7, 3) := by decide +kernel
theorem dMO_keeps_46 : decode cMO_keeps 46 = .ok (.iload_n 1, 1) := by decide +kernel
theorem dMO_keeps_47 : decode cMO_keeps 47 = .ok (.goto 4, 3) := by decide +kernel
theorem dMO_keeps_50 : decode cMO_keeps 50 = .ok (.iconst 0, 1) := by decide +kernel
theorem dMO_keeps_51 : decode cMO_keeps 51 = .ok (.ishr, 1) := by decide +kernel
theorem dMO_keeps_52 : decode cMO_keeps 52 = .ok (.iconst 1, 1) := by decide +kernel
theorem dMO_keeps_53 : decode cMO_keeps 53 = .ok (.iand, 1) := by decide +kernel
theorem dMO_keeps_54 : decode cMO_keeps 54 = .ok (.ifCond .ne 7, 3) := by decide +kernel
theorem dMO_keeps_57 : decode cMO_keeps 57 = .ok (.iconst 1, 1) := by decide +kernel
theorem dMO_keeps_58 : decode cMO_keeps 58 = .ok (.goto 4, 3) := by decide +kernel
theorem dMO_keeps_61 : decode cMO_keeps 61 = .ok (.iconst 0, 1) := by decide +kernel
theorem dMO_keeps_62 : decode cMO_keeps 62 = .ok (.ireturn, 1) := by decide +kernel
theorem dMO_breaking_0 : decode cMO_breaking 0 = .ok (.aload_n 0, 1) := by decide +kernel
theorem dMO_breaking_1 : decode cMO_breaking 1 = .ok (.aload_n 0, 1) := by decide +kernel
theorem dMO_breaking_2 : decode cMO_breaking 2 = .ok (.getfield 151, 3) := by decide +kernel
theorem dMO_breaking_5 : decode cMO_breaking 5 = .ok (.ifCond .eq 7, 3) := by decide +kernel
theorem dMO_breaking_8 : decode cMO_breaking 8 = .ok (.iconst 0, 1) := by decide +kernel
theorem dMO_breaking_9 : decode cMO_breaking 9 = .ok (.goto 4, 3) := by decide +kernel
theorem dMO_breaking_12 : decode cMO_breaking 12 = .ok (.iconst 1, 1) := by decide +kernel
theorem dMO_breaking_13 : decode cMO_breaking 13 = .ok (.putfield 93, 3) := by decide +kernel
theorem dMO_breaking_16 : decode cMO_breaking 16 = .ok (.aload_n 0, 1) := by decide +kernel
theorem dMO_breaking_17 : decode cMO_breaking 17 = .ok (.getfield 151, 3) := by decide +kernel
theorem dMO_breaking_20 : decode cMO_breaking 20 = .ok (.ifCond .eq 11, 3) := by decide +kernel
theorem dMO_breaking_23 : decode cMO_breaking 23 = .ok (.aload_n 0, 1) := by decide +kernel
theorem dMO_breaking_24 : decode cMO_breaking 24 = .ok (.iconst 0, 1) := by decide +kernel
theorem dMO_breaking_25 : decode cMO_breaking 25 = .ok (.invokevirtual 204, 3) := by decide +kernel
theorem dMO_breaking_28 : decode cMO_breaking 28 = .ok (.goto 4, 3) := by decide +kernel
theorem dMO_breaking_31 : decode cMO_breaking 31 = .ok (.iconst 0, 1) := by decide +kernel
theorem dMO_breaking_32 : decode cMO_breaking 32 = .ok (.ireturn, 1) := by decide +kernel
theorem dMO_keeping_0 : decode cMO_keeping 0 = .ok (.aload_n 0, 1) := by decide +kernel
theorem dMO_keeping_1 : decode cMO_keeping 1 = .ok (.aload_n 0, 1) := by decide +kernel
theorem dMO_keeping_2 : decode cMO_keeping 2 = .ok (.getfield 151, 3) := by decide +kernel
theorem dMO_keeping_5 : decode cMO_keeping 5 = .ok (.ifCond .eq 7, 3) := by decide +kernel
theorem dMO_keeping_8 : decode cMO_keeping 8 = .ok (.iconst 0, 1) := by decide +kernel
theorem dMO_keeping_9 : decode cMO_keeping 9 = .ok (.goto 4, 3) := by decide +kernel
theorem dMO_keeping_12 : decode cMO_keeping 12 = .ok (.iconst 1, 1) := by decide +kernel
theorem dMO_keeping_13 : decode cMO_keeping 13 = .ok (.putfield 93, 3) := by decide +kernel
theorem dMO_keeping_16 : decode cMO_keeping 16 = .ok (.aload_n 0, 1) := by decide +kernel
theorem dMO_keeping_17 : decode cMO_keeping 17 = .ok (.getfield 151, 3) := by decide +kernel
theorem dMO_keeping_20 : decode cMO_keeping 20 = .ok (.ifCond .eq 11, 3) := by decide +kernel
theorem dMO_keeping_23 : decode cMO_keeping 23 = .ok (.aload_n 0, 1) := by decide +kernel
theorem dMO_keeping_24 : decode cMO_keeping 24 = .ok (.iconst 1, 1) := by decide +kernel
theorem dMO_keeping_25 : decode cMO_keeping 25 = .ok (.invokevirtual 204, 3) := by decide +kernel
theorem dMO_keeping_28 : decode cMO_keeping 28 = .ok (.goto 4, 3) := by decide +kernel
theorem dMO_keeping_31 : decode cMO_keeping 31 = .ok (.iconst 0, 1) := by decide +kernel
theorem dMO_keeping_32 : decode cMO_keeping 32 = .ok (.ireturn, 1) := by decide +kernel
theorem dMO_holds_0 : decode cMO_holds 0 = .ok (.iconst 0, 1) := by decide +kernel
theorem dMO_holds_1 : decode cMO_holds 1 = .ok (.istore_n 2, 1) := by decide +kernel
theorem dMO_holds_2 : decode cMO_holds 2 = .ok (.iload_n 2, 1) := by decide +kernel
theorem dMO_holds_3 : decode cMO_holds 3 = .ok (.aload_n 0, 1) := by decide +kernel
theorem dMO_holds_4 : decode cMO_holds 4 = .ok (.getfield 145, 3) := by decide +kernel
theorem dMO_holds_7 : decode cMO_holds 7 = .ok (.if_icmp .ge 432, 3) := by decide +kernel
theorem dMO_holds_10 : decode cMO_holds 10 = .ok (.aload_n 0, 1) := by decide +kernel
theorem dMO_holds_11 : decode cMO_holds 11 = .ok (.getfield 13, 3) := by decide +kernel
theorem dMO_holds_14 : decode cMO_holds 14 = .ok (.iload_n 2, 1) := by decide +kernel
theorem dMO_holds_15 : decode cMO_holds 15 = .ok (.iaload, 1) := by decide +kernel
theorem dMO_holds_16 : decode cMO_holds 16 = .ok (.istore_n 3, 1) := by decide +kernel
theorem dMO_holds_17 : decode cMO_holds 17 = .ok (.iconst 0, 1) := by decide +kernel
theorem dMO_holds_18 : decode cMO_holds 18 = .ok (.istore 4, 2) := by decide +kernel
theorem dMO_holds_20 : decode cMO_holds 20 = .ok (.iload 4, 2) := by decide +kernel
theorem dMO_holds_22 : decode cMO_holds 22 = .ok (.aload_n 0, 1) := by decide +kernel
theorem dMO_holds_23 : decode cMO_holds 23 = .ok (.getfield 208, 3) := by decide +kernel
theorem dMO_holds_26 : decode cMO_holds 26 = .ok (.if_icmp .ge 79, 3) := by decide +kernel
theorem dMO_holds_29 : decode cMO_holds 29 = .ok (.aload_n 0, 1) := by decide +kernel
theorem dMO_holds_30 : decode cMO_holds 30 = .ok (.getfield 81, 3) := by decide +kernel
theorem dMO_holds_33 : decode cMO_holds 33 = .ok (.bipush 8, 2) := by decide +kernel
theorem dMO_holds_35 : decode cMO_holds 35 = .ok (.iload_n 2, 1) := by decide +kernel
theorem dMO_holds_36 : decode cMO_holds 36 = .ok (.imul, 1) := by decide +kernel
theorem dMO_holds_37 : decode cMO_holds 37 = .ok (.iload 4, 2) := by decide +kernel
theorem dMO_holds_39 : decode cMO_holds 39 = .ok (.iadd, 1) := by decide +kernel
theorem dMO_holds_40 : decode cMO_holds 40 = .ok (.iload_n 3, 1) := by decide +kernel
theorem dMO_holds_41 : decode cMO_holds 41 = .ok (.bipush 82, 2) := by decide +kernel
theorem dMO_holds_43 : decode cMO_holds 43 = .ok (.if_icmp .eq 50, 3) := by decide +kernel
theorem dMO_holds_46 : decode cMO_holds 46 = .ok (.iload_n 3, 1) := by decide +kernel
theorem dMO_holds_47 : decode cMO_holds 47 = .ok (.bipush 71, 2) := by decide +kernel
theorem dMO_holds_49 : decode cMO_holds 49 = .ok (.if_icmp .eq 44, 3) := by decide +kernel
theorem dMO_holds_52 : decode cMO_holds 52 = .ok (.iload_n 3, 1) := by decide +kernel
theorem dMO_holds_53 : decode cMO_holds 53 = .ok (.bipush 49, 2) := by decide +kernel
theorem dMO_holds_55 : decode cMO_holds 55 = .ok (.if_icmp .eq 38, 3) := by decide +kernel
theorem dMO_holds_58 : decode cMO_holds 58 = .ok (.iload_n 3, 1) := by decide +kernel
theorem dMO_holds_59 : decode cMO_holds 59 = .ok (.bipush 112, 2) := by decide +kernel
theorem dMO_holds_61 : decode cMO_holds 61 = .ok (.if_icmp .lt 36, 3) := by decide +kernel
theorem dMO_holds_64 : decode cMO_holds 64 = .ok (.iload_n 3, 1) := by decide +kernel
theorem dMO_holds_65 : decode cMO_holds 65 = .ok (.bipush 115, 2) := by decide +kernel
theorem dMO_holds_67 : decode cMO_holds 67 = .ok (.if_icmp .gt 30, 3) := by decide +kernel
theorem dMO_holds_70 : decode cMO_holds 70 = .ok (.aload_n 0, 1) := by decide +kernel
theorem dMO_holds_71 : decode cMO_holds 71 = .ok (.getfield 43, 3) := by decide +kernel
theorem dMO_holds_74 : decode cMO_holds 74 = .ok (.aload_n 0, 1) := by decide +kernel
theorem dMO_holds_75 : decode cMO_holds 75 = .ok (.getfield 78, 3) := by decide +kernel
theorem dMO_holds_78 : decode cMO_holds 78 = .ok (.iload 4, 2) := by decide +kernel
theorem dMO_holds_80 : decode cMO_holds 80 = .ok (.iaload, 1) := by decide +kernel
theorem dMO_holds_81 : decode cMO_holds 81 = .ok (.iaload, 1) := by decide +kernel
theorem dMO_holds_82 : decode cMO_holds 82 = .ok (.iload_n 3, 1) := by decide +kernel
theorem dMO_holds_83 : decode cMO_holds 83 = .ok (.bipush 112, 2) := by decide +kernel
theorem dMO_holds_85 : decode cMO_holds 85 = .ok (.isub, 1) := by decide +kernel
theorem dMO_holds_86 : decode cMO_holds 86 = .ok (.ishr, 1) := by decide +kernel
theorem dMO_holds_87 : decode cMO_holds 87 = .ok (.iconst 1, 1) := by decide +kernel
theorem dMO_holds_88 : decode cMO_holds 88 = .ok (.iand, 1) := by decide +kernel
theorem dMO_holds_89 : decode cMO_holds 89 = .ok (.iconst 1, 1) := by decide +kernel
theorem dMO_holds_90 : decode cMO_holds 90 = .ok (.if_icmp .ne 7, 3) := by decide +kernel
theorem dMO_holds_93 : decode cMO_holds 93 = .ok (.iconst 1, 1) := by decide +kernel
theorem dMO_holds_94 : decode cMO_holds 94 = .ok (.goto 4, 3) := by decide +kernel
theorem dMO_holds_97 : decode cMO_holds 97 = .ok (.iconst 0, 1) := by decide +kernel
theorem dMO_holds_98 : decode cMO_holds 98 = .ok (.bastore, 1) := by decide +kernel
theorem dMO_holds_99 : decode cMO_holds 99 = .ok (.iinc 4 1, 3) := by decide +kernel
theorem dMO_holds_102 : decode cMO_holds 102 = .ok (.goto (-82), 3) := by decide +kernel
theorem dMO_holds_105 : decode cMO_holds 105 = .ok (.iconst 0, 1) := by decide +kernel
theorem dMO_holds_106 : decode cMO_holds 106 = .ok (.istore 4, 2) := by decide +kernel
theorem dMO_holds_108 : decode cMO_holds 108 = .ok (.iload 4, 2) := by decide +kernel
theorem dMO_holds_110 : decode cMO_holds 110 = .ok (.iconst 2, 1) := by decide +kernel
theorem dMO_holds_111 : decode cMO_holds 111 = .ok (.if_icmp .ge 322, 3) := by decide +kernel
theorem dMO_holds_114 : decode cMO_holds 114 = .ok (.iload_n 3, 1) := by decide +kernel
theorem dMO_holds_115 : decode cMO_holds 115 = .ok (.invokestatic 127, 3) := by decide +kernel
theorem dMO_holds_118 : decode cMO_holds 118 = .ok (.ifCond .ne 315, 3) := by decide +kernel
theorem dMO_holds_121 : decode cMO_holds 121 = .ok (.aload_n 0, 1) := by decide +kernel
theorem dMO_holds_122 : decode cMO_holds 122 = .ok (.getfield 208, 3) := by decide +kernel
theorem dMO_holds_125 : decode cMO_holds 125 = .ok (.iconst 1, 1) := by decide +kernel
theorem dMO_holds_126 : decode cMO_holds 126 = .ok (.isub, 1) := by decide +kernel
theorem dMO_holds_127 : decode cMO_holds 127 = .ok (.istore 5, 2) := by decide +kernel
theorem dMO_holds_129 : decode cMO_holds 129 = .ok (.iload 5, 2) := by decide +kernel
theorem dMO_holds_131 : decode cMO_holds 131 = .ok (.ifCond .lt 296, 3) := by decide +kernel
theorem dMO_holds_134 : decode cMO_holds 134 = .ok (.iload 5, 2) := by decide +kernel
theorem dMO_holds_136 : decode cMO_holds 136 = .ok (.iconst 1, 1) := by decide +kernel
theorem dMO_holds_137 : decode cMO_holds 137 = .ok (.iadd, 1) := by decide +kernel
theorem dMO_holds_138 : decode cMO_holds 138 = .ok (.aload_n 0, 1) := by decide +kernel
theorem dMO_holds_139 : decode cMO_holds 139 = .ok (.getfield 208, 3) := by decide +kernel
theorem dMO_holds_142 : decode cMO_holds 142 = .ok (.if_icmp .ge 10, 3) := by decide +kernel
theorem dMO_holds_145 : decode cMO_holds 145 = .ok (.iload 5, 2) := by decide +kernel
theorem dMO_holds_147 : decode cMO_holds 147 = .ok (.iconst 1, 1) := by decide +kernel
theorem dMO_holds_148 : decode cMO_holds 148 = .ok (.iadd, 1) := by decide +kernel
theorem dMO_holds_149 : decode cMO_holds 149 = .ok (.goto 7, 3) := by decide +kernel
theorem dMO_holds_152 : decode cMO_holds 152 = .ok (.aload_n 0, 1) := by decide +kernel
theorem dMO_holds_153 : decode cMO_holds 153 = .ok (.getfield 211, 3) := by decide +kernel
theorem dMO_holds_156 : decode cMO_holds 156 = .ok (.istore 6, 2) := by decide +kernel
theorem dMO_holds_158 : decode cMO_holds 158 = .ok (.aload_n 0, 1) := by decide +kernel
theorem dMO_holds_159 : decode cMO_holds 159 = .ok (.getfield 81, 3) := by decide +kernel
theorem dMO_holds_162 : decode cMO_holds 162 = .ok (.bipush 8, 2) := by decide +kernel
theorem dMO_holds_164 : decode cMO_holds 164 = .ok (.iload_n 2, 1) := by decide +kernel
theorem dMO_holds_165 : decode cMO_holds 165 = .ok (.imul, 1) := by decide +kernel
theorem dMO_holds_166 : decode cMO_holds 166 = .ok (.iload 6, 2) := by decide +kernel
theorem dMO_holds_168 : decode cMO_holds 168 = .ok (.iadd, 1) := by decide +kernel
theorem dMO_holds_169 : decode cMO_holds 169 = .ok (.baload, 1) := by decide +kernel
theorem dMO_holds_170 : decode cMO_holds 170 = .ok (.istore 7, 2) := by decide +kernel
theorem dMO_holds_172 : decode cMO_holds 172 = .ok (.aload_n 0, 1) := by decide +kernel
theorem dMO_holds_173 : decode cMO_holds 173 = .ok (.getfield 81, 3) := by decide +kernel
theorem dMO_holds_176 : decode cMO_holds 176 = .ok (.bipush 8, 2) := by decide +kernel
theorem dMO_holds_178 : decode cMO_holds 178 = .ok (.aload_n 0, 1) := by decide +kernel
theorem dMO_holds_179 : decode cMO_holds 179 = .ok (.iload_n 2, 1) := by decide +kernel
theorem dMO_holds_180 : decode cMO_holds 180 = .ok (.invokevirtual 181, 3) := by decide +kernel
theorem dMO_holds_183 : decode cMO_holds 183 = .ok (.imul, 1) := by decide +kernel
theorem dMO_holds_184 : decode cMO_holds 184 = .ok (.iload 5, 2) := by decide +kernel
theorem dMO_holds_186 : decode cMO_holds 186 = .ok (.iadd, 1) := by decide +kernel
theorem dMO_holds_187 : decode cMO_holds 187 = .ok (.baload, 1) := by decide +kernel
theorem dMO_holds_188 : decode cMO_holds 188 = .ok (.istore 8, 2) := by decide +kernel
theorem dMO_holds_190 : decode cMO_holds 190 = .ok (.aload_n 0, 1) := by decide +kernel
theorem dMO_holds_191 : decode cMO_holds 191 = .ok (.getfield 19, 3) := by decide +kernel
theorem dMO_holds_194 : decode cMO_holds 194 = .ok (.iload_n 2, 1) := by decide +kernel
theorem dMO_holds_195 : decode cMO_holds 195 = .ok (.iaload, 1) := by decide +kernel
theorem dMO_holds_196 : decode cMO_holds 196 = .ok (.ifCond .ge 17, 3) := by decide +kernel
theorem dMO_holds_199 : decode cMO_holds 199 = .ok (.iload_n 3, 1) := by decide +kernel
theorem dMO_holds_200 : decode cMO_holds 200 = .ok (.bipush 70, 2) := by decide +kernel
theorem dMO_holds_202 : decode cMO_holds 202 = .ok (.if_icmp .ne 7, 3) := by decide +kernel
theorem dMO_holds_205 : decode cMO_holds 205 = .ok (.iconst 1, 1) := by decide +kernel
theorem dMO_holds_206 : decode cMO_holds 206 = .ok (.goto 24, 3) := by decide +kernel
theorem dMO_holds_209 : decode cMO_holds 209 = .ok (.iconst 0, 1) := by decide +kernel
theorem dMO_holds_210 : decode cMO_holds 210 = .ok (.goto 20, 3) := by decide +kernel
theorem dMO_holds_213 : decode cMO_holds 213 = .ok (.aload_n 0, 1) := by decide +kernel
theorem dMO_holds_214 : decode cMO_holds 214 = .ok (.getfield 81, 3) := by decide +kernel
theorem dMO_holds_217 : decode cMO_holds 217 = .ok (.bipush 8, 2) := by decide +kernel
theorem dMO_holds_219 : decode cMO_holds 219 = .ok (.aload_n 0, 1) := by decide +kernel
theorem dMO_holds_220 : decode cMO_holds 220 = .ok (.getfield 16, 3) := by decide +kernel
theorem dMO_holds_223 : decode cMO_holds 223 = .ok (.iload_n 2, 1) := by decide +kernel
theorem dMO_holds_224 : decode cMO_holds 224 = .ok (.iaload, 1) := by decide +kernel
theorem dMO_holds_225 : decode cMO_holds 225 = .ok (.imul, 1) := by decide +kernel
theorem dMO_holds_226 : decode cMO_holds 226 = .ok (.iload 5, 2) := by decide +kernel
theorem dMO_holds_228 : decode cMO_holds 228 = .ok (.iadd, 1) := by decide +kernel
theorem dMO_holds_229 : decode cMO_holds 229 = .ok (.baload, 1) := by decide +kernel
theorem dMO_holds_230 : decode cMO_holds 230 = .ok (.istore 9, 2) := by decide +kernel
theorem dMO_holds_232 : decode cMO_holds 232 = .ok (.iload_n 3, 1) := by decide +kernel
theorem dMO_holds_233 : decode cMO_holds 233 = .ok (.bipush 88, 2) := by decide +kernel
theorem dMO_holds_235 : decode cMO_holds 235 = .ok (.if_icmp .ne 23, 3) := by decide +kernel
theorem dMO_holds_238 : decode cMO_holds 238 = .ok (.aload_n 0, 1) := by decide +kernel
theorem dMO_holds_239 : decode cMO_holds 239 = .ok (.getfield 81, 3) := by decide +kernel
theorem dMO_holds_242 : decode cMO_holds 242 = .ok (.bipush 8, 2) := by decide +kernel
theorem dMO_holds_244 : decode cMO_holds 244 = .ok (.aload_n 0, 1) := by decide +kernel
theorem dMO_holds_245 : decode cMO_holds 245 = .ok (.getfield 16, 3) := by decide +kernel
theorem dMO_holds_248 : decode cMO_holds 248 = .ok (.iload_n 2, 1) := by decide +kernel
theorem dMO_holds_249 : decode cMO_holds 249 = .ok (.iaload, 1) := by decide +kernel
theorem dMO_holds_250 : decode cMO_holds 250 = .ok (.imul, 1) := by decide +kernel
theorem dMO_holds_251 : decode cMO_holds 251 = .ok (.iload 6, 2) := by decide +kernel
theorem dMO_holds_253 : decode cMO_holds 253 = .ok (.iadd, 1) := by decide +kernel
theorem dMO_holds_254 : decode cMO_holds 254 = .ok (.baload, 1) := by decide +kernel
theorem dMO_holds_255 : decode cMO_holds 255 = .ok (.goto 58, 3) := by decide +kernel
theorem dMO_holds_258 : decode cMO_holds 258 = .ok (.iload_n 3, 1) := by decide +kernel
theorem dMO_holds_259 : decode cMO_holds 259 = .ok (.bipush 85, 2) := by decide +kernel
theorem dMO_holds_261 : decode cMO_holds 261 = .ok (.if_icmp .eq 9, 3) := by decide +kernel
theorem dMO_holds_264 : decode cMO_holds 264 = .ok (.iload_n 3, 1) := by decide +kernel
theorem dMO_holds_265 : decode cMO_holds 265 = .ok (.bipush 70, 2) := by decide +kernel
theorem dMO_holds_267 : decode cMO_holds 267 = .ok (.if_icmp .ne 26, 3) := by decide +kernel
theorem dMO_holds_270 : decode cMO_holds 270 = .ok (.iload 8, 2) := by decide +kernel
theorem dMO_holds_272 : decode cMO_holds 272 = .ok (.ifCond .ne 13, 3) := by decide +kernel
theorem dMO_holds_275 : decode cMO_holds 275 = .ok (.iload 9, 2) := by decide +kernel
theorem dMO_holds_277 : decode cMO_holds 277 = .ok (.ifCond .eq 12, 3) := by decide +kernel
theorem dMO_holds_280 : decode cMO_holds 280 = .ok (.iload 7, 2) := by decide +kernel
theorem dMO_holds_282 : decode cMO_holds 282 = .ok (.ifCond .eq 7, 3) := by decide +kernel
theorem dMO_holds_285 : decode cMO_holds 285 = .ok (.iconst 1, 1) := by decide +kernel
theorem dMO_holds_286 : decode cMO_holds 286 = .ok (.goto 27, 3) := by decide +kernel
theorem dMO_holds_289 : decode cMO_holds 289 = .ok (.iconst 0, 1) := by decide +kernel
theorem dMO_holds_290 : decode cMO_holds 290 = .ok (.goto 23, 3) := by decide +kernel
theorem dMO_holds_293 : decode cMO_holds 293 = .ok (.iload 8, 2) := by decide +kernel
theorem dMO_holds_295 : decode cMO_holds 295 = .ok (.ifCond .eq 17, 3) := by decide +kernel
theorem dMO_holds_298 : decode cMO_holds 298 = .ok (.iload 9, 2) := by decide +kernel
theorem dMO_holds_300 : decode cMO_holds 300 = .ok (.ifCond .ne 8, 3) := by decide +kernel
theorem dMO_holds_303 : decode cMO_holds 303 = .ok (.iload 7, 2) := by decide +kernel
