theorem dMO_write_38 : decode cMO_write 38 = .ok (.aload_n 0, 1) := by decide +kernel
theorem dMO_write_39 : decode cMO_write 39 = .ok (.getfield 34, 3) := by decide +kernel
theorem dMO_write_42 : decode cMO_write 42 = .ok (.aload_n 0, 1) := by decide +kernel
theorem dMO_write_43 : decode cMO_write 43 = .ok (.getfield 110, 3) := by decide +kernel
theorem dMO_write_46 : decode cMO_write 46 = .ok (.iaload, 1) := by decide +kernel
theorem dMO_write_47 : decode cMO_write 47 = .ok (.istore_n 1, 1) := by decide +kernel
theorem dMO_write_48 : decode cMO_write 48 = .ok (.aload_n 0, 1) := by decide +kernel
theorem dMO_write_49 : decode cMO_write 49 = .ok (.getfield 37, 3) := by decide +kernel
theorem dMO_write_52 : decode cMO_write 52 = .ok (.aload_n 0, 1) := by decide +kernel
theorem dMO_write_53 : decode cMO_write 53 = .ok (.getfield 110, 3) := by decide +kernel
theorem dMO_write_56 : decode cMO_write 56 = .ok (.iaload, 1) := by decide +kernel
theorem dMO_write_57 : decode cMO_write 57 = .ok (.iconst 1, 1) := by decide +kernel
theorem dMO_write_58 : decode cMO_write 58 = .ok (.if_icmp .ne 7, 3) := by decide +kernel
theorem dMO_write_61 : decode cMO_write 61 = .ok (.iconst 1, 1) := by decide +kernel
theorem dMO_write_62 : decode cMO_write 62 = .ok (.goto 4, 3) := by decide +kernel
theorem dMO_write_65 : decode cMO_write 65 = .ok (.iconst 0, 1) := by decide +kernel
theorem dMO_write_66 : decode cMO_write 66 = .ok (.istore_n 2, 1) := by decide +kernel
theorem dMO_write_67 : decode cMO_write 67 = .ok (.aload_n 0, 1) := by decide +kernel
theorem dMO_write_68 : decode cMO_write 68 = .ok (.getfield 13, 3) := by decide +kernel
theorem dMO_write_71 : decode cMO_write 71 = .ok (.iload_n 1, 1) := by decide +kernel
theorem dMO_write_72 : decode cMO_write 72 = .ok (.iaload, 1) := by decide +kernel
theorem dMO_write_73 : decode cMO_write 73 = .ok (.istore_n 3, 1) := by decide +kernel
theorem dMO_write_74 : decode cMO_write 74 = .ok (.iload_n 3, 1) := by decide +kernel
theorem dMO_write_75 : decode cMO_write 75 = .ok (.invokestatic 127, 3) := by decide +kernel
theorem dMO_write_78 : decode cMO_write 78 = .ok (.ifCond .eq 46, 3) := by decide +kernel
theorem dMO_write_81 : decode cMO_write 81 = .ok (.aload_n 0, 1) := by decide +kernel
theorem dMO_write_82 : decode cMO_write 82 = .ok (.iload_n 3, 1) := by decide +kernel
theorem dMO_write_83 : decode cMO_write 83 = .ok (.bipush 112, 2) := by decide +kernel
theorem dMO_write_85 : decode cMO_write 85 = .ok (.if_icmp .ge 18, 3) := by decide +kernel
theorem dMO_write_88 : decode cMO_write 88 = .ok (.iload_n 2, 1) := by decide +kernel
theorem dMO_write_89 : decode cMO_write 89 = .ok (.ifCond .eq 10, 3) := by decide +kernel
theorem dMO_write_92 : decode cMO_write 92 = .ok (.bipush 97, 2) := by decide +kernel
theorem dMO_write_94 : decode cMO_write 94 = .ok (.iload_n 3, 1) := by decide +kernel
theorem dMO_write_95 : decode cMO_write 95 = .ok (.isub, 1) := by decide +kernel
theorem dMO_write_96 : decode cMO_write 96 = .ok (.goto 22, 3) := by decide +kernel
theorem dMO_write_99 : decode cMO_write 99 = .ok (.iload_n 3, 1) := by decide +kernel
theorem dMO_write_100 : decode cMO_write 100 = .ok (.goto 18, 3) := by decide +kernel
theorem dMO_write_103 : decode cMO_write 103 = .ok (.iload_n 2, 1) := by decide +kernel
theorem dMO_write_104 : decode cMO_write 104 = .ok (.ifCond .eq 13, 3) := by decide +kernel
theorem dMO_write_107 : decode cMO_write 107 = .ok (.iload_n 3, 1) := by decide +kernel
theorem dMO_write_108 : decode cMO_write 108 = .ok (.bipush 112, 2) := by decide +kernel
theorem dMO_write_110 : decode cMO_write 110 = .ok (.isub, 1) := by decide +kernel
theorem dMO_write_111 : decode cMO_write 111 = .ok (.bipush 65, 2) := by decide +kernel
theorem dMO_write_113 : decode cMO_write 113 = .ok (.iadd, 1) := by decide +kernel
theorem dMO_write_114 : decode cMO_write 114 = .ok (.goto 4, 3) := by decide +kernel
theorem dMO_write_117 : decode cMO_write 117 = .ok (.iload_n 3, 1) := by decide +kernel
theorem dMO_write_118 : decode cMO_write 118 = .ok (.invokevirtual 168, 3) := by decide +kernel
theorem dMO_write_121 : decode cMO_write 121 = .ok (.goto 260, 3) := by decide +kernel
theorem dMO_write_124 : decode cMO_write 124 = .ok (.iload_n 3, 1) := by decide +kernel
theorem dMO_write_125 : decode cMO_write 125 = .ok (.bipush 33, 2) := by decide +kernel
theorem dMO_write_127 : decode cMO_write 127 = .ok (.if_icmp .ne 25, 3) := by decide +kernel
theorem dMO_write_130 : decode cMO_write 130 = .ok (.aload_n 0, 1) := by decide +kernel
theorem dMO_write_131 : decode cMO_write 131 = .ok (.aload_n 0, 1) := by decide +kernel
theorem dMO_write_132 : decode cMO_write 132 = .ok (.getfield 16, 3) := by decide +kernel
theorem dMO_write_135 : decode cMO_write 135 = .ok (.iload_n 1, 1) := by decide +kernel
theorem dMO_write_136 : decode cMO_write 136 = .ok (.iaload, 1) := by decide +kernel
theorem dMO_write_137 : decode cMO_write 137 = .ok (.iload_n 2, 1) := by decide +kernel
theorem dMO_write_138 : decode cMO_write 138 = .ok (.ifCond .ne 7, 3) := by decide +kernel
theorem dMO_write_141 : decode cMO_write 141 = .ok (.iconst 1, 1) := by decide +kernel
theorem dMO_write_142 : decode cMO_write 142 = .ok (.goto 4, 3) := by decide +kernel
theorem dMO_write_145 : decode cMO_write 145 = .ok (.iconst 0, 1) := by decide +kernel
theorem dMO_write_146 : decode cMO_write 146 = .ok (.invokevirtual 164, 3) := by decide +kernel
theorem dMO_write_149 : decode cMO_write 149 = .ok (.goto 232, 3) := by decide +kernel
theorem dMO_write_152 : decode cMO_write 152 = .ok (.iload_n 3, 1) := by decide +kernel
theorem dMO_write_153 : decode cMO_write 153 = .ok (.bipush 88, 2) := by decide +kernel
theorem dMO_write_155 : decode cMO_write 155 = .ok (.if_icmp .ne 22, 3) := by decide +kernel
theorem dMO_write_158 : decode cMO_write 158 = .ok (.aload_n 0, 1) := by decide +kernel
theorem dMO_write_159 : decode cMO_write 159 = .ok (.iload_n 3, 1) := by decide +kernel
theorem dMO_write_160 : decode cMO_write 160 = .ok (.invokevirtual 168, 3) := by decide +kernel
theorem dMO_write_163 : decode cMO_write 163 = .ok (.aload_n 0, 1) := by decide +kernel
theorem dMO_write_164 : decode cMO_write 164 = .ok (.aload_n 0, 1) := by decide +kernel
theorem dMO_write_165 : decode cMO_write 165 = .ok (.getfield 16, 3) := by decide +kernel
theorem dMO_write_168 : decode cMO_write 168 = .ok (.iload_n 1, 1) := by decide +kernel
theorem dMO_write_169 : decode cMO_write 169 = .ok (.iaload, 1) := by decide +kernel
theorem dMO_write_170 : decode cMO_write 170 = .ok (.iload_n 2, 1) := by decide +kernel
theorem dMO_write_171 : decode cMO_write 171 = .ok (.invokevirtual 164, 3) := by decide +kernel
theorem dMO_write_174 : decode cMO_write 174 = .ok (.goto 207, 3) := by decide +kernel
theorem dMO_write_177 : decode cMO_write 177 = .ok (.iload_n 3, 1) := by decide +kernel
theorem dMO_write_178 : decode cMO_write 178 = .ok (.bipush 70, 2) := by decide +kernel
theorem dMO_write_180 : decode cMO_write 180 = .ok (.if_icmp .eq 9, 3) := by decide +kernel
theorem dMO_write_183 : decode cMO_write 183 = .ok (.iload_n 3, 1) := by decide +kernel
theorem dMO_write_184 : decode cMO_write 184 = .ok (.bipush 71, 2) := by decide +kernel
theorem dMO_write_186 : decode cMO_write 186 = .ok (.if_icmp .ne 71, 3) := by decide +kernel
theorem dMO_write_189 : decode cMO_write 189 = .ok (.iload_n 3, 1) := by decide +kernel
theorem dMO_write_190 : decode cMO_write 190 = .ok (.bipush 70, 2) := by decide +kernel
theorem dMO_write_192 : decode cMO_write 192 = .ok (.if_icmp .ne 7, 3) := by decide +kernel
theorem dMO_write_195 : decode cMO_write 195 = .ok (.iconst 1, 1) := by decide +kernel
theorem dMO_write_196 : decode cMO_write 196 = .ok (.goto 4, 3) := by decide +kernel
theorem dMO_write_199 : decode cMO_write 199 = .ok (.iconst 0, 1) := by decide +kernel
theorem dMO_write_200 : decode cMO_write 200 = .ok (.iload_n 2, 1) := by decide +kernel
theorem dMO_write_201 : decode cMO_write 201 = .ok (.if_icmp .eq 7, 3) := by decide +kernel
theorem dMO_write_204 : decode cMO_write 204 = .ok (.iconst 1, 1) := by decide +kernel
theorem dMO_write_205 : decode cMO_write 205 = .ok (.goto 4, 3) := by decide +kernel
theorem dMO_write_208 : decode cMO_write 208 = .ok (.iconst 0, 1) := by decide +kernel
theorem dMO_write_209 : decode cMO_write 209 = .ok (.istore 4, 2) := by decide +kernel
theorem dMO_write_211 : decode cMO_write 211 = .ok (.aload_n 0, 1) := by decide +kernel
theorem dMO_write_212 : decode cMO_write 212 = .ok (.iload 4, 2) := by decide +kernel
theorem dMO_write_214 : decode cMO_write 214 = .ok (.ifCond .eq 8, 3) := by decide +kernel
theorem dMO_write_217 : decode cMO_write 217 = .ok (.bipush 85, 2) := by decide +kernel
theorem dMO_write_219 : decode cMO_write 219 = .ok (.goto 5, 3) := by decide +kernel
theorem dMO_write_222 : decode cMO_write 222 = .ok (.bipush 82, 2) := by decide +kernel
theorem dMO_write_224 : decode cMO_write 224 = .ok (.invokevirtual 168, 3) := by decide +kernel
theorem dMO_write_227 : decode cMO_write 227 = .ok (.aload_n 0, 1) := by decide +kernel
theorem dMO_write_228 : decode cMO_write 228 = .ok (.iload 4, 2) := by decide +kernel
theorem dMO_write_230 : decode cMO_write 230 = .ok (.ifCond .eq 8, 3) := by decide +kernel
theorem dMO_write_233 : decode cMO_write 233 = .ok (.bipush 49, 2) := by decide +kernel
theorem dMO_write_235 : decode cMO_write 235 = .ok (.goto 5, 3) := by decide +kernel
theorem dMO_write_238 : decode cMO_write 238 = .ok (.bipush 48, 2) := by decide +kernel
theorem dMO_write_240 : decode cMO_write 240 = .ok (.invokevirtual 168, 3) := by decide +kernel
theorem dMO_write_243 : decode cMO_write 243 = .ok (.aload_n 0, 1) := by decide +kernel
theorem dMO_write_244 : decode cMO_write 244 = .ok (.aload_n 0, 1) := by decide +kernel
theorem dMO_write_245 : decode cMO_write 245 = .ok (.getfield 16, 3) := by decide +kernel
theorem dMO_write_248 : decode cMO_write 248 = .ok (.iload_n 1, 1) := by decide +kernel
theorem dMO_write_249 : decode cMO_write 249 = .ok (.iaload, 1) := by decide +kernel
theorem dMO_write_250 : decode cMO_write 250 = .ok (.iload_n 2, 1) := by decide +kernel
theorem dMO_write_251 : decode cMO_write 251 = .ok (.invokevirtual 164, 3) := by decide +kernel
theorem dMO_write_254 : decode cMO_write 254 = .ok (.goto 127, 3) := by decide +kernel
theorem dMO_write_257 : decode cMO_write 257 = .ok (.iload_n 3, 1) := by decide +kernel
theorem dMO_write_258 : decode cMO_write 258 = .ok (.bipush 38, 2) := by decide +kernel
theorem dMO_write_260 : decode cMO_write 260 = .ok (.if_icmp .eq 9, 3) := by decide +kernel
theorem dMO_write_263 : decode cMO_write 263 = .ok (.iload_n 3, 1) := by decide +kernel
theorem dMO_write_264 : decode cMO_write 264 = .ok (.bipush 85, 2) := by decide +kernel
theorem dMO_write_266 : decode cMO_write 266 = .ok (.if_icmp .ne 7, 3) := by decide +kernel
theorem dMO_write_269 : decode cMO_write 269 = .ok (.iconst 1, 1) := by decide +kernel
theorem dMO_write_270 : decode cMO_write 270 = .ok (.goto 4, 3) := by decide +kernel
theorem dMO_write_273 : decode cMO_write 273 = .ok (.iconst 0, 1) := by decide +kernel
theorem dMO_write_274 : decode cMO_write 274 = .ok (.istore 4, 2) := by decide +kernel
theorem dMO_write_276 : decode cMO_write 276 = .ok (.aload_n 0, 1) := by decide +kernel
theorem dMO_write_277 : decode cMO_write 277 = .ok (.iload_n 3, 1) := by decide +kernel
theorem dMO_write_278 : decode cMO_write 278 = .ok (.bipush 62, 2) := by decide +kernel
theorem dMO_write_280 : decode cMO_write 280 = .ok (.if_icmp .ne 17, 3) := by decide +kernel
theorem dMO_write_283 : decode cMO_write 283 = .ok (.iload_n 2, 1) := by decide +kernel
theorem dMO_write_284 : decode cMO_write 284 = .ok (.ifCond .eq 8, 3) := by decide +kernel
theorem dMO_write_287 : decode cMO_write 287 = .ok (.bipush 38, 2) := by decide +kernel
theorem dMO_write_289 : decode cMO_write 289 = .ok (.goto 49, 3) := by decide +kernel
theorem dMO_write_292 : decode cMO_write 292 = .ok (.bipush 124, 2) := by decide +kernel
theorem dMO_write_294 : decode cMO_write 294 = .ok (.goto 44, 3) := by decide +kernel
theorem dMO_write_297 : decode cMO_write 297 = .ok (.iload_n 3, 1) := by decide +kernel
theorem dMO_write_298 : decode cMO_write 298 = .ok (.bipush 38, 2) := by decide +kernel
theorem dMO_write_300 : decode cMO_write 300 = .ok (.if_icmp .eq 9, 3) := by decide +kernel
theorem dMO_write_303 : decode cMO_write 303 = .ok (.iload_n 3, 1) := by decide +kernel
theorem dMO_write_304 : decode cMO_write 304 = .ok (.bipush 124, 2) := by decide +kernel
theorem dMO_write_306 : decode cMO_write 306 = .ok (.if_icmp .ne 19, 3) := by decide +kernel
theorem dMO_write_309 : decode cMO_write 309 = .ok (.iload 4, 2) := by decide +kernel
theorem dMO_write_311 : decode cMO_write 311 = .ok (.iload_n 2, 1) := by decide +kernel
theorem dMO_write_312 : decode cMO_write 312 = .ok (.if_icmp .eq 8, 3) := by decide +kernel
theorem dMO_write_315 : decode cMO_write 315 = .ok (.bipush 38, 2) := by decide +kernel
theorem dMO_write_317 : decode cMO_write 317 = .ok (.goto 21, 3) := by decide +kernel
theorem dMO_write_320 : decode cMO_write 320 = .ok (.bipush 124, 2) := by decide +kernel
theorem dMO_write_322 : decode cMO_write 322 = .ok (.goto 16, 3) := by decide +kernel
theorem dMO_write_325 : decode cMO_write 325 = .ok (.iload 4, 2) := by decide +kernel
theorem dMO_write_327 : decode cMO_write 327 = .ok (.iload_n 2, 1) := by decide +kernel
theorem dMO_write_328 : decode cMO_write 328 = .ok (.if_icmp .eq 8, 3) := by decide +kernel
theorem dMO_write_331 : decode cMO_write 331 = .ok (.bipush 85, 2) := by decide +kernel
theorem dMO_write_333 : decode cMO_write 333 = .ok (.goto 5, 3) := by decide +kernel
theorem dMO_write_336 : decode cMO_write 336 = .ok (.bipush 82, 2) := by decide +kernel
theorem dMO_write_338 : decode cMO_write 338 = .ok (.invokevirtual 168, 3) := by decide +kernel
theorem dMO_write_341 : decode cMO_write 341 = .ok (.aload_n 0, 1) := by decide +kernel
theorem dMO_write_342 : decode cMO_write 342 = .ok (.aload_n 0, 1) := by decide +kernel
theorem dMO_write_343 : decode cMO_write 343 = .ok (.getfield 19, 3) := by decide +kernel
theorem dMO_write_346 : decode cMO_write 346 = .ok (.iload_n 1, 1) := by decide +kernel
theorem dMO_write_347 : decode cMO_write 347 = .ok (.iaload, 1) := by decide +kernel
theorem dMO_write_348 : decode cMO_write 348 = .ok (.iload_n 2, 1) := by decide +kernel
theorem dMO_write_349 : decode cMO_write 349 = .ok (.invokevirtual 164, 3) := by decide +kernel
theorem dMO_write_352 : decode cMO_write 352 = .ok (.aload_n 0, 1) := by decide +kernel
theorem dMO_write_353 : decode cMO_write 353 = .ok (.aload_n 0, 1) := by decide +kernel
theorem dMO_write_354 : decode cMO_write 354 = .ok (.getfield 16, 3) := by decide +kernel
theorem dMO_write_357 : decode cMO_write 357 = .ok (.iload_n 1, 1) := by decide +kernel
theorem dMO_write_358 : decode cMO_write 358 = .ok (.iaload, 1) := by decide +kernel
theorem dMO_write_359 : decode cMO_write 359 = .ok (.iload_n 3, 1) := by decide +kernel
theorem dMO_write_360 : decode cMO_write 360 = .ok (.bipush 62, 2) := by decide +kernel
theorem dMO_write_362 : decode cMO_write 362 = .ok (.if_icmp .ne 15, 3) := by decide +kernel
theorem dMO_write_365 : decode cMO_write 365 = .ok (.iload_n 2, 1) := by decide +kernel
theorem dMO_write_366 : decode cMO_write 366 = .ok (.ifCond .ne 7, 3) := by decide +kernel
theorem dMO_write_369 : decode cMO_write 369 = .ok (.iconst 1, 1) := by decide +kernel
theorem dMO_write_370 : decode cMO_write 370 = .ok (.goto 8, 3) := by decide +kernel
theorem dMO_write_373 : decode cMO_write 373 = .ok (.iconst 0, 1) := by decide +kernel
theorem dMO_write_374 : decode cMO_write 374 = .ok (.goto 4, 3) := by decide +kernel
theorem dMO_write_377 : decode cMO_write 377 = .ok (.iload_n 2, 1) := by decide +kernel
theorem dMO_write_378 : decode cMO_write 378 = .ok (.invokevirtual 164, 3) := by decide +kernel
theorem dMO_write_381 : decode cMO_write 381 = .ok (.goto (-360), 3) := by decide +kernel
theorem dMO_write_384 : decode cMO_write 384 = .ok (.return_, 1) := by decide +kernel
theorem dMO_normal_0 : decode cMO_normal 0 = .ok (.aload_n 0, 1) := by decide +kernel
theorem dMO_normal_1 : decode cMO_normal 1 = .ok (.aload_n 0, 1) := by decide +kernel
theorem dMO_normal_2 : decode cMO_normal 2 = .ok (.getfield 151, 3) := by decide +kernel
theorem dMO_normal_5 : decode cMO_normal 5 = .ok (.ifCond .eq 7, 3) := by decide +kernel
theorem dMO_normal_8 : decode cMO_normal 8 = .ok (.iconst 0, 1) := by decide +kernel
theorem dMO_normal_9 : decode cMO_normal 9 = .ok (.goto 4, 3) := by decide +kernel
theorem dMO_normal_12 : decode cMO_normal 12 = .ok (.iconst 1, 1) := by decide +kernel
theorem dMO_normal_13 : decode cMO_normal 13 = .ok (.putfield 93, 3) := by decide +kernel
theorem dMO_normal_16 : decode cMO_normal 16 = .ok (.aload_n 0, 1) := by decide +kernel
theorem dMO_normal_17 : decode cMO_normal 17 = .ok (.getfield 151, 3) := by decide +kernel
theorem dMO_normal_20 : decode cMO_normal 20 = .ok (.ifCond .ne 7, 3) := by decide +kernel
theorem dMO_normal_23 : decode cMO_normal 23 = .ok (.iconst 0, 1) := by decide +kernel
theorem dMO_normal_24 : decode cMO_normal 24 = .ok (.goto 37, 3) := by decide +kernel
theorem dMO_normal_27 : decode cMO_normal 27 = .ok (.iload_n 1, 1) := by decide +kernel
theorem dMO_normal_28 : decode cMO_normal 28 = .ok (.iconst (-1), 1) := by decide +kernel
theorem dMO_normal_29 : decode cMO_normal 29 = .ok (.if_icmp .ne 10, 3) := by decide +kernel
theorem dMO_normal_32 : decode cMO_normal 32 = .ok (.aload_n 0, 1) := by decide +kernel
theorem dMO_normal_33 : decode cMO_normal 33 = .ok (.getfield 161, 3) := by decide +kernel
theorem dMO_normal_36 : decode cMO_normal 36 = .ok (.goto 25, 3) := by decide +kernel
theorem dMO_normal_39 : decode cMO_normal 39 = .ok (.iload_n 1, 1) := by decide +kernel
theorem dMO_normal_40 : decode cMO_normal 40 = .ok (.ifCond .lt 11, 3) := by decide +kernel
theorem dMO_normal_43 : decode cMO_normal 43 = .ok (.iload_n 1, 1) := by decide +kernel
theorem dMO_normal_44 : decode cMO_normal 44 = .ok (.aload_n 0, 1) := by decide +kernel
theorem dMO_normal_45 : decode cMO_normal 45 = .ok (.getfield 161, 3) := by decide +kernel
theorem dMO_normal_48 : decode cMO_normal 48 = .ok (.if_icmp .lt 7, 3) := by decide +kernel
theorem dMO_normal_51 : decode cMO_normal 51 = .ok (.iconst (-1), 1) := by decide +kernel
theorem dMO_normal_52 : decode cMO_normal 52 = .ok (.goto 9, 3) := by decide +kernel
theorem dMO_normal_55 : decode cMO_normal 55 = .ok (.aload_n 0, 1) := by decide +kernel
theorem dMO_normal_56 : decode cMO_normal 56 = .ok (.getfield 40, 3) := by decide +kernel
theorem dMO_normal_59 : decode cMO_normal 59 = .ok (.iload_n 1, 1) := by decide +kernel
theorem dMO_normal_60 : decode cMO_normal 60 = .ok (.iaload, 1) := by decide +kernel
theorem dMO_normal_61 : decode cMO_normal 61 = .ok (.ireturn, 1) := by decide +kernel
theorem dMO_isState_0 : decode cMO_isState 0 = .ok (.iload_n 0, 1) := by decide +kernel
theorem dMO_isState_1 : decode cMO_isState 1 = .ok (.ifCond .lt 13, 3) := by decide +kernel
theorem dMO_isState_4 : decode cMO_isState 4 = .ok (.iload_n 0, 1) := by decide +kernel
theorem dMO_isState_5 : decode cMO_isState 5 = .ok (.bipush 6, 2) := by decide +kernel
theorem dMO_isState_7 : decode cMO_isState 7 = .ok (.if_icmp .ge 7, 3) := by decide +kernel
theorem dMO_isState_10 : decode cMO_isState 10 = .ok (.iconst 1, 1) := by decide +kernel
theorem dMO_isState_11 : decode cMO_isState 11 = .ok (.goto 4, 3) := by decide +kernel
theorem dMO_isState_14 : decode cMO_isState 14 = .ok (.iconst 0, 1) := by decide +kernel
theorem dMO_isState_15 : decode cMO_isState 15 = .ok (.ireturn, 1) := by decide +kernel
theorem dMO_forget_0 : decode cMO_forget 0 = .ok (.aload_n 0, 1) := by decide +kernel
theorem dMO_forget_1 : decode cMO_forget 1 = .ok (.iconst 0, 1) := by decide +kernel
theorem dMO_forget_2 : decode cMO_forget 2 = .ok (.putfield 171, 3) := by decide +kernel
theorem dMO_forget_5 : decode cMO_forget 5 = .ok (.iconst 0, 1) := by decide +kernel
theorem dMO_forget_6 : decode cMO_forget 6 = .ok (.istore_n 1, 1) := by decide +kernel
theorem dMO_forget_7 : decode cMO_forget 7 = .ok (.iload_n 1, 1) := by decide +kernel
theorem dMO_forget_8 : decode cMO_forget 8 = .ok (.bipush 6, 2) := by decide +kernel
theorem dMO_forget_10 : decode cMO_forget 10 = .ok (.if_icmp .ge 16, 3) := by decide +kernel
theorem dMO_forget_13 : decode cMO_forget 13 = .ok (.aload_n 0, 1) := by decide +kernel
theorem dMO_forget_14 : decode cMO_forget 14 = .ok (.getfield 84, 3) := by decide +kernel
theorem dMO_forget_17 : decode cMO_forget 17 = .ok (.iload_n 1, 1) := by decide +kernel
theorem dMO_forget_18 : decode cMO_forget 18 = .ok (.iconst 0, 1) := by decide +kernel
theorem dMO_forget_19 : decode cMO_forget 19 = .ok (.iastore, 1) := by decide +kernel
theorem dMO_forget_20 : decode cMO_forget 20 = .ok (.iinc 1 1, 3) := by decide +kernel
theorem dMO_forget_23 : decode cMO_forget 23 = .ok (.goto (-16), 3) := by decide +kernel
theorem dMO_forget_26 : decode cMO_forget 26 = .ok (.return_, 1) := by decide +kernel
theorem dMO_mark_0 : decode cMO_mark 0 = .ok (.aload_n 0, 1) := by decide +kernel
theorem dMO_mark_1 : decode cMO_mark 1 = .ok (.iconst 0, 1) := by decide +kernel
theorem dMO_mark_2 : decode cMO_mark 2 = .ok (.putfield 93, 3) := by decide +kernel
theorem dMO_mark_5 : decode cMO_mark 5 = .ok (.iload_n 1, 1) := by decide +kernel
theorem dMO_mark_6 : decode cMO_mark 6 = .ok (.invokestatic 174, 3) := by decide +kernel
theorem dMO_mark_9 : decode cMO_mark 9 = .ok (.ifCond .eq 13, 3) := by decide +kernel
theorem dMO_mark_12 : decode cMO_mark 12 = .ok (.iload_n 2, 1) := by decide +kernel
theorem dMO_mark_13 : decode cMO_mark 13 = .ok (.ifCond .lt 9, 3) := by decide +kernel
theorem dMO_mark_16 : decode cMO_mark 16 = .ok (.iload_n 2, 1) := by decide +kernel
theorem dMO_mark_17 : decode cMO_mark 17 = .ok (.bipush 15, 2) := by decide +kernel
theorem dMO_mark_19 : decode cMO_mark 19 = .ok (.if_icmp .le 5, 3) := by decide +kernel
theorem dMO_mark_22 : decode cMO_mark 22 = .ok (.iconst 0, 1) := by decide +kernel
theorem dMO_mark_23 : decode cMO_mark 23 = .ok (.ireturn, 1) := by decide +kernel
theorem dMO_mark_24 : decode cMO_mark 24 = .ok (.aload_n 0, 1) := by decide +kernel
theorem dMO_mark_25 : decode cMO_mark 25 = .ok (.getfield 43, 3) := by decide +kernel
theorem dMO_mark_28 : decode cMO_mark 28 = .ok (.iload_n 1, 1) := by decide +kernel
theorem dMO_mark_29 : decode cMO_mark 29 = .ok (.iload_n 2, 1) := by decide +kernel
theorem dMO_mark_30 : decode cMO_mark 30 = .ok (.iastore, 1) := by decide +kernel
theorem dMO_mark_31 : decode cMO_mark 31 = .ok (.aload_n 0, 1) := by decide +kernel
theorem dMO_mark_32 : decode cMO_mark 32 = .ok (.invokevirtual 155, 3) := by decide +kernel
theorem dMO_mark_35 : decode cMO_mark 35 = .ok (.iconst 1, 1) := by decide +kernel
theorem dMO_mark_36 : decode cMO_mark 36 = .ok (.ireturn, 1) := by decide +kernel
theorem dMO_link_0 : decode cMO_link 0 = .ok (.aload_n 0, 1) := by decide +kernel
theorem dMO_link_1 : decode cMO_link 1 = .ok (.iconst 0, 1) := by decide +kernel
theorem dMO_link_2 : decode cMO_link 2 = .ok (.putfield 93, 3) := by decide +kernel
theorem dMO_link_5 : decode cMO_link 5 = .ok (.iload_n 1, 1) := by decide +kernel
theorem dMO_link_6 : decode cMO_link 6 = .ok (.invokestatic 174, 3) := by decide +kernel
theorem dMO_link_9 : decode cMO_link 9 = .ok (.ifCond .eq 10, 3) := by decide +kernel
theorem dMO_link_12 : decode cMO_link 12 = .ok (.iload_n 2, 1) := by decide +kernel
theorem dMO_link_13 : decode cMO_link 13 = .ok (.invokestatic 174, 3) := by decide +kernel
theorem dMO_link_16 : decode cMO_link 16 = .ok (.ifCond .ne 5, 3) := by decide +kernel
theorem dMO_link_19 : decode cMO_link 19 = .ok (.iconst 0, 1) := by decide +kernel
theorem dMO_link_20 : decode cMO_link 20 = .ok (.ireturn, 1) := by decide +kernel
theorem dMO_link_21 : decode cMO_link 21 = .ok (.aload_n 0, 1) := by decide +kernel
theorem dMO_link_22 : decode cMO_link 22 = .ok (.getfield 46, 3) := by decide +kernel
theorem dMO_link_25 : decode cMO_link 25 = .ok (.bipush 6, 2) := by decide +kernel
theorem dMO_link_27 : decode cMO_link 27 = .ok (.iload_n 1, 1) := by decide +kernel
theorem dMO_link_28 : decode cMO_link 28 = .ok (.imul, 1) := by decide +kernel
theorem dMO_link_29 : decode cMO_link 29 = .ok (.iload_n 2, 1) := by decide +kernel
theorem dMO_link_30 : decode cMO_link 30 = .ok (.iadd, 1) := by decide +kernel
theorem dMO_link_31 : decode cMO_link 31 = .ok (.baload, 1) := by decide +kernel
theorem dMO_link_32 : decode cMO_link 32 = .ok (.iload_n 3, 1) := by decide +kernel
theorem dMO_link_33 : decode cMO_link 33 = .ok (.if_icmp .ne 5, 3) := by decide +kernel
theorem dMO_link_36 : decode cMO_link 36 = .ok (.iconst 0, 1) := by decide +kernel
theorem dMO_link_37 : decode cMO_link 37 = .ok (.ireturn, 1) := by decide +kernel
theorem dMO_link_38 : decode cMO_link 38 = .ok (.aload_n 0, 1) := by decide +kernel
theorem dMO_link_39 : decode cMO_link 39 = .ok (.getfield 46, 3) := by decide +kernel
theorem dMO_link_42 : decode cMO_link 42 = .ok (.bipush 6, 2) := by decide +kernel
theorem dMO_link_44 : decode cMO_link 44 = .ok (.iload_n 1, 1) := by decide +kernel
theorem dMO_link_45 : decode cMO_link 45 = .ok (.imul, 1) := by decide +kernel
theorem dMO_link_46 : decode cMO_link 46 = .ok (.iload_n 2, 1) := by decide +kernel
theorem dMO_link_47 : decode cMO_link 47 = .ok (.iadd, 1) := by decide +kernel
theorem dMO_link_48 : decode cMO_link 48 = .ok (.iload_n 3, 1) := by decide +kernel
theorem dMO_link_49 : decode cMO_link 49 = .ok (.bastore, 1) := by decide +kernel
theorem dMO_link_50 : decode cMO_link 50 = .ok (.aload_n 0, 1) := by decide +kernel
theorem dMO_link_51 : decode cMO_link 51 = .ok (.invokevirtual 155, 3) := by decide +kernel
theorem dMO_link_54 : decode cMO_link 54 = .ok (.iconst 1, 1) := by decide +kernel
theorem dMO_link_55 : decode cMO_link 55 = .ok (.ireturn, 1) := by decide +kernel
theorem dMO_state_0 : decode cMO_state 0 = .ok (.aload_n 0, 1) := by decide +kernel
theorem dMO_state_1 : decode cMO_state 1 = .ok (.iconst 0, 1) := by decide +kernel
theorem dMO_state_2 : decode cMO_state 2 = .ok (.putfield 93, 3) := by decide +kernel
theorem dMO_state_5 : decode cMO_state 5 = .ok (.iload_n 1, 1) := by decide +kernel
theorem dMO_state_6 : decode cMO_state 6 = .ok (.invokestatic 174, 3) := by decide +kernel
theorem dMO_state_9 : decode cMO_state 9 = .ok (.ifCond .eq 13, 3) := by decide +kernel
theorem dMO_state_12 : decode cMO_state 12 = .ok (.iload_n 2, 1) := by decide +kernel
theorem dMO_state_13 : decode cMO_state 13 = .ok (.iconst (-1), 1) := by decide +kernel
theorem dMO_state_14 : decode cMO_state 14 = .ok (.if_icmp .lt 8, 3) := by decide +kernel
theorem dMO_state_17 : decode cMO_state 17 = .ok (.iload_n 2, 1) := by decide +kernel
theorem dMO_state_18 : decode cMO_state 18 = .ok (.iconst 5, 1) := by decide +kernel
theorem dMO_state_19 : decode cMO_state 19 = .ok (.if_icmp .le 5, 3) := by decide +kernel
theorem dMO_state_22 : decode cMO_state 22 = .ok (.iconst (-1), 1) := by decide +kernel
theorem dMO_state_23 : decode cMO_state 23 = .ok (.ireturn, 1) := by decide +kernel
theorem dMO_state_24 : decode cMO_state 24 = .ok (.iload_n 2, 1) := by decide +kernel
theorem dMO_state_25 : decode cMO_state 25 = .ok (.ifCond .ge 12, 3) := by decide +kernel
theorem dMO_state_28 : decode cMO_state 28 = .ok (.aload_n 0, 1) := by decide +kernel
theorem dMO_state_29 : decode cMO_state 29 = .ok (.getfield 43, 3) := by decide +kernel
theorem dMO_state_32 : decode cMO_state 32 = .ok (.iload_n 1, 1) := by decide +kernel
theorem dMO_state_33 : decode cMO_state 33 = .ok (.iaload, 1) := by decide +kernel
theorem dMO_state_34 : decode cMO_state 34 = .ok (.goto 22, 3) := by decide +kernel
theorem dMO_state_37 : decode cMO_state 37 = .ok (.aload_n 0, 1) := by decide +kernel
theorem dMO_state_38 : decode cMO_state 38 = .ok (.getfield 46, 3) := by decide +kernel
theorem dMO_state_41 : decode cMO_state 41 = .ok (.bipush 6, 2) := by decide +kernel
theorem dMO_state_43 : decode cMO_state 43 = .ok (.iload_n 1, 1) := by decide +kernel
theorem dMO_state_44 : decode cMO_state 44 = .ok (.imul, 1) := by decide +kernel
theorem dMO_state_45 : decode cMO_state 45 = .ok (.iload_n 2, 1) := by decide +kernel
theorem dMO_state_46 : decode cMO_state 46 = .ok (.iadd, 1) := by decide +kernel
theorem dMO_state_47 : decode cMO_state 47 = .ok (.baload, 1) := by decide +kernel
theorem dMO_state_48 : decode cMO_state 48 = .ok (.ifCond .eq 7, 3) := by decide +kernel
theorem dMO_state_51 : decode cMO_state 51 = .ok (.iconst 1, 1) := by decide +kernel
theorem dMO_state_52 : decode cMO_state 52 = .ok (.goto 4, 3) := by decide +kernel
theorem dMO_state_55 : decode cMO_state 55 = .ok (.iconst 0, 1) := by decide +kernel
theorem dMO_state_56 : decode cMO_state 56 = .ok (.ireturn, 1) := by decide +kernel
theorem dMO_endless_0 : decode cMO_endless 0 = .ok (.aload_n 0, 1) := by decide +kernel
theorem dMO_endless_1 : decode cMO_endless 1 = .ok (.iconst 0, 1) := by decide +kernel
theorem dMO_endless_2 : decode cMO_endless 2 = .ok (.putfield 93, 3) := by decide +kernel
theorem dMO_endless_5 : decode cMO_endless 5 = .ok (.iload_n 1, 1) := by decide +kernel
theorem dMO_endless_6 : decode cMO_endless 6 = .ok (.invokestatic 174, 3) := by decide +kernel
theorem dMO_endless_9 : decode cMO_endless 9 = .ok (.ifCond .ne 5, 3) := by decide +kernel
theorem dMO_endless_12 : decode cMO_endless 12 = .ok (.iconst 0, 1) := by decide +kernel
theorem dMO_endless_13 : decode cMO_endless 13 = .ok (.ireturn, 1) := by decide +kernel
theorem dMO_endless_14 : decode cMO_endless 14 = .ok (.bipush 63, 2) := by decide +kernel
theorem dMO_endless_16 : decode cMO_endless 16 = .ok (.istore_n 2, 1) := by decide +kernel
theorem dMO_endless_17 : decode cMO_endless 17 = .ok (.iconst 0, 1) := by decide +kernel
theorem dMO_endless_18 : decode cMO_endless 18 = .ok (.istore_n 3, 1) := by decide +kernel
theorem dMO_endless_19 : decode cMO_endless 19 = .ok (.iload_n 3, 1) := by decide +kernel
theorem dMO_endless_20 : decode cMO_endless 20 = .ok (.bipush 6, 2) := by decide +kernel
theorem dMO_endless_22 : decode cMO_endless 22 = .ok (.if_icmp .ge 89, 3) := by decide +kernel
theorem dMO_endless_25 : decode cMO_endless 25 = .ok (.iconst 0, 1) := by decide +kernel
theorem dMO_endless_26 : decode cMO_endless 26 = .ok (.istore 4, 2) := by decide +kernel
theorem dMO_endless_28 : decode cMO_endless 28 = .ok (.iconst 0, 1) := by decide +kernel
theorem dMO_endless_29 : decode cMO_endless 29 = .ok (.istore 5, 2) := by decide +kernel
theorem dMO_endless_31 : decode cMO_endless 31 = .ok (.iload 5, 2) := by decide +kernel
theorem dMO_endless_33 : decode cMO_endless 33 = .ok (.bipush 6, 2) := by decide +kernel
theorem dMO_endless_35 : decode cMO_endless 35 = .ok (.if_icmp .ge 65, 3) := by decide +kernel
theorem dMO_endless_38 : decode cMO_endless 38 = .ok (.iconst 0, 1) := by decide +kernel
theorem dMO_endless_39 : decode cMO_endless 39 = .ok (.istore 6, 2) := by decide +kernel
theorem dMO_endless_41 : decode cMO_endless 41 = .ok (.iload 6, 2) := by decide +kernel
theorem dMO_endless_43 : decode cMO_endless 43 = .ok (.bipush 6, 2) := by decide +kernel
theorem dMO_endless_45 : decode cMO_endless 45 = .ok (.if_icmp .ge 49, 3) := by decide +kernel
theorem dMO_endless_48 : decode cMO_endless 48 = .ok (.aload_n 0, 1) := by decide +kernel
theorem dMO_endless_49 : decode cMO_endless 49 = .ok (.getfield 46, 3) := by decide +kernel
theorem dMO_endless_52 : decode cMO_endless 52 = .ok (.bipush 6, 2) := by decide +kernel
theorem dMO_endless_54 : decode cMO_endless 54 = .ok (.iload 5, 2) := by decide +kernel
theorem dMO_endless_56 : decode cMO_endless 56 = .ok (.imul, 1) := by decide +kernel
theorem dMO_endless_57 : decode cMO_endless 57 = .ok (.iload 6, 2) := by decide +kernel
theorem dMO_endless_59 : decode cMO_endless 59 = .ok (.iadd, 1) := by decide +kernel
theorem dMO_endless_60 : decode cMO_endless 60 = .ok (.baload, 1) := by decide +kernel
theorem dMO_endless_61 : decode cMO_endless 61 = .ok (.ifCond .eq 23, 3) := by decide +kernel
theorem dMO_endless_64 : decode cMO_endless 64 = .ok (.iload_n 2, 1) := by decide +kernel
theorem dMO_endless_65 : decode cMO_endless 65 = .ok (.iload 6, 2) := by decide +kernel
theorem dMO_endless_67 : decode cMO_endless 67 = .ok (.ishr, 1) := by decide +kernel
theorem dMO_endless_68 : decode cMO_endless 68 = .ok (.iconst 1, 1) := by decide +kernel
theorem dMO_endless_69 : decode cMO_endless 69 = .ok (.iand, 1) := by decide +kernel
theorem dMO_endless_70 : decode cMO_endless 70 = .ok (.iconst 1, 1) := by decide +kernel
theorem dMO_endless_71 : decode cMO_endless 71 = .ok (.if_icmp .ne 13, 3) := by decide +kernel
theorem dMO_endless_74 : decode cMO_endless 74 = .ok (.iload 4, 2) := by decide +kernel
theorem dMO_endless_76 : decode cMO_endless 76 = .ok (.iconst 1, 1) := by decide +kernel
theorem dMO_endless_77 : decode cMO_endless 77 = .ok (.iload 5, 2) := by decide +kernel
theorem dMO_endless_79 : decode cMO_endless 79 = .ok (.ishl, 1) := by decide +kernel
theorem dMO_endless_80 : decode cMO_endless 80 = .ok (.ior, 1) := by decide +kernel
theorem dMO_endless_81 : decode cMO_endless 81 = .ok (.goto 5, 3) := by decide +kernel
theorem dMO_endless_84 : decode cMO_endless 84 = .ok (.iload 4, 2) := by decide +kernel
theorem dMO_endless_86 : decode cMO_endless 86 = .ok (.istore 4, 2) := by decide +kernel
theorem dMO_endless_88 : decode cMO_endless 88 = .ok (.iinc 6 1, 3) := by decide +kernel
theorem dMO_endless_91 : decode cMO_endless 91 = .ok (.goto (-50), 3) := by decide +kernel
theorem dMO_endless_94 : decode cMO_endless 94 = .ok (.iinc 5 1, 3) := by decide +kernel
theorem dMO_endless_97 : decode cMO_endless 97 = .ok (.goto (-66), 3) := by decide +kernel
theorem dMO_endless_100 : decode cMO_endless 100 = .ok (.iload_n 2, 1) := by decide +kernel
theorem dMO_endless_101 : decode cMO_endless 101 = .ok (.iload 4, 2) := by decide +kernel
theorem dMO_endless_103 : decode cMO_endless 103 = .ok (.iand, 1) := by decide +kernel
theorem dMO_endless_104 : decode cMO_endless 104 = .ok (.istore_n 2, 1) := by decide +kernel
theorem dMO_endless_105 : decode cMO_endless 105 = .ok (.iinc 3 1, 3) := by decide +kernel
theorem dMO_endless_108 : decode cMO_endless 108 = .ok (.goto (-89), 3) := by decide +kernel
theorem dMO_endless_111 : decode cMO_endless 111 = .ok (.iload_n 2, 1) := by decide +kernel
theorem dMO_endless_112 : decode cMO_endless 112 = .ok (.iload_n 1, 1) := by decide +kernel
theorem dMO_endless_113 : decode cMO_endless 113 = .ok (.ishr, 1) := by decide +kernel
theorem dMO_endless_114 : decode cMO_endless 114 = .ok (.iconst 1, 1) := by decide +kernel
theorem dMO_endless_115 : decode cMO_endless 115 = .ok (.iand, 1) := by decide +kernel
theorem dMO_endless_116 : decode cMO_endless 116 = .ok (.iconst 1, 1) := by decide +kernel
theorem dMO_endless_117 : decode cMO_endless 117 = .ok (.if_icmp .ne 7, 3) := by decide +kernel
theorem dMO_endless_120 : decode cMO_endless 120 = .ok (.iconst 1, 1) := by decide +kernel
theorem dMO_endless_121 : decode cMO_endless 121 = .ok (.goto 4, 3) := by decide +kernel
theorem dMO_endless_124 : decode cMO_endless 124 = .ok (.iconst 0, 1) := by decide +kernel
theorem dMO_endless_125 : decode cMO_endless 125 = .ok (.ireturn, 1) := by decide +kernel
theorem dMO_plain_0 : decode cMO_plain 0 = .ok (.aload_n 0, 1) := by decide +kernel
theorem dMO_plain_1 : decode cMO_plain 1 = .ok (.getfield 13, 3) := by decide +kernel
theorem dMO_plain_4 : decode cMO_plain 4 = .ok (.iload_n 1, 1) := by decide +kernel
theorem dMO_plain_5 : decode cMO_plain 5 = .ok (.iaload, 1) := by decide +kernel
theorem dMO_plain_6 : decode cMO_plain 6 = .ok (.istore_n 3, 1) := by decide +kernel
theorem dMO_plain_7 : decode cMO_plain 7 = .ok (.iload_n 3, 1) := by decide +kernel
theorem dMO_plain_8 : decode cMO_plain 8 = .ok (.invokestatic 127, 3) := by decide +kernel
theorem dMO_plain_11 : decode cMO_plain 11 = .ok (.ifCond .eq 38, 3) := by decide +kernel
theorem dMO_plain_14 : decode cMO_plain 14 = .ok (.iload_n 3, 1) := by decide +kernel
theorem dMO_plain_15 : decode cMO_plain 15 = .ok (.bipush 49, 2) := by decide +kernel
theorem dMO_plain_17 : decode cMO_plain 17 = .ok (.if_icmp .eq 26, 3) := by decide +kernel
theorem dMO_plain_20 : decode cMO_plain 20 = .ok (.iload_n 3, 1) := by decide +kernel
theorem dMO_plain_21 : decode cMO_plain 21 = .ok (.bipush 112, 2) := by decide +kernel
theorem dMO_plain_23 : decode cMO_plain 23 = .ok (.if_icmp .lt 24, 3) := by decide +kernel
theorem dMO_plain_26 : decode cMO_plain 26 = .ok (.aload_n 0, 1) := by decide +kernel
theorem dMO_plain_27 : decode cMO_plain 27 = .ok (.getfield 43, 3) := by decide +kernel
theorem dMO_plain_30 : decode cMO_plain 30 = .ok (.iload_n 2, 1) := by decide +kernel
theorem dMO_plain_31 : decode cMO_plain 31 = .ok (.iaload, 1) := by decide +kernel
theorem dMO_plain_32 : decode cMO_plain 32 = .ok (.iload_n 3, 1) := by decide +kernel
theorem dMO_plain_33 : decode cMO_plain 33 = .ok (.bipush 112, 2) := by decide +kernel
theorem dMO_plain_35 : decode cMO_plain 35 = .ok (.isub, 1) := by decide +kernel
theorem dMO_plain_36 : decode cMO_plain 36 = .ok (.ishr, 1) := by decide +kernel
theorem dMO_plain_37 : decode cMO_plain 37 = .ok (.iconst 1, 1) := by decide +kernel
theorem dMO_plain_38 : decode cMO_plain 38 = .ok (.iand, 1) := by decide +kernel
theorem dMO_plain_39 : decode cMO_plain 39 = .ok (.iconst 1, 1) := by decide +kernel
theorem dMO_plain_40 : decode cMO_plain 40 = .ok (.if_icmp .ne 7, 3) := by decide +kernel
theorem dMO_plain_43 : decode cMO_plain 43 = .ok (.iconst 1, 1) := by decide +kernel
theorem dMO_plain_44 : decode cMO_plain 44 = .ok (.goto 4, 3) := by decide +kernel
theorem dMO_plain_47 : decode cMO_plain 47 = .ok (.iconst 0, 1) := by decide +kernel
theorem dMO_plain_48 : decode cMO_plain 48 = .ok (.ireturn, 1) := by decide +kernel
theorem dMO_plain_49 : decode cMO_plain 49 = .ok (.aload_n 0, 1) := by decide +kernel
theorem dMO_plain_50 : decode cMO_plain 50 = .ok (.getfield 59, 3) := by decide +kernel
theorem dMO_plain_53 : decode cMO_plain 53 = .ok (.aload_n 0, 1) := by decide +kernel
theorem dMO_plain_54 : decode cMO_plain 54 = .ok (.getfield 16, 3) := by decide +kernel
theorem dMO_plain_57 : decode cMO_plain 57 = .ok (.iload_n 1, 1) := by decide +kernel
theorem dMO_plain_58 : decode cMO_plain 58 = .ok (.iaload, 1) := by decide +kernel
theorem dMO_plain_59 : decode cMO_plain 59 = .ok (.baload, 1) := by decide +kernel
theorem dMO_plain_60 : decode cMO_plain 60 = .ok (.istore 4, 2) := by decide +kernel
theorem dMO_plain_62 : decode cMO_plain 62 = .ok (.iload_n 3, 1) := by decide +kernel
theorem dMO_plain_63 : decode cMO_plain 63 = .ok (.bipush 33, 2) := by decide +kernel
theorem dMO_plain_65 : decode cMO_plain 65 = .ok (.if_icmp .ne 14, 3) := by decide +kernel
theorem dMO_plain_68 : decode cMO_plain 68 = .ok (.iload 4, 2) := by decide +kernel
theorem dMO_plain_70 : decode cMO_plain 70 = .ok (.ifCond .ne 7, 3) := by decide +kernel
theorem dMO_plain_73 : decode cMO_plain 73 = .ok (.iconst 1, 1) := by decide +kernel
theorem dMO_plain_74 : decode cMO_plain 74 = .ok (.goto 4, 3) := by decide +kernel
theorem dMO_plain_77 : decode cMO_plain 77 = .ok (.iconst 0, 1) := by decide +kernel
theorem dMO_plain_78 : decode cMO_plain 78 = .ok (.ireturn, 1) := by decide +kernel
theorem dMO_plain_79 : decode cMO_plain 79 = .ok (.aload_n 0, 1) := by decide +kernel
theorem dMO_plain_80 : decode cMO_plain 80 = .ok (.getfield 59, 3) := by decide +kernel
theorem dMO_plain_83 : decode cMO_plain 83 = .ok (.aload_n 0, 1) := by decide +kernel
theorem dMO_plain_84 : decode cMO_plain 84 = .ok (.getfield 19, 3) := by decide +kernel
theorem dMO_plain_87 : decode cMO_plain 87 = .ok (.iload_n 1, 1) := by decide +kernel
theorem dMO_plain_88 : decode cMO_plain 88 = .ok (.iaload, 1) := by decide +kernel
theorem dMO_plain_89 : decode cMO_plain 89 = .ok (.baload, 1) := by decide +kernel
theorem dMO_plain_90 : decode cMO_plain 90 = .ok (.istore 5, 2) := by decide +kernel
theorem dMO_plain_92 : decode cMO_plain 92 = .ok (.iload_n 3, 1) := by decide +kernel
theorem dMO_plain_93 : decode cMO_plain 93 = .ok (.bipush 38, 2) := by decide +kernel
theorem dMO_plain_95 : decode cMO_plain 95 = .ok (.if_icmp .ne 21, 3) := by decide +kernel
theorem dMO_plain_98 : decode cMO_plain 98 = .ok (.iload 4, 2) := by decide +kernel
theorem dMO_plain_100 : decode cMO_plain 100 = .ok (.ifCond .eq 12, 3) := by decide +kernel
theorem dMO_plain_103 : decode cMO_plain 103 = .ok (.iload 5, 2) := by decide +kernel
theorem dMO_plain_105 : decode cMO_plain 105 = .ok (.ifCond .eq 7, 3) := by decide +kernel
theorem dMO_plain_108 : decode cMO_plain 108 = .ok (.iconst 1, 1) := by decide +kernel
theorem dMO_plain_109 : decode cMO_plain 109 = .ok (.goto 46, 3) := by decide +kernel
theorem dMO_plain_112 : decode cMO_plain 112 = .ok (.iconst 0, 1) := by decide +kernel
theorem dMO_plain_113 : decode cMO_plain 113 = .ok (.goto 42, 3) := by decide +kernel
theorem dMO_plain_116 : decode cMO_plain 116 = .ok (.iload_n 3, 1) := by decide +kernel
theorem dMO_plain_117 : decode cMO_plain 117 = .ok (.bipush 124, 2) := by decide +kernel
theorem dMO_plain_119 : decode cMO_plain 119 = .ok (.if_icmp .ne 21, 3) := by decide +kernel
theorem dMO_plain_122 : decode cMO_plain 122 = .ok (.iload 4, 2) := by decide +kernel
theorem dMO_plain_124 : decode cMO_plain 124 = .ok (.ifCond .ne 8, 3) := by decide +kernel
theorem dMO_plain_127 : decode cMO_plain 127 = .ok (.iload 5, 2) := by decide +kernel
theorem dMO_plain_129 : decode cMO_plain 129 = .ok (.ifCond .eq 7, 3) := by decide +kernel
theorem dMO_plain_132 : decode cMO_plain 132 = .ok (.iconst 1, 1) := by decide +kernel
theorem dMO_plain_133 : decode cMO_plain 133 = .ok (.goto 22, 3) := by decide +kernel
theorem dMO_plain_136 : decode cMO_plain 136 = .ok (.iconst 0, 1) := by decide +kernel
theorem dMO_plain_137 : decode cMO_plain 137 = .ok (.goto 18, 3) := by decide +kernel
theorem dMO_plain_140 : decode cMO_plain 140 = .ok (.iload 4, 2) := by decide +kernel
theorem dMO_plain_142 : decode cMO_plain 142 = .ok (.ifCond .eq 8, 3) := by decide +kernel
theorem dMO_plain_145 : decode cMO_plain 145 = .ok (.iload 5, 2) := by decide +kernel
theorem dMO_plain_147 : decode cMO_plain 147 = .ok (.ifCond .eq 7, 3) := by decide +kernel
theorem dMO_plain_150 : decode cMO_plain 150 = .ok (.iconst 1, 1) := by decide +kernel
theorem dMO_plain_151 : decode cMO_plain 151 = .ok (.goto 4, 3) := by decide +kernel
theorem dMO_plain_154 : decode cMO_plain 154 = .ok (.iconst 0, 1) := by decide +kernel
theorem dMO_plain_155 : decode cMO_plain 155 = .ok (.ireturn, 1) := by decide +kernel
theorem dMO_evaluate_0 : decode cMO_evaluate 0 = .ok (.iconst 0, 1) := by decide +kernel
theorem dMO_evaluate_1 : decode cMO_evaluate 1 = .ok (.istore_n 3, 1) := by decide +kernel
theorem dMO_evaluate_2 : decode cMO_evaluate 2 = .ok (.iload_n 3, 1) := by decide +kernel
theorem dMO_evaluate_3 : decode cMO_evaluate 3 = .ok (.aload_n 0, 1) := by decide +kernel
theorem dMO_evaluate_4 : decode cMO_evaluate 4 = .ok (.getfield 145, 3) := by decide +kernel
theorem dMO_evaluate_7 : decode cMO_evaluate 7 = .ok (.if_icmp .ge 55, 3) := by decide +kernel
theorem dMO_evaluate_10 : decode cMO_evaluate 10 = .ok (.aload_n 0, 1) := by decide +kernel
theorem dMO_evaluate_11 : decode cMO_evaluate 11 = .ok (.getfield 59, 3) := by decide +kernel
theorem dMO_evaluate_14 : decode cMO_evaluate 14 = .ok (.iload_n 3, 1) := by decide +kernel
theorem dMO_evaluate_15 : decode cMO_evaluate 15 = .ok (.aload_n 0, 1) := by decide +kernel
theorem dMO_evaluate_16 : decode cMO_evaluate 16 = .ok (.getfield 13, 3) := by decide +kernel
theorem dMO_evaluate_19 : decode cMO_evaluate 19 = .ok (.iload_n 3, 1) := by decide +kernel
theorem dMO_evaluate_20 : decode cMO_evaluate 20 = .ok (.iaload, 1) := by decide +kernel
theorem dMO_evaluate_21 : decode cMO_evaluate 21 = .ok (.invokestatic 134, 3) := by decide +kernel
theorem dMO_evaluate_24 : decode cMO_evaluate 24 = .ok (.ifCond .eq 25, 3) := by decide +kernel
theorem dMO_evaluate_27 : decode cMO_evaluate 27 = .ok (.iload_n 2, 1) := by decide +kernel
theorem dMO_evaluate_28 : decode cMO_evaluate 28 = .ok (.aload_n 0, 1) := by decide +kernel
theorem dMO_evaluate_29 : decode cMO_evaluate 29 = .ok (.getfield 22, 3) := by decide +kernel
theorem dMO_evaluate_32 : decode cMO_evaluate 32 = .ok (.iload_n 3, 1) := by decide +kernel
theorem dMO_evaluate_33 : decode cMO_evaluate 33 = .ok (.iaload, 1) := by decide +kernel
theorem dMO_evaluate_34 : decode cMO_evaluate 34 = .ok (.ishr, 1) := by decide +kernel
theorem dMO_evaluate_35 : decode cMO_evaluate 35 = .ok (.iconst 1, 1) := by decide +kernel
theorem dMO_evaluate_36 : decode cMO_evaluate 36 = .ok (.iand, 1) := by decide +kernel
theorem dMO_evaluate_37 : decode cMO_evaluate 37 = .ok (.iconst 1, 1) := by decide +kernel
theorem dMO_evaluate_38 : decode cMO_evaluate 38 = .ok (.if_icmp .ne 7, 3) := by decide +kernel
theorem dMO_evaluate_41 : decode cMO_evaluate 41 = .ok (.iconst 1, 1) := by decide +kernel
theorem dMO_evaluate_42 : decode cMO_evaluate 42 = .ok (.goto 13, 3) := by decide +kernel
theorem dMO_evaluate_45 : decode cMO_evaluate 45 = .ok (.iconst 0, 1) := by decide +kernel
theorem dMO_evaluate_46 : decode cMO_evaluate 46 = .ok (.goto 9, 3) := by decide +kernel
theorem dMO_evaluate_49 : decode cMO_evaluate 49 = .ok (.aload_n 0, 1) := by decide +kernel
theorem dMO_evaluate_50 : decode cMO_evaluate 50 = .ok (.iload_n 3, 1) := by decide +kernel
theorem dMO_evaluate_51 : decode cMO_evaluate 51 = .ok (.iload_n 1, 1) := by decide +kernel
theorem dMO_evaluate_52 : decode cMO_evaluate 52 = .ok (.invokevirtual 177, 3) := by decide +kernel
theorem dMO_evaluate_55 : decode cMO_evaluate 55 = .ok (.bastore, 1) := by decide +kernel
theorem dMO_evaluate_56 : decode cMO_evaluate 56 = .ok (.iinc 3 1, 3) := by decide +kernel
theorem dMO_evaluate_59 : decode cMO_evaluate 59 = .ok (.goto (-57), 3) := by decide +kernel
theorem dMO_evaluate_62 : decode cMO_evaluate 62 = .ok (.return_, 1) := by decide +kernel
theorem dMO_decider_0 : decode cMO_decider 0 = .ok (.aload_n 0, 1) := by decide +kernel
theorem dMO_decider_1 : decode cMO_decider 1 = .ok (.getfield 19, 3) := by decide +kernel
theorem dMO_decider_4 : decode cMO_decider 4 = .ok (.iload_n 1, 1) := by decide +kernel
theorem dMO_decider_5 : decode cMO_decider 5 = .ok (.iaload, 1) := by decide +kernel
theorem dMO_decider_6 : decode cMO_decider 6 = .ok (.ifCond .ge 12, 3) := by decide +kernel
theorem dMO_decider_9 : decode cMO_decider 9 = .ok (.aload_n 0, 1) := by decide +kernel
theorem dMO_decider_10 : decode cMO_decider 10 = .ok (.getfield 16, 3) := by decide +kernel
theorem dMO_decider_13 : decode cMO_decider 13 = .ok (.iload_n 1, 1) := by decide +kernel
theorem dMO_decider_14 : decode cMO_decider 14 = .ok (.iaload, 1) := by decide +kernel
theorem dMO_decider_15 : decode cMO_decider 15 = .ok (.goto 9, 3) := by decide +kernel
theorem dMO_decider_18 : decode cMO_decider 18 = .ok (.aload_n 0, 1) := by decide +kernel
theorem dMO_decider_19 : decode cMO_decider 19 = .ok (.getfield 19, 3) := by decide +kernel
theorem dMO_decider_22 : decode cMO_decider 22 = .ok (.iload_n 1, 1) := by decide +kernel
theorem dMO_decider_23 : decode cMO_decider 23 = .ok (.iaload, 1) := by decide +kernel
theorem dMO_decider_24 : decode cMO_decider 24 = .ok (.ireturn, 1) := by decide +kernel
theorem dMO_bitsBefore_0 : decode cMO_bitsBefore 0 = .ok (.iconst 0, 1) := by decide +kernel
theorem dMO_bitsBefore_1 : decode cMO_bitsBefore 1 = .ok (.istore 4, 2) := by decide +kernel
theorem dMO_bitsBefore_3 : decode cMO_bitsBefore 3 = .ok (.iconst 0, 1) := by decide +kernel
theorem dMO_bitsBefore_4 : decode cMO_bitsBefore 4 = .ok (.istore 5, 2) := by decide +kernel
theorem dMO_bitsBefore_6 : decode cMO_bitsBefore 6 = .ok (.iload 5, 2) := by decide +kernel
theorem dMO_bitsBefore_8 : decode cMO_bitsBefore 8 = .ok (.aload_n 0, 1) := by decide +kernel
theorem dMO_bitsBefore_9 : decode cMO_bitsBefore 9 = .ok (.getfield 145, 3) := by decide +kernel
theorem dMO_bitsBefore_12 : decode cMO_bitsBefore 12 = .ok (.if_icmp .ge 234, 3) := by decide +kernel
theorem dMO_bitsBefore_15 : decode cMO_bitsBefore 15 = .ok (.aload_n 0, 1) := by decide +kernel
theorem dMO_bitsBefore_16 : decode cMO_bitsBefore 16 = .ok (.getfield 13, 3) := by decide +kernel
theorem dMO_bitsBefore_19 : decode cMO_bitsBefore 19 = .ok (.iload 5, 2) := by decide +kernel
theorem dMO_bitsBefore_21 : decode cMO_bitsBefore 21 = .ok (.iaload, 1) := by decide +kernel
theorem dMO_bitsBefore_22 : decode cMO_bitsBefore 22 = .ok (.istore 6, 2) := by decide +kernel
theorem dMO_bitsBefore_24 : decode cMO_bitsBefore 24 = .ok (.iload 6, 2) := by decide +kernel
theorem dMO_bitsBefore_26 : decode cMO_bitsBefore 26 = .ok (.invokestatic 134, 3) := by decide +kernel
theorem dMO_bitsBefore_29 : decode cMO_bitsBefore 29 = .ok (.ifCond .eq 197, 3) := by decide +kernel
theorem dMO_bitsBefore_32 : decode cMO_bitsBefore 32 = .ok (.aload_n 0, 1) := by decide +kernel
theorem dMO_bitsBefore_33 : decode cMO_bitsBefore 33 = .ok (.getfield 22, 3) := by decide +kernel
theorem dMO_bitsBefore_36 : decode cMO_bitsBefore 36 = .ok (.iload 5, 2) := by decide +kernel
theorem dMO_bitsBefore_38 : decode cMO_bitsBefore 38 = .ok (.iaload, 1) := by decide +kernel
theorem dMO_bitsBefore_39 : decode cMO_bitsBefore 39 = .ok (.istore 7, 2) := by decide +kernel
theorem dMO_bitsBefore_41 : decode cMO_bitsBefore 41 = .ok (.iload_n 2, 1) := by decide +kernel
theorem dMO_bitsBefore_42 : decode cMO_bitsBefore 42 = .ok (.iload 7, 2) := by decide +kernel
theorem dMO_bitsBefore_44 : decode cMO_bitsBefore 44 = .ok (.ishr, 1) := by decide +kernel
theorem dMO_bitsBefore_45 : decode cMO_bitsBefore 45 = .ok (.iconst 1, 1) := by decide +kernel
theorem dMO_bitsBefore_46 : decode cMO_bitsBefore 46 = .ok (.iand, 1) := by decide +kernel
theorem dMO_bitsBefore_47 : decode cMO_bitsBefore 47 = .ok (.iconst 1, 1) := by decide +kernel
theorem dMO_bitsBefore_48 : decode cMO_bitsBefore 48 = .ok (.if_icmp .ne 7, 3) := by decide +kernel
theorem dMO_bitsBefore_51 : decode cMO_bitsBefore 51 = .ok (.iconst 1, 1) := by decide +kernel
theorem dMO_bitsBefore_52 : decode cMO_bitsBefore 52 = .ok (.goto 4, 3) := by decide +kernel
theorem dMO_bitsBefore_55 : decode cMO_bitsBefore 55 = .ok (.iconst 0, 1) := by decide +kernel
theorem dMO_bitsBefore_56 : decode cMO_bitsBefore 56 = .ok (.istore 8, 2) := by decide +kernel
theorem dMO_bitsBefore_58 : decode cMO_bitsBefore 58 = .ok (.aload_n 0, 1) := by decide +kernel
theorem dMO_bitsBefore_59 : decode cMO_bitsBefore 59 = .ok (.getfield 59, 3) := by decide +kernel
theorem dMO_bitsBefore_62 : decode cMO_bitsBefore 62 = .ok (.aload_n 0, 1) := by decide +kernel
theorem dMO_bitsBefore_63 : decode cMO_bitsBefore 63 = .ok (.iload 5, 2) := by decide +kernel
theorem dMO_bitsBefore_65 : decode cMO_bitsBefore 65 = .ok (.invokevirtual 181, 3) := by decide +kernel
theorem dMO_bitsBefore_68 : decode cMO_bitsBefore 68 = .ok (.baload, 1) := by decide +kernel
theorem dMO_bitsBefore_69 : decode cMO_bitsBefore 69 = .ok (.istore 9, 2) := by decide +kernel
theorem dMO_bitsBefore_71 : decode cMO_bitsBefore 71 = .ok (.aload_n 0, 1) := by decide +kernel
theorem dMO_bitsBefore_72 : decode cMO_bitsBefore 72 = .ok (.getfield 19, 3) := by decide +kernel
theorem dMO_bitsBefore_75 : decode cMO_bitsBefore 75 = .ok (.iload 5, 2) := by decide +kernel
theorem dMO_bitsBefore_77 : decode cMO_bitsBefore 77 = .ok (.iaload, 1) := by decide +kernel
theorem dMO_bitsBefore_78 : decode cMO_bitsBefore 78 = .ok (.ifCond .ge 18, 3) := by decide +kernel
theorem dMO_bitsBefore_81 : decode cMO_bitsBefore 81 = .ok (.iload 6, 2) := by decide +kernel
theorem dMO_bitsBefore_83 : decode cMO_bitsBefore 83 = .ok (.bipush 70, 2) := by decide +kernel
theorem dMO_bitsBefore_85 : decode cMO_bitsBefore 85 = .ok (.if_icmp .ne 7, 3) := by decide +kernel
theorem dMO_bitsBefore_88 : decode cMO_bitsBefore 88 = .ok (.iconst 1, 1) := by decide +kernel
theorem dMO_bitsBefore_89 : decode cMO_bitsBefore 89 = .ok (.goto 19, 3) := by decide +kernel
theorem dMO_bitsBefore_92 : decode cMO_bitsBefore 92 = .ok (.iconst 0, 1) := by decide +kernel
theorem dMO_bitsBefore_93 : decode cMO_bitsBefore 93 = .ok (.goto 15, 3) := by decide +kernel
theorem dMO_bitsBefore_96 : decode cMO_bitsBefore 96 = .ok (.aload_n 0, 1) := by decide +kernel
theorem dMO_bitsBefore_97 : decode cMO_bitsBefore 97 = .ok (.getfield 59, 3) := by decide +kernel
theorem dMO_bitsBefore_100 : decode cMO_bitsBefore 100 = .ok (.aload_n 0, 1) := by decide +kernel
theorem dMO_bitsBefore_101 : decode cMO_bitsBefore 101 = .ok (.getfield 16, 3) := by decide +kernel
theorem dMO_bitsBefore_104 : decode cMO_bitsBefore 104 = .ok (.iload 5, 2) := by decide +kernel
theorem dMO_bitsBefore_106 : decode cMO_bitsBefore 106 = .ok (.iaload, 1) := by decide +kernel
theorem dMO_bitsBefore_107 : decode cMO_bitsBefore 107 = .ok (.baload, 1) := by decide +kernel
theorem dMO_bitsBefore_108 : decode cMO_bitsBefore 108 = .ok (.istore 10, 2) := by decide +kernel
theorem dMO_bitsBefore_110 : decode cMO_bitsBefore 110 = .ok (.aload_n 0, 1) := by decide +kernel
theorem dMO_bitsBefore_111 : decode cMO_bitsBefore 111 = .ok (.getfield 59, 3) := by decide +kernel
theorem dMO_bitsBefore_114 : decode cMO_bitsBefore 114 = .ok (.iload 5, 2) := by decide +kernel
theorem dMO_bitsBefore_116 : decode cMO_bitsBefore 116 = .ok (.iload 6, 2) := by decide +kernel
theorem dMO_bitsBefore_118 : decode cMO_bitsBefore 118 = .ok (.bipush 88, 2) := by decide +kernel
theorem dMO_bitsBefore_120 : decode cMO_bitsBefore 120 = .ok (.if_icmp .ne 21, 3) := by decide +kernel
theorem dMO_bitsBefore_123 : decode cMO_bitsBefore 123 = .ok (.iload_n 3, 1) := by decide +kernel
theorem dMO_bitsBefore_124 : decode cMO_bitsBefore 124 = .ok (.iload 7, 2) := by decide +kernel
theorem dMO_bitsBefore_126 : decode cMO_bitsBefore 126 = .ok (.ishr, 1) := by decide +kernel
theorem dMO_bitsBefore_127 : decode cMO_bitsBefore 127 = .ok (.iconst 1, 1) := by decide +kernel
theorem dMO_bitsBefore_128 : decode cMO_bitsBefore 128 = .ok (.iand, 1) := by decide +kernel
theorem dMO_bitsBefore_129 : decode cMO_bitsBefore 129 = .ok (.iconst 1, 1) := by decide +kernel
theorem dMO_bitsBefore_130 : decode cMO_bitsBefore 130 = .ok (.if_icmp .ne 7, 3) := by decide +kernel
theorem dMO_bitsBefore_133 : decode cMO_bitsBefore 133 = .ok (.iconst 1, 1) := by decide +kernel
theorem dMO_bitsBefore_134 : decode cMO_bitsBefore 134 = .ok (.goto 64, 3) := by decide +kernel
theorem dMO_bitsBefore_137 : decode cMO_bitsBefore 137 = .ok (.iconst 0, 1) := by decide +kernel
theorem dMO_bitsBefore_138 : decode cMO_bitsBefore 138 = .ok (.goto 60, 3) := by decide +kernel
theorem dMO_bitsBefore_141 : decode cMO_bitsBefore 141 = .ok (.iload 6, 2) := by decide +kernel
theorem dMO_bitsBefore_143 : decode cMO_bitsBefore 143 = .ok (.bipush 85, 2) := by decide +kernel
theorem dMO_bitsBefore_145 : decode cMO_bitsBefore 145 = .ok (.if_icmp .eq 10, 3) := by decide +kernel
theorem dMO_bitsBefore_148 : decode cMO_bitsBefore 148 = .ok (.iload 6, 2) := by decide +kernel
theorem dMO_bitsBefore_150 : decode cMO_bitsBefore 150 = .ok (.bipush 70, 2) := by decide +kernel
theorem dMO_bitsBefore_152 : decode cMO_bitsBefore 152 = .ok (.if_icmp .ne 26, 3) := by decide +kernel
theorem dMO_bitsBefore_155 : decode cMO_bitsBefore 155 = .ok (.iload 9, 2) := by decide +kernel
theorem dMO_bitsBefore_157 : decode cMO_bitsBefore 157 = .ok (.ifCond .ne 13, 3) := by decide +kernel
theorem dMO_bitsBefore_160 : decode cMO_bitsBefore 160 = .ok (.iload 10, 2) := by decide +kernel
theorem dMO_bitsBefore_162 : decode cMO_bitsBefore 162 = .ok (.ifCond .eq 12, 3) := by decide +kernel
theorem dMO_bitsBefore_165 : decode cMO_bitsBefore 165 = .ok (.iload 8, 2) := by decide +kernel
theorem dMO_bitsBefore_167 : decode cMO_bitsBefore 167 = .ok (.ifCond .eq 7, 3) := by decide +kernel
theorem dMO_bitsBefore_170 : decode cMO_bitsBefore 170 = .ok (.iconst 1, 1) := by decide +kernel
theorem dMO_bitsBefore_171 : decode cMO_bitsBefore 171 = .ok (.goto 27, 3) := by decide +kernel
theorem dMO_bitsBefore_174 : decode cMO_bitsBefore 174 = .ok (.iconst 0, 1) := by decide +kernel
theorem dMO_bitsBefore_175 : decode cMO_bitsBefore 175 = .ok (.goto 23, 3) := by decide +kernel
theorem dMO_bitsBefore_178 : decode cMO_bitsBefore 178 = .ok (.iload 9, 2) := by decide +kernel
theorem dMO_bitsBefore_180 : decode cMO_bitsBefore 180 = .ok (.ifCond .eq 17, 3) := by decide +kernel
theorem dMO_bitsBefore_183 : decode cMO_bitsBefore 183 = .ok (.iload 10, 2) := by decide +kernel
theorem dMO_bitsBefore_185 : decode cMO_bitsBefore 185 = .ok (.ifCond .ne 8, 3) := by decide +kernel
theorem dMO_bitsBefore_188 : decode cMO_bitsBefore 188 = .ok (.iload 8, 2) := by decide +kernel
theorem dMO_bitsBefore_190 : decode cMO_bitsBefore 190 = .ok (.ifCond .eq 7, 3) := by decide +kernel
theorem dMO_bitsBefore_193 : decode cMO_bitsBefore 193 = .ok (.iconst 1, 1) := by decide +kernel
theorem dMO_bitsBefore_194 : decode cMO_bitsBefore 194 = .ok (.goto 4, 3) := by decide +kernel
theorem dMO_bitsBefore_197 : decode cMO_bitsBefore 197 = .ok (.iconst 0, 1) := by decide +kernel
theorem dMO_bitsBefore_198 : decode cMO_bitsBefore 198 = .ok (.bastore, 1) := by decide +kernel
theorem dMO_bitsBefore_199 : decode cMO_bitsBefore 199 = .ok (.aload_n 0, 1) := by decide +kernel
theorem dMO_bitsBefore_200 : decode cMO_bitsBefore 200 = .ok (.getfield 59, 3) := by decide +kernel
theorem dMO_bitsBefore_203 : decode cMO_bitsBefore 203 = .ok (.iload 5, 2) := by decide +kernel
theorem dMO_bitsBefore_205 : decode cMO_bitsBefore 205 = .ok (.baload, 1) := by decide +kernel
theorem dMO_bitsBefore_206 : decode cMO_bitsBefore 206 = .ok (.ifCond .eq 13, 3) := by decide +kernel
theorem dMO_bitsBefore_209 : decode cMO_bitsBefore 209 = .ok (.iload 4, 2) := by decide +kernel
theorem dMO_bitsBefore_211 : decode cMO_bitsBefore 211 = .ok (.iconst 1, 1) := by decide +kernel
theorem dMO_bitsBefore_212 : decode cMO_bitsBefore 212 = .ok (.iload 7, 2) := by decide +kernel
theorem dMO_bitsBefore_214 : decode cMO_bitsBefore 214 = .ok (.ishl, 1) := by decide +kernel
theorem dMO_bitsBefore_215 : decode cMO_bitsBefore 215 = .ok (.ior, 1) := by decide +kernel
theorem dMO_bitsBefore_216 : decode cMO_bitsBefore 216 = .ok (.goto 5, 3) := by decide +kernel
theorem dMO_bitsBefore_219 : decode cMO_bitsBefore 219 = .ok (.iload 4, 2) := by decide +kernel
theorem dMO_bitsBefore_221 : decode cMO_bitsBefore 221 = .ok (.istore 4, 2) := by decide +kernel
theorem dMO_bitsBefore_223 : decode cMO_bitsBefore 223 = .ok (.goto 17, 3) := by decide +kernel
theorem dMO_bitsBefore_226 : decode cMO_bitsBefore 226 = .ok (.aload_n 0, 1) := by decide +kernel
theorem dMO_bitsBefore_227 : decode cMO_bitsBefore 227 = .ok (.getfield 59, 3) := by decide +kernel
theorem dMO_bitsBefore_230 : decode cMO_bitsBefore 230 = .ok (.iload 5, 2) := by decide +kernel
theorem dMO_bitsBefore_232 : decode cMO_bitsBefore 232 = .ok (.aload_n 0, 1) := by decide +kernel
theorem dMO_bitsBefore_233 : decode cMO_bitsBefore 233 = .ok (.iload 5, 2) := by decide +kernel
theorem dMO_bitsBefore_235 : decode cMO_bitsBefore 235 = .ok (.iload_n 1, 1) := by decide +kernel
theorem dMO_bitsBefore_236 : decode cMO_bitsBefore 236 = .ok (.invokevirtual 177, 3) := by decide +kernel
theorem dMO_bitsBefore_239 : decode cMO_bitsBefore 239 = .ok (.bastore, 1) := by decide +kernel
theorem dMO_bitsBefore_240 : decode cMO_bitsBefore 240 = .ok (.iinc 5 1, 3) := by decide +kernel
theorem dMO_bitsBefore_243 : decode cMO_bitsBefore 243 = .ok (.goto (-237), 3) := by decide +kernel
theorem dMO_bitsBefore_246 : decode cMO_bitsBefore 246 = .ok (.iload 4, 2) := by decide +kernel
theorem dMO_bitsBefore_248 : decode cMO_bitsBefore 248 = .ok (.ireturn, 1) := by decide +kernel
theorem dMO_tables_0 : decode cMO_tables 0 = .ok (.iconst 1, 1) := by decide +kernel
theorem dMO_tables_1 : decode cMO_tables 1 = .ok (.aload_n 0, 1) := by decide +kernel
theorem dMO_tables_2 : decode cMO_tables 2 = .ok (.getfield 148, 3) := by decide +kernel
theorem dMO_tables_5 : decode cMO_tables 5 = .ok (.ishl, 1) := by decide +kernel
theorem dMO_tables_6 : decode cMO_tables 6 = .ok (.istore_n 1, 1) := by decide +kernel
theorem dMO_tables_7 : decode cMO_tables 7 = .ok (.iconst 0, 1) := by decide +kernel
theorem dMO_tables_8 : decode cMO_tables 8 = .ok (.istore_n 2, 1) := by decide +kernel
theorem dMO_tables_9 : decode cMO_tables 9 = .ok (.iload_n 2, 1) := by decide +kernel
theorem dMO_tables_10 : decode cMO_tables 10 = .ok (.bipush 36, 2) := by decide +kernel
theorem dMO_tables_12 : decode cMO_tables 12 = .ok (.if_icmp .ge 16, 3) := by decide +kernel
theorem dMO_tables_15 : decode cMO_tables 15 = .ok (.aload_n 0, 1) := by decide +kernel
theorem dMO_tables_16 : decode cMO_tables 16 = .ok (.getfield 75, 3) := by decide +kernel
theorem dMO_tables_19 : decode cMO_tables 19 = .ok (.iload_n 2, 1) := by decide +kernel
theorem dMO_tables_20 : decode cMO_tables 20 = .ok (.lconst 0, 1) := by decide +kernel
theorem dMO_tables_21 : decode cMO_tables 21 = .ok (.lastore, 1) := by decide +kernel
theorem dMO_tables_22 : decode cMO_tables 22 = .ok (.iinc 2 1, 3) := by decide +kernel
theorem dMO_tables_25 : decode cMO_tables 25 = .ok (.goto (-16), 3) := by decide +kernel
theorem dMO_tables_28 : decode cMO_tables 28 = .ok (.iconst 0, 1) := by decide +kernel
theorem dMO_tables_29 : decode cMO_tables 29 = .ok (.istore_n 2, 1) := by decide +kernel
theorem dMO_tables_30 : decode cMO_tables 30 = .ok (.iload_n 2, 1) := by decide +kernel
theorem dMO_tables_31 : decode cMO_tables 31 = .ok (.bipush 6, 2) := by decide +kernel
theorem dMO_tables_33 : decode cMO_tables 33 = .ok (.if_icmp .ge 288, 3) := by decide +kernel
theorem dMO_tables_36 : decode cMO_tables 36 = .ok (.iconst 0, 1) := by decide +kernel
theorem dMO_tables_37 : decode cMO_tables 37 = .ok (.istore_n 3, 1) := by decide +kernel
theorem dMO_tables_38 : decode cMO_tables 38 = .ok (.iload_n 3, 1) := by decide +kernel
theorem dMO_tables_39 : decode cMO_tables 39 = .ok (.iload_n 1, 1) := by decide +kernel
theorem dMO_tables_40 : decode cMO_tables 40 = .ok (.if_icmp .ge 275, 3) := by decide +kernel
theorem dMO_tables_43 : decode cMO_tables 43 = .ok (.aload_n 0, 1) := by decide +kernel
theorem dMO_tables_44 : decode cMO_tables 44 = .ok (.iload_n 2, 1) := by decide +kernel
theorem dMO_tables_45 : decode cMO_tables 45 = .ok (.iload_n 3, 1) := by decide +kernel
theorem dMO_tables_46 : decode cMO_tables 46 = .ok (.invokevirtual 184, 3) := by decide +kernel
theorem dMO_tables_49 : decode cMO_tables 49 = .ok (.aload_n 0, 1) := by decide +kernel
