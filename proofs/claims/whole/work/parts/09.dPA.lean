theorem dPA_init_0 : decode cPA_init 0 = .ok (.aload_n 0, 1) := by decide +kernel
theorem dPA_init_1 : decode cPA_init 1 = .ok (.invokespecial 3, 3) := by decide +kernel
theorem dPA_init_4 : decode cPA_init 4 = .ok (.aload_n 0, 1) := by decide +kernel
theorem dPA_init_5 : decode cPA_init 5 = .ok (.bipush 37, 2) := by decide +kernel
theorem dPA_init_7 : decode cPA_init 7 = .ok (.newarray .int, 2) := by decide +kernel
theorem dPA_init_9 : decode cPA_init 9 = .ok (.putfield 9, 3) := by decide +kernel
theorem dPA_init_12 : decode cPA_init 12 = .ok (.aload_n 0, 1) := by decide +kernel
theorem dPA_init_13 : decode cPA_init 13 = .ok (.iload_n 1, 1) := by decide +kernel
theorem dPA_init_14 : decode cPA_init 14 = .ok (.newarray .int, 2) := by decide +kernel
theorem dPA_init_16 : decode cPA_init 16 = .ok (.putfield 15, 3) := by decide +kernel
theorem dPA_init_19 : decode cPA_init 19 = .ok (.return_, 1) := by decide +kernel
theorem dPA_hasPlace_0 : decode cPA_hasPlace 0 = .ok (.iload_n 1, 1) := by decide +kernel
theorem dPA_hasPlace_1 : decode cPA_hasPlace 1 = .ok (.ifCond .lt 15, 3) := by decide +kernel
theorem dPA_hasPlace_4 : decode cPA_hasPlace 4 = .ok (.iload_n 1, 1) := by decide +kernel
theorem dPA_hasPlace_5 : decode cPA_hasPlace 5 = .ok (.aload_n 0, 1) := by decide +kernel
theorem dPA_hasPlace_6 : decode cPA_hasPlace 6 = .ok (.getfield 18, 3) := by decide +kernel
theorem dPA_hasPlace_9 : decode cPA_hasPlace 9 = .ok (.if_icmp .ge 7, 3) := by decide +kernel
theorem dPA_hasPlace_12 : decode cPA_hasPlace 12 = .ok (.iconst 1, 1) := by decide +kernel
theorem dPA_hasPlace_13 : decode cPA_hasPlace 13 = .ok (.goto 4, 3) := by decide +kernel
theorem dPA_hasPlace_16 : decode cPA_hasPlace 16 = .ok (.iconst 0, 1) := by decide +kernel
theorem dPA_hasPlace_17 : decode cPA_hasPlace 17 = .ok (.ireturn, 1) := by decide +kernel
theorem dPA_isLinked_0 : decode cPA_isLinked 0 = .ok (.iconst 0, 1) := by decide +kernel
theorem dPA_isLinked_1 : decode cPA_isLinked 1 = .ok (.istore_n 3, 1) := by decide +kernel
theorem dPA_isLinked_2 : decode cPA_isLinked 2 = .ok (.iload_n 3, 1) := by decide +kernel
theorem dPA_isLinked_3 : decode cPA_isLinked 3 = .ok (.aload_n 0, 1) := by decide +kernel
theorem dPA_isLinked_4 : decode cPA_isLinked 4 = .ok (.getfield 18, 3) := by decide +kernel
theorem dPA_isLinked_7 : decode cPA_isLinked 7 = .ok (.if_icmp .ge 50, 3) := by decide +kernel
theorem dPA_isLinked_10 : decode cPA_isLinked 10 = .ok (.iload_n 3, 1) := by decide +kernel
theorem dPA_isLinked_11 : decode cPA_isLinked 11 = .ok (.iconst 1, 1) := by decide +kernel
theorem dPA_isLinked_12 : decode cPA_isLinked 12 = .ok (.iadd, 1) := by decide +kernel
theorem dPA_isLinked_13 : decode cPA_isLinked 13 = .ok (.aload_n 0, 1) := by decide +kernel
theorem dPA_isLinked_14 : decode cPA_isLinked 14 = .ok (.getfield 18, 3) := by decide +kernel
theorem dPA_isLinked_17 : decode cPA_isLinked 17 = .ok (.if_icmp .ge 9, 3) := by decide +kernel
theorem dPA_isLinked_20 : decode cPA_isLinked 20 = .ok (.iload_n 3, 1) := by decide +kernel
theorem dPA_isLinked_21 : decode cPA_isLinked 21 = .ok (.iconst 1, 1) := by decide +kernel
theorem dPA_isLinked_22 : decode cPA_isLinked 22 = .ok (.iadd, 1) := by decide +kernel
theorem dPA_isLinked_23 : decode cPA_isLinked 23 = .ok (.goto 4, 3) := by decide +kernel
theorem dPA_isLinked_26 : decode cPA_isLinked 26 = .ok (.iload_n 2, 1) := by decide +kernel
theorem dPA_isLinked_27 : decode cPA_isLinked 27 = .ok (.istore 4, 2) := by decide +kernel
theorem dPA_isLinked_29 : decode cPA_isLinked 29 = .ok (.aload_n 1, 1) := by decide +kernel
theorem dPA_isLinked_30 : decode cPA_isLinked 30 = .ok (.aload_n 0, 1) := by decide +kernel
theorem dPA_isLinked_31 : decode cPA_isLinked 31 = .ok (.getfield 15, 3) := by decide +kernel
theorem dPA_isLinked_34 : decode cPA_isLinked 34 = .ok (.iload_n 3, 1) := by decide +kernel
theorem dPA_isLinked_35 : decode cPA_isLinked 35 = .ok (.iaload, 1) := by decide +kernel
theorem dPA_isLinked_36 : decode cPA_isLinked 36 = .ok (.aload_n 0, 1) := by decide +kernel
theorem dPA_isLinked_37 : decode cPA_isLinked 37 = .ok (.getfield 15, 3) := by decide +kernel
theorem dPA_isLinked_40 : decode cPA_isLinked 40 = .ok (.iload 4, 2) := by decide +kernel
theorem dPA_isLinked_42 : decode cPA_isLinked 42 = .ok (.iaload, 1) := by decide +kernel
theorem dPA_isLinked_43 : decode cPA_isLinked 43 = .ok (.invokevirtual 22, 3) := by decide +kernel
theorem dPA_isLinked_46 : decode cPA_isLinked 46 = .ok (.ifCond .ne 5, 3) := by decide +kernel
theorem dPA_isLinked_49 : decode cPA_isLinked 49 = .ok (.iconst 0, 1) := by decide +kernel
theorem dPA_isLinked_50 : decode cPA_isLinked 50 = .ok (.ireturn, 1) := by decide +kernel
theorem dPA_isLinked_51 : decode cPA_isLinked 51 = .ok (.iinc 3 1, 3) := by decide +kernel
theorem dPA_isLinked_54 : decode cPA_isLinked 54 = .ok (.goto (-52), 3) := by decide +kernel
theorem dPA_isLinked_57 : decode cPA_isLinked 57 = .ok (.iconst 1, 1) := by decide +kernel
theorem dPA_isLinked_58 : decode cPA_isLinked 58 = .ok (.ireturn, 1) := by decide +kernel
theorem dPA_placesOf_0 : decode cPA_placesOf 0 = .ok (.aload_n 1, 1) := by decide +kernel
theorem dPA_placesOf_1 : decode cPA_placesOf 1 = .ok (.getfield 28, 3) := by decide +kernel
theorem dPA_placesOf_4 : decode cPA_placesOf 4 = .ok (.iconst 1, 1) := by decide +kernel
theorem dPA_placesOf_5 : decode cPA_placesOf 5 = .ok (.isub, 1) := by decide +kernel
theorem dPA_placesOf_6 : decode cPA_placesOf 6 = .ok (.istore 4, 2) := by decide +kernel
theorem dPA_placesOf_8 : decode cPA_placesOf 8 = .ok (.iload 4, 2) := by decide +kernel
theorem dPA_placesOf_10 : decode cPA_placesOf 10 = .ok (.ifCond .lt 228, 3) := by decide +kernel
theorem dPA_placesOf_13 : decode cPA_placesOf 13 = .ok (.aload_n 1, 1) := by decide +kernel
theorem dPA_placesOf_14 : decode cPA_placesOf 14 = .ok (.getfield 33, 3) := by decide +kernel
theorem dPA_placesOf_17 : decode cPA_placesOf 17 = .ok (.iload 4, 2) := by decide +kernel
theorem dPA_placesOf_19 : decode cPA_placesOf 19 = .ok (.caload, 1) := by decide +kernel
theorem dPA_placesOf_20 : decode cPA_placesOf 20 = .ok (.istore 5, 2) := by decide +kernel
theorem dPA_placesOf_22 : decode cPA_placesOf 22 = .ok (.iload 4, 2) := by decide +kernel
theorem dPA_placesOf_24 : decode cPA_placesOf 24 = .ok (.iconst 1, 1) := by decide +kernel
theorem dPA_placesOf_25 : decode cPA_placesOf 25 = .ok (.iadd, 1) := by decide +kernel
theorem dPA_placesOf_26 : decode cPA_placesOf 26 = .ok (.istore 6, 2) := by decide +kernel
theorem dPA_placesOf_28 : decode cPA_placesOf 28 = .ok (.aload_n 1, 1) := by decide +kernel
theorem dPA_placesOf_29 : decode cPA_placesOf 29 = .ok (.getfield 37, 3) := by decide +kernel
theorem dPA_placesOf_32 : decode cPA_placesOf 32 = .ok (.iload 4, 2) := by decide +kernel
theorem dPA_placesOf_34 : decode cPA_placesOf 34 = .ok (.iaload, 1) := by decide +kernel
theorem dPA_placesOf_35 : decode cPA_placesOf 35 = .ok (.istore 7, 2) := by decide +kernel
theorem dPA_placesOf_37 : decode cPA_placesOf 37 = .ok (.iload 5, 2) := by decide +kernel
theorem dPA_placesOf_39 : decode cPA_placesOf 39 = .ok (.lookupswitch 179 #[(38, 49), (82, 150), (85, 121), (88, 99), (124, 74)], 49) := by decide +kernel
theorem dPA_placesOf_88 : decode cPA_placesOf 88 = .ok (.aload_n 0, 1) := by decide +kernel
theorem dPA_placesOf_89 : decode cPA_placesOf 89 = .ok (.getfield 9, 3) := by decide +kernel
theorem dPA_placesOf_92 : decode cPA_placesOf 92 = .ok (.iload 4, 2) := by decide +kernel
theorem dPA_placesOf_94 : decode cPA_placesOf 94 = .ok (.aload_n 0, 1) := by decide +kernel
theorem dPA_placesOf_95 : decode cPA_placesOf 95 = .ok (.getfield 9, 3) := by decide +kernel
theorem dPA_placesOf_98 : decode cPA_placesOf 98 = .ok (.iload 6, 2) := by decide +kernel
theorem dPA_placesOf_100 : decode cPA_placesOf 100 = .ok (.iaload, 1) := by decide +kernel
theorem dPA_placesOf_101 : decode cPA_placesOf 101 = .ok (.aload_n 0, 1) := by decide +kernel
theorem dPA_placesOf_102 : decode cPA_placesOf 102 = .ok (.getfield 9, 3) := by decide +kernel
theorem dPA_placesOf_105 : decode cPA_placesOf 105 = .ok (.iload 7, 2) := by decide +kernel
theorem dPA_placesOf_107 : decode cPA_placesOf 107 = .ok (.iaload, 1) := by decide +kernel
theorem dPA_placesOf_108 : decode cPA_placesOf 108 = .ok (.iand, 1) := by decide +kernel
theorem dPA_placesOf_109 : decode cPA_placesOf 109 = .ok (.iastore, 1) := by decide +kernel
theorem dPA_placesOf_110 : decode cPA_placesOf 110 = .ok (.goto 122, 3) := by decide +kernel
theorem dPA_placesOf_113 : decode cPA_placesOf 113 = .ok (.aload_n 0, 1) := by decide +kernel
theorem dPA_placesOf_114 : decode cPA_placesOf 114 = .ok (.getfield 9, 3) := by decide +kernel
theorem dPA_placesOf_117 : decode cPA_placesOf 117 = .ok (.iload 4, 2) := by decide +kernel
theorem dPA_placesOf_119 : decode cPA_placesOf 119 = .ok (.aload_n 0, 1) := by decide +kernel
theorem dPA_placesOf_120 : decode cPA_placesOf 120 = .ok (.getfield 9, 3) := by decide +kernel
theorem dPA_placesOf_123 : decode cPA_placesOf 123 = .ok (.iload 6, 2) := by decide +kernel
theorem dPA_placesOf_125 : decode cPA_placesOf 125 = .ok (.iaload, 1) := by decide +kernel
theorem dPA_placesOf_126 : decode cPA_placesOf 126 = .ok (.aload_n 0, 1) := by decide +kernel
theorem dPA_placesOf_127 : decode cPA_placesOf 127 = .ok (.getfield 9, 3) := by decide +kernel
theorem dPA_placesOf_130 : decode cPA_placesOf 130 = .ok (.iload 7, 2) := by decide +kernel
theorem dPA_placesOf_132 : decode cPA_placesOf 132 = .ok (.iaload, 1) := by decide +kernel
theorem dPA_placesOf_133 : decode cPA_placesOf 133 = .ok (.ior, 1) := by decide +kernel
theorem dPA_placesOf_134 : decode cPA_placesOf 134 = .ok (.iastore, 1) := by decide +kernel
theorem dPA_placesOf_135 : decode cPA_placesOf 135 = .ok (.goto 97, 3) := by decide +kernel
theorem dPA_placesOf_138 : decode cPA_placesOf 138 = .ok (.aload_n 0, 1) := by decide +kernel
theorem dPA_placesOf_139 : decode cPA_placesOf 139 = .ok (.getfield 9, 3) := by decide +kernel
theorem dPA_placesOf_142 : decode cPA_placesOf 142 = .ok (.iload 4, 2) := by decide +kernel
theorem dPA_placesOf_144 : decode cPA_placesOf 144 = .ok (.aload_n 0, 1) := by decide +kernel
theorem dPA_placesOf_145 : decode cPA_placesOf 145 = .ok (.aload_n 0, 1) := by decide +kernel
theorem dPA_placesOf_146 : decode cPA_placesOf 146 = .ok (.getfield 9, 3) := by decide +kernel
theorem dPA_placesOf_149 : decode cPA_placesOf 149 = .ok (.iload 6, 2) := by decide +kernel
theorem dPA_placesOf_151 : decode cPA_placesOf 151 = .ok (.iaload, 1) := by decide +kernel
theorem dPA_placesOf_152 : decode cPA_placesOf 152 = .ok (.iload_n 3, 1) := by decide +kernel
theorem dPA_placesOf_153 : decode cPA_placesOf 153 = .ok (.invokevirtual 40, 3) := by decide +kernel
theorem dPA_placesOf_156 : decode cPA_placesOf 156 = .ok (.iastore, 1) := by decide +kernel
theorem dPA_placesOf_157 : decode cPA_placesOf 157 = .ok (.goto 75, 3) := by decide +kernel
theorem dPA_placesOf_160 : decode cPA_placesOf 160 = .ok (.aload_n 0, 1) := by decide +kernel
theorem dPA_placesOf_161 : decode cPA_placesOf 161 = .ok (.getfield 9, 3) := by decide +kernel
theorem dPA_placesOf_164 : decode cPA_placesOf 164 = .ok (.iload 4, 2) := by decide +kernel
theorem dPA_placesOf_166 : decode cPA_placesOf 166 = .ok (.aload_n 0, 1) := by decide +kernel
theorem dPA_placesOf_167 : decode cPA_placesOf 167 = .ok (.aload_n 0, 1) := by decide +kernel
theorem dPA_placesOf_168 : decode cPA_placesOf 168 = .ok (.getfield 9, 3) := by decide +kernel
theorem dPA_placesOf_171 : decode cPA_placesOf 171 = .ok (.iload 6, 2) := by decide +kernel
theorem dPA_placesOf_173 : decode cPA_placesOf 173 = .ok (.iaload, 1) := by decide +kernel
theorem dPA_placesOf_174 : decode cPA_placesOf 174 = .ok (.aload_n 0, 1) := by decide +kernel
theorem dPA_placesOf_175 : decode cPA_placesOf 175 = .ok (.getfield 9, 3) := by decide +kernel
theorem dPA_placesOf_178 : decode cPA_placesOf 178 = .ok (.iload 7, 2) := by decide +kernel
theorem dPA_placesOf_180 : decode cPA_placesOf 180 = .ok (.iaload, 1) := by decide +kernel
theorem dPA_placesOf_181 : decode cPA_placesOf 181 = .ok (.iload_n 3, 1) := by decide +kernel
theorem dPA_placesOf_182 : decode cPA_placesOf 182 = .ok (.invokevirtual 44, 3) := by decide +kernel
theorem dPA_placesOf_185 : decode cPA_placesOf 185 = .ok (.iastore, 1) := by decide +kernel
theorem dPA_placesOf_186 : decode cPA_placesOf 186 = .ok (.goto 46, 3) := by decide +kernel
theorem dPA_placesOf_189 : decode cPA_placesOf 189 = .ok (.aload_n 0, 1) := by decide +kernel
theorem dPA_placesOf_190 : decode cPA_placesOf 190 = .ok (.getfield 9, 3) := by decide +kernel
theorem dPA_placesOf_193 : decode cPA_placesOf 193 = .ok (.iload 4, 2) := by decide +kernel
theorem dPA_placesOf_195 : decode cPA_placesOf 195 = .ok (.aload_n 0, 1) := by decide +kernel
theorem dPA_placesOf_196 : decode cPA_placesOf 196 = .ok (.aload_n 0, 1) := by decide +kernel
theorem dPA_placesOf_197 : decode cPA_placesOf 197 = .ok (.getfield 9, 3) := by decide +kernel
theorem dPA_placesOf_200 : decode cPA_placesOf 200 = .ok (.iload 6, 2) := by decide +kernel
theorem dPA_placesOf_202 : decode cPA_placesOf 202 = .ok (.iaload, 1) := by decide +kernel
theorem dPA_placesOf_203 : decode cPA_placesOf 203 = .ok (.aload_n 0, 1) := by decide +kernel
theorem dPA_placesOf_204 : decode cPA_placesOf 204 = .ok (.getfield 9, 3) := by decide +kernel
theorem dPA_placesOf_207 : decode cPA_placesOf 207 = .ok (.iload 7, 2) := by decide +kernel
theorem dPA_placesOf_209 : decode cPA_placesOf 209 = .ok (.iaload, 1) := by decide +kernel
theorem dPA_placesOf_210 : decode cPA_placesOf 210 = .ok (.iload_n 3, 1) := by decide +kernel
theorem dPA_placesOf_211 : decode cPA_placesOf 211 = .ok (.invokevirtual 48, 3) := by decide +kernel
theorem dPA_placesOf_214 : decode cPA_placesOf 214 = .ok (.iastore, 1) := by decide +kernel
theorem dPA_placesOf_215 : decode cPA_placesOf 215 = .ok (.goto 17, 3) := by decide +kernel
theorem dPA_placesOf_218 : decode cPA_placesOf 218 = .ok (.aload_n 0, 1) := by decide +kernel
theorem dPA_placesOf_219 : decode cPA_placesOf 219 = .ok (.getfield 9, 3) := by decide +kernel
theorem dPA_placesOf_222 : decode cPA_placesOf 222 = .ok (.iload 4, 2) := by decide +kernel
theorem dPA_placesOf_224 : decode cPA_placesOf 224 = .ok (.aload_n 0, 1) := by decide +kernel
theorem dPA_placesOf_225 : decode cPA_placesOf 225 = .ok (.iload 5, 2) := by decide +kernel
theorem dPA_placesOf_227 : decode cPA_placesOf 227 = .ok (.aload_n 2, 1) := by decide +kernel
theorem dPA_placesOf_228 : decode cPA_placesOf 228 = .ok (.invokevirtual 51, 3) := by decide +kernel
theorem dPA_placesOf_231 : decode cPA_placesOf 231 = .ok (.iastore, 1) := by decide +kernel
theorem dPA_placesOf_232 : decode cPA_placesOf 232 = .ok (.iinc 4 (-1), 3) := by decide +kernel
theorem dPA_placesOf_235 : decode cPA_placesOf 235 = .ok (.goto (-227), 3) := by decide +kernel
theorem dPA_placesOf_238 : decode cPA_placesOf 238 = .ok (.aload_n 0, 1) := by decide +kernel
theorem dPA_placesOf_239 : decode cPA_placesOf 239 = .ok (.getfield 9, 3) := by decide +kernel
theorem dPA_placesOf_242 : decode cPA_placesOf 242 = .ok (.iconst 0, 1) := by decide +kernel
theorem dPA_placesOf_243 : decode cPA_placesOf 243 = .ok (.iaload, 1) := by decide +kernel
theorem dPA_placesOf_244 : decode cPA_placesOf 244 = .ok (.ireturn, 1) := by decide +kernel
theorem dPA_placesOfUntil_0 : decode cPA_placesOfUntil 0 = .ok (.iload_n 2, 1) := by decide +kernel
theorem dPA_placesOfUntil_1 : decode cPA_placesOfUntil 1 = .ok (.istore 4, 2) := by decide +kernel
theorem dPA_placesOfUntil_3 : decode cPA_placesOfUntil 3 = .ok (.iconst 0, 1) := by decide +kernel
theorem dPA_placesOfUntil_4 : decode cPA_placesOfUntil 4 = .ok (.istore 5, 2) := by decide +kernel
theorem dPA_placesOfUntil_6 : decode cPA_placesOfUntil 6 = .ok (.iload 5, 2) := by decide +kernel
theorem dPA_placesOfUntil_8 : decode cPA_placesOfUntil 8 = .ok (.aload_n 0, 1) := by decide +kernel
theorem dPA_placesOfUntil_9 : decode cPA_placesOfUntil 9 = .ok (.getfield 18, 3) := by decide +kernel
theorem dPA_placesOfUntil_12 : decode cPA_placesOfUntil 12 = .ok (.if_icmp .ge 22, 3) := by decide +kernel
theorem dPA_placesOfUntil_15 : decode cPA_placesOfUntil 15 = .ok (.iload_n 2, 1) := by decide +kernel
theorem dPA_placesOfUntil_16 : decode cPA_placesOfUntil 16 = .ok (.iload_n 1, 1) := by decide +kernel
theorem dPA_placesOfUntil_17 : decode cPA_placesOfUntil 17 = .ok (.aload_n 0, 1) := by decide +kernel
theorem dPA_placesOfUntil_18 : decode cPA_placesOfUntil 18 = .ok (.iload 4, 2) := by decide +kernel
theorem dPA_placesOfUntil_20 : decode cPA_placesOfUntil 20 = .ok (.iload_n 3, 1) := by decide +kernel
theorem dPA_placesOfUntil_21 : decode cPA_placesOfUntil 21 = .ok (.invokevirtual 40, 3) := by decide +kernel
theorem dPA_placesOfUntil_24 : decode cPA_placesOfUntil 24 = .ok (.iand, 1) := by decide +kernel
theorem dPA_placesOfUntil_25 : decode cPA_placesOfUntil 25 = .ok (.ior, 1) := by decide +kernel
theorem dPA_placesOfUntil_26 : decode cPA_placesOfUntil 26 = .ok (.istore 4, 2) := by decide +kernel
theorem dPA_placesOfUntil_28 : decode cPA_placesOfUntil 28 = .ok (.iinc 5 1, 3) := by decide +kernel
theorem dPA_placesOfUntil_31 : decode cPA_placesOfUntil 31 = .ok (.goto (-25), 3) := by decide +kernel
theorem dPA_placesOfUntil_34 : decode cPA_placesOfUntil 34 = .ok (.iload 4, 2) := by decide +kernel
theorem dPA_placesOfUntil_36 : decode cPA_placesOfUntil 36 = .ok (.ireturn, 1) := by decide +kernel
theorem dPA_placesOfRelease_0 : decode cPA_placesOfRelease 0 = .ok (.iload_n 2, 1) := by decide +kernel
theorem dPA_placesOfRelease_1 : decode cPA_placesOfRelease 1 = .ok (.istore 4, 2) := by decide +kernel
theorem dPA_placesOfRelease_3 : decode cPA_placesOfRelease 3 = .ok (.iconst 0, 1) := by decide +kernel
theorem dPA_placesOfRelease_4 : decode cPA_placesOfRelease 4 = .ok (.istore 5, 2) := by decide +kernel
theorem dPA_placesOfRelease_6 : decode cPA_placesOfRelease 6 = .ok (.iload 5, 2) := by decide +kernel
theorem dPA_placesOfRelease_8 : decode cPA_placesOfRelease 8 = .ok (.aload_n 0, 1) := by decide +kernel
theorem dPA_placesOfRelease_9 : decode cPA_placesOfRelease 9 = .ok (.getfield 18, 3) := by decide +kernel
theorem dPA_placesOfRelease_12 : decode cPA_placesOfRelease 12 = .ok (.if_icmp .ge 22, 3) := by decide +kernel
theorem dPA_placesOfRelease_15 : decode cPA_placesOfRelease 15 = .ok (.iload_n 2, 1) := by decide +kernel
theorem dPA_placesOfRelease_16 : decode cPA_placesOfRelease 16 = .ok (.iload_n 1, 1) := by decide +kernel
theorem dPA_placesOfRelease_17 : decode cPA_placesOfRelease 17 = .ok (.aload_n 0, 1) := by decide +kernel
theorem dPA_placesOfRelease_18 : decode cPA_placesOfRelease 18 = .ok (.iload 4, 2) := by decide +kernel
theorem dPA_placesOfRelease_20 : decode cPA_placesOfRelease 20 = .ok (.iload_n 3, 1) := by decide +kernel
theorem dPA_placesOfRelease_21 : decode cPA_placesOfRelease 21 = .ok (.invokevirtual 40, 3) := by decide +kernel
theorem dPA_placesOfRelease_24 : decode cPA_placesOfRelease 24 = .ok (.ior, 1) := by decide +kernel
theorem dPA_placesOfRelease_25 : decode cPA_placesOfRelease 25 = .ok (.iand, 1) := by decide +kernel
theorem dPA_placesOfRelease_26 : decode cPA_placesOfRelease 26 = .ok (.istore 4, 2) := by decide +kernel
theorem dPA_placesOfRelease_28 : decode cPA_placesOfRelease 28 = .ok (.iinc 5 1, 3) := by decide +kernel
theorem dPA_placesOfRelease_31 : decode cPA_placesOfRelease 31 = .ok (.goto (-25), 3) := by decide +kernel
theorem dPA_placesOfRelease_34 : decode cPA_placesOfRelease 34 = .ok (.iload 4, 2) := by decide +kernel
theorem dPA_placesOfRelease_36 : decode cPA_placesOfRelease 36 = .ok (.ireturn, 1) := by decide +kernel
theorem dPA_placesBefore_0 : decode cPA_placesBefore 0 = .ok (.iload_n 1, 1) := by decide +kernel
theorem dPA_placesBefore_1 : decode cPA_placesBefore 1 = .ok (.iconst 1, 1) := by decide +kernel
theorem dPA_placesBefore_2 : decode cPA_placesBefore 2 = .ok (.iushr, 1) := by decide +kernel
theorem dPA_placesBefore_3 : decode cPA_placesBefore 3 = .ok (.iload_n 1, 1) := by decide +kernel
theorem dPA_placesBefore_4 : decode cPA_placesBefore 4 = .ok (.iload_n 2, 1) := by decide +kernel
theorem dPA_placesBefore_5 : decode cPA_placesBefore 5 = .ok (.iushr, 1) := by decide +kernel
theorem dPA_placesBefore_6 : decode cPA_placesBefore 6 = .ok (.iconst 1, 1) := by decide +kernel
theorem dPA_placesBefore_7 : decode cPA_placesBefore 7 = .ok (.iand, 1) := by decide +kernel
theorem dPA_placesBefore_8 : decode cPA_placesBefore 8 = .ok (.aload_n 0, 1) := by decide +kernel
theorem dPA_placesBefore_9 : decode cPA_placesBefore 9 = .ok (.getfield 18, 3) := by decide +kernel
theorem dPA_placesBefore_12 : decode cPA_placesBefore 12 = .ok (.iconst 1, 1) := by decide +kernel
theorem dPA_placesBefore_13 : decode cPA_placesBefore 13 = .ok (.isub, 1) := by decide +kernel
theorem dPA_placesBefore_14 : decode cPA_placesBefore 14 = .ok (.ishl, 1) := by decide +kernel
theorem dPA_placesBefore_15 : decode cPA_placesBefore 15 = .ok (.ior, 1) := by decide +kernel
theorem dPA_placesBefore_16 : decode cPA_placesBefore 16 = .ok (.ireturn, 1) := by decide +kernel
theorem dPA_placesOfLeaf_0 : decode cPA_placesOfLeaf 0 = .ok (.iconst 0, 1) := by decide +kernel
theorem dPA_placesOfLeaf_1 : decode cPA_placesOfLeaf 1 = .ok (.istore_n 3, 1) := by decide +kernel
theorem dPA_placesOfLeaf_2 : decode cPA_placesOfLeaf 2 = .ok (.iconst 0, 1) := by decide +kernel
theorem dPA_placesOfLeaf_3 : decode cPA_placesOfLeaf 3 = .ok (.istore 4, 2) := by decide +kernel
theorem dPA_placesOfLeaf_5 : decode cPA_placesOfLeaf 5 = .ok (.iload 4, 2) := by decide +kernel
theorem dPA_placesOfLeaf_7 : decode cPA_placesOfLeaf 7 = .ok (.aload_n 0, 1) := by decide +kernel
theorem dPA_placesOfLeaf_8 : decode cPA_placesOfLeaf 8 = .ok (.getfield 18, 3) := by decide +kernel
theorem dPA_placesOfLeaf_11 : decode cPA_placesOfLeaf 11 = .ok (.if_icmp .ge 35, 3) := by decide +kernel
theorem dPA_placesOfLeaf_14 : decode cPA_placesOfLeaf 14 = .ok (.iload_n 1, 1) := by decide +kernel
theorem dPA_placesOfLeaf_15 : decode cPA_placesOfLeaf 15 = .ok (.aload_n 2, 1) := by decide +kernel
theorem dPA_placesOfLeaf_16 : decode cPA_placesOfLeaf 16 = .ok (.getfield 55, 3) := by decide +kernel
theorem dPA_placesOfLeaf_19 : decode cPA_placesOfLeaf 19 = .ok (.aload_n 0, 1) := by decide +kernel
theorem dPA_placesOfLeaf_20 : decode cPA_placesOfLeaf 20 = .ok (.getfield 15, 3) := by decide +kernel
theorem dPA_placesOfLeaf_23 : decode cPA_placesOfLeaf 23 = .ok (.iload 4, 2) := by decide +kernel
theorem dPA_placesOfLeaf_25 : decode cPA_placesOfLeaf 25 = .ok (.iaload, 1) := by decide +kernel
theorem dPA_placesOfLeaf_26 : decode cPA_placesOfLeaf 26 = .ok (.iaload, 1) := by decide +kernel
theorem dPA_placesOfLeaf_27 : decode cPA_placesOfLeaf 27 = .ok (.invokestatic 58, 3) := by decide +kernel
theorem dPA_placesOfLeaf_30 : decode cPA_placesOfLeaf 30 = .ok (.ifCond .eq 10, 3) := by decide +kernel
theorem dPA_placesOfLeaf_33 : decode cPA_placesOfLeaf 33 = .ok (.iload_n 3, 1) := by decide +kernel
theorem dPA_placesOfLeaf_34 : decode cPA_placesOfLeaf 34 = .ok (.iconst 1, 1) := by decide +kernel
theorem dPA_placesOfLeaf_35 : decode cPA_placesOfLeaf 35 = .ok (.iload 4, 2) := by decide +kernel
theorem dPA_placesOfLeaf_37 : decode cPA_placesOfLeaf 37 = .ok (.ishl, 1) := by decide +kernel
theorem dPA_placesOfLeaf_38 : decode cPA_placesOfLeaf 38 = .ok (.ior, 1) := by decide +kernel
theorem dPA_placesOfLeaf_39 : decode cPA_placesOfLeaf 39 = .ok (.istore_n 3, 1) := by decide +kernel
theorem dPA_placesOfLeaf_40 : decode cPA_placesOfLeaf 40 = .ok (.iinc 4 1, 3) := by decide +kernel
theorem dPA_placesOfLeaf_43 : decode cPA_placesOfLeaf 43 = .ok (.goto (-38), 3) := by decide +kernel
theorem dPA_placesOfLeaf_46 : decode cPA_placesOfLeaf 46 = .ok (.iload_n 3, 1) := by decide +kernel
theorem dPA_placesOfLeaf_47 : decode cPA_placesOfLeaf 47 = .ok (.ireturn, 1) := by decide +kernel
