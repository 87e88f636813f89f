theorem dX9_next_0 : decode cX9_next 0 = .ok (.aload_n 0, 1) := by decide +kernel
theorem dX9_next_1 : decode cX9_next 1 = .ok (.bipush 32, 2) := by decide +kernel
theorem dX9_next_3 : decode cX9_next 3 = .ok (.bipush 32, 2) := by decide +kernel
theorem dX9_next_5 : decode cX9_next 5 = .ok (.invokevirtual 153, 3) := by decide +kernel
theorem dX9_next_8 : decode cX9_next 8 = .ok (.ifCond .eq 16, 3) := by decide +kernel
theorem dX9_next_11 : decode cX9_next 11 = .ok (.aload_n 0, 1) := by decide +kernel
theorem dX9_next_12 : decode cX9_next 12 = .ok (.dup, 1) := by decide +kernel
theorem dX9_next_13 : decode cX9_next 13 = .ok (.getfield 150, 3) := by decide +kernel
theorem dX9_next_16 : decode cX9_next 16 = .ok (.iconst 1, 1) := by decide +kernel
theorem dX9_next_17 : decode cX9_next 17 = .ok (.iadd, 1) := by decide +kernel
theorem dX9_next_18 : decode cX9_next 18 = .ok (.putfield 150, 3) := by decide +kernel
theorem dX9_next_21 : decode cX9_next 21 = .ok (.goto (-21), 3) := by decide +kernel
theorem dX9_next_24 : decode cX9_next 24 = .ok (.aload_n 0, 1) := by decide +kernel
theorem dX9_next_25 : decode cX9_next 25 = .ok (.aload_n 0, 1) := by decide +kernel
theorem dX9_next_26 : decode cX9_next 26 = .ok (.getfield 150, 3) := by decide +kernel
theorem dX9_next_29 : decode cX9_next 29 = .ok (.putfield 156, 3) := by decide +kernel
theorem dX9_next_32 : decode cX9_next 32 = .ok (.aload_n 0, 1) := by decide +kernel
theorem dX9_next_33 : decode cX9_next 33 = .ok (.iconst 0, 1) := by decide +kernel
theorem dX9_next_34 : decode cX9_next 34 = .ok (.putfield 159, 3) := by decide +kernel
theorem dX9_next_37 : decode cX9_next 37 = .ok (.aload_n 0, 1) := by decide +kernel
theorem dX9_next_38 : decode cX9_next 38 = .ok (.getfield 150, 3) := by decide +kernel
theorem dX9_next_41 : decode cX9_next 41 = .ok (.aload_n 0, 1) := by decide +kernel
theorem dX9_next_42 : decode cX9_next 42 = .ok (.getfield 147, 3) := by decide +kernel
theorem dX9_next_45 : decode cX9_next 45 = .ok (.if_icmp .ne 11, 3) := by decide +kernel
theorem dX9_next_48 : decode cX9_next 48 = .ok (.aload_n 0, 1) := by decide +kernel
theorem dX9_next_49 : decode cX9_next 49 = .ok (.iconst 0, 1) := by decide +kernel
theorem dX9_next_50 : decode cX9_next 50 = .ok (.putfield 162, 3) := by decide +kernel
theorem dX9_next_53 : decode cX9_next 53 = .ok (.goto 313, 3) := by decide +kernel
theorem dX9_next_56 : decode cX9_next 56 = .ok (.aload_n 0, 1) := by decide +kernel
theorem dX9_next_57 : decode cX9_next 57 = .ok (.bipush 48, 2) := by decide +kernel
theorem dX9_next_59 : decode cX9_next 59 = .ok (.bipush 57, 2) := by decide +kernel
theorem dX9_next_61 : decode cX9_next 61 = .ok (.invokevirtual 153, 3) := by decide +kernel
theorem dX9_next_64 : decode cX9_next 64 = .ok (.ifCond .eq 117, 3) := by decide +kernel
theorem dX9_next_67 : decode cX9_next 67 = .ok (.aload_n 0, 1) := by decide +kernel
theorem dX9_next_68 : decode cX9_next 68 = .ok (.bipush 48, 2) := by decide +kernel
theorem dX9_next_70 : decode cX9_next 70 = .ok (.bipush 57, 2) := by decide +kernel
theorem dX9_next_72 : decode cX9_next 72 = .ok (.invokevirtual 153, 3) := by decide +kernel
theorem dX9_next_75 : decode cX9_next 75 = .ok (.ifCond .eq 57, 3) := by decide +kernel
theorem dX9_next_78 : decode cX9_next 78 = .ok (.aload_n 0, 1) := by decide +kernel
theorem dX9_next_79 : decode cX9_next 79 = .ok (.aload_n 0, 1) := by decide +kernel
theorem dX9_next_80 : decode cX9_next 80 = .ok (.getfield 159, 3) := by decide +kernel
theorem dX9_next_83 : decode cX9_next 83 = .ok (.sipush 255, 3) := by decide +kernel
theorem dX9_next_86 : decode cX9_next 86 = .ok (.if_icmp .le 10, 3) := by decide +kernel
theorem dX9_next_89 : decode cX9_next 89 = .ok (.aload_n 0, 1) := by decide +kernel
theorem dX9_next_90 : decode cX9_next 90 = .ok (.getfield 159, 3) := by decide +kernel
theorem dX9_next_93 : decode cX9_next 93 = .ok (.goto 23, 3) := by decide +kernel
theorem dX9_next_96 : decode cX9_next 96 = .ok (.bipush 10, 2) := by decide +kernel
theorem dX9_next_98 : decode cX9_next 98 = .ok (.aload_n 0, 1) := by decide +kernel
theorem dX9_next_99 : decode cX9_next 99 = .ok (.getfield 159, 3) := by decide +kernel
theorem dX9_next_102 : decode cX9_next 102 = .ok (.imul, 1) := by decide +kernel
theorem dX9_next_103 : decode cX9_next 103 = .ok (.aload_n 0, 1) := by decide +kernel
theorem dX9_next_104 : decode cX9_next 104 = .ok (.getfield 29, 3) := by decide +kernel
theorem dX9_next_107 : decode cX9_next 107 = .ok (.aload_n 0, 1) := by decide +kernel
theorem dX9_next_108 : decode cX9_next 108 = .ok (.getfield 150, 3) := by decide +kernel
theorem dX9_next_111 : decode cX9_next 111 = .ok (.iaload, 1) := by decide +kernel
theorem dX9_next_112 : decode cX9_next 112 = .ok (.iadd, 1) := by decide +kernel
theorem dX9_next_113 : decode cX9_next 113 = .ok (.bipush 48, 2) := by decide +kernel
theorem dX9_next_115 : decode cX9_next 115 = .ok (.isub, 1) := by decide +kernel
theorem dX9_next_116 : decode cX9_next 116 = .ok (.putfield 159, 3) := by decide +kernel
theorem dX9_next_119 : decode cX9_next 119 = .ok (.aload_n 0, 1) := by decide +kernel
theorem dX9_next_120 : decode cX9_next 120 = .ok (.dup, 1) := by decide +kernel
theorem dX9_next_121 : decode cX9_next 121 = .ok (.getfield 150, 3) := by decide +kernel
theorem dX9_next_124 : decode cX9_next 124 = .ok (.iconst 1, 1) := by decide +kernel
theorem dX9_next_125 : decode cX9_next 125 = .ok (.iadd, 1) := by decide +kernel
theorem dX9_next_126 : decode cX9_next 126 = .ok (.putfield 150, 3) := by decide +kernel
theorem dX9_next_129 : decode cX9_next 129 = .ok (.goto (-62), 3) := by decide +kernel
theorem dX9_next_132 : decode cX9_next 132 = .ok (.aload_n 0, 1) := by decide +kernel
theorem dX9_next_133 : decode cX9_next 133 = .ok (.aload_n 0, 1) := by decide +kernel
theorem dX9_next_134 : decode cX9_next 134 = .ok (.getfield 159, 3) := by decide +kernel
theorem dX9_next_137 : decode cX9_next 137 = .ok (.sipush 255, 3) := by decide +kernel
theorem dX9_next_140 : decode cX9_next 140 = .ok (.if_icmp .gt 30, 3) := by decide +kernel
theorem dX9_next_143 : decode cX9_next 143 = .ok (.aload_n 0, 1) := by decide +kernel
theorem dX9_next_144 : decode cX9_next 144 = .ok (.getfield 29, 3) := by decide +kernel
theorem dX9_next_147 : decode cX9_next 147 = .ok (.aload_n 0, 1) := by decide +kernel
theorem dX9_next_148 : decode cX9_next 148 = .ok (.getfield 156, 3) := by decide +kernel
theorem dX9_next_151 : decode cX9_next 151 = .ok (.iaload, 1) := by decide +kernel
theorem dX9_next_152 : decode cX9_next 152 = .ok (.bipush 48, 2) := by decide +kernel
theorem dX9_next_154 : decode cX9_next 154 = .ok (.if_icmp .ne 20, 3) := by decide +kernel
theorem dX9_next_157 : decode cX9_next 157 = .ok (.aload_n 0, 1) := by decide +kernel
theorem dX9_next_158 : decode cX9_next 158 = .ok (.getfield 150, 3) := by decide +kernel
theorem dX9_next_161 : decode cX9_next 161 = .ok (.aload_n 0, 1) := by decide +kernel
theorem dX9_next_162 : decode cX9_next 162 = .ok (.getfield 156, 3) := by decide +kernel
theorem dX9_next_165 : decode cX9_next 165 = .ok (.isub, 1) := by decide +kernel
theorem dX9_next_166 : decode cX9_next 166 = .ok (.iconst 1, 1) := by decide +kernel
theorem dX9_next_167 : decode cX9_next 167 = .ok (.if_icmp .le 7, 3) := by decide +kernel
theorem dX9_next_170 : decode cX9_next 170 = .ok (.iconst 2, 1) := by decide +kernel
theorem dX9_next_171 : decode cX9_next 171 = .ok (.goto 4, 3) := by decide +kernel
theorem dX9_next_174 : decode cX9_next 174 = .ok (.iconst 1, 1) := by decide +kernel
theorem dX9_next_175 : decode cX9_next 175 = .ok (.putfield 162, 3) := by decide +kernel
theorem dX9_next_178 : decode cX9_next 178 = .ok (.goto 188, 3) := by decide +kernel
theorem dX9_next_181 : decode cX9_next 181 = .ok (.aload_n 0, 1) := by decide +kernel
theorem dX9_next_182 : decode cX9_next 182 = .ok (.bipush 97, 2) := by decide +kernel
theorem dX9_next_184 : decode cX9_next 184 = .ok (.bipush 122, 2) := by decide +kernel
theorem dX9_next_186 : decode cX9_next 186 = .ok (.invokevirtual 153, 3) := by decide +kernel
theorem dX9_next_189 : decode cX9_next 189 = .ok (.ifCond .eq 144, 3) := by decide +kernel
theorem dX9_next_192 : decode cX9_next 192 = .ok (.aload_n 0, 1) := by decide +kernel
theorem dX9_next_193 : decode cX9_next 193 = .ok (.bipush 97, 2) := by decide +kernel
theorem dX9_next_195 : decode cX9_next 195 = .ok (.bipush 122, 2) := by decide +kernel
theorem dX9_next_197 : decode cX9_next 197 = .ok (.invokevirtual 153, 3) := by decide +kernel
theorem dX9_next_200 : decode cX9_next 200 = .ok (.ifCond .eq 54, 3) := by decide +kernel
theorem dX9_next_203 : decode cX9_next 203 = .ok (.aload_n 0, 1) := by decide +kernel
theorem dX9_next_204 : decode cX9_next 204 = .ok (.aload_n 0, 1) := by decide +kernel
theorem dX9_next_205 : decode cX9_next 205 = .ok (.getfield 159, 3) := by decide +kernel
theorem dX9_next_208 : decode cX9_next 208 = .ok (.ldc 165, 2) := by decide +kernel
theorem dX9_next_210 : decode cX9_next 210 = .ok (.if_icmp .le 10, 3) := by decide +kernel
theorem dX9_next_213 : decode cX9_next 213 = .ok (.aload_n 0, 1) := by decide +kernel
theorem dX9_next_214 : decode cX9_next 214 = .ok (.getfield 159, 3) := by decide +kernel
theorem dX9_next_217 : decode cX9_next 217 = .ok (.goto 21, 3) := by decide +kernel
theorem dX9_next_220 : decode cX9_next 220 = .ok (.sipush 256, 3) := by decide +kernel
theorem dX9_next_223 : decode cX9_next 223 = .ok (.aload_n 0, 1) := by decide +kernel
theorem dX9_next_224 : decode cX9_next 224 = .ok (.getfield 159, 3) := by decide +kernel
theorem dX9_next_227 : decode cX9_next 227 = .ok (.imul, 1) := by decide +kernel
theorem dX9_next_228 : decode cX9_next 228 = .ok (.aload_n 0, 1) := by decide +kernel
theorem dX9_next_229 : decode cX9_next 229 = .ok (.getfield 29, 3) := by decide +kernel
theorem dX9_next_232 : decode cX9_next 232 = .ok (.aload_n 0, 1) := by decide +kernel
theorem dX9_next_233 : decode cX9_next 233 = .ok (.getfield 150, 3) := by decide +kernel
theorem dX9_next_236 : decode cX9_next 236 = .ok (.iaload, 1) := by decide +kernel
theorem dX9_next_237 : decode cX9_next 237 = .ok (.iadd, 1) := by decide +kernel
theorem dX9_next_238 : decode cX9_next 238 = .ok (.putfield 159, 3) := by decide +kernel
theorem dX9_next_241 : decode cX9_next 241 = .ok (.aload_n 0, 1) := by decide +kernel
theorem dX9_next_242 : decode cX9_next 242 = .ok (.dup, 1) := by decide +kernel
theorem dX9_next_243 : decode cX9_next 243 = .ok (.getfield 150, 3) := by decide +kernel
theorem dX9_next_246 : decode cX9_next 246 = .ok (.iconst 1, 1) := by decide +kernel
theorem dX9_next_247 : decode cX9_next 247 = .ok (.iadd, 1) := by decide +kernel
theorem dX9_next_248 : decode cX9_next 248 = .ok (.putfield 150, 3) := by decide +kernel
theorem dX9_next_251 : decode cX9_next 251 = .ok (.goto (-59), 3) := by decide +kernel
theorem dX9_next_254 : decode cX9_next 254 = .ok (.aload_n 0, 1) := by decide +kernel
theorem dX9_next_255 : decode cX9_next 255 = .ok (.getfield 159, 3) := by decide +kernel
theorem dX9_next_258 : decode cX9_next 258 = .ok (.bipush 114, 2) := by decide +kernel
theorem dX9_next_260 : decode cX9_next 260 = .ok (.if_icmp .eq 39, 3) := by decide +kernel
theorem dX9_next_263 : decode cX9_next 263 = .ok (.aload_n 0, 1) := by decide +kernel
theorem dX9_next_264 : decode cX9_next 264 = .ok (.getfield 159, 3) := by decide +kernel
theorem dX9_next_267 : decode cX9_next 267 = .ok (.bipush 102, 2) := by decide +kernel
theorem dX9_next_269 : decode cX9_next 269 = .ok (.if_icmp .eq 30, 3) := by decide +kernel
theorem dX9_next_272 : decode cX9_next 272 = .ok (.aload_n 0, 1) := by decide +kernel
theorem dX9_next_273 : decode cX9_next 273 = .ok (.getfield 159, 3) := by decide +kernel
theorem dX9_next_276 : decode cX9_next 276 = .ok (.bipush 97, 2) := by decide +kernel
theorem dX9_next_278 : decode cX9_next 278 = .ok (.if_icmp .eq 21, 3) := by decide +kernel
theorem dX9_next_281 : decode cX9_next 281 = .ok (.aload_n 0, 1) := by decide +kernel
theorem dX9_next_282 : decode cX9_next 282 = .ok (.getfield 159, 3) := by decide +kernel
theorem dX9_next_285 : decode cX9_next 285 = .ok (.bipush 107, 2) := by decide +kernel
theorem dX9_next_287 : decode cX9_next 287 = .ok (.if_icmp .eq 12, 3) := by decide +kernel
theorem dX9_next_290 : decode cX9_next 290 = .ok (.aload_n 0, 1) := by decide +kernel
theorem dX9_next_291 : decode cX9_next 291 = .ok (.getfield 159, 3) := by decide +kernel
theorem dX9_next_294 : decode cX9_next 294 = .ok (.bipush 115, 2) := by decide +kernel
theorem dX9_next_296 : decode cX9_next 296 = .ok (.if_icmp .ne 7, 3) := by decide +kernel
theorem dX9_next_299 : decode cX9_next 299 = .ok (.iconst 1, 1) := by decide +kernel
theorem dX9_next_300 : decode cX9_next 300 = .ok (.goto 4, 3) := by decide +kernel
theorem dX9_next_303 : decode cX9_next 303 = .ok (.iconst 0, 1) := by decide +kernel
theorem dX9_next_304 : decode cX9_next 304 = .ok (.istore_n 1, 1) := by decide +kernel
theorem dX9_next_305 : decode cX9_next 305 = .ok (.aload_n 0, 1) := by decide +kernel
theorem dX9_next_306 : decode cX9_next 306 = .ok (.iload_n 1, 1) := by decide +kernel
theorem dX9_next_307 : decode cX9_next 307 = .ok (.ifCond .ne 15, 3) := by decide +kernel
theorem dX9_next_310 : decode cX9_next 310 = .ok (.aload_n 0, 1) := by decide +kernel
theorem dX9_next_311 : decode cX9_next 311 = .ok (.getfield 159, 3) := by decide +kernel
theorem dX9_next_314 : decode cX9_next 314 = .ok (.invokestatic 166, 3) := by decide +kernel
theorem dX9_next_317 : decode cX9_next 317 = .ok (.bipush (-9), 2) := by decide +kernel
theorem dX9_next_319 : decode cX9_next 319 = .ok (.if_icmp .eq 7, 3) := by decide +kernel
theorem dX9_next_322 : decode cX9_next 322 = .ok (.iconst 4, 1) := by decide +kernel
theorem dX9_next_323 : decode cX9_next 323 = .ok (.goto 4, 3) := by decide +kernel
theorem dX9_next_326 : decode cX9_next 326 = .ok (.iconst 2, 1) := by decide +kernel
theorem dX9_next_327 : decode cX9_next 327 = .ok (.putfield 162, 3) := by decide +kernel
theorem dX9_next_330 : decode cX9_next 330 = .ok (.goto 36, 3) := by decide +kernel
theorem dX9_next_333 : decode cX9_next 333 = .ok (.aload_n 0, 1) := by decide +kernel
theorem dX9_next_334 : decode cX9_next 334 = .ok (.aload_n 0, 1) := by decide +kernel
theorem dX9_next_335 : decode cX9_next 335 = .ok (.getfield 29, 3) := by decide +kernel
theorem dX9_next_338 : decode cX9_next 338 = .ok (.aload_n 0, 1) := by decide +kernel
theorem dX9_next_339 : decode cX9_next 339 = .ok (.getfield 150, 3) := by decide +kernel
theorem dX9_next_342 : decode cX9_next 342 = .ok (.iaload, 1) := by decide +kernel
theorem dX9_next_343 : decode cX9_next 343 = .ok (.bipush 59, 2) := by decide +kernel
theorem dX9_next_345 : decode cX9_next 345 = .ok (.if_icmp .ne 7, 3) := by decide +kernel
theorem dX9_next_348 : decode cX9_next 348 = .ok (.iconst 3, 1) := by decide +kernel
theorem dX9_next_349 : decode cX9_next 349 = .ok (.goto 4, 3) := by decide +kernel
theorem dX9_next_352 : decode cX9_next 352 = .ok (.iconst 2, 1) := by decide +kernel
theorem dX9_next_353 : decode cX9_next 353 = .ok (.putfield 162, 3) := by decide +kernel
theorem dX9_next_356 : decode cX9_next 356 = .ok (.aload_n 0, 1) := by decide +kernel
theorem dX9_next_357 : decode cX9_next 357 = .ok (.dup, 1) := by decide +kernel
theorem dX9_next_358 : decode cX9_next 358 = .ok (.getfield 150, 3) := by decide +kernel
theorem dX9_next_361 : decode cX9_next 361 = .ok (.iconst 1, 1) := by decide +kernel
theorem dX9_next_362 : decode cX9_next 362 = .ok (.iadd, 1) := by decide +kernel
theorem dX9_next_363 : decode cX9_next 363 = .ok (.putfield 150, 3) := by decide +kernel
theorem dX9_next_366 : decode cX9_next 366 = .ok (.return_, 1) := by decide +kernel
theorem dX9_must_0 : decode cX9_must 0 = .ok (.aload_n 0, 1) := by decide +kernel
theorem dX9_must_1 : decode cX9_must 1 = .ok (.getfield 159, 3) := by decide +kernel
theorem dX9_must_4 : decode cX9_must 4 = .ok (.istore_n 2, 1) := by decide +kernel
theorem dX9_must_5 : decode cX9_must 5 = .ok (.aload_n 0, 1) := by decide +kernel
theorem dX9_must_6 : decode cX9_must 6 = .ok (.getfield 169, 3) := by decide +kernel
theorem dX9_must_9 : decode cX9_must 9 = .ok (.bipush (-9), 2) := by decide +kernel
theorem dX9_must_11 : decode cX9_must 11 = .ok (.if_icmp .ne 22, 3) := by decide +kernel
theorem dX9_must_14 : decode cX9_must 14 = .ok (.iload_n 1, 1) := by decide +kernel
theorem dX9_must_15 : decode cX9_must 15 = .ok (.ifCond .eq 10, 3) := by decide +kernel
theorem dX9_must_18 : decode cX9_must 18 = .ok (.aload_n 0, 1) := by decide +kernel
theorem dX9_must_19 : decode cX9_must 19 = .ok (.invokevirtual 172, 3) := by decide +kernel
theorem dX9_must_22 : decode cX9_must 22 = .ok (.goto 11, 3) := by decide +kernel
theorem dX9_must_25 : decode cX9_must 25 = .ok (.aload_n 0, 1) := by decide +kernel
theorem dX9_must_26 : decode cX9_must 26 = .ok (.aload_n 0, 1) := by decide +kernel
theorem dX9_must_27 : decode cX9_must 27 = .ok (.getfield 156, 3) := by decide +kernel
theorem dX9_must_30 : decode cX9_must 30 = .ok (.putfield 169, 3) := by decide +kernel
theorem dX9_must_33 : decode cX9_must 33 = .ok (.iload_n 2, 1) := by decide +kernel
theorem dX9_must_34 : decode cX9_must 34 = .ok (.ireturn, 1) := by decide +kernel
theorem dX9_number_0 : decode cX9_number 0 = .ok (.aload_n 0, 1) := by decide +kernel
theorem dX9_number_1 : decode cX9_number 1 = .ok (.aload_n 0, 1) := by decide +kernel
theorem dX9_number_2 : decode cX9_number 2 = .ok (.getfield 162, 3) := by decide +kernel
theorem dX9_number_5 : decode cX9_number 5 = .ok (.iconst 1, 1) := by decide +kernel
theorem dX9_number_6 : decode cX9_number 6 = .ok (.if_icmp .ne 19, 3) := by decide +kernel
theorem dX9_number_9 : decode cX9_number 9 = .ok (.aload_n 0, 1) := by decide +kernel
theorem dX9_number_10 : decode cX9_number 10 = .ok (.getfield 159, 3) := by decide +kernel
theorem dX9_number_13 : decode cX9_number 13 = .ok (.iload_n 1, 1) := by decide +kernel
theorem dX9_number_14 : decode cX9_number 14 = .ok (.iload_n 2, 1) := by decide +kernel
theorem dX9_number_15 : decode cX9_number 15 = .ok (.invokestatic 39, 3) := by decide +kernel
theorem dX9_number_18 : decode cX9_number 18 = .ok (.ifCond .eq 7, 3) := by decide +kernel
theorem dX9_number_21 : decode cX9_number 21 = .ok (.iconst 1, 1) := by decide +kernel
theorem dX9_number_22 : decode cX9_number 22 = .ok (.goto 4, 3) := by decide +kernel
theorem dX9_number_25 : decode cX9_number 25 = .ok (.iconst 0, 1) := by decide +kernel
theorem dX9_number_26 : decode cX9_number 26 = .ok (.invokevirtual 175, 3) := by decide +kernel
theorem dX9_number_29 : decode cX9_number 29 = .ok (.ireturn, 1) := by decide +kernel
theorem dX9_usedBits_0 : decode cX9_usedBits 0 = .ok (.iconst 0, 1) := by decide +kernel
theorem dX9_usedBits_1 : decode cX9_usedBits 1 = .ok (.istore_n 2, 1) := by decide +kernel
theorem dX9_usedBits_2 : decode cX9_usedBits 2 = .ok (.iconst 0, 1) := by decide +kernel
theorem dX9_usedBits_3 : decode cX9_usedBits 3 = .ok (.istore_n 3, 1) := by decide +kernel
theorem dX9_usedBits_4 : decode cX9_usedBits 4 = .ok (.iload_n 3, 1) := by decide +kernel
theorem dX9_usedBits_5 : decode cX9_usedBits 5 = .ok (.aload_n 0, 1) := by decide +kernel
theorem dX9_usedBits_6 : decode cX9_usedBits 6 = .ok (.getfield 13, 3) := by decide +kernel
theorem dX9_usedBits_9 : decode cX9_usedBits 9 = .ok (.bipush 91, 2) := by decide +kernel
theorem dX9_usedBits_11 : decode cX9_usedBits 11 = .ok (.iaload, 1) := by decide +kernel
theorem dX9_usedBits_12 : decode cX9_usedBits 12 = .ok (.if_icmp .ge 60, 3) := by decide +kernel
theorem dX9_usedBits_15 : decode cX9_usedBits 15 = .ok (.aload_n 0, 1) := by decide +kernel
theorem dX9_usedBits_16 : decode cX9_usedBits 16 = .ok (.getfield 13, 3) := by decide +kernel
theorem dX9_usedBits_19 : decode cX9_usedBits 19 = .ok (.bipush 30, 2) := by decide +kernel
theorem dX9_usedBits_21 : decode cX9_usedBits 21 = .ok (.iload_n 3, 1) := by decide +kernel
theorem dX9_usedBits_22 : decode cX9_usedBits 22 = .ok (.iadd, 1) := by decide +kernel
theorem dX9_usedBits_23 : decode cX9_usedBits 23 = .ok (.iaload, 1) := by decide +kernel
theorem dX9_usedBits_24 : decode cX9_usedBits 24 = .ok (.istore 4, 2) := by decide +kernel
theorem dX9_usedBits_26 : decode cX9_usedBits 26 = .ok (.aload_n 0, 1) := by decide +kernel
theorem dX9_usedBits_27 : decode cX9_usedBits 27 = .ok (.getfield 13, 3) := by decide +kernel
theorem dX9_usedBits_30 : decode cX9_usedBits 30 = .ok (.bipush 18, 2) := by decide +kernel
theorem dX9_usedBits_32 : decode cX9_usedBits 32 = .ok (.iload_n 3, 1) := by decide +kernel
theorem dX9_usedBits_33 : decode cX9_usedBits 33 = .ok (.iadd, 1) := by decide +kernel
theorem dX9_usedBits_34 : decode cX9_usedBits 34 = .ok (.iaload, 1) := by decide +kernel
theorem dX9_usedBits_35 : decode cX9_usedBits 35 = .ok (.iload_n 1, 1) := by decide +kernel
theorem dX9_usedBits_36 : decode cX9_usedBits 36 = .ok (.if_icmp .ne 30, 3) := by decide +kernel
theorem dX9_usedBits_39 : decode cX9_usedBits 39 = .ok (.iload 4, 2) := by decide +kernel
theorem dX9_usedBits_41 : decode cX9_usedBits 41 = .ok (.aload_n 0, 1) := by decide +kernel
theorem dX9_usedBits_42 : decode cX9_usedBits 42 = .ok (.getfield 13, 3) := by decide +kernel
theorem dX9_usedBits_45 : decode cX9_usedBits 45 = .ok (.bipush 42, 2) := by decide +kernel
theorem dX9_usedBits_47 : decode cX9_usedBits 47 = .ok (.iload_n 3, 1) := by decide +kernel
theorem dX9_usedBits_48 : decode cX9_usedBits 48 = .ok (.iadd, 1) := by decide +kernel
theorem dX9_usedBits_49 : decode cX9_usedBits 49 = .ok (.iaload, 1) := by decide +kernel
theorem dX9_usedBits_50 : decode cX9_usedBits 50 = .ok (.if_icmp .gt 16, 3) := by decide +kernel
theorem dX9_usedBits_53 : decode cX9_usedBits 53 = .ok (.iload_n 2, 1) := by decide +kernel
theorem dX9_usedBits_54 : decode cX9_usedBits 54 = .ok (.iconst 1, 1) := by decide +kernel
theorem dX9_usedBits_55 : decode cX9_usedBits 55 = .ok (.iload 4, 2) := by decide +kernel
theorem dX9_usedBits_57 : decode cX9_usedBits 57 = .ok (.ishl, 1) := by decide +kernel
theorem dX9_usedBits_58 : decode cX9_usedBits 58 = .ok (.ior, 1) := by decide +kernel
theorem dX9_usedBits_59 : decode cX9_usedBits 59 = .ok (.istore_n 2, 1) := by decide +kernel
theorem dX9_usedBits_60 : decode cX9_usedBits 60 = .ok (.iinc 4 1, 3) := by decide +kernel
theorem dX9_usedBits_63 : decode cX9_usedBits 63 = .ok (.goto (-37), 3) := by decide +kernel
theorem dX9_usedBits_66 : decode cX9_usedBits 66 = .ok (.iinc 3 1, 3) := by decide +kernel
theorem dX9_usedBits_69 : decode cX9_usedBits 69 = .ok (.goto (-65), 3) := by decide +kernel
theorem dX9_usedBits_72 : decode cX9_usedBits 72 = .ok (.iload_n 2, 1) := by decide +kernel
theorem dX9_usedBits_73 : decode cX9_usedBits 73 = .ok (.ireturn, 1) := by decide +kernel
theorem dX9_readRegister_0 : decode cX9_readRegister 0 = .ok (.aload_n 0, 1) := by decide +kernel
theorem dX9_readRegister_1 : decode cX9_readRegister 1 = .ok (.getfield 13, 3) := by decide +kernel
theorem dX9_readRegister_4 : decode cX9_readRegister 4 = .ok (.bipush 90, 2) := by decide +kernel
theorem dX9_readRegister_6 : decode cX9_readRegister 6 = .ok (.iaload, 1) := by decide +kernel
theorem dX9_readRegister_7 : decode cX9_readRegister 7 = .ok (.istore_n 1, 1) := by decide +kernel
theorem dX9_readRegister_8 : decode cX9_readRegister 8 = .ok (.aload_n 0, 1) := by decide +kernel
theorem dX9_readRegister_9 : decode cX9_readRegister 9 = .ok (.iconst 0, 1) := by decide +kernel
theorem dX9_readRegister_10 : decode cX9_readRegister 10 = .ok (.bipush 15, 2) := by decide +kernel
theorem dX9_readRegister_12 : decode cX9_readRegister 12 = .ok (.invokevirtual 179, 3) := by decide +kernel
theorem dX9_readRegister_15 : decode cX9_readRegister 15 = .ok (.istore_n 2, 1) := by decide +kernel
theorem dX9_readRegister_16 : decode cX9_readRegister 16 = .ok (.aload_n 0, 1) := by decide +kernel
theorem dX9_readRegister_17 : decode cX9_readRegister 17 = .ok (.getfield 169, 3) := by decide +kernel
theorem dX9_readRegister_20 : decode cX9_readRegister 20 = .ok (.bipush (-9), 2) := by decide +kernel
theorem dX9_readRegister_22 : decode cX9_readRegister 22 = .ok (.if_icmp .ne 45, 3) := by decide +kernel
theorem dX9_readRegister_25 : decode cX9_readRegister 25 = .ok (.aload_n 0, 1) := by decide +kernel
theorem dX9_readRegister_26 : decode cX9_readRegister 26 = .ok (.getfield 13, 3) := by decide +kernel
theorem dX9_readRegister_29 : decode cX9_readRegister 29 = .ok (.iconst 0, 1) := by decide +kernel
theorem dX9_readRegister_30 : decode cX9_readRegister 30 = .ok (.iload_n 1, 1) := by decide +kernel
theorem dX9_readRegister_31 : decode cX9_readRegister 31 = .ok (.iadd, 1) := by decide +kernel
theorem dX9_readRegister_32 : decode cX9_readRegister 32 = .ok (.iload_n 2, 1) := by decide +kernel
theorem dX9_readRegister_33 : decode cX9_readRegister 33 = .ok (.iastore, 1) := by decide +kernel
theorem dX9_readRegister_34 : decode cX9_readRegister 34 = .ok (.aload_n 0, 1) := by decide +kernel
theorem dX9_readRegister_35 : decode cX9_readRegister 35 = .ok (.getfield 13, 3) := by decide +kernel
theorem dX9_readRegister_38 : decode cX9_readRegister 38 = .ok (.bipush 6, 2) := by decide +kernel
theorem dX9_readRegister_40 : decode cX9_readRegister 40 = .ok (.iload_n 1, 1) := by decide +kernel
theorem dX9_readRegister_41 : decode cX9_readRegister 41 = .ok (.iadd, 1) := by decide +kernel
theorem dX9_readRegister_42 : decode cX9_readRegister 42 = .ok (.bipush (-9), 2) := by decide +kernel
theorem dX9_readRegister_44 : decode cX9_readRegister 44 = .ok (.iastore, 1) := by decide +kernel
theorem dX9_readRegister_45 : decode cX9_readRegister 45 = .ok (.aload_n 0, 1) := by decide +kernel
theorem dX9_readRegister_46 : decode cX9_readRegister 46 = .ok (.getfield 13, 3) := by decide +kernel
theorem dX9_readRegister_49 : decode cX9_readRegister 49 = .ok (.bipush 12, 2) := by decide +kernel
theorem dX9_readRegister_51 : decode cX9_readRegister 51 = .ok (.iload_n 1, 1) := by decide +kernel
theorem dX9_readRegister_52 : decode cX9_readRegister 52 = .ok (.iadd, 1) := by decide +kernel
theorem dX9_readRegister_53 : decode cX9_readRegister 53 = .ok (.bipush (-9), 2) := by decide +kernel
theorem dX9_readRegister_55 : decode cX9_readRegister 55 = .ok (.iastore, 1) := by decide +kernel
theorem dX9_readRegister_56 : decode cX9_readRegister 56 = .ok (.aload_n 0, 1) := by decide +kernel
theorem dX9_readRegister_57 : decode cX9_readRegister 57 = .ok (.getfield 13, 3) := by decide +kernel
theorem dX9_readRegister_60 : decode cX9_readRegister 60 = .ok (.bipush 90, 2) := by decide +kernel
theorem dX9_readRegister_62 : decode cX9_readRegister 62 = .ok (.dup2, 1) := by decide +kernel
theorem dX9_readRegister_63 : decode cX9_readRegister 63 = .ok (.iaload, 1) := by decide +kernel
theorem dX9_readRegister_64 : decode cX9_readRegister 64 = .ok (.iconst 1, 1) := by decide +kernel
theorem dX9_readRegister_65 : decode cX9_readRegister 65 = .ok (.iadd, 1) := by decide +kernel
theorem dX9_readRegister_66 : decode cX9_readRegister 66 = .ok (.iastore, 1) := by decide +kernel
theorem dX9_readRegister_67 : decode cX9_readRegister 67 = .ok (.return_, 1) := by decide +kernel
theorem dX9_readField_0 : decode cX9_readField 0 = .ok (.aload_n 0, 1) := by decide +kernel
theorem dX9_readField_1 : decode cX9_readField 1 = .ok (.getfield 13, 3) := by decide +kernel
theorem dX9_readField_4 : decode cX9_readField 4 = .ok (.bipush 90, 2) := by decide +kernel
theorem dX9_readField_6 : decode cX9_readField 6 = .ok (.iaload, 1) := by decide +kernel
theorem dX9_readField_7 : decode cX9_readField 7 = .ok (.iconst 1, 1) := by decide +kernel
theorem dX9_readField_8 : decode cX9_readField 8 = .ok (.isub, 1) := by decide +kernel
theorem dX9_readField_9 : decode cX9_readField 9 = .ok (.istore_n 1, 1) := by decide +kernel
theorem dX9_readField_10 : decode cX9_readField 10 = .ok (.aload_n 0, 1) := by decide +kernel
theorem dX9_readField_11 : decode cX9_readField 11 = .ok (.iload_n 1, 1) := by decide +kernel
theorem dX9_readField_12 : decode cX9_readField 12 = .ok (.invokevirtual 182, 3) := by decide +kernel
theorem dX9_readField_15 : decode cX9_readField 15 = .ok (.istore_n 2, 1) := by decide +kernel
theorem dX9_readField_16 : decode cX9_readField 16 = .ok (.aload_n 0, 1) := by decide +kernel
theorem dX9_readField_17 : decode cX9_readField 17 = .ok (.aload_n 0, 1) := by decide +kernel
theorem dX9_readField_18 : decode cX9_readField 18 = .ok (.getfield 162, 3) := by decide +kernel
theorem dX9_readField_21 : decode cX9_readField 21 = .ok (.iconst 4, 1) := by decide +kernel
theorem dX9_readField_22 : decode cX9_readField 22 = .ok (.if_icmp .ne 19, 3) := by decide +kernel
theorem dX9_readField_25 : decode cX9_readField 25 = .ok (.aload_n 0, 1) := by decide +kernel
theorem dX9_readField_26 : decode cX9_readField 26 = .ok (.getfield 159, 3) := by decide +kernel
theorem dX9_readField_29 : decode cX9_readField 29 = .ok (.invokestatic 166, 3) := by decide +kernel
theorem dX9_readField_32 : decode cX9_readField 32 = .ok (.bipush (-9), 2) := by decide +kernel
theorem dX9_readField_34 : decode cX9_readField 34 = .ok (.if_icmp .eq 7, 3) := by decide +kernel
theorem dX9_readField_37 : decode cX9_readField 37 = .ok (.iconst 1, 1) := by decide +kernel
theorem dX9_readField_38 : decode cX9_readField 38 = .ok (.goto 4, 3) := by decide +kernel
theorem dX9_readField_41 : decode cX9_readField 41 = .ok (.iconst 0, 1) := by decide +kernel
theorem dX9_readField_42 : decode cX9_readField 42 = .ok (.invokevirtual 175, 3) := by decide +kernel
theorem dX9_readField_45 : decode cX9_readField 45 = .ok (.invokestatic 166, 3) := by decide +kernel
theorem dX9_readField_48 : decode cX9_readField 48 = .ok (.istore_n 3, 1) := by decide +kernel
theorem dX9_readField_49 : decode cX9_readField 49 = .ok (.aload_n 0, 1) := by decide +kernel
theorem dX9_readField_50 : decode cX9_readField 50 = .ok (.aload_n 0, 1) := by decide +kernel
theorem dX9_readField_51 : decode cX9_readField 51 = .ok (.getfield 162, 3) := by decide +kernel
theorem dX9_readField_54 : decode cX9_readField 54 = .ok (.iconst 1, 1) := by decide +kernel
theorem dX9_readField_55 : decode cX9_readField 55 = .ok (.if_icmp .ne 31, 3) := by decide +kernel
theorem dX9_readField_58 : decode cX9_readField 58 = .ok (.aload_n 0, 1) := by decide +kernel
theorem dX9_readField_59 : decode cX9_readField 59 = .ok (.getfield 159, 3) := by decide +kernel
theorem dX9_readField_62 : decode cX9_readField 62 = .ok (.iconst 0, 1) := by decide +kernel
theorem dX9_readField_63 : decode cX9_readField 63 = .ok (.bipush 7, 2) := by decide +kernel
theorem dX9_readField_65 : decode cX9_readField 65 = .ok (.invokestatic 39, 3) := by decide +kernel
theorem dX9_readField_68 : decode cX9_readField 68 = .ok (.ifCond .eq 18, 3) := by decide +kernel
theorem dX9_readField_71 : decode cX9_readField 71 = .ok (.iload_n 2, 1) := by decide +kernel
theorem dX9_readField_72 : decode cX9_readField 72 = .ok (.aload_n 0, 1) := by decide +kernel
theorem dX9_readField_73 : decode cX9_readField 73 = .ok (.getfield 159, 3) := by decide +kernel
theorem dX9_readField_76 : decode cX9_readField 76 = .ok (.ishr, 1) := by decide +kernel
theorem dX9_readField_77 : decode cX9_readField 77 = .ok (.iconst 1, 1) := by decide +kernel
theorem dX9_readField_78 : decode cX9_readField 78 = .ok (.iand, 1) := by decide +kernel
theorem dX9_readField_79 : decode cX9_readField 79 = .ok (.ifCond .ne 7, 3) := by decide +kernel
theorem dX9_readField_82 : decode cX9_readField 82 = .ok (.iconst 1, 1) := by decide +kernel
theorem dX9_readField_83 : decode cX9_readField 83 = .ok (.goto 4, 3) := by decide +kernel
theorem dX9_readField_86 : decode cX9_readField 86 = .ok (.iconst 0, 1) := by decide +kernel
theorem dX9_readField_87 : decode cX9_readField 87 = .ok (.invokevirtual 175, 3) := by decide +kernel
theorem dX9_readField_90 : decode cX9_readField 90 = .ok (.istore 4, 2) := by decide +kernel
theorem dX9_readField_92 : decode cX9_readField 92 = .ok (.aload_n 0, 1) := by decide +kernel
theorem dX9_readField_93 : decode cX9_readField 93 = .ok (.aload_n 0, 1) := by decide +kernel
theorem dX9_readField_94 : decode cX9_readField 94 = .ok (.getfield 162, 3) := by decide +kernel
theorem dX9_readField_97 : decode cX9_readField 97 = .ok (.iconst 1, 1) := by decide +kernel
theorem dX9_readField_98 : decode cX9_readField 98 = .ok (.if_icmp .ne 37, 3) := by decide +kernel
theorem dX9_readField_101 : decode cX9_readField 101 = .ok (.aload_n 0, 1) := by decide +kernel
theorem dX9_readField_102 : decode cX9_readField 102 = .ok (.getfield 159, 3) := by decide +kernel
theorem dX9_readField_105 : decode cX9_readField 105 = .ok (.iload 4, 2) := by decide +kernel
theorem dX9_readField_107 : decode cX9_readField 107 = .ok (.bipush 7, 2) := by decide +kernel
theorem dX9_readField_109 : decode cX9_readField 109 = .ok (.invokestatic 39, 3) := by decide +kernel
theorem dX9_readField_112 : decode cX9_readField 112 = .ok (.ifCond .eq 23, 3) := by decide +kernel
theorem dX9_readField_115 : decode cX9_readField 115 = .ok (.iload_n 2, 1) := by decide +kernel
theorem dX9_readField_116 : decode cX9_readField 116 = .ok (.iconst 2, 1) := by decide +kernel
theorem dX9_readField_117 : decode cX9_readField 117 = .ok (.aload_n 0, 1) := by decide +kernel
theorem dX9_readField_118 : decode cX9_readField 118 = .ok (.getfield 159, 3) := by decide +kernel
theorem dX9_readField_121 : decode cX9_readField 121 = .ok (.ishl, 1) := by decide +kernel
theorem dX9_readField_122 : decode cX9_readField 122 = .ok (.iconst 1, 1) := by decide +kernel
theorem dX9_readField_123 : decode cX9_readField 123 = .ok (.iload 4, 2) := by decide +kernel
theorem dX9_readField_125 : decode cX9_readField 125 = .ok (.ishl, 1) := by decide +kernel
theorem dX9_readField_126 : decode cX9_readField 126 = .ok (.isub, 1) := by decide +kernel
theorem dX9_readField_127 : decode cX9_readField 127 = .ok (.iand, 1) := by decide +kernel
theorem dX9_readField_128 : decode cX9_readField 128 = .ok (.ifCond .ne 7, 3) := by decide +kernel
theorem dX9_readField_131 : decode cX9_readField 131 = .ok (.iconst 1, 1) := by decide +kernel
theorem dX9_readField_132 : decode cX9_readField 132 = .ok (.goto 4, 3) := by decide +kernel
theorem dX9_readField_135 : decode cX9_readField 135 = .ok (.iconst 0, 1) := by decide +kernel
theorem dX9_readField_136 : decode cX9_readField 136 = .ok (.invokevirtual 175, 3) := by decide +kernel
theorem dX9_readField_139 : decode cX9_readField 139 = .ok (.istore 5, 2) := by decide +kernel
theorem dX9_readField_141 : decode cX9_readField 141 = .ok (.aload_n 0, 1) := by decide +kernel
theorem dX9_readField_142 : decode cX9_readField 142 = .ok (.getfield 169, 3) := by decide +kernel
theorem dX9_readField_145 : decode cX9_readField 145 = .ok (.bipush (-9), 2) := by decide +kernel
theorem dX9_readField_147 : decode cX9_readField 147 = .ok (.if_icmp .ne 22, 3) := by decide +kernel
theorem dX9_readField_150 : decode cX9_readField 150 = .ok (.aload_n 0, 1) := by decide +kernel
theorem dX9_readField_151 : decode cX9_readField 151 = .ok (.iconst 0, 1) := by decide +kernel
theorem dX9_readField_152 : decode cX9_readField 152 = .ok (.iconst 1, 1) := by decide +kernel
theorem dX9_readField_153 : decode cX9_readField 153 = .ok (.iload 5, 2) := by decide +kernel
theorem dX9_readField_155 : decode cX9_readField 155 = .ok (.iload 4, 2) := by decide +kernel
theorem dX9_readField_157 : decode cX9_readField 157 = .ok (.isub, 1) := by decide +kernel
theorem dX9_readField_158 : decode cX9_readField 158 = .ok (.iconst 1, 1) := by decide +kernel
theorem dX9_readField_159 : decode cX9_readField 159 = .ok (.iadd, 1) := by decide +kernel
theorem dX9_readField_160 : decode cX9_readField 160 = .ok (.ishl, 1) := by decide +kernel
theorem dX9_readField_161 : decode cX9_readField 161 = .ok (.iconst 1, 1) := by decide +kernel
theorem dX9_readField_162 : decode cX9_readField 162 = .ok (.isub, 1) := by decide +kernel
theorem dX9_readField_163 : decode cX9_readField 163 = .ok (.invokevirtual 179, 3) := by decide +kernel
theorem dX9_readField_166 : decode cX9_readField 166 = .ok (.goto 4, 3) := by decide +kernel
theorem dX9_readField_169 : decode cX9_readField 169 = .ok (.iconst 0, 1) := by decide +kernel
theorem dX9_readField_170 : decode cX9_readField 170 = .ok (.istore 6, 2) := by decide +kernel
theorem dX9_readField_172 : decode cX9_readField 172 = .ok (.aload_n 0, 1) := by decide +kernel
theorem dX9_readField_173 : decode cX9_readField 173 = .ok (.getfield 169, 3) := by decide +kernel
theorem dX9_readField_176 : decode cX9_readField 176 = .ok (.bipush (-9), 2) := by decide +kernel
theorem dX9_readField_178 : decode cX9_readField 178 = .ok (.if_icmp .ne 81, 3) := by decide +kernel
theorem dX9_readField_181 : decode cX9_readField 181 = .ok (.aload_n 0, 1) := by decide +kernel
theorem dX9_readField_182 : decode cX9_readField 182 = .ok (.getfield 13, 3) := by decide +kernel
theorem dX9_readField_185 : decode cX9_readField 185 = .ok (.bipush 91, 2) := by decide +kernel
theorem dX9_readField_187 : decode cX9_readField 187 = .ok (.iaload, 1) := by decide +kernel
theorem dX9_readField_188 : decode cX9_readField 188 = .ok (.istore 7, 2) := by decide +kernel
theorem dX9_readField_190 : decode cX9_readField 190 = .ok (.aload_n 0, 1) := by decide +kernel
theorem dX9_readField_191 : decode cX9_readField 191 = .ok (.getfield 13, 3) := by decide +kernel
theorem dX9_readField_194 : decode cX9_readField 194 = .ok (.bipush 18, 2) := by decide +kernel
theorem dX9_readField_196 : decode cX9_readField 196 = .ok (.iload 7, 2) := by decide +kernel
theorem dX9_readField_198 : decode cX9_readField 198 = .ok (.iadd, 1) := by decide +kernel
theorem dX9_readField_199 : decode cX9_readField 199 = .ok (.iload_n 1, 1) := by decide +kernel
theorem dX9_readField_200 : decode cX9_readField 200 = .ok (.iastore, 1) := by decide +kernel
theorem dX9_readField_201 : decode cX9_readField 201 = .ok (.aload_n 0, 1) := by decide +kernel
theorem dX9_readField_202 : decode cX9_readField 202 = .ok (.getfield 13, 3) := by decide +kernel
theorem dX9_readField_205 : decode cX9_readField 205 = .ok (.bipush 30, 2) := by decide +kernel
theorem dX9_readField_207 : decode cX9_readField 207 = .ok (.iload 7, 2) := by decide +kernel
theorem dX9_readField_209 : decode cX9_readField 209 = .ok (.iadd, 1) := by decide +kernel
theorem dX9_readField_210 : decode cX9_readField 210 = .ok (.iload 4, 2) := by decide +kernel
theorem dX9_readField_212 : decode cX9_readField 212 = .ok (.iastore, 1) := by decide +kernel
theorem dX9_readField_213 : decode cX9_readField 213 = .ok (.aload_n 0, 1) := by decide +kernel
theorem dX9_readField_214 : decode cX9_readField 214 = .ok (.getfield 13, 3) := by decide +kernel
theorem dX9_readField_217 : decode cX9_readField 217 = .ok (.bipush 42, 2) := by decide +kernel
theorem dX9_readField_219 : decode cX9_readField 219 = .ok (.iload 7, 2) := by decide +kernel
theorem dX9_readField_221 : decode cX9_readField 221 = .ok (.iadd, 1) := by decide +kernel
theorem dX9_readField_222 : decode cX9_readField 222 = .ok (.iload 5, 2) := by decide +kernel
theorem dX9_readField_224 : decode cX9_readField 224 = .ok (.iastore, 1) := by decide +kernel
theorem dX9_readField_225 : decode cX9_readField 225 = .ok (.aload_n 0, 1) := by decide +kernel
theorem dX9_readField_226 : decode cX9_readField 226 = .ok (.getfield 13, 3) := by decide +kernel
theorem dX9_readField_229 : decode cX9_readField 229 = .ok (.bipush 54, 2) := by decide +kernel
theorem dX9_readField_231 : decode cX9_readField 231 = .ok (.iload 7, 2) := by decide +kernel
theorem dX9_readField_233 : decode cX9_readField 233 = .ok (.iadd, 1) := by decide +kernel
theorem dX9_readField_234 : decode cX9_readField 234 = .ok (.iload_n 3, 1) := by decide +kernel
theorem dX9_readField_235 : decode cX9_readField 235 = .ok (.iastore, 1) := by decide +kernel
theorem dX9_readField_236 : decode cX9_readField 236 = .ok (.aload_n 0, 1) := by decide +kernel
theorem dX9_readField_237 : decode cX9_readField 237 = .ok (.getfield 13, 3) := by decide +kernel
theorem dX9_readField_240 : decode cX9_readField 240 = .ok (.bipush 66, 2) := by decide +kernel
theorem dX9_readField_242 : decode cX9_readField 242 = .ok (.iload 7, 2) := by decide +kernel
theorem dX9_readField_244 : decode cX9_readField 244 = .ok (.iadd, 1) := by decide +kernel
theorem dX9_readField_245 : decode cX9_readField 245 = .ok (.iload 6, 2) := by decide +kernel
theorem dX9_readField_247 : decode cX9_readField 247 = .ok (.iastore, 1) := by decide +kernel
theorem dX9_readField_248 : decode cX9_readField 248 = .ok (.aload_n 0, 1) := by decide +kernel
theorem dX9_readField_249 : decode cX9_readField 249 = .ok (.getfield 13, 3) := by decide +kernel
theorem dX9_readField_252 : decode cX9_readField 252 = .ok (.bipush 91, 2) := by decide +kernel
theorem dX9_readField_254 : decode cX9_readField 254 = .ok (.dup2, 1) := by decide +kernel
theorem dX9_readField_255 : decode cX9_readField 255 = .ok (.iaload, 1) := by decide +kernel
theorem dX9_readField_256 : decode cX9_readField 256 = .ok (.iconst 1, 1) := by decide +kernel
theorem dX9_readField_257 : decode cX9_readField 257 = .ok (.iadd, 1) := by decide +kernel
theorem dX9_readField_258 : decode cX9_readField 258 = .ok (.iastore, 1) := by decide +kernel
theorem dX9_readField_259 : decode cX9_readField 259 = .ok (.return_, 1) := by decide +kernel
