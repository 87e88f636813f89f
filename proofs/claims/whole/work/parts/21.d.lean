theorem dX9_isHere_0 : decode cX9_isHere 0 = .ok (.aload_n 0, 1) := by decide +kernel
theorem dX9_isHere_1 : decode cX9_isHere 1 = .ok (.getfield 150, 3) := by decide +kernel
theorem dX9_isHere_4 : decode cX9_isHere 4 = .ok (.aload_n 0, 1) := by decide +kernel
theorem dX9_isHere_5 : decode cX9_isHere 5 = .ok (.getfield 147, 3) := by decide +kernel
theorem dX9_isHere_8 : decode cX9_isHere 8 = .ok (.if_icmp .ge 24, 3) := by decide +kernel
theorem dX9_isHere_11 : decode cX9_isHere 11 = .ok (.aload_n 0, 1) := by decide +kernel
theorem dX9_isHere_12 : decode cX9_isHere 12 = .ok (.getfield 29, 3) := by decide +kernel
theorem dX9_isHere_15 : decode cX9_isHere 15 = .ok (.aload_n 0, 1) := by decide +kernel
theorem dX9_isHere_16 : decode cX9_isHere 16 = .ok (.getfield 150, 3) := by decide +kernel
theorem dX9_isHere_19 : decode cX9_isHere 19 = .ok (.iaload, 1) := by decide +kernel
theorem dX9_isHere_20 : decode cX9_isHere 20 = .ok (.iload_n 1, 1) := by decide +kernel
theorem dX9_isHere_21 : decode cX9_isHere 21 = .ok (.iload_n 2, 1) := by decide +kernel
theorem dX9_isHere_22 : decode cX9_isHere 22 = .ok (.invokestatic 39, 3) := by decide +kernel
theorem dX9_isHere_25 : decode cX9_isHere 25 = .ok (.ifCond .eq 7, 3) := by decide +kernel
theorem dX9_isHere_28 : decode cX9_isHere 28 = .ok (.iconst 1, 1) := by decide +kernel
theorem dX9_isHere_29 : decode cX9_isHere 29 = .ok (.goto 4, 3) := by decide +kernel
theorem dX9_isHere_32 : decode cX9_isHere 32 = .ok (.iconst 0, 1) := by decide +kernel
theorem dX9_isHere_33 : decode cX9_isHere 33 = .ok (.ireturn, 1) := by decide +kernel
theorem dX9_kindOf_0 : decode cX9_kindOf 0 = .ok (.iload_n 0, 1) := by decide +kernel
theorem dX9_kindOf_1 : decode cX9_kindOf 1 = .ok (.lookupswitch 93 #[(28526, 90), (29283, 87), (29295, 77), (29303, 75), (30563, 81), (30575, 79), (30579, 83), (30580, 85)], 75) := by decide +kernel
theorem dX9_kindOf_76 : decode cX9_kindOf 76 = .ok (.iconst 0, 1) := by decide +kernel
theorem dX9_kindOf_77 : decode cX9_kindOf 77 = .ok (.ireturn, 1) := by decide +kernel
theorem dX9_kindOf_78 : decode cX9_kindOf 78 = .ok (.iconst 1, 1) := by decide +kernel
theorem dX9_kindOf_79 : decode cX9_kindOf 79 = .ok (.ireturn, 1) := by decide +kernel
theorem dX9_kindOf_80 : decode cX9_kindOf 80 = .ok (.iconst 2, 1) := by decide +kernel
theorem dX9_kindOf_81 : decode cX9_kindOf 81 = .ok (.ireturn, 1) := by decide +kernel
theorem dX9_kindOf_82 : decode cX9_kindOf 82 = .ok (.iconst 3, 1) := by decide +kernel
theorem dX9_kindOf_83 : decode cX9_kindOf 83 = .ok (.ireturn, 1) := by decide +kernel
theorem dX9_kindOf_84 : decode cX9_kindOf 84 = .ok (.iconst 4, 1) := by decide +kernel
theorem dX9_kindOf_85 : decode cX9_kindOf 85 = .ok (.ireturn, 1) := by decide +kernel
theorem dX9_kindOf_86 : decode cX9_kindOf 86 = .ok (.iconst 5, 1) := by decide +kernel
theorem dX9_kindOf_87 : decode cX9_kindOf 87 = .ok (.ireturn, 1) := by decide +kernel
theorem dX9_kindOf_88 : decode cX9_kindOf 88 = .ok (.bipush 6, 2) := by decide +kernel
theorem dX9_kindOf_90 : decode cX9_kindOf 90 = .ok (.ireturn, 1) := by decide +kernel
theorem dX9_kindOf_91 : decode cX9_kindOf 91 = .ok (.bipush 7, 2) := by decide +kernel
theorem dX9_kindOf_93 : decode cX9_kindOf 93 = .ok (.ireturn, 1) := by decide +kernel
theorem dX9_kindOf_94 : decode cX9_kindOf 94 = .ok (.bipush (-9), 2) := by decide +kernel
theorem dX9_kindOf_96 : decode cX9_kindOf 96 = .ok (.ireturn, 1) := by decide +kernel
theorem dX9_next_0 : decode cX9_next 0 = .ok (.aload_n 0, 1) := by decide +kernel
theorem dX9_next_1 : decode cX9_next 1 = .ok (.bipush 32, 2) := by decide +kernel
theorem dX9_next_3 : decode cX9_next 3 = .ok (.bipush 32, 2) := by decide +kernel
theorem dX9_next_5 : decode cX9_next 5 = .ok (.invokevirtual 153, 3) := by decide +kernel
theorem dX9_next_8 : decode cX9_next 8 = .ok (.ifCond .eq 16, 3) := by decide +kernel
theorem dX9_next_11 : decode cX9_next 11 = .ok (.aload_n 0, 1) := by decide +kernel
theorem dX9_next_12 : decode cX9_next 12 = .ok (.dup, 1) := by decide +kernel
theorem dX9_next_13 : decode cX9_next 13 = .ok (.getfield 150, 3) := by decide +kernel
theorem dX9_next_16 : decode cX9_next 16 = .ok (.iconst 1, 1) := by decide +kernel
theorem dX9_next_17 : decode cX9_next 17 = .ok (.iadd, 1) := by decide +kernel
theorem dX9_next_18 : decode cX9_next 18 = .ok (.putfield 150, 3) := by decide +kernel
theorem dX9_next_21 : decode cX9_next 21 = .ok (.goto (-21), 3) := by decide +kernel
theorem dX9_next_24 : decode cX9_next 24 = .ok (.aload_n 0, 1) := by decide +kernel
theorem dX9_next_25 : decode cX9_next 25 = .ok (.aload_n 0, 1) := by decide +kernel
theorem dX9_next_26 : decode cX9_next 26 = .ok (.getfield 150, 3) := by decide +kernel
theorem dX9_next_29 : decode cX9_next 29 = .ok (.putfield 156, 3) := by decide +kernel
theorem dX9_next_32 : decode cX9_next 32 = .ok (.aload_n 0, 1) := by decide +kernel
theorem dX9_next_33 : decode cX9_next 33 = .ok (.iconst 0, 1) := by decide +kernel
theorem dX9_next_34 : decode cX9_next 34 = .ok (.putfield 159, 3) := by decide +kernel
theorem dX9_next_37 : decode cX9_next 37 = .ok (.aload_n 0, 1) := by decide +kernel
theorem dX9_next_38 : decode cX9_next 38 = .ok (.getfield 150, 3) := by decide +kernel
theorem dX9_next_41 : decode cX9_next 41 = .ok (.aload_n 0, 1) := by decide +kernel
theorem dX9_next_42 : decode cX9_next 42 = .ok (.getfield 147, 3) := by decide +kernel
theorem dX9_next_45 : decode cX9_next 45 = .ok (.if_icmp .ne 11, 3) := by decide +kernel
theorem dX9_next_48 : decode cX9_next 48 = .ok (.aload_n 0, 1) := by decide +kernel
theorem dX9_next_49 : decode cX9_next 49 = .ok (.iconst 0, 1) := by decide +kernel
theorem dX9_next_50 : decode cX9_next 50 = .ok (.putfield 162, 3) := by decide +kernel
theorem dX9_next_53 : decode cX9_next 53 = .ok (.goto 313, 3) := by decide +kernel
theorem dX9_next_56 : decode cX9_next 56 = .ok (.aload_n 0, 1) := by decide +kernel
theorem dX9_next_57 : decode cX9_next 57 = .ok (.bipush 48, 2) := by decide +kernel
theorem dX9_next_59 : decode cX9_next 59 = .ok (.bipush 57, 2) := by decide +kernel
theorem dX9_next_61 : decode cX9_next 61 = .ok (.invokevirtual 153, 3) := by decide +kernel
theorem dX9_next_64 : decode cX9_next 64 = .ok (.ifCond .eq 117, 3) := by decide +kernel
theorem dX9_next_67 : decode cX9_next 67 = .ok (.aload_n 0, 1) := by decide +kernel
theorem dX9_next_68 : decode cX9_next 68 = .ok (.bipush 48, 2) := by decide +kernel
theorem dX9_next_70 : decode cX9_next 70 = .ok (.bipush 57, 2) := by decide +kernel
theorem dX9_next_72 : decode cX9_next 72 = .ok (.invokevirtual 153, 3) := by decide +kernel
theorem dX9_next_75 : decode cX9_next 75 = .ok (.ifCond .eq 57, 3) := by decide +kernel
theorem dX9_next_78 : decode cX9_next 78 = .ok (.aload_n 0, 1) := by decide +kernel
theorem dX9_next_79 : decode cX9_next 79 = .ok (.aload_n 0, 1) := by decide +kernel
theorem dX9_next_80 : decode cX9_next 80 = .ok (.getfield 159, 3) := by decide +kernel
theorem dX9_next_83 : decode cX9_next 83 = .ok (.sipush 255, 3) := by decide +kernel
theorem dX9_next_86 : decode cX9_next 86 = .ok (.if_icmp .le 10, 3) := by decide +kernel
theorem dX9_next_89 : decode cX9_next 89 = .ok (.aload_n 0, 1) := by decide +kernel
theorem dX9_next_90 : decode cX9_next 90 = .ok (.getfield 159, 3) := by decide +kernel
theorem dX9_next_93 : decode cX9_next 93 = .ok (.goto 23, 3) := by decide +kernel
theorem dX9_next_96 : decode cX9_next 96 = .ok (.bipush 10, 2) := by decide +kernel
theorem dX9_next_98 : decode cX9_next 98 = .ok (.aload_n 0, 1) := by decide +kernel
theorem dX9_next_99 : decode cX9_next 99 = .ok (.getfield 159, 3) := by decide +kernel
theorem dX9_next_102 : decode cX9_next 102 = .ok (.imul, 1) := by decide +kernel
theorem dX9_next_103 : decode cX9_next 103 = .ok (.aload_n 0, 1) := by decide +kernel
theorem dX9_next_104 : decode cX9_next 104 = .ok (.getfield 29, 3) := by decide +kernel
theorem dX9_next_107 : decode cX9_next 107 = .ok (.aload_n 0, 1) := by decide +kernel
theorem dX9_next_108 : decode cX9_next 108 = .ok (.getfield 150, 3) := by decide +kernel
theorem dX9_next_111 : decode cX9_next 111 = .ok (.iaload, 1) := by decide +kernel
theorem dX9_next_112 : decode cX9_next 112 = .ok (.iadd, 1) := by decide +kernel
theorem dX9_next_113 : decode cX9_next 113 = .ok (.bipush 48, 2) := by decide +kernel
theorem dX9_next_115 : decode cX9_next 115 = .ok (.isub, 1) := by decide +kernel
theorem dX9_next_116 : decode cX9_next 116 = .ok (.putfield 159, 3) := by decide +kernel
theorem dX9_next_119 : decode cX9_next 119 = .ok (.aload_n 0, 1) := by decide +kernel
theorem dX9_next_120 : decode cX9_next 120 = .ok (.dup, 1) := by decide +kernel
theorem dX9_next_121 : decode cX9_next 121 = .ok (.getfield 150, 3) := by decide +kernel
theorem dX9_next_124 : decode cX9_next 124 = .ok (.iconst 1, 1) := by decide +kernel
theorem dX9_next_125 : decode cX9_next 125 = .ok (.iadd, 1) := by decide +kernel
theorem dX9_next_126 : decode cX9_next 126 = .ok (.putfield 150, 3) := by decide +kernel
theorem dX9_next_129 : decode cX9_next 129 = .ok (.goto (-62), 3) := by decide +kernel
theorem dX9_next_132 : decode cX9_next 132 = .ok (.aload_n 0, 1) := by decide +kernel
theorem dX9_next_133 : decode cX9_next 133 = .ok (.aload_n 0, 1) := by decide +kernel
theorem dX9_next_134 : decode cX9_next 134 = .ok (.getfield 159, 3) := by decide +kernel
theorem dX9_next_137 : decode cX9_next 137 = .ok (.sipush 255, 3) := by decide +kernel
theorem dX9_next_140 : decode cX9_next 140 = .ok (.if_icmp .gt 30, 3) := by decide +kernel
theorem dX9_next_143 : decode cX9_next 143 = .ok (.aload_n 0, 1) := by decide +kernel
theorem dX9_next_144 : decode cX9_next 144 = .ok (.getfield 29, 3) := by decide +kernel
theorem dX9_next_147 : decode cX9_next 147 = .ok (.aload_n 0, 1) := by decide +kernel
theorem dX9_next_148 : decode cX9_next 148 = .ok (.getfield 156, 3) := by decide +kernel
theorem dX9_next_151 : decode cX9_next 151 = .ok (.iaload, 1) := by decide +kernel
theorem dX9_next_152 : decode cX9_next 152 = .ok (.bipush 48, 2) := by decide +kernel
theorem dX9_next_154 : decode cX9_next 154 = .ok (.if_icmp .ne 20, 3) := by decide +kernel
theorem dX9_next_157 : decode cX9_next 157 = .ok (.aload_n 0, 1) := by decide +kernel
theorem dX9_next_158 : decode cX9_next 158 = .ok (.getfield 150, 3) := by decide +kernel
theorem dX9_next_161 : decode cX9_next 161 = .ok (.aload_n 0, 1) := by decide +kernel
theorem dX9_next_162 : decode cX9_next 162 = .ok (.getfield 156, 3) := by decide +kernel
theorem dX9_next_165 : decode cX9_next 165 = .ok (.isub, 1) := by decide +kernel
theorem dX9_next_166 : decode cX9_next 166 = .ok (.iconst 1, 1) := by decide +kernel
theorem dX9_next_167 : decode cX9_next 167 = .ok (.if_icmp .le 7, 3) := by decide +kernel
theorem dX9_next_170 : decode cX9_next 170 = .ok (.iconst 2, 1) := by decide +kernel
theorem dX9_next_171 : decode cX9_next 171 = .ok (.goto 4, 3) := by decide +kernel
theorem dX9_next_174 : decode cX9_next 174 = .ok (.iconst 1, 1) := by decide +kernel
theorem dX9_next_175 : decode cX9_next 175 = .ok (.putfield 162, 3) := by decide +kernel
theorem dX9_next_178 : decode cX9_next 178 = .ok (.goto 188, 3) := by decide +kernel
theorem dX9_next_181 : decode cX9_next 181 = .ok (.aload_n 0, 1) := by decide +kernel
theorem dX9_next_182 : decode cX9_next 182 = .ok (.bipush 97, 2) := by decide +kernel
theorem dX9_next_184 : decode cX9_next 184 = .ok (.bipush 122, 2) := by decide +kernel
theorem dX9_next_186 : decode cX9_next 186 = .ok (.invokevirtual 153, 3) := by decide +kernel
theorem dX9_next_189 : decode cX9_next 189 = .ok (.ifCond .eq 144, 3) := by decide +kernel
theorem dX9_next_192 : decode cX9_next 192 = .ok (.aload_n 0, 1) := by decide +kernel
theorem dX9_next_193 : decode cX9_next 193 = .ok (.bipush 97, 2) := by decide +kernel
theorem dX9_next_195 : decode cX9_next 195 = .ok (.bipush 122, 2) := by decide +kernel
theorem dX9_next_197 : decode cX9_next 197 = .ok (.invokevirtual 153, 3) := by decide +kernel
theorem dX9_next_200 : decode cX9_next 200 = .ok (.ifCond .eq 54, 3) := by decide +kernel
theorem dX9_next_203 : decode cX9_next 203 = .ok (.aload_n 0, 1) := by decide +kernel
theorem dX9_next_204 : decode cX9_next 204 = .ok (.aload_n 0, 1) := by decide +kernel
theorem dX9_next_205 : decode cX9_next 205 = .ok (.getfield 159, 3) := by decide +kernel
theorem dX9_next_208 : decode cX9_next 208 = .ok (.ldc 165, 2) := by decide +kernel
theorem dX9_next_210 : decode cX9_next 210 = .ok (.if_icmp .le 10, 3) := by decide +kernel
theorem dX9_next_213 : decode cX9_next 213 = .ok (.aload_n 0, 1) := by decide +kernel
theorem dX9_next_214 : decode cX9_next 214 = .ok (.getfield 159, 3) := by decide +kernel
theorem dX9_next_217 : decode cX9_next 217 = .ok (.goto 21, 3) := by decide +kernel
theorem dX9_next_220 : decode cX9_next 220 = .ok (.sipush 256, 3) := by decide +kernel
theorem dX9_next_223 : decode cX9_next 223 = .ok (.aload_n 0, 1) := by decide +kernel
theorem dX9_next_224 : decode cX9_next 224 = .ok (.getfield 159, 3) := by decide +kernel
theorem dX9_next_227 : decode cX9_next 227 = .ok (.imul, 1) := by decide +kernel
theorem dX9_next_228 : decode cX9_next 228 = .ok (.aload_n 0, 1) := by decide +kernel
theorem dX9_next_229 : decode cX9_next 229 = .ok (.getfield 29, 3) := by decide +kernel
theorem dX9_next_232 : decode cX9_next 232 = .ok (.aload_n 0, 1) := by decide +kernel
theorem dX9_next_233 : decode cX9_next 233 = .ok (.getfield 150, 3) := by decide +kernel
theorem dX9_next_236 : decode cX9_next 236 = .ok (.iaload, 1) := by decide +kernel
theorem dX9_next_237 : decode cX9_next 237 = .ok (.iadd, 1) := by decide +kernel
theorem dX9_next_238 : decode cX9_next 238 = .ok (.putfield 159, 3) := by decide +kernel
theorem dX9_next_241 : decode cX9_next 241 = .ok (.aload_n 0, 1) := by decide +kernel
theorem dX9_next_242 : decode cX9_next 242 = .ok (.dup, 1) := by decide +kernel
theorem dX9_next_243 : decode cX9_next 243 = .ok (.getfield 150, 3) := by decide +kernel
theorem dX9_next_246 : decode cX9_next 246 = .ok (.iconst 1, 1) := by decide +kernel
theorem dX9_next_247 : decode cX9_next 247 = .ok (.iadd, 1) := by decide +kernel
theorem dX9_next_248 : decode cX9_next 248 = .ok (.putfield 150, 3) := by decide +kernel
theorem dX9_next_251 : decode cX9_next 251 = .ok (.goto (-59), 3) := by decide +kernel
theorem dX9_next_254 : decode cX9_next 254 = .ok (.aload_n 0, 1) := by decide +kernel
theorem dX9_next_255 : decode cX9_next 255 = .ok (.getfield 159, 3) := by decide +kernel
theorem dX9_next_258 : decode cX9_next 258 = .ok (.bipush 114, 2) := by decide +kernel
theorem dX9_next_260 : decode cX9_next 260 = .ok (.if_icmp .eq 39, 3) := by decide +kernel
theorem dX9_next_263 : decode cX9_next 263 = .ok (.aload_n 0, 1) := by decide +kernel
theorem dX9_next_264 : decode cX9_next 264 = .ok (.getfield 159, 3) := by decide +kernel
theorem dX9_next_267 : decode cX9_next 267 = .ok (.bipush 102, 2) := by decide +kernel
theorem dX9_next_269 : decode cX9_next 269 = .ok (.if_icmp .eq 30, 3) := by decide +kernel
theorem dX9_next_272 : decode cX9_next 272 = .ok (.aload_n 0, 1) := by decide +kernel
theorem dX9_next_273 : decode cX9_next 273 = .ok (.getfield 159, 3) := by decide +kernel
theorem dX9_next_276 : decode cX9_next 276 = .ok (.bipush 97, 2) := by decide +kernel
theorem dX9_next_278 : decode cX9_next 278 = .ok (.if_icmp .eq 21, 3) := by decide +kernel
theorem dX9_next_281 : decode cX9_next 281 = .ok (.aload_n 0, 1) := by decide +kernel
theorem dX9_next_282 : decode cX9_next 282 = .ok (.getfield 159, 3) := by decide +kernel
theorem dX9_next_285 : decode cX9_next 285 = .ok (.bipush 107, 2) := by decide +kernel
theorem dX9_next_287 : decode cX9_next 287 = .ok (.if_icmp .eq 12, 3) := by decide +kernel
theorem dX9_next_290 : decode cX9_next 290 = .ok (.aload_n 0, 1) := by decide +kernel
theorem dX9_next_291 : decode cX9_next 291 = .ok (.getfield 159, 3) := by decide +kernel
theorem dX9_next_294 : decode cX9_next 294 = .ok (.bipush 115, 2) := by decide +kernel
theorem dX9_next_296 : decode cX9_next 296 = .ok (.if_icmp .ne 7, 3) := by decide +kernel
theorem dX9_next_299 : decode cX9_next 299 = .ok (.iconst 1, 1) := by decide +kernel
theorem dX9_next_300 : decode cX9_next 300 = .ok (.goto 4, 3) := by decide +kernel
theorem dX9_next_303 : decode cX9_next 303 = .ok (.iconst 0, 1) := by decide +kernel
theorem dX9_next_304 : decode cX9_next 304 = .ok (.istore_n 1, 1) := by decide +kernel
theorem dX9_next_305 : decode cX9_next 305 = .ok (.aload_n 0, 1) := by decide +kernel
theorem dX9_next_306 : decode cX9_next 306 = .ok (.iload_n 1, 1) := by decide +kernel
theorem dX9_next_307 : decode cX9_next 307 = .ok (.ifCond .ne 15, 3) := by decide +kernel
theorem dX9_next_310 : decode cX9_next 310 = .ok (.aload_n 0, 1) := by decide +kernel
theorem dX9_next_311 : decode cX9_next 311 = .ok (.getfield 159, 3) := by decide +kernel
theorem dX9_next_314 : decode cX9_next 314 = .ok (.invokestatic 166, 3) := by decide +kernel
theorem dX9_next_317 : decode cX9_next 317 = .ok (.bipush (-9), 2) := by decide +kernel
theorem dX9_next_319 : decode cX9_next 319 = .ok (.if_icmp .eq 7, 3) := by decide +kernel
theorem dX9_next_322 : decode cX9_next 322 = .ok (.iconst 4, 1) := by decide +kernel
theorem dX9_next_323 : decode cX9_next 323 = .ok (.goto 4, 3) := by decide +kernel
theorem dX9_next_326 : decode cX9_next 326 = .ok (.iconst 2, 1) := by decide +kernel
theorem dX9_next_327 : decode cX9_next 327 = .ok (.putfield 162, 3) := by decide +kernel
theorem dX9_next_330 : decode cX9_next 330 = .ok (.goto 36, 3) := by decide +kernel
theorem dX9_next_333 : decode cX9_next 333 = .ok (.aload_n 0, 1) := by decide +kernel
theorem dX9_next_334 : decode cX9_next 334 = .ok (.aload_n 0, 1) := by decide +kernel
theorem dX9_next_335 : decode cX9_next 335 = .ok (.getfield 29, 3) := by decide +kernel
theorem dX9_next_338 : decode cX9_next 338 = .ok (.aload_n 0, 1) := by decide +kernel
theorem dX9_next_339 : decode cX9_next 339 = .ok (.getfield 150, 3) := by decide +kernel
theorem dX9_next_342 : decode cX9_next 342 = .ok (.iaload, 1) := by decide +kernel
theorem dX9_next_343 : decode cX9_next 343 = .ok (.bipush 59, 2) := by decide +kernel
theorem dX9_next_345 : decode cX9_next 345 = .ok (.if_icmp .ne 7, 3) := by decide +kernel
theorem dX9_next_348 : decode cX9_next 348 = .ok (.iconst 3, 1) := by decide +kernel
theorem dX9_next_349 : decode cX9_next 349 = .ok (.goto 4, 3) := by decide +kernel
theorem dX9_next_352 : decode cX9_next 352 = .ok (.iconst 2, 1) := by decide +kernel
theorem dX9_next_353 : decode cX9_next 353 = .ok (.putfield 162, 3) := by decide +kernel
theorem dX9_next_356 : decode cX9_next 356 = .ok (.aload_n 0, 1) := by decide +kernel
theorem dX9_next_357 : decode cX9_next 357 = .ok (.dup, 1) := by decide +kernel
theorem dX9_next_358 : decode cX9_next 358 = .ok (.getfield 150, 3) := by decide +kernel
theorem dX9_next_361 : decode cX9_next 361 = .ok (.iconst 1, 1) := by decide +kernel
theorem dX9_next_362 : decode cX9_next 362 = .ok (.iadd, 1) := by decide +kernel
theorem dX9_next_363 : decode cX9_next 363 = .ok (.putfield 150, 3) := by decide +kernel
theorem dX9_next_366 : decode cX9_next 366 = .ok (.return_, 1) := by decide +kernel
theorem dX9_must_0 : decode cX9_must 0 = .ok (.aload_n 0, 1) := by decide +kernel
theorem dX9_must_1 : decode cX9_must 1 = .ok (.getfield 159, 3) := by decide +kernel
theorem dX9_must_4 : decode cX9_must 4 = .ok (.istore_n 2, 1) := by decide +kernel
theorem dX9_must_5 : decode cX9_must 5 = .ok (.aload_n 0, 1) := by decide +kernel
theorem dX9_must_6 : decode cX9_must 6 = .ok (.getfield 169, 3) := by decide +kernel
theorem dX9_must_9 : decode cX9_must 9 = .ok (.bipush (-9), 2) := by decide +kernel
theorem dX9_must_11 : decode cX9_must 11 = .ok (.if_icmp .ne 22, 3) := by decide +kernel
theorem dX9_must_14 : decode cX9_must 14 = .ok (.iload_n 1, 1) := by decide +kernel
theorem dX9_must_15 : decode cX9_must 15 = .ok (.ifCond .eq 10, 3) := by decide +kernel
theorem dX9_must_18 : decode cX9_must 18 = .ok (.aload_n 0, 1) := by decide +kernel
theorem dX9_must_19 : decode cX9_must 19 = .ok (.invokevirtual 172, 3) := by decide +kernel
theorem dX9_must_22 : decode cX9_must 22 = .ok (.goto 11, 3) := by decide +kernel
theorem dX9_must_25 : decode cX9_must 25 = .ok (.aload_n 0, 1) := by decide +kernel
theorem dX9_must_26 : decode cX9_must 26 = .ok (.aload_n 0, 1) := by decide +kernel
theorem dX9_must_27 : decode cX9_must 27 = .ok (.getfield 156, 3) := by decide +kernel
theorem dX9_must_30 : decode cX9_must 30 = .ok (.putfield 169, 3) := by decide +kernel
theorem dX9_must_33 : decode cX9_must 33 = .ok (.iload_n 2, 1) := by decide +kernel
theorem dX9_must_34 : decode cX9_must 34 = .ok (.ireturn, 1) := by decide +kernel
theorem dX9_number_0 : decode cX9_number 0 = .ok (.aload_n 0, 1) := by decide +kernel
theorem dX9_number_1 : decode cX9_number 1 = .ok (.aload_n 0, 1) := by decide +kernel
theorem dX9_number_2 : decode cX9_number 2 = .ok (.getfield 162, 3) := by decide +kernel
theorem dX9_number_5 : decode cX9_number 5 = .ok (.iconst 1, 1) := by decide +kernel
theorem dX9_number_6 : decode cX9_number 6 = .ok (.if_icmp .ne 19, 3) := by decide +kernel
theorem dX9_number_9 : decode cX9_number 9 = .ok (.aload_n 0, 1) := by decide +kernel
theorem dX9_number_10 : decode cX9_number 10 = .ok (.getfield 159, 3) := by decide +kernel
theorem dX9_number_13 : decode cX9_number 13 = .ok (.iload_n 1, 1) := by decide +kernel
theorem dX9_number_14 : decode cX9_number 14 = .ok (.iload_n 2, 1) := by decide +kernel
theorem dX9_number_15 : decode cX9_number 15 = .ok (.invokestatic 39, 3) := by decide +kernel
theorem dX9_number_18 : decode cX9_number 18 = .ok (.ifCond .eq 7, 3) := by decide +kernel
theorem dX9_number_21 : decode cX9_number 21 = .ok (.iconst 1, 1) := by decide +kernel
theorem dX9_number_22 : decode cX9_number 22 = .ok (.goto 4, 3) := by decide +kernel
theorem dX9_number_25 : decode cX9_number 25 = .ok (.iconst 0, 1) := by decide +kernel
theorem dX9_number_26 : decode cX9_number 26 = .ok (.invokevirtual 175, 3) := by decide +kernel
theorem dX9_number_29 : decode cX9_number 29 = .ok (.ireturn, 1) := by decide +kernel
theorem dX9_usedBits_0 : decode cX9_usedBits 0 = .ok (.iconst 0, 1) := by decide +kernel
theorem dX9_usedBits_1 : decode cX9_usedBits 1 = .ok (.istore_n 2, 1) := by decide +kernel
theorem dX9_usedBits_2 : decode cX9_usedBits 2 = .ok (.iconst 0, 1) := by decide +kernel
theorem dX9_usedBits_3 : decode cX9_usedBits 3 = .ok (.istore_n 3, 1) := by decide +kernel
theorem dX9_usedBits_4 : decode cX9_usedBits 4 = .ok (.iload_n 3, 1) := by decide +kernel
theorem dX9_usedBits_5 : decode cX9_usedBits 5 = .ok (.aload_n 0, 1) := by decide +kernel
theorem dX9_usedBits_6 : decode cX9_usedBits 6 = .ok (.getfield 13, 3) := by decide +kernel
theorem dX9_usedBits_9 : decode cX9_usedBits 9 = .ok (.bipush 91, 2) := by decide +kernel
theorem dX9_usedBits_11 : decode cX9_usedBits 11 = .ok (.iaload, 1) := by decide +kernel
theorem dX9_usedBits_12 : decode cX9_usedBits 12 = .ok (.if_icmp .ge 60, 3) := by decide +kernel
theorem dX9_usedBits_15 : decode cX9_usedBits 15 = .ok (.aload_n 0, 1) := by decide +kernel
theorem dX9_usedBits_16 : decode cX9_usedBits 16 = .ok (.getfield 13, 3) := by decide +kernel
theorem dX9_usedBits_19 : decode cX9_usedBits 19 = .ok (.bipush 30, 2) := by decide +kernel
theorem dX9_usedBits_21 : decode cX9_usedBits 21 = .ok (.iload_n 3, 1) := by decide +kernel
theorem dX9_usedBits_22 : decode cX9_usedBits 22 = .ok (.iadd, 1) := by decide +kernel
theorem dX9_usedBits_23 : decode cX9_usedBits 23 = .ok (.iaload, 1) := by decide +kernel
theorem dX9_usedBits_24 : decode cX9_usedBits 24 = .ok (.istore 4, 2) := by decide +kernel
theorem dX9_usedBits_26 : decode cX9_usedBits 26 = .ok (.aload_n 0, 1) := by decide +kernel
theorem dX9_usedBits_27 : decode cX9_usedBits 27 = .ok (.getfield 13, 3) := by decide +kernel
theorem dX9_usedBits_30 : decode cX9_usedBits 30 = .ok (.bipush 18, 2) := by decide +kernel
theorem dX9_usedBits_32 : decode cX9_usedBits 32 = .ok (.iload_n 3, 1) := by decide +kernel
theorem dX9_usedBits_33 : decode cX9_usedBits 33 = .ok (.iadd, 1) := by decide +kernel
theorem dX9_usedBits_34 : decode cX9_usedBits 34 = .ok (.iaload, 1) := by decide +kernel
theorem dX9_usedBits_35 : decode cX9_usedBits 35 = .ok (.iload_n 1, 1) := by decide +kernel
theorem dX9_usedBits_36 : decode cX9_usedBits 36 = .ok (.if_icmp .ne 30, 3) := by decide +kernel
theorem dX9_usedBits_39 : decode cX9_usedBits 39 = .ok (.iload 4, 2) := by decide +kernel
theorem dX9_usedBits_41 : decode cX9_usedBits 41 = .ok (.aload_n 0, 1) := by decide +kernel
theorem dX9_usedBits_42 : decode cX9_usedBits 42 = .ok (.getfield 13, 3) := by decide +kernel
theorem dX9_usedBits_45 : decode cX9_usedBits 45 = .ok (.bipush 42, 2) := by decide +kernel
theorem dX9_usedBits_47 : decode cX9_usedBits 47 = .ok (.iload_n 3, 1) := by decide +kernel
theorem dX9_usedBits_48 : decode cX9_usedBits 48 = .ok (.iadd, 1) := by decide +kernel
theorem dX9_usedBits_49 : decode cX9_usedBits 49 = .ok (.iaload, 1) := by decide +kernel
theorem dX9_usedBits_50 : decode cX9_usedBits 50 = .ok (.if_icmp .gt 16, 3) := by decide +kernel
theorem dX9_usedBits_53 : decode cX9_usedBits 53 = .ok (.iload_n 2, 1) := by decide +kernel
theorem dX9_usedBits_54 : decode cX9_usedBits 54 = .ok (.iconst 1, 1) := by decide +kernel
theorem dX9_usedBits_55 : decode cX9_usedBits 55 = .ok (.iload 4, 2) := by decide +kernel
theorem dX9_usedBits_57 : decode cX9_usedBits 57 = .ok (.ishl, 1) := by decide +kernel
theorem dX9_usedBits_58 : decode cX9_usedBits 58 = .ok (.ior, 1) := by decide +kernel
theorem dX9_usedBits_59 : decode cX9_usedBits 59 = .ok (.istore_n 2, 1) := by decide +kernel
theorem dX9_usedBits_60 : decode cX9_usedBits 60 = .ok (.iinc 4 1, 3) := by decide +kernel
theorem dX9_usedBits_63 : decode cX9_usedBits 63 = .ok (.goto (-37), 3) := by decide +kernel
theorem dX9_usedBits_66 : decode cX9_usedBits 66 = .ok (.iinc 3 1, 3) := by decide +kernel
theorem dX9_usedBits_69 : decode cX9_usedBits 69 = .ok (.goto (-65), 3) := by decide +kernel
theorem dX9_usedBits_72 : decode cX9_usedBits 72 = .ok (.iload_n 2, 1) := by decide +kernel
theorem dX9_usedBits_73 : decode cX9_usedBits 73 = .ok (.ireturn, 1) := by decide +kernel
