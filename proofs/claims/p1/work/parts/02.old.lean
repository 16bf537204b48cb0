theorem dX7_counts_0 : decode cX7_counts 0 = .ok (.bipush 21, 2) := by decide +kernel
theorem dX7_counts_2 : decode cX7_counts 2 = .ok (.iload_n 1, 1) := by decide +kernel
theorem dX7_counts_3 : decode cX7_counts 3 = .ok (.imul, 1) := by decide +kernel
theorem dX7_counts_4 : decode cX7_counts 4 = .ok (.iload_n 2, 1) := by decide +kernel
theorem dX7_counts_5 : decode cX7_counts 5 = .ok (.iadd, 1) := by decide +kernel
theorem dX7_counts_6 : decode cX7_counts 6 = .ok (.istore_n 3, 1) := by decide +kernel
theorem dX7_counts_7 : decode cX7_counts 7 = .ok (.aload_n 0, 1) := by decide +kernel
theorem dX7_counts_8 : decode cX7_counts 8 = .ok (.getfield 37, 3) := by decide +kernel
theorem dX7_counts_11 : decode cX7_counts 11 = .ok (.iload_n 3, 1) := by decide +kernel
theorem dX7_counts_12 : decode cX7_counts 12 = .ok (.baload, 1) := by decide +kernel
theorem dX7_counts_13 : decode cX7_counts 13 = .ok (.ifCond .eq 4, 3) := by decide +kernel
theorem dX7_counts_16 : decode cX7_counts 16 = .ok (.return_, 1) := by decide +kernel
theorem dX7_counts_17 : decode cX7_counts 17 = .ok (.aload_n 0, 1) := by decide +kernel
theorem dX7_counts_18 : decode cX7_counts 18 = .ok (.getfield 37, 3) := by decide +kernel
theorem dX7_counts_21 : decode cX7_counts 21 = .ok (.iload_n 3, 1) := by decide +kernel
theorem dX7_counts_22 : decode cX7_counts 22 = .ok (.iconst 1, 1) := by decide +kernel
theorem dX7_counts_23 : decode cX7_counts 23 = .ok (.bastore, 1) := by decide +kernel
theorem dX7_counts_24 : decode cX7_counts 24 = .ok (.aload_n 0, 1) := by decide +kernel
theorem dX7_counts_25 : decode cX7_counts 25 = .ok (.getfield 41, 3) := by decide +kernel
theorem dX7_counts_28 : decode cX7_counts 28 = .ok (.iload_n 3, 1) := by decide +kernel
theorem dX7_counts_29 : decode cX7_counts 29 = .ok (.iload_n 2, 1) := by decide +kernel
theorem dX7_counts_30 : decode cX7_counts 30 = .ok (.ifCond .ne 7, 3) := by decide +kernel
theorem dX7_counts_33 : decode cX7_counts 33 = .ok (.iconst 1, 1) := by decide +kernel
theorem dX7_counts_34 : decode cX7_counts 34 = .ok (.goto 4, 3) := by decide +kernel
theorem dX7_counts_37 : decode cX7_counts 37 = .ok (.iconst 0, 1) := by decide +kernel
theorem dX7_counts_38 : decode cX7_counts 38 = .ok (.iastore, 1) := by decide +kernel
theorem dX7_counts_39 : decode cX7_counts 39 = .ok (.iconst 0, 1) := by decide +kernel
theorem dX7_counts_40 : decode cX7_counts 40 = .ok (.istore 4, 2) := by decide +kernel
theorem dX7_counts_42 : decode cX7_counts 42 = .ok (.iconst 0, 1) := by decide +kernel
theorem dX7_counts_43 : decode cX7_counts 43 = .ok (.istore 5, 2) := by decide +kernel
theorem dX7_counts_45 : decode cX7_counts 45 = .ok (.aload_n 0, 1) := by decide +kernel
theorem dX7_counts_46 : decode cX7_counts 46 = .ok (.getfield 19, 3) := by decide +kernel
theorem dX7_counts_49 : decode cX7_counts 49 = .ok (.iconst 0, 1) := by decide +kernel
theorem dX7_counts_50 : decode cX7_counts 50 = .ok (.iconst (-1), 1) := by decide +kernel
theorem dX7_counts_51 : decode cX7_counts 51 = .ok (.iastore, 1) := by decide +kernel
theorem dX7_counts_52 : decode cX7_counts 52 = .ok (.aload_n 0, 1) := by decide +kernel
theorem dX7_counts_53 : decode cX7_counts 53 = .ok (.getfield 22, 3) := by decide +kernel
theorem dX7_counts_56 : decode cX7_counts 56 = .ok (.iconst 0, 1) := by decide +kernel
theorem dX7_counts_57 : decode cX7_counts 57 = .ok (.iconst 0, 1) := by decide +kernel
theorem dX7_counts_58 : decode cX7_counts 58 = .ok (.iastore, 1) := by decide +kernel
theorem dX7_counts_59 : decode cX7_counts 59 = .ok (.aload_n 0, 1) := by decide +kernel
theorem dX7_counts_60 : decode cX7_counts 60 = .ok (.getfield 25, 3) := by decide +kernel
theorem dX7_counts_63 : decode cX7_counts 63 = .ok (.iconst 0, 1) := by decide +kernel
theorem dX7_counts_64 : decode cX7_counts 64 = .ok (.iconst 0, 1) := by decide +kernel
theorem dX7_counts_65 : decode cX7_counts 65 = .ok (.iastore, 1) := by decide +kernel
theorem dX7_counts_66 : decode cX7_counts 66 = .ok (.aload_n 0, 1) := by decide +kernel
theorem dX7_counts_67 : decode cX7_counts 67 = .ok (.getfield 28, 3) := by decide +kernel
theorem dX7_counts_70 : decode cX7_counts 70 = .ok (.iconst 0, 1) := by decide +kernel
theorem dX7_counts_71 : decode cX7_counts 71 = .ok (.iconst 0, 1) := by decide +kernel
theorem dX7_counts_72 : decode cX7_counts 72 = .ok (.iastore, 1) := by decide +kernel
theorem dX7_counts_73 : decode cX7_counts 73 = .ok (.aload_n 0, 1) := by decide +kernel
theorem dX7_counts_74 : decode cX7_counts 74 = .ok (.getfield 55, 3) := by decide +kernel
theorem dX7_counts_77 : decode cX7_counts 77 = .ok (.iconst 0, 1) := by decide +kernel
theorem dX7_counts_78 : decode cX7_counts 78 = .ok (.iconst 0, 1) := by decide +kernel
theorem dX7_counts_79 : decode cX7_counts 79 = .ok (.iconst 0, 1) := by decide +kernel
theorem dX7_counts_80 : decode cX7_counts 80 = .ok (.invokestatic 177, 3) := by decide +kernel
theorem dX7_counts_83 : decode cX7_counts 83 = .ok (.iconst 1, 1) := by decide +kernel
theorem dX7_counts_84 : decode cX7_counts 84 = .ok (.bastore, 1) := by decide +kernel
theorem dX7_counts_85 : decode cX7_counts 85 = .ok (.aload_n 0, 1) := by decide +kernel
theorem dX7_counts_86 : decode cX7_counts 86 = .ok (.getfield 58, 3) := by decide +kernel
theorem dX7_counts_89 : decode cX7_counts 89 = .ok (.iconst 0, 1) := by decide +kernel
theorem dX7_counts_90 : decode cX7_counts 90 = .ok (.iconst 0, 1) := by decide +kernel
theorem dX7_counts_91 : decode cX7_counts 91 = .ok (.iastore, 1) := by decide +kernel
theorem dX7_counts_92 : decode cX7_counts 92 = .ok (.iload 5, 2) := by decide +kernel
theorem dX7_counts_94 : decode cX7_counts 94 = .ok (.ifCond .lt 394, 3) := by decide +kernel
theorem dX7_counts_97 : decode cX7_counts 97 = .ok (.iload_n 2, 1) := by decide +kernel
theorem dX7_counts_98 : decode cX7_counts 98 = .ok (.ifCond .le 390, 3) := by decide +kernel
theorem dX7_counts_101 : decode cX7_counts 101 = .ok (.aload_n 0, 1) := by decide +kernel
theorem dX7_counts_102 : decode cX7_counts 102 = .ok (.getfield 19, 3) := by decide +kernel
theorem dX7_counts_105 : decode cX7_counts 105 = .ok (.iload 5, 2) := by decide +kernel
theorem dX7_counts_107 : decode cX7_counts 107 = .ok (.dup2, 1) := by decide +kernel
theorem dX7_counts_108 : decode cX7_counts 108 = .ok (.iaload, 1) := by decide +kernel
theorem dX7_counts_109 : decode cX7_counts 109 = .ok (.iconst 1, 1) := by decide +kernel
theorem dX7_counts_110 : decode cX7_counts 110 = .ok (.iadd, 1) := by decide +kernel
theorem dX7_counts_111 : decode cX7_counts 111 = .ok (.iastore, 1) := by decide +kernel
theorem dX7_counts_112 : decode cX7_counts 112 = .ok (.aload_n 0, 1) := by decide +kernel
theorem dX7_counts_113 : decode cX7_counts 113 = .ok (.getfield 19, 3) := by decide +kernel
theorem dX7_counts_116 : decode cX7_counts 116 = .ok (.iload 5, 2) := by decide +kernel
theorem dX7_counts_118 : decode cX7_counts 118 = .ok (.iaload, 1) := by decide +kernel
theorem dX7_counts_119 : decode cX7_counts 119 = .ok (.iload_n 1, 1) := by decide +kernel
theorem dX7_counts_120 : decode cX7_counts 120 = .ok (.invokestatic 133, 3) := by decide +kernel
theorem dX7_counts_123 : decode cX7_counts 123 = .ok (.if_icmp .ne 39, 3) := by decide +kernel
theorem dX7_counts_126 : decode cX7_counts 126 = .ok (.aload_n 0, 1) := by decide +kernel
theorem dX7_counts_127 : decode cX7_counts 127 = .ok (.getfield 55, 3) := by decide +kernel
theorem dX7_counts_130 : decode cX7_counts 130 = .ok (.aload_n 0, 1) := by decide +kernel
theorem dX7_counts_131 : decode cX7_counts 131 = .ok (.getfield 22, 3) := by decide +kernel
theorem dX7_counts_134 : decode cX7_counts 134 = .ok (.iload 5, 2) := by decide +kernel
theorem dX7_counts_136 : decode cX7_counts 136 = .ok (.iaload, 1) := by decide +kernel
theorem dX7_counts_137 : decode cX7_counts 137 = .ok (.aload_n 0, 1) := by decide +kernel
theorem dX7_counts_138 : decode cX7_counts 138 = .ok (.getfield 25, 3) := by decide +kernel
theorem dX7_counts_141 : decode cX7_counts 141 = .ok (.iload 5, 2) := by decide +kernel
theorem dX7_counts_143 : decode cX7_counts 143 = .ok (.iaload, 1) := by decide +kernel
theorem dX7_counts_144 : decode cX7_counts 144 = .ok (.aload_n 0, 1) := by decide +kernel
theorem dX7_counts_145 : decode cX7_counts 145 = .ok (.getfield 28, 3) := by decide +kernel
theorem dX7_counts_148 : decode cX7_counts 148 = .ok (.iload 5, 2) := by decide +kernel
theorem dX7_counts_150 : decode cX7_counts 150 = .ok (.iaload, 1) := by decide +kernel
theorem dX7_counts_151 : decode cX7_counts 151 = .ok (.invokestatic 177, 3) := by decide +kernel
theorem dX7_counts_154 : decode cX7_counts 154 = .ok (.iconst 0, 1) := by decide +kernel
theorem dX7_counts_155 : decode cX7_counts 155 = .ok (.bastore, 1) := by decide +kernel
theorem dX7_counts_156 : decode cX7_counts 156 = .ok (.iinc 5 (-1), 3) := by decide +kernel
theorem dX7_counts_159 : decode cX7_counts 159 = .ok (.goto (-67), 3) := by decide +kernel
theorem dX7_counts_162 : decode cX7_counts 162 = .ok (.aload_n 0, 1) := by decide +kernel
theorem dX7_counts_163 : decode cX7_counts 163 = .ok (.getfield 19, 3) := by decide +kernel
theorem dX7_counts_166 : decode cX7_counts 166 = .ok (.iload 5, 2) := by decide +kernel
theorem dX7_counts_168 : decode cX7_counts 168 = .ok (.iaload, 1) := by decide +kernel
theorem dX7_counts_169 : decode cX7_counts 169 = .ok (.istore 6, 2) := by decide +kernel
theorem dX7_counts_171 : decode cX7_counts 171 = .ok (.aload_n 0, 1) := by decide +kernel
theorem dX7_counts_172 : decode cX7_counts 172 = .ok (.getfield 22, 3) := by decide +kernel
theorem dX7_counts_175 : decode cX7_counts 175 = .ok (.iload 5, 2) := by decide +kernel
theorem dX7_counts_177 : decode cX7_counts 177 = .ok (.iaload, 1) := by decide +kernel
theorem dX7_counts_178 : decode cX7_counts 178 = .ok (.iload_n 1, 1) := by decide +kernel
theorem dX7_counts_179 : decode cX7_counts 179 = .ok (.iload 6, 2) := by decide +kernel
theorem dX7_counts_181 : decode cX7_counts 181 = .ok (.invokestatic 112, 3) := by decide +kernel
theorem dX7_counts_184 : decode cX7_counts 184 = .ok (.iadd, 1) := by decide +kernel
theorem dX7_counts_185 : decode cX7_counts 185 = .ok (.istore 7, 2) := by decide +kernel
theorem dX7_counts_187 : decode cX7_counts 187 = .ok (.aload_n 0, 1) := by decide +kernel
theorem dX7_counts_188 : decode cX7_counts 188 = .ok (.getfield 25, 3) := by decide +kernel
theorem dX7_counts_191 : decode cX7_counts 191 = .ok (.iload 5, 2) := by decide +kernel
theorem dX7_counts_193 : decode cX7_counts 193 = .ok (.iaload, 1) := by decide +kernel
theorem dX7_counts_194 : decode cX7_counts 194 = .ok (.iload_n 1, 1) := by decide +kernel
theorem dX7_counts_195 : decode cX7_counts 195 = .ok (.iload 6, 2) := by decide +kernel
theorem dX7_counts_197 : decode cX7_counts 197 = .ok (.aload_n 0, 1) := by decide +kernel
theorem dX7_counts_198 : decode cX7_counts 198 = .ok (.getfield 22, 3) := by decide +kernel
theorem dX7_counts_201 : decode cX7_counts 201 = .ok (.iload 5, 2) := by decide +kernel
theorem dX7_counts_203 : decode cX7_counts 203 = .ok (.iaload, 1) := by decide +kernel
theorem dX7_counts_204 : decode cX7_counts 204 = .ok (.aload_n 0, 1) := by decide +kernel
theorem dX7_counts_205 : decode cX7_counts 205 = .ok (.getfield 25, 3) := by decide +kernel
theorem dX7_counts_208 : decode cX7_counts 208 = .ok (.iload 5, 2) := by decide +kernel
theorem dX7_counts_210 : decode cX7_counts 210 = .ok (.iaload, 1) := by decide +kernel
theorem dX7_counts_211 : decode cX7_counts 211 = .ok (.iadd, 1) := by decide +kernel
theorem dX7_counts_212 : decode cX7_counts 212 = .ok (.invokestatic 115, 3) := by decide +kernel
theorem dX7_counts_215 : decode cX7_counts 215 = .ok (.iadd, 1) := by decide +kernel
theorem dX7_counts_216 : decode cX7_counts 216 = .ok (.istore 8, 2) := by decide +kernel
theorem dX7_counts_218 : decode cX7_counts 218 = .ok (.aload_n 0, 1) := by decide +kernel
theorem dX7_counts_219 : decode cX7_counts 219 = .ok (.getfield 28, 3) := by decide +kernel
theorem dX7_counts_222 : decode cX7_counts 222 = .ok (.iload 5, 2) := by decide +kernel
theorem dX7_counts_224 : decode cX7_counts 224 = .ok (.iaload, 1) := by decide +kernel
theorem dX7_counts_225 : decode cX7_counts 225 = .ok (.iload_n 1, 1) := by decide +kernel
theorem dX7_counts_226 : decode cX7_counts 226 = .ok (.iload 6, 2) := by decide +kernel
theorem dX7_counts_228 : decode cX7_counts 228 = .ok (.invokestatic 119, 3) := by decide +kernel
theorem dX7_counts_231 : decode cX7_counts 231 = .ok (.iadd, 1) := by decide +kernel
theorem dX7_counts_232 : decode cX7_counts 232 = .ok (.istore 9, 2) := by decide +kernel
theorem dX7_counts_234 : decode cX7_counts 234 = .ok (.aload_n 0, 1) := by decide +kernel
theorem dX7_counts_235 : decode cX7_counts 235 = .ok (.getfield 55, 3) := by decide +kernel
theorem dX7_counts_238 : decode cX7_counts 238 = .ok (.iload 7, 2) := by decide +kernel
theorem dX7_counts_240 : decode cX7_counts 240 = .ok (.iload 8, 2) := by decide +kernel
theorem dX7_counts_242 : decode cX7_counts 242 = .ok (.iload 9, 2) := by decide +kernel
theorem dX7_counts_244 : decode cX7_counts 244 = .ok (.invokestatic 177, 3) := by decide +kernel
theorem dX7_counts_247 : decode cX7_counts 247 = .ok (.baload, 1) := by decide +kernel
theorem dX7_counts_248 : decode cX7_counts 248 = .ok (.ifCond .ne 237, 3) := by decide +kernel
theorem dX7_counts_251 : decode cX7_counts 251 = .ok (.iinc 4 1, 3) := by decide +kernel
theorem dX7_counts_254 : decode cX7_counts 254 = .ok (.iload 4, 2) := by decide +kernel
theorem dX7_counts_256 : decode cX7_counts 256 = .ok (.ldc 180, 2) := by decide +kernel
theorem dX7_counts_258 : decode cX7_counts 258 = .ok (.if_icmp .le 18, 3) := by decide +kernel
theorem dX7_counts_261 : decode cX7_counts 261 = .ok (.aload_n 0, 1) := by decide +kernel
theorem dX7_counts_262 : decode cX7_counts 262 = .ok (.getfield 41, 3) := by decide +kernel
theorem dX7_counts_265 : decode cX7_counts 265 = .ok (.iload_n 3, 1) := by decide +kernel
theorem dX7_counts_266 : decode cX7_counts 266 = .ok (.bipush (-5), 2) := by decide +kernel
theorem dX7_counts_268 : decode cX7_counts 268 = .ok (.iastore, 1) := by decide +kernel
theorem dX7_counts_269 : decode cX7_counts 269 = .ok (.aload_n 0, 1) := by decide +kernel
theorem dX7_counts_270 : decode cX7_counts 270 = .ok (.iload 5, 2) := by decide +kernel
theorem dX7_counts_272 : decode cX7_counts 272 = .ok (.invokevirtual 181, 3) := by decide +kernel
theorem dX7_counts_275 : decode cX7_counts 275 = .ok (.return_, 1) := by decide +kernel
theorem dX7_counts_276 : decode cX7_counts 276 = .ok (.aload_n 0, 1) := by decide +kernel
theorem dX7_counts_277 : decode cX7_counts 277 = .ok (.getfield 22, 3) := by decide +kernel
theorem dX7_counts_280 : decode cX7_counts 280 = .ok (.iload 5, 2) := by decide +kernel
theorem dX7_counts_282 : decode cX7_counts 282 = .ok (.iconst 1, 1) := by decide +kernel
theorem dX7_counts_283 : decode cX7_counts 283 = .ok (.iadd, 1) := by decide +kernel
theorem dX7_counts_284 : decode cX7_counts 284 = .ok (.iload 7, 2) := by decide +kernel
theorem dX7_counts_286 : decode cX7_counts 286 = .ok (.iastore, 1) := by decide +kernel
theorem dX7_counts_287 : decode cX7_counts 287 = .ok (.aload_n 0, 1) := by decide +kernel
theorem dX7_counts_288 : decode cX7_counts 288 = .ok (.getfield 25, 3) := by decide +kernel
theorem dX7_counts_291 : decode cX7_counts 291 = .ok (.iload 5, 2) := by decide +kernel
theorem dX7_counts_293 : decode cX7_counts 293 = .ok (.iconst 1, 1) := by decide +kernel
theorem dX7_counts_294 : decode cX7_counts 294 = .ok (.iadd, 1) := by decide +kernel
theorem dX7_counts_295 : decode cX7_counts 295 = .ok (.iload 8, 2) := by decide +kernel
theorem dX7_counts_297 : decode cX7_counts 297 = .ok (.iastore, 1) := by decide +kernel
theorem dX7_counts_298 : decode cX7_counts 298 = .ok (.aload_n 0, 1) := by decide +kernel
theorem dX7_counts_299 : decode cX7_counts 299 = .ok (.getfield 28, 3) := by decide +kernel
theorem dX7_counts_302 : decode cX7_counts 302 = .ok (.iload 5, 2) := by decide +kernel
theorem dL_law_482 : decode cL_law 482 = .ok (.iconst 2, 1) := by decide +kernel
theorem dL_law_483 : decode cL_law 483 = .ok (.iadd, 1) := by decide +kernel
theorem dL_law_484 : decode cL_law 484 = .ok (.iaload, 1) := by decide +kernel
theorem dL_law_485 : decode cL_law 485 = .ok (.invokevirtual 56, 3) := by decide +kernel
theorem dL_law_488 : decode cL_law 488 = .ok (.aload_n 2, 1) := by decide +kernel
theorem dL_law_489 : decode cL_law 489 = .ok (.aload_n 0, 1) := by decide +kernel
theorem dL_law_490 : decode cL_law 490 = .ok (.iload_n 3, 1) := by decide +kernel
theorem dL_law_491 : decode cL_law 491 = .ok (.iconst 1, 1) := by decide +kernel
theorem dL_law_492 : decode cL_law 492 = .ok (.iadd, 1) := by decide +kernel
theorem dL_law_493 : decode cL_law 493 = .ok (.iaload, 1) := by decide +kernel
theorem dL_law_494 : decode cL_law 494 = .ok (.aload_n 0, 1) := by decide +kernel
theorem dL_law_495 : decode cL_law 495 = .ok (.iload_n 3, 1) := by decide +kernel
theorem dL_law_496 : decode cL_law 496 = .ok (.iconst 2, 1) := by decide +kernel
theorem dL_law_497 : decode cL_law 497 = .ok (.iadd, 1) := by decide +kernel
theorem dL_law_498 : decode cL_law 498 = .ok (.iaload, 1) := by decide +kernel
theorem dL_law_499 : decode cL_law 499 = .ok (.invokevirtual 59, 3) := by decide +kernel
theorem dL_law_502 : decode cL_law 502 = .ok (.if_icmp .eq 408, 3) := by decide +kernel
theorem dL_law_505 : decode cL_law 505 = .ok (.iconst 0, 1) := by decide +kernel
theorem dL_law_506 : decode cL_law 506 = .ok (.ireturn, 1) := by decide +kernel
theorem dL_law_507 : decode cL_law 507 = .ok (.aload_n 1, 1) := by decide +kernel
theorem dL_law_508 : decode cL_law 508 = .ok (.aload_n 0, 1) := by decide +kernel
theorem dL_law_509 : decode cL_law 509 = .ok (.iload_n 3, 1) := by decide +kernel
theorem dL_law_510 : decode cL_law 510 = .ok (.iconst 1, 1) := by decide +kernel
theorem dL_law_511 : decode cL_law 511 = .ok (.iadd, 1) := by decide +kernel
theorem dL_law_512 : decode cL_law 512 = .ok (.iaload, 1) := by decide +kernel
theorem dL_law_513 : decode cL_law 513 = .ok (.aload_n 0, 1) := by decide +kernel
theorem dL_law_514 : decode cL_law 514 = .ok (.iload_n 3, 1) := by decide +kernel
theorem dL_law_515 : decode cL_law 515 = .ok (.iconst 2, 1) := by decide +kernel
theorem dL_law_516 : decode cL_law 516 = .ok (.iadd, 1) := by decide +kernel
theorem dL_law_517 : decode cL_law 517 = .ok (.iaload, 1) := by decide +kernel
theorem dL_law_518 : decode cL_law 518 = .ok (.invokevirtual 60, 3) := by decide +kernel
theorem dL_law_521 : decode cL_law 521 = .ok (.aload_n 2, 1) := by decide +kernel
theorem dL_law_522 : decode cL_law 522 = .ok (.aload_n 0, 1) := by decide +kernel
theorem dL_law_523 : decode cL_law 523 = .ok (.iload_n 3, 1) := by decide +kernel
theorem dL_law_524 : decode cL_law 524 = .ok (.iconst 1, 1) := by decide +kernel
theorem dL_law_525 : decode cL_law 525 = .ok (.iadd, 1) := by decide +kernel
theorem dL_law_526 : decode cL_law 526 = .ok (.iaload, 1) := by decide +kernel
theorem dL_law_527 : decode cL_law 527 = .ok (.aload_n 0, 1) := by decide +kernel
theorem dL_law_528 : decode cL_law 528 = .ok (.iload_n 3, 1) := by decide +kernel
theorem dL_law_529 : decode cL_law 529 = .ok (.iconst 2, 1) := by decide +kernel
theorem dL_law_530 : decode cL_law 530 = .ok (.iadd, 1) := by decide +kernel
theorem dL_law_531 : decode cL_law 531 = .ok (.iaload, 1) := by decide +kernel
theorem dL_law_532 : decode cL_law 532 = .ok (.invokevirtual 63, 3) := by decide +kernel
theorem dL_law_535 : decode cL_law 535 = .ok (.if_icmp .eq 375, 3) := by decide +kernel
theorem dL_law_538 : decode cL_law 538 = .ok (.iconst 0, 1) := by decide +kernel
theorem dL_law_539 : decode cL_law 539 = .ok (.ireturn, 1) := by decide +kernel
theorem dL_law_540 : decode cL_law 540 = .ok (.aload_n 1, 1) := by decide +kernel
theorem dL_law_541 : decode cL_law 541 = .ok (.aload_n 0, 1) := by decide +kernel
theorem dL_law_542 : decode cL_law 542 = .ok (.iload_n 3, 1) := by decide +kernel
theorem dL_law_543 : decode cL_law 543 = .ok (.iconst 1, 1) := by decide +kernel
theorem dL_law_544 : decode cL_law 544 = .ok (.iadd, 1) := by decide +kernel
theorem dL_law_545 : decode cL_law 545 = .ok (.iaload, 1) := by decide +kernel
theorem dL_law_546 : decode cL_law 546 = .ok (.aload_n 0, 1) := by decide +kernel
theorem dL_law_547 : decode cL_law 547 = .ok (.iload_n 3, 1) := by decide +kernel
theorem dL_law_548 : decode cL_law 548 = .ok (.iconst 2, 1) := by decide +kernel
theorem dL_law_549 : decode cL_law 549 = .ok (.iadd, 1) := by decide +kernel
theorem dL_law_550 : decode cL_law 550 = .ok (.iaload, 1) := by decide +kernel
theorem dL_law_551 : decode cL_law 551 = .ok (.invokevirtual 64, 3) := by decide +kernel
theorem dL_law_554 : decode cL_law 554 = .ok (.aload_n 2, 1) := by decide +kernel
theorem dL_law_555 : decode cL_law 555 = .ok (.aload_n 0, 1) := by decide +kernel
theorem dL_law_556 : decode cL_law 556 = .ok (.iload_n 3, 1) := by decide +kernel
theorem dL_law_557 : decode cL_law 557 = .ok (.iconst 1, 1) := by decide +kernel
theorem dL_law_558 : decode cL_law 558 = .ok (.iadd, 1) := by decide +kernel
theorem dL_law_559 : decode cL_law 559 = .ok (.iaload, 1) := by decide +kernel
theorem dL_law_560 : decode cL_law 560 = .ok (.aload_n 0, 1) := by decide +kernel
theorem dL_law_561 : decode cL_law 561 = .ok (.iload_n 3, 1) := by decide +kernel
theorem dL_law_562 : decode cL_law 562 = .ok (.iconst 2, 1) := by decide +kernel
theorem dL_law_563 : decode cL_law 563 = .ok (.iadd, 1) := by decide +kernel
theorem dL_law_564 : decode cL_law 564 = .ok (.iaload, 1) := by decide +kernel
theorem dL_law_565 : decode cL_law 565 = .ok (.invokevirtual 68, 3) := by decide +kernel
theorem dL_law_568 : decode cL_law 568 = .ok (.lcmp, 1) := by decide +kernel
theorem dL_law_569 : decode cL_law 569 = .ok (.ifCond .eq 341, 3) := by decide +kernel
theorem dL_law_572 : decode cL_law 572 = .ok (.iconst 0, 1) := by decide +kernel
theorem dL_law_573 : decode cL_law 573 = .ok (.ireturn, 1) := by decide +kernel
theorem dL_law_574 : decode cL_law 574 = .ok (.aload_n 1, 1) := by decide +kernel
theorem dL_law_575 : decode cL_law 575 = .ok (.aload_n 0, 1) := by decide +kernel
theorem dL_law_576 : decode cL_law 576 = .ok (.iload_n 3, 1) := by decide +kernel
theorem dL_law_577 : decode cL_law 577 = .ok (.iconst 1, 1) := by decide +kernel
theorem dL_law_578 : decode cL_law 578 = .ok (.iadd, 1) := by decide +kernel
theorem dL_law_579 : decode cL_law 579 = .ok (.iaload, 1) := by decide +kernel
theorem dL_law_580 : decode cL_law 580 = .ok (.aload_n 0, 1) := by decide +kernel
theorem dL_law_581 : decode cL_law 581 = .ok (.iload_n 3, 1) := by decide +kernel
theorem dL_law_582 : decode cL_law 582 = .ok (.iconst 2, 1) := by decide +kernel
theorem dL_law_583 : decode cL_law 583 = .ok (.iadd, 1) := by decide +kernel
theorem dL_law_584 : decode cL_law 584 = .ok (.iaload, 1) := by decide +kernel
theorem dL_law_585 : decode cL_law 585 = .ok (.invokevirtual 69, 3) := by decide +kernel
theorem dL_law_588 : decode cL_law 588 = .ok (.aload_n 2, 1) := by decide +kernel
theorem dL_law_589 : decode cL_law 589 = .ok (.aload_n 0, 1) := by decide +kernel
theorem dL_law_590 : decode cL_law 590 = .ok (.iload_n 3, 1) := by decide +kernel
theorem dL_law_591 : decode cL_law 591 = .ok (.iconst 1, 1) := by decide +kernel
theorem dL_law_592 : decode cL_law 592 = .ok (.iadd, 1) := by decide +kernel
theorem dL_law_593 : decode cL_law 593 = .ok (.iaload, 1) := by decide +kernel
theorem dL_law_594 : decode cL_law 594 = .ok (.aload_n 0, 1) := by decide +kernel
theorem dL_law_595 : decode cL_law 595 = .ok (.iload_n 3, 1) := by decide +kernel
theorem dL_law_596 : decode cL_law 596 = .ok (.iconst 2, 1) := by decide +kernel
theorem dL_law_597 : decode cL_law 597 = .ok (.iadd, 1) := by decide +kernel
theorem dL_law_598 : decode cL_law 598 = .ok (.iaload, 1) := by decide +kernel
theorem dL_law_599 : decode cL_law 599 = .ok (.invokevirtual 72, 3) := by decide +kernel
theorem dL_law_602 : decode cL_law 602 = .ok (.if_icmp .eq 308, 3) := by decide +kernel
theorem dL_law_605 : decode cL_law 605 = .ok (.iconst 0, 1) := by decide +kernel
theorem dL_law_606 : decode cL_law 606 = .ok (.ireturn, 1) := by decide +kernel
theorem dL_law_607 : decode cL_law 607 = .ok (.aload_n 1, 1) := by decide +kernel
theorem dL_law_608 : decode cL_law 608 = .ok (.aload_n 0, 1) := by decide +kernel
theorem dL_law_609 : decode cL_law 609 = .ok (.iload_n 3, 1) := by decide +kernel
theorem dL_law_610 : decode cL_law 610 = .ok (.iconst 1, 1) := by decide +kernel
theorem dL_law_611 : decode cL_law 611 = .ok (.iadd, 1) := by decide +kernel
theorem dL_law_612 : decode cL_law 612 = .ok (.iaload, 1) := by decide +kernel
theorem dL_law_613 : decode cL_law 613 = .ok (.aload_n 0, 1) := by decide +kernel
theorem dL_law_614 : decode cL_law 614 = .ok (.iload_n 3, 1) := by decide +kernel
theorem dL_law_615 : decode cL_law 615 = .ok (.iconst 2, 1) := by decide +kernel
theorem dL_law_616 : decode cL_law 616 = .ok (.iadd, 1) := by decide +kernel
theorem dL_law_617 : decode cL_law 617 = .ok (.iaload, 1) := by decide +kernel
theorem dL_law_618 : decode cL_law 618 = .ok (.invokevirtual 73, 3) := by decide +kernel
theorem dL_law_621 : decode cL_law 621 = .ok (.aload_n 2, 1) := by decide +kernel
theorem dL_law_622 : decode cL_law 622 = .ok (.aload_n 0, 1) := by decide +kernel
theorem dL_law_623 : decode cL_law 623 = .ok (.iload_n 3, 1) := by decide +kernel
theorem dL_law_624 : decode cL_law 624 = .ok (.iconst 1, 1) := by decide +kernel
theorem dL_law_625 : decode cL_law 625 = .ok (.iadd, 1) := by decide +kernel
theorem dL_law_626 : decode cL_law 626 = .ok (.iaload, 1) := by decide +kernel
theorem dL_law_627 : decode cL_law 627 = .ok (.aload_n 0, 1) := by decide +kernel
