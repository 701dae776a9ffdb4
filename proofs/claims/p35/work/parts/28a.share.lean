theorem dL_share_0 : decode cL_share 0 = .ok (.aload_n 0, 1) := by decide +kernel
theorem dL_share_1 : decode cL_share 1 = .ok (.invokestatic 59, 3) := by decide +kernel
theorem dL_share_4 : decode cL_share 4 = .ok (.istore 4, 2) := by decide +kernel
theorem dL_share_6 : decode cL_share 6 = .ok (.bipush 6, 2) := by decide +kernel
theorem dL_share_8 : decode cL_share 8 = .ok (.newarray .int, 2) := by decide +kernel
theorem dL_share_10 : decode cL_share 10 = .ok (.astore 5, 2) := by decide +kernel
theorem dL_share_12 : decode cL_share 12 = .ok (.bipush 6, 2) := by decide +kernel
theorem dL_share_14 : decode cL_share 14 = .ok (.newarray .int, 2) := by decide +kernel
theorem dL_share_16 : decode cL_share 16 = .ok (.astore 6, 2) := by decide +kernel
theorem dL_share_18 : decode cL_share 18 = .ok (.iconst 0, 1) := by decide +kernel
theorem dL_share_19 : decode cL_share 19 = .ok (.istore 7, 2) := by decide +kernel
theorem dL_share_21 : decode cL_share 21 = .ok (.iload 7, 2) := by decide +kernel
theorem dL_share_23 : decode cL_share 23 = .ok (.aload_n 0, 1) := by decide +kernel
theorem dL_share_24 : decode cL_share 24 = .ok (.iconst 0, 1) := by decide +kernel
theorem dL_share_25 : decode cL_share 25 = .ok (.iaload, 1) := by decide +kernel
theorem dL_share_26 : decode cL_share 26 = .ok (.if_icmp .ge 14, 3) := by decide +kernel
theorem dL_share_29 : decode cL_share 29 = .ok (.aload_n 3, 1) := by decide +kernel
theorem dL_share_30 : decode cL_share 30 = .ok (.iload 7, 2) := by decide +kernel
theorem dL_share_32 : decode cL_share 32 = .ok (.iconst (-1), 1) := by decide +kernel
theorem dL_share_33 : decode cL_share 33 = .ok (.iastore, 1) := by decide +kernel
theorem dL_share_34 : decode cL_share 34 = .ok (.iinc 7 1, 3) := by decide +kernel
theorem dL_share_37 : decode cL_share 37 = .ok (.goto (-16), 3) := by decide +kernel
theorem dL_share_40 : decode cL_share 40 = .ok (.iload 4, 2) := by decide +kernel
theorem dL_share_42 : decode cL_share 42 = .ok (.ifCond .ne 5, 3) := by decide +kernel
theorem dL_share_45 : decode cL_share 45 = .ok (.iconst (-1), 1) := by decide +kernel
theorem dL_share_46 : decode cL_share 46 = .ok (.ireturn, 1) := by decide +kernel
theorem dL_share_47 : decode cL_share 47 = .ok (.aload_n 0, 1) := by decide +kernel
theorem dL_share_48 : decode cL_share 48 = .ok (.iconst 0, 1) := by decide +kernel
theorem dL_share_49 : decode cL_share 49 = .ok (.iaload, 1) := by decide +kernel
theorem dL_share_50 : decode cL_share 50 = .ok (.iload 4, 2) := by decide +kernel
theorem dL_share_52 : decode cL_share 52 = .ok (.irem, 1) := by decide +kernel
theorem dL_share_53 : decode cL_share 53 = .ok (.istore 7, 2) := by decide +kernel
theorem dL_share_55 : decode cL_share 55 = .ok (.iconst 0, 1) := by decide +kernel
theorem dL_share_56 : decode cL_share 56 = .ok (.istore 8, 2) := by decide +kernel
theorem dL_share_58 : decode cL_share 58 = .ok (.iload 8, 2) := by decide +kernel
theorem dL_share_60 : decode cL_share 60 = .ok (.bipush 6, 2) := by decide +kernel
theorem dL_share_62 : decode cL_share 62 = .ok (.if_icmp .ge 29, 3) := by decide +kernel
theorem dL_share_65 : decode cL_share 65 = .ok (.aload 5, 2) := by decide +kernel
theorem dL_share_67 : decode cL_share 67 = .ok (.iload 8, 2) := by decide +kernel
theorem dL_share_69 : decode cL_share 69 = .ok (.aload_n 0, 1) := by decide +kernel
theorem dL_share_70 : decode cL_share 70 = .ok (.iconst 5, 1) := by decide +kernel
theorem dL_share_71 : decode cL_share 71 = .ok (.iaload, 1) := by decide +kernel
theorem dL_share_72 : decode cL_share 72 = .ok (.iload 8, 2) := by decide +kernel
theorem dL_share_74 : decode cL_share 74 = .ok (.ishr, 1) := by decide +kernel
theorem dL_share_75 : decode cL_share 75 = .ok (.iconst 1, 1) := by decide +kernel
theorem dL_share_76 : decode cL_share 76 = .ok (.iand, 1) := by decide +kernel
theorem dL_share_77 : decode cL_share 77 = .ok (.aload_n 0, 1) := by decide +kernel
theorem dL_share_78 : decode cL_share 78 = .ok (.iconst 0, 1) := by decide +kernel
theorem dL_share_79 : decode cL_share 79 = .ok (.iaload, 1) := by decide +kernel
theorem dL_share_80 : decode cL_share 80 = .ok (.iload 4, 2) := by decide +kernel
theorem dL_share_82 : decode cL_share 82 = .ok (.idiv, 1) := by decide +kernel
theorem dL_share_83 : decode cL_share 83 = .ok (.imul, 1) := by decide +kernel
theorem dL_share_84 : decode cL_share 84 = .ok (.iastore, 1) := by decide +kernel
theorem dL_share_85 : decode cL_share 85 = .ok (.iinc 8 1, 3) := by decide +kernel
theorem dL_share_88 : decode cL_share 88 = .ok (.goto (-30), 3) := by decide +kernel
theorem dL_share_91 : decode cL_share 91 = .ok (.iconst 0, 1) := by decide +kernel
theorem dL_share_92 : decode cL_share 92 = .ok (.istore 8, 2) := by decide +kernel
theorem dL_share_94 : decode cL_share 94 = .ok (.iload 7, 2) := by decide +kernel
theorem dL_share_96 : decode cL_share 96 = .ok (.ifCond .le 97, 3) := by decide +kernel
theorem dL_share_99 : decode cL_share 99 = .ok (.iconst (-1), 1) := by decide +kernel
theorem dL_share_100 : decode cL_share 100 = .ok (.istore 9, 2) := by decide +kernel
theorem dL_share_102 : decode cL_share 102 = .ok (.iconst 5, 1) := by decide +kernel
theorem dL_share_103 : decode cL_share 103 = .ok (.istore 10, 2) := by decide +kernel
theorem dL_share_105 : decode cL_share 105 = .ok (.iload 10, 2) := by decide +kernel
theorem dL_share_107 : decode cL_share 107 = .ok (.ifCond .lt 62, 3) := by decide +kernel
theorem dL_share_110 : decode cL_share 110 = .ok (.aload_n 0, 1) := by decide +kernel
theorem dL_share_111 : decode cL_share 111 = .ok (.iconst 5, 1) := by decide +kernel
theorem dL_share_112 : decode cL_share 112 = .ok (.iaload, 1) := by decide +kernel
theorem dL_share_113 : decode cL_share 113 = .ok (.iload 10, 2) := by decide +kernel
theorem dL_share_115 : decode cL_share 115 = .ok (.ishr, 1) := by decide +kernel
theorem dL_share_116 : decode cL_share 116 = .ok (.iconst 1, 1) := by decide +kernel
theorem dL_share_117 : decode cL_share 117 = .ok (.iand, 1) := by decide +kernel
theorem dL_share_118 : decode cL_share 118 = .ok (.iconst 1, 1) := by decide +kernel
theorem dL_share_119 : decode cL_share 119 = .ok (.if_icmp .ne 40, 3) := by decide +kernel
theorem dL_share_122 : decode cL_share 122 = .ok (.iload 8, 2) := by decide +kernel
theorem dL_share_124 : decode cL_share 124 = .ok (.iload 10, 2) := by decide +kernel
theorem dL_share_126 : decode cL_share 126 = .ok (.ishr, 1) := by decide +kernel
theorem dL_share_127 : decode cL_share 127 = .ok (.iconst 1, 1) := by decide +kernel
theorem dL_share_128 : decode cL_share 128 = .ok (.iand, 1) := by decide +kernel
theorem dL_share_129 : decode cL_share 129 = .ok (.ifCond .ne 30, 3) := by decide +kernel
theorem dL_share_132 : decode cL_share 132 = .ok (.iload 9, 2) := by decide +kernel
theorem dL_share_134 : decode cL_share 134 = .ok (.ifCond .lt 20, 3) := by decide +kernel
theorem dL_share_137 : decode cL_share 137 = .ok (.aload_n 0, 1) := by decide +kernel
theorem dL_share_138 : decode cL_share 138 = .ok (.aload_n 2, 1) := by decide +kernel
theorem dL_share_139 : decode cL_share 139 = .ok (.iload 10, 2) := by decide +kernel
theorem dL_share_141 : decode cL_share 141 = .ok (.invokestatic 65, 3) := by decide +kernel
theorem dL_share_144 : decode cL_share 144 = .ok (.aload_n 0, 1) := by decide +kernel
theorem dL_share_145 : decode cL_share 145 = .ok (.aload_n 2, 1) := by decide +kernel
theorem dL_share_146 : decode cL_share 146 = .ok (.iload 9, 2) := by decide +kernel
theorem dL_share_148 : decode cL_share 148 = .ok (.invokestatic 65, 3) := by decide +kernel
theorem dL_share_151 : decode cL_share 151 = .ok (.if_icmp .lt 8, 3) := by decide +kernel
theorem dL_share_154 : decode cL_share 154 = .ok (.iload 10, 2) := by decide +kernel
theorem dL_share_156 : decode cL_share 156 = .ok (.goto 5, 3) := by decide +kernel
theorem dL_share_159 : decode cL_share 159 = .ok (.iload 9, 2) := by decide +kernel
theorem dL_share_161 : decode cL_share 161 = .ok (.istore 9, 2) := by decide +kernel
theorem dL_share_163 : decode cL_share 163 = .ok (.iinc 10 (-1), 3) := by decide +kernel
theorem dL_share_166 : decode cL_share 166 = .ok (.goto (-61), 3) := by decide +kernel
theorem dL_share_169 : decode cL_share 169 = .ok (.iload 8, 2) := by decide +kernel
theorem dL_share_171 : decode cL_share 171 = .ok (.iconst 1, 1) := by decide +kernel
theorem dL_share_172 : decode cL_share 172 = .ok (.iload 9, 2) := by decide +kernel
theorem dL_share_174 : decode cL_share 174 = .ok (.ishl, 1) := by decide +kernel
theorem dL_share_175 : decode cL_share 175 = .ok (.ior, 1) := by decide +kernel
theorem dL_share_176 : decode cL_share 176 = .ok (.istore 8, 2) := by decide +kernel
theorem dL_share_178 : decode cL_share 178 = .ok (.aload 5, 2) := by decide +kernel
theorem dL_share_180 : decode cL_share 180 = .ok (.iload 9, 2) := by decide +kernel
theorem dL_share_182 : decode cL_share 182 = .ok (.dup2, 1) := by decide +kernel
theorem dL_share_183 : decode cL_share 183 = .ok (.iaload, 1) := by decide +kernel
theorem dL_share_184 : decode cL_share 184 = .ok (.iconst 1, 1) := by decide +kernel
theorem dL_share_185 : decode cL_share 185 = .ok (.iadd, 1) := by decide +kernel
theorem dL_share_186 : decode cL_share 186 = .ok (.iastore, 1) := by decide +kernel
theorem dL_share_187 : decode cL_share 187 = .ok (.iinc 7 (-1), 3) := by decide +kernel
theorem dL_share_190 : decode cL_share 190 = .ok (.goto (-96), 3) := by decide +kernel
theorem dL_share_193 : decode cL_share 193 = .ok (.bipush 9, 2) := by decide +kernel
theorem dL_share_195 : decode cL_share 195 = .ok (.istore 9, 2) := by decide +kernel
theorem dL_share_197 : decode cL_share 197 = .ok (.iload 9, 2) := by decide +kernel
theorem dL_share_199 : decode cL_share 199 = .ok (.ifCond .le 86, 3) := by decide +kernel
theorem dL_share_202 : decode cL_share 202 = .ok (.iconst 0, 1) := by decide +kernel
theorem dL_share_203 : decode cL_share 203 = .ok (.istore 10, 2) := by decide +kernel
theorem dL_share_205 : decode cL_share 205 = .ok (.iload 10, 2) := by decide +kernel
theorem dL_share_207 : decode cL_share 207 = .ok (.aload_n 0, 1) := by decide +kernel
theorem dL_share_208 : decode cL_share 208 = .ok (.iconst 0, 1) := by decide +kernel
theorem dL_share_209 : decode cL_share 209 = .ok (.iaload, 1) := by decide +kernel
theorem dL_share_210 : decode cL_share 210 = .ok (.if_icmp .ge 69, 3) := by decide +kernel
theorem dL_share_213 : decode cL_share 213 = .ok (.aload_n 1, 1) := by decide +kernel
theorem dL_share_214 : decode cL_share 214 = .ok (.iload 10, 2) := by decide +kernel
theorem dL_share_216 : decode cL_share 216 = .ok (.iaload, 1) := by decide +kernel
theorem dL_share_217 : decode cL_share 217 = .ok (.iload 9, 2) := by decide +kernel
theorem dL_share_219 : decode cL_share 219 = .ok (.if_icmp .ne 54, 3) := by decide +kernel
theorem dL_share_222 : decode cL_share 222 = .ok (.aload_n 2, 1) := by decide +kernel
theorem dL_share_223 : decode cL_share 223 = .ok (.iload 10, 2) := by decide +kernel
theorem dL_share_225 : decode cL_share 225 = .ok (.iaload, 1) := by decide +kernel
theorem dL_share_226 : decode cL_share 226 = .ok (.ifCond .lt 47, 3) := by decide +kernel
theorem dL_share_229 : decode cL_share 229 = .ok (.aload 5, 2) := by decide +kernel
theorem dL_share_231 : decode cL_share 231 = .ok (.aload_n 2, 1) := by decide +kernel
theorem dL_share_232 : decode cL_share 232 = .ok (.iload 10, 2) := by decide +kernel
theorem dL_share_234 : decode cL_share 234 = .ok (.iaload, 1) := by decide +kernel
theorem dL_share_235 : decode cL_share 235 = .ok (.iaload, 1) := by decide +kernel
theorem dL_share_236 : decode cL_share 236 = .ok (.ifCond .ne 6, 3) := by decide +kernel
theorem dL_share_239 : decode cL_share 239 = .ok (.goto 34, 3) := by decide +kernel
theorem dL_share_242 : decode cL_share 242 = .ok (.aload_n 3, 1) := by decide +kernel
theorem dL_share_243 : decode cL_share 243 = .ok (.iload 10, 2) := by decide +kernel
theorem dL_share_245 : decode cL_share 245 = .ok (.aload_n 2, 1) := by decide +kernel
theorem dL_share_246 : decode cL_share 246 = .ok (.iload 10, 2) := by decide +kernel
theorem dL_share_248 : decode cL_share 248 = .ok (.iaload, 1) := by decide +kernel
theorem dL_share_249 : decode cL_share 249 = .ok (.iastore, 1) := by decide +kernel
theorem dL_share_250 : decode cL_share 250 = .ok (.aload 5, 2) := by decide +kernel
theorem dL_share_252 : decode cL_share 252 = .ok (.aload_n 2, 1) := by decide +kernel
theorem dL_share_253 : decode cL_share 253 = .ok (.iload 10, 2) := by decide +kernel
theorem dL_share_255 : decode cL_share 255 = .ok (.iaload, 1) := by decide +kernel
theorem dL_share_256 : decode cL_share 256 = .ok (.dup2, 1) := by decide +kernel
theorem dL_share_257 : decode cL_share 257 = .ok (.iaload, 1) := by decide +kernel
theorem dL_share_258 : decode cL_share 258 = .ok (.iconst 1, 1) := by decide +kernel
theorem dL_share_259 : decode cL_share 259 = .ok (.isub, 1) := by decide +kernel
theorem dL_share_260 : decode cL_share 260 = .ok (.iastore, 1) := by decide +kernel
theorem dL_share_261 : decode cL_share 261 = .ok (.aload 6, 2) := by decide +kernel
theorem dL_share_263 : decode cL_share 263 = .ok (.aload_n 2, 1) := by decide +kernel
theorem dL_share_264 : decode cL_share 264 = .ok (.iload 10, 2) := by decide +kernel
theorem dL_share_266 : decode cL_share 266 = .ok (.iaload, 1) := by decide +kernel
theorem dL_share_267 : decode cL_share 267 = .ok (.dup2, 1) := by decide +kernel
theorem dL_share_268 : decode cL_share 268 = .ok (.iaload, 1) := by decide +kernel
theorem dL_share_269 : decode cL_share 269 = .ok (.iload 9, 2) := by decide +kernel
theorem dL_share_271 : decode cL_share 271 = .ok (.iadd, 1) := by decide +kernel
theorem dL_share_272 : decode cL_share 272 = .ok (.iastore, 1) := by decide +kernel
theorem dL_share_273 : decode cL_share 273 = .ok (.iinc 10 1, 3) := by decide +kernel
theorem dL_share_276 : decode cL_share 276 = .ok (.goto (-71), 3) := by decide +kernel
theorem dL_share_279 : decode cL_share 279 = .ok (.iinc 9 (-1), 3) := by decide +kernel
theorem dL_share_282 : decode cL_share 282 = .ok (.goto (-85), 3) := by decide +kernel
theorem dL_share_285 : decode cL_share 285 = .ok (.iconst 0, 1) := by decide +kernel
theorem dL_share_286 : decode cL_share 286 = .ok (.istore 9, 2) := by decide +kernel
theorem dL_share_288 : decode cL_share 288 = .ok (.bipush 9, 2) := by decide +kernel
theorem dL_share_290 : decode cL_share 290 = .ok (.istore 10, 2) := by decide +kernel
theorem dL_share_292 : decode cL_share 292 = .ok (.iload 10, 2) := by decide +kernel
theorem dL_share_294 : decode cL_share 294 = .ok (.ifCond .le 125, 3) := by decide +kernel
theorem dL_share_297 : decode cL_share 297 = .ok (.iconst 0, 1) := by decide +kernel
theorem dL_share_298 : decode cL_share 298 = .ok (.istore 11, 2) := by decide +kernel
theorem dL_share_300 : decode cL_share 300 = .ok (.iload 11, 2) := by decide +kernel
theorem dL_share_302 : decode cL_share 302 = .ok (.aload_n 0, 1) := by decide +kernel
theorem dL_share_303 : decode cL_share 303 = .ok (.iconst 0, 1) := by decide +kernel
theorem dL_share_304 : decode cL_share 304 = .ok (.iaload, 1) := by decide +kernel
theorem dL_share_305 : decode cL_share 305 = .ok (.if_icmp .ge 108, 3) := by decide +kernel
theorem dL_share_308 : decode cL_share 308 = .ok (.aload_n 1, 1) := by decide +kernel
theorem dL_share_309 : decode cL_share 309 = .ok (.iload 11, 2) := by decide +kernel
theorem dL_share_311 : decode cL_share 311 = .ok (.iaload, 1) := by decide +kernel
theorem dL_share_312 : decode cL_share 312 = .ok (.iload 10, 2) := by decide +kernel
theorem dL_share_314 : decode cL_share 314 = .ok (.if_icmp .ne 93, 3) := by decide +kernel
theorem dL_share_317 : decode cL_share 317 = .ok (.aload_n 3, 1) := by decide +kernel
theorem dL_share_318 : decode cL_share 318 = .ok (.iload 11, 2) := by decide +kernel
theorem dL_share_320 : decode cL_share 320 = .ok (.iaload, 1) := by decide +kernel
theorem dL_share_321 : decode cL_share 321 = .ok (.ifCond .lt 6, 3) := by decide +kernel
theorem dL_share_324 : decode cL_share 324 = .ok (.goto 83, 3) := by decide +kernel
theorem dL_share_327 : decode cL_share 327 = .ok (.iconst (-1), 1) := by decide +kernel
theorem dL_share_328 : decode cL_share 328 = .ok (.istore 12, 2) := by decide +kernel
theorem dL_share_330 : decode cL_share 330 = .ok (.iconst 5, 1) := by decide +kernel
theorem dL_share_331 : decode cL_share 331 = .ok (.istore 13, 2) := by decide +kernel
theorem dL_share_333 : decode cL_share 333 = .ok (.iload 13, 2) := by decide +kernel
theorem dL_share_335 : decode cL_share 335 = .ok (.ifCond .lt 44, 3) := by decide +kernel
theorem dL_share_338 : decode cL_share 338 = .ok (.aload 5, 2) := by decide +kernel
theorem dL_share_340 : decode cL_share 340 = .ok (.iload 13, 2) := by decide +kernel
theorem dL_share_342 : decode cL_share 342 = .ok (.iaload, 1) := by decide +kernel
theorem dL_share_343 : decode cL_share 343 = .ok (.ifCond .le 26, 3) := by decide +kernel
theorem dL_share_346 : decode cL_share 346 = .ok (.iload 12, 2) := by decide +kernel
theorem dL_share_348 : decode cL_share 348 = .ok (.ifCond .lt 16, 3) := by decide +kernel
theorem dL_share_351 : decode cL_share 351 = .ok (.aload 6, 2) := by decide +kernel
theorem dL_share_353 : decode cL_share 353 = .ok (.iload 13, 2) := by decide +kernel
theorem dL_share_355 : decode cL_share 355 = .ok (.iaload, 1) := by decide +kernel
theorem dL_share_356 : decode cL_share 356 = .ok (.aload 6, 2) := by decide +kernel
theorem dL_share_358 : decode cL_share 358 = .ok (.iload 12, 2) := by decide +kernel
theorem dL_share_360 : decode cL_share 360 = .ok (.iaload, 1) := by decide +kernel
theorem dL_share_361 : decode cL_share 361 = .ok (.if_icmp .gt 8, 3) := by decide +kernel
theorem dL_share_364 : decode cL_share 364 = .ok (.iload 13, 2) := by decide +kernel
theorem dL_share_366 : decode cL_share 366 = .ok (.goto 5, 3) := by decide +kernel
theorem dL_share_369 : decode cL_share 369 = .ok (.iload 12, 2) := by decide +kernel
theorem dL_share_371 : decode cL_share 371 = .ok (.istore 12, 2) := by decide +kernel
theorem dL_share_373 : decode cL_share 373 = .ok (.iinc 13 (-1), 3) := by decide +kernel
theorem dL_share_376 : decode cL_share 376 = .ok (.goto (-43), 3) := by decide +kernel
theorem dL_share_379 : decode cL_share 379 = .ok (.aload_n 3, 1) := by decide +kernel
theorem dL_share_380 : decode cL_share 380 = .ok (.iload 11, 2) := by decide +kernel
theorem dL_share_382 : decode cL_share 382 = .ok (.iload 12, 2) := by decide +kernel
theorem dL_share_384 : decode cL_share 384 = .ok (.iastore, 1) := by decide +kernel
theorem dL_share_385 : decode cL_share 385 = .ok (.aload 5, 2) := by decide +kernel
theorem dL_share_387 : decode cL_share 387 = .ok (.iload 12, 2) := by decide +kernel
theorem dL_share_389 : decode cL_share 389 = .ok (.dup2, 1) := by decide +kernel
theorem dL_share_390 : decode cL_share 390 = .ok (.iaload, 1) := by decide +kernel
theorem dL_share_391 : decode cL_share 391 = .ok (.iconst 1, 1) := by decide +kernel
theorem dL_share_392 : decode cL_share 392 = .ok (.isub, 1) := by decide +kernel
theorem dL_share_393 : decode cL_share 393 = .ok (.iastore, 1) := by decide +kernel
theorem dL_share_394 : decode cL_share 394 = .ok (.aload 6, 2) := by decide +kernel
theorem dL_share_396 : decode cL_share 396 = .ok (.iload 12, 2) := by decide +kernel
theorem dL_share_398 : decode cL_share 398 = .ok (.dup2, 1) := by decide +kernel
theorem dL_share_399 : decode cL_share 399 = .ok (.iaload, 1) := by decide +kernel
theorem dL_share_400 : decode cL_share 400 = .ok (.iload 10, 2) := by decide +kernel
theorem dL_share_402 : decode cL_share 402 = .ok (.iadd, 1) := by decide +kernel
theorem dL_share_403 : decode cL_share 403 = .ok (.iastore, 1) := by decide +kernel
theorem dL_share_404 : decode cL_share 404 = .ok (.iinc 9 1, 3) := by decide +kernel
theorem dL_share_407 : decode cL_share 407 = .ok (.iinc 11 1, 3) := by decide +kernel
theorem dL_share_410 : decode cL_share 410 = .ok (.goto (-110), 3) := by decide +kernel
theorem dL_share_413 : decode cL_share 413 = .ok (.iinc 10 (-1), 3) := by decide +kernel
theorem dL_share_416 : decode cL_share 416 = .ok (.goto (-124), 3) := by decide +kernel
theorem dL_share_419 : decode cL_share 419 = .ok (.iload 9, 2) := by decide +kernel
theorem dL_share_421 : decode cL_share 421 = .ok (.ireturn, 1) := by decide +kernel
