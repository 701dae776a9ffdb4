theorem dL_isSo_0 : decode cL_isSo 0 = .ok (.bipush 20, 2) := by decide +kernel
theorem dL_isSo_2 : decode cL_isSo 2 = .ok (.newarray .int, 2) := by decide +kernel
theorem dL_isSo_4 : decode cL_isSo 4 = .ok (.astore 5, 2) := by decide +kernel
theorem dL_isSo_6 : decode cL_isSo 6 = .ok (.aload_n 1, 1) := by decide +kernel
theorem dL_isSo_7 : decode cL_isSo 7 = .ok (.aload_n 2, 1) := by decide +kernel
theorem dL_isSo_8 : decode cL_isSo 8 = .ok (.aload_n 3, 1) := by decide +kernel
theorem dL_isSo_9 : decode cL_isSo 9 = .ok (.aload 5, 2) := by decide +kernel
theorem dL_isSo_11 : decode cL_isSo 11 = .ok (.invokestatic 69, 3) := by decide +kernel
theorem dL_isSo_14 : decode cL_isSo 14 = .ok (.istore 6, 2) := by decide +kernel
theorem dL_isSo_16 : decode cL_isSo 16 = .ok (.bipush 20, 2) := by decide +kernel
theorem dL_isSo_18 : decode cL_isSo 18 = .ok (.istore 7, 2) := by decide +kernel
theorem dL_isSo_20 : decode cL_isSo 20 = .ok (.iconst 0, 1) := by decide +kernel
theorem dL_isSo_21 : decode cL_isSo 21 = .ok (.istore 8, 2) := by decide +kernel
theorem dL_isSo_23 : decode cL_isSo 23 = .ok (.iconst 0, 1) := by decide +kernel
theorem dL_isSo_24 : decode cL_isSo 24 = .ok (.istore 9, 2) := by decide +kernel
theorem dL_isSo_26 : decode cL_isSo 26 = .ok (.iload 9, 2) := by decide +kernel
theorem dL_isSo_28 : decode cL_isSo 28 = .ok (.aload_n 1, 1) := by decide +kernel
theorem dL_isSo_29 : decode cL_isSo 29 = .ok (.iconst 0, 1) := by decide +kernel
theorem dL_isSo_30 : decode cL_isSo 30 = .ok (.iaload, 1) := by decide +kernel
theorem dL_isSo_31 : decode cL_isSo 31 = .ok (.if_icmp .ge 129, 3) := by decide +kernel
theorem dL_isSo_34 : decode cL_isSo 34 = .ok (.aload_n 1, 1) := by decide +kernel
theorem dL_isSo_35 : decode cL_isSo 35 = .ok (.iconst 5, 1) := by decide +kernel
theorem dL_isSo_36 : decode cL_isSo 36 = .ok (.iaload, 1) := by decide +kernel
theorem dL_isSo_37 : decode cL_isSo 37 = .ok (.ifCond .ne 7, 3) := by decide +kernel
theorem dL_isSo_40 : decode cL_isSo 40 = .ok (.iconst 1, 1) := by decide +kernel
theorem dL_isSo_41 : decode cL_isSo 41 = .ok (.goto 31, 3) := by decide +kernel
theorem dL_isSo_44 : decode cL_isSo 44 = .ok (.aload_n 3, 1) := by decide +kernel
theorem dL_isSo_45 : decode cL_isSo 45 = .ok (.iload 9, 2) := by decide +kernel
theorem dL_isSo_47 : decode cL_isSo 47 = .ok (.iaload, 1) := by decide +kernel
theorem dL_isSo_48 : decode cL_isSo 48 = .ok (.ifCond .ge 7, 3) := by decide +kernel
theorem dL_isSo_51 : decode cL_isSo 51 = .ok (.iconst 2, 1) := by decide +kernel
theorem dL_isSo_52 : decode cL_isSo 52 = .ok (.goto 20, 3) := by decide +kernel
theorem dL_isSo_55 : decode cL_isSo 55 = .ok (.aload 5, 2) := by decide +kernel
theorem dL_isSo_57 : decode cL_isSo 57 = .ok (.iload 9, 2) := by decide +kernel
theorem dL_isSo_59 : decode cL_isSo 59 = .ok (.iaload, 1) := by decide +kernel
theorem dL_isSo_60 : decode cL_isSo 60 = .ok (.aload_n 3, 1) := by decide +kernel
theorem dL_isSo_61 : decode cL_isSo 61 = .ok (.iload 9, 2) := by decide +kernel
theorem dL_isSo_63 : decode cL_isSo 63 = .ok (.iaload, 1) := by decide +kernel
theorem dL_isSo_64 : decode cL_isSo 64 = .ok (.if_icmp .ne 7, 3) := by decide +kernel
theorem dL_isSo_67 : decode cL_isSo 67 = .ok (.iconst 0, 1) := by decide +kernel
theorem dL_isSo_68 : decode cL_isSo 68 = .ok (.goto 4, 3) := by decide +kernel
theorem dL_isSo_71 : decode cL_isSo 71 = .ok (.iconst 3, 1) := by decide +kernel
theorem dL_isSo_72 : decode cL_isSo 72 = .ok (.istore 10, 2) := by decide +kernel
theorem dL_isSo_74 : decode cL_isSo 74 = .ok (.aload_n 0, 1) := by decide +kernel
theorem dL_isSo_75 : decode cL_isSo 75 = .ok (.iload 9, 2) := by decide +kernel
theorem dL_isSo_77 : decode cL_isSo 77 = .ok (.invokevirtual 73, 3) := by decide +kernel
theorem dL_isSo_80 : decode cL_isSo 80 = .ok (.aload_n 2, 1) := by decide +kernel
theorem dL_isSo_81 : decode cL_isSo 81 = .ok (.iload 9, 2) := by decide +kernel
theorem dL_isSo_83 : decode cL_isSo 83 = .ok (.iaload, 1) := by decide +kernel
theorem dL_isSo_84 : decode cL_isSo 84 = .ok (.if_icmp .ne 68, 3) := by decide +kernel
theorem dL_isSo_87 : decode cL_isSo 87 = .ok (.aload_n 0, 1) := by decide +kernel
theorem dL_isSo_88 : decode cL_isSo 88 = .ok (.iload 9, 2) := by decide +kernel
theorem dL_isSo_90 : decode cL_isSo 90 = .ok (.invokevirtual 47, 3) := by decide +kernel
theorem dL_isSo_93 : decode cL_isSo 93 = .ok (.aload_n 3, 1) := by decide +kernel
theorem dL_isSo_94 : decode cL_isSo 94 = .ok (.iload 9, 2) := by decide +kernel
theorem dL_isSo_96 : decode cL_isSo 96 = .ok (.iaload, 1) := by decide +kernel
theorem dL_isSo_97 : decode cL_isSo 97 = .ok (.if_icmp .ne 55, 3) := by decide +kernel
theorem dL_isSo_100 : decode cL_isSo 100 = .ok (.aload_n 0, 1) := by decide +kernel
theorem dL_isSo_101 : decode cL_isSo 101 = .ok (.iload 9, 2) := by decide +kernel
theorem dL_isSo_103 : decode cL_isSo 103 = .ok (.invokevirtual 76, 3) := by decide +kernel
theorem dL_isSo_106 : decode cL_isSo 106 = .ok (.aload_n 1, 1) := by decide +kernel
theorem dL_isSo_107 : decode cL_isSo 107 = .ok (.iconst 1, 1) := by decide +kernel
theorem dL_isSo_108 : decode cL_isSo 108 = .ok (.iaload, 1) := by decide +kernel
theorem dL_isSo_109 : decode cL_isSo 109 = .ok (.ifCond .le 11, 3) := by decide +kernel
theorem dL_isSo_112 : decode cL_isSo 112 = .ok (.aload 4, 2) := by decide +kernel
theorem dL_isSo_114 : decode cL_isSo 114 = .ok (.iload 9, 2) := by decide +kernel
theorem dL_isSo_116 : decode cL_isSo 116 = .ok (.iaload, 1) := by decide +kernel
theorem dL_isSo_117 : decode cL_isSo 117 = .ok (.goto 7, 3) := by decide +kernel
theorem dL_isSo_120 : decode cL_isSo 120 = .ok (.aload_n 3, 1) := by decide +kernel
theorem dL_isSo_121 : decode cL_isSo 121 = .ok (.iload 9, 2) := by decide +kernel
theorem dL_isSo_123 : decode cL_isSo 123 = .ok (.iaload, 1) := by decide +kernel
theorem dL_isSo_124 : decode cL_isSo 124 = .ok (.if_icmp .ne 28, 3) := by decide +kernel
theorem dL_isSo_127 : decode cL_isSo 127 = .ok (.aload_n 0, 1) := by decide +kernel
theorem dL_isSo_128 : decode cL_isSo 128 = .ok (.iload 9, 2) := by decide +kernel
theorem dL_isSo_130 : decode cL_isSo 130 = .ok (.invokevirtual 79, 3) := by decide +kernel
theorem dL_isSo_133 : decode cL_isSo 133 = .ok (.aload 5, 2) := by decide +kernel
theorem dL_isSo_135 : decode cL_isSo 135 = .ok (.iload 9, 2) := by decide +kernel
theorem dL_isSo_137 : decode cL_isSo 137 = .ok (.iaload, 1) := by decide +kernel
theorem dL_isSo_138 : decode cL_isSo 138 = .ok (.if_icmp .ne 14, 3) := by decide +kernel
theorem dL_isSo_141 : decode cL_isSo 141 = .ok (.aload_n 0, 1) := by decide +kernel
theorem dL_isSo_142 : decode cL_isSo 142 = .ok (.iload 9, 2) := by decide +kernel
theorem dL_isSo_144 : decode cL_isSo 144 = .ok (.invokevirtual 56, 3) := by decide +kernel
theorem dL_isSo_147 : decode cL_isSo 147 = .ok (.iload 10, 2) := by decide +kernel
theorem dL_isSo_149 : decode cL_isSo 149 = .ok (.if_icmp .eq 5, 3) := by decide +kernel
theorem dL_isSo_152 : decode cL_isSo 152 = .ok (.iconst 0, 1) := by decide +kernel
theorem dL_isSo_153 : decode cL_isSo 153 = .ok (.ireturn, 1) := by decide +kernel
theorem dL_isSo_154 : decode cL_isSo 154 = .ok (.iinc 9 1, 3) := by decide +kernel
theorem dL_isSo_157 : decode cL_isSo 157 = .ok (.goto (-131), 3) := by decide +kernel
theorem dL_isSo_160 : decode cL_isSo 160 = .ok (.iconst 0, 1) := by decide +kernel
theorem dL_isSo_161 : decode cL_isSo 161 = .ok (.istore 9, 2) := by decide +kernel
theorem dL_isSo_163 : decode cL_isSo 163 = .ok (.iload 9, 2) := by decide +kernel
theorem dL_isSo_165 : decode cL_isSo 165 = .ok (.bipush 6, 2) := by decide +kernel
theorem dL_isSo_167 : decode cL_isSo 167 = .ok (.if_icmp .ge 242, 3) := by decide +kernel
theorem dL_isSo_170 : decode cL_isSo 170 = .ok (.iconst 0, 1) := by decide +kernel
theorem dL_isSo_171 : decode cL_isSo 171 = .ok (.istore 10, 2) := by decide +kernel
theorem dL_isSo_173 : decode cL_isSo 173 = .ok (.iconst 0, 1) := by decide +kernel
theorem dL_isSo_174 : decode cL_isSo 174 = .ok (.istore 11, 2) := by decide +kernel
theorem dL_isSo_176 : decode cL_isSo 176 = .ok (.iload 11, 2) := by decide +kernel
theorem dL_isSo_178 : decode cL_isSo 178 = .ok (.aload_n 1, 1) := by decide +kernel
theorem dL_isSo_179 : decode cL_isSo 179 = .ok (.iconst 0, 1) := by decide +kernel
theorem dL_isSo_180 : decode cL_isSo 180 = .ok (.iaload, 1) := by decide +kernel
theorem dL_isSo_181 : decode cL_isSo 181 = .ok (.if_icmp .ge 31, 3) := by decide +kernel
theorem dL_isSo_184 : decode cL_isSo 184 = .ok (.iload 10, 2) := by decide +kernel
theorem dL_isSo_186 : decode cL_isSo 186 = .ok (.aload_n 3, 1) := by decide +kernel
theorem dL_isSo_187 : decode cL_isSo 187 = .ok (.iload 11, 2) := by decide +kernel
theorem dL_isSo_189 : decode cL_isSo 189 = .ok (.iaload, 1) := by decide +kernel
theorem dL_isSo_190 : decode cL_isSo 190 = .ok (.iload 9, 2) := by decide +kernel
theorem dL_isSo_192 : decode cL_isSo 192 = .ok (.if_icmp .ne 10, 3) := by decide +kernel
theorem dL_isSo_195 : decode cL_isSo 195 = .ok (.aload_n 2, 1) := by decide +kernel
theorem dL_isSo_196 : decode cL_isSo 196 = .ok (.iload 11, 2) := by decide +kernel
theorem dL_isSo_198 : decode cL_isSo 198 = .ok (.iaload, 1) := by decide +kernel
theorem dL_isSo_199 : decode cL_isSo 199 = .ok (.goto 4, 3) := by decide +kernel
theorem dL_isSo_202 : decode cL_isSo 202 = .ok (.iconst 0, 1) := by decide +kernel
theorem dL_isSo_203 : decode cL_isSo 203 = .ok (.iadd, 1) := by decide +kernel
theorem dL_isSo_204 : decode cL_isSo 204 = .ok (.istore 10, 2) := by decide +kernel
theorem dL_isSo_206 : decode cL_isSo 206 = .ok (.iinc 11 1, 3) := by decide +kernel
theorem dL_isSo_209 : decode cL_isSo 209 = .ok (.goto (-33), 3) := by decide +kernel
theorem dL_isSo_212 : decode cL_isSo 212 = .ok (.aload_n 1, 1) := by decide +kernel
theorem dL_isSo_213 : decode cL_isSo 213 = .ok (.iconst 5, 1) := by decide +kernel
theorem dL_isSo_214 : decode cL_isSo 214 = .ok (.iaload, 1) := by decide +kernel
theorem dL_isSo_215 : decode cL_isSo 215 = .ok (.iload 9, 2) := by decide +kernel
theorem dL_isSo_217 : decode cL_isSo 217 = .ok (.ishr, 1) := by decide +kernel
theorem dL_isSo_218 : decode cL_isSo 218 = .ok (.iconst 1, 1) := by decide +kernel
theorem dL_isSo_219 : decode cL_isSo 219 = .ok (.iand, 1) := by decide +kernel
theorem dL_isSo_220 : decode cL_isSo 220 = .ok (.iconst 1, 1) := by decide +kernel
theorem dL_isSo_221 : decode cL_isSo 221 = .ok (.if_icmp .ne 7, 3) := by decide +kernel
theorem dL_isSo_224 : decode cL_isSo 224 = .ok (.iconst 1, 1) := by decide +kernel
theorem dL_isSo_225 : decode cL_isSo 225 = .ok (.goto 4, 3) := by decide +kernel
theorem dL_isSo_228 : decode cL_isSo 228 = .ok (.iconst 0, 1) := by decide +kernel
theorem dL_isSo_229 : decode cL_isSo 229 = .ok (.istore 11, 2) := by decide +kernel
theorem dL_isSo_231 : decode cL_isSo 231 = .ok (.aload_n 1, 1) := by decide +kernel
theorem dL_isSo_232 : decode cL_isSo 232 = .ok (.aload_n 3, 1) := by decide +kernel
theorem dL_isSo_233 : decode cL_isSo 233 = .ok (.iload 9, 2) := by decide +kernel
theorem dL_isSo_235 : decode cL_isSo 235 = .ok (.invokestatic 65, 3) := by decide +kernel
theorem dL_isSo_238 : decode cL_isSo 238 = .ok (.istore 12, 2) := by decide +kernel
theorem dL_isSo_240 : decode cL_isSo 240 = .ok (.aload_n 0, 1) := by decide +kernel
theorem dL_isSo_241 : decode cL_isSo 241 = .ok (.iload 9, 2) := by decide +kernel
theorem dL_isSo_243 : decode cL_isSo 243 = .ok (.invokevirtual 82, 3) := by decide +kernel
theorem dL_isSo_246 : decode cL_isSo 246 = .ok (.iload 11, 2) := by decide +kernel
theorem dL_isSo_248 : decode cL_isSo 248 = .ok (.if_icmp .ne 25, 3) := by decide +kernel
theorem dL_isSo_251 : decode cL_isSo 251 = .ok (.aload_n 0, 1) := by decide +kernel
theorem dL_isSo_252 : decode cL_isSo 252 = .ok (.iload 9, 2) := by decide +kernel
theorem dL_isSo_254 : decode cL_isSo 254 = .ok (.invokevirtual 50, 3) := by decide +kernel
theorem dL_isSo_257 : decode cL_isSo 257 = .ok (.iload 12, 2) := by decide +kernel
theorem dL_isSo_259 : decode cL_isSo 259 = .ok (.if_icmp .ne 14, 3) := by decide +kernel
theorem dL_isSo_262 : decode cL_isSo 262 = .ok (.aload_n 0, 1) := by decide +kernel
theorem dL_isSo_263 : decode cL_isSo 263 = .ok (.iload 9, 2) := by decide +kernel
theorem dL_isSo_265 : decode cL_isSo 265 = .ok (.invokevirtual 86, 3) := by decide +kernel
theorem dL_isSo_268 : decode cL_isSo 268 = .ok (.iload 10, 2) := by decide +kernel
theorem dL_isSo_270 : decode cL_isSo 270 = .ok (.if_icmp .eq 5, 3) := by decide +kernel
theorem dL_isSo_273 : decode cL_isSo 273 = .ok (.iconst 0, 1) := by decide +kernel
theorem dL_isSo_274 : decode cL_isSo 274 = .ok (.ireturn, 1) := by decide +kernel
theorem dL_isSo_275 : decode cL_isSo 275 = .ok (.iload 11, 2) := by decide +kernel
theorem dL_isSo_277 : decode cL_isSo 277 = .ok (.ifCond .eq 15, 3) := by decide +kernel
theorem dL_isSo_280 : decode cL_isSo 280 = .ok (.iload 12, 2) := by decide +kernel
theorem dL_isSo_282 : decode cL_isSo 282 = .ok (.iload 7, 2) := by decide +kernel
theorem dL_isSo_284 : decode cL_isSo 284 = .ok (.if_icmp .ge 8, 3) := by decide +kernel
theorem dL_isSo_287 : decode cL_isSo 287 = .ok (.iload 12, 2) := by decide +kernel
theorem dL_isSo_289 : decode cL_isSo 289 = .ok (.goto 5, 3) := by decide +kernel
theorem dL_isSo_292 : decode cL_isSo 292 = .ok (.iload 7, 2) := by decide +kernel
theorem dL_isSo_294 : decode cL_isSo 294 = .ok (.istore 7, 2) := by decide +kernel
theorem dL_isSo_296 : decode cL_isSo 296 = .ok (.iload 12, 2) := by decide +kernel
theorem dL_isSo_298 : decode cL_isSo 298 = .ok (.iload 8, 2) := by decide +kernel
theorem dL_isSo_300 : decode cL_isSo 300 = .ok (.if_icmp .le 8, 3) := by decide +kernel
theorem dL_isSo_303 : decode cL_isSo 303 = .ok (.iload 12, 2) := by decide +kernel
theorem dL_isSo_305 : decode cL_isSo 305 = .ok (.goto 5, 3) := by decide +kernel
theorem dL_isSo_308 : decode cL_isSo 308 = .ok (.iload 8, 2) := by decide +kernel
theorem dL_isSo_310 : decode cL_isSo 310 = .ok (.istore 8, 2) := by decide +kernel
theorem dL_isSo_312 : decode cL_isSo 312 = .ok (.bipush 6, 2) := by decide +kernel
theorem dL_isSo_314 : decode cL_isSo 314 = .ok (.newarray .int, 2) := by decide +kernel
theorem dL_isSo_316 : decode cL_isSo 316 = .ok (.astore 13, 2) := by decide +kernel
theorem dL_isSo_318 : decode cL_isSo 318 = .ok (.bipush 20, 2) := by decide +kernel
theorem dL_isSo_320 : decode cL_isSo 320 = .ok (.newarray .int, 2) := by decide +kernel
theorem dL_isSo_322 : decode cL_isSo 322 = .ok (.astore 14, 2) := by decide +kernel
theorem dL_isSo_324 : decode cL_isSo 324 = .ok (.aload 13, 2) := by decide +kernel
theorem dL_isSo_326 : decode cL_isSo 326 = .ok (.iconst 0, 1) := by decide +kernel
theorem dL_isSo_327 : decode cL_isSo 327 = .ok (.aload_n 1, 1) := by decide +kernel
theorem dL_isSo_328 : decode cL_isSo 328 = .ok (.iconst 0, 1) := by decide +kernel
theorem dL_isSo_329 : decode cL_isSo 329 = .ok (.iaload, 1) := by decide +kernel
theorem dL_isSo_330 : decode cL_isSo 330 = .ok (.iastore, 1) := by decide +kernel
theorem dL_isSo_331 : decode cL_isSo 331 = .ok (.aload 13, 2) := by decide +kernel
theorem dL_isSo_333 : decode cL_isSo 333 = .ok (.iconst 5, 1) := by decide +kernel
theorem dL_isSo_334 : decode cL_isSo 334 = .ok (.aload_n 1, 1) := by decide +kernel
theorem dL_isSo_335 : decode cL_isSo 335 = .ok (.iconst 5, 1) := by decide +kernel
theorem dL_isSo_336 : decode cL_isSo 336 = .ok (.iaload, 1) := by decide +kernel
theorem dL_isSo_337 : decode cL_isSo 337 = .ok (.iconst 1, 1) := by decide +kernel
theorem dL_isSo_338 : decode cL_isSo 338 = .ok (.iload 9, 2) := by decide +kernel
theorem dL_isSo_340 : decode cL_isSo 340 = .ok (.ishl, 1) := by decide +kernel
theorem dL_isSo_341 : decode cL_isSo 341 = .ok (.ixor, 1) := by decide +kernel
theorem dL_isSo_342 : decode cL_isSo 342 = .ok (.iastore, 1) := by decide +kernel
theorem dL_isSo_343 : decode cL_isSo 343 = .ok (.iconst 0, 1) := by decide +kernel
theorem dL_isSo_344 : decode cL_isSo 344 = .ok (.istore 15, 2) := by decide +kernel
theorem dL_isSo_346 : decode cL_isSo 346 = .ok (.iload 15, 2) := by decide +kernel
theorem dL_isSo_348 : decode cL_isSo 348 = .ok (.aload_n 1, 1) := by decide +kernel
theorem dL_isSo_349 : decode cL_isSo 349 = .ok (.iconst 0, 1) := by decide +kernel
theorem dL_isSo_350 : decode cL_isSo 350 = .ok (.iaload, 1) := by decide +kernel
theorem dL_isSo_351 : decode cL_isSo 351 = .ok (.if_icmp .ge 31, 3) := by decide +kernel
theorem dL_isSo_354 : decode cL_isSo 354 = .ok (.aload 14, 2) := by decide +kernel
theorem dL_isSo_356 : decode cL_isSo 356 = .ok (.iload 15, 2) := by decide +kernel
theorem dL_isSo_358 : decode cL_isSo 358 = .ok (.aload_n 3, 1) := by decide +kernel
theorem dL_isSo_359 : decode cL_isSo 359 = .ok (.iload 15, 2) := by decide +kernel
theorem dL_isSo_361 : decode cL_isSo 361 = .ok (.iaload, 1) := by decide +kernel
theorem dL_isSo_362 : decode cL_isSo 362 = .ok (.iload 9, 2) := by decide +kernel
theorem dL_isSo_364 : decode cL_isSo 364 = .ok (.if_icmp .ne 7, 3) := by decide +kernel
theorem dL_isSo_367 : decode cL_isSo 367 = .ok (.iconst (-1), 1) := by decide +kernel
theorem dL_isSo_368 : decode cL_isSo 368 = .ok (.goto 7, 3) := by decide +kernel
theorem dL_isSo_371 : decode cL_isSo 371 = .ok (.aload_n 3, 1) := by decide +kernel
theorem dL_isSo_372 : decode cL_isSo 372 = .ok (.iload 15, 2) := by decide +kernel
theorem dL_isSo_374 : decode cL_isSo 374 = .ok (.iaload, 1) := by decide +kernel
theorem dL_isSo_375 : decode cL_isSo 375 = .ok (.iastore, 1) := by decide +kernel
theorem dL_isSo_376 : decode cL_isSo 376 = .ok (.iinc 15 1, 3) := by decide +kernel
theorem dL_isSo_379 : decode cL_isSo 379 = .ok (.goto (-33), 3) := by decide +kernel
theorem dL_isSo_382 : decode cL_isSo 382 = .ok (.aload_n 0, 1) := by decide +kernel
theorem dL_isSo_383 : decode cL_isSo 383 = .ok (.iload 9, 2) := by decide +kernel
theorem dL_isSo_385 : decode cL_isSo 385 = .ok (.invokevirtual 53, 3) := by decide +kernel
theorem dL_isSo_388 : decode cL_isSo 388 = .ok (.aload 13, 2) := by decide +kernel
theorem dL_isSo_390 : decode cL_isSo 390 = .ok (.aload_n 2, 1) := by decide +kernel
theorem dL_isSo_391 : decode cL_isSo 391 = .ok (.aload 14, 2) := by decide +kernel
theorem dL_isSo_393 : decode cL_isSo 393 = .ok (.aload 5, 2) := by decide +kernel
theorem dL_isSo_395 : decode cL_isSo 395 = .ok (.invokestatic 69, 3) := by decide +kernel
theorem dL_isSo_398 : decode cL_isSo 398 = .ok (.if_icmp .eq 5, 3) := by decide +kernel
theorem dL_isSo_401 : decode cL_isSo 401 = .ok (.iconst 0, 1) := by decide +kernel
theorem dL_isSo_402 : decode cL_isSo 402 = .ok (.ireturn, 1) := by decide +kernel
theorem dL_isSo_403 : decode cL_isSo 403 = .ok (.iinc 9 1, 3) := by decide +kernel
theorem dL_isSo_406 : decode cL_isSo 406 = .ok (.goto (-243), 3) := by decide +kernel
theorem dL_isSo_409 : decode cL_isSo 409 = .ok (.aload_n 0, 1) := by decide +kernel
theorem dL_isSo_410 : decode cL_isSo 410 = .ok (.invokevirtual 89, 3) := by decide +kernel
theorem dL_isSo_413 : decode cL_isSo 413 = .ok (.aload_n 1, 1) := by decide +kernel
theorem dL_isSo_414 : decode cL_isSo 414 = .ok (.iconst 0, 1) := by decide +kernel
theorem dL_isSo_415 : decode cL_isSo 415 = .ok (.iaload, 1) := by decide +kernel
theorem dL_isSo_416 : decode cL_isSo 416 = .ok (.if_icmp .ne 56, 3) := by decide +kernel
theorem dL_isSo_419 : decode cL_isSo 419 = .ok (.aload_n 0, 1) := by decide +kernel
theorem dL_isSo_420 : decode cL_isSo 420 = .ok (.invokevirtual 92, 3) := by decide +kernel
theorem dL_isSo_423 : decode cL_isSo 423 = .ok (.aload_n 1, 1) := by decide +kernel
theorem dL_isSo_424 : decode cL_isSo 424 = .ok (.iconst 1, 1) := by decide +kernel
theorem dL_isSo_425 : decode cL_isSo 425 = .ok (.iaload, 1) := by decide +kernel
theorem dL_isSo_426 : decode cL_isSo 426 = .ok (.if_icmp .ne 46, 3) := by decide +kernel
theorem dL_isSo_429 : decode cL_isSo 429 = .ok (.aload_n 0, 1) := by decide +kernel
theorem dL_isSo_430 : decode cL_isSo 430 = .ok (.invokevirtual 95, 3) := by decide +kernel
theorem dL_isSo_433 : decode cL_isSo 433 = .ok (.aload_n 1, 1) := by decide +kernel
theorem dL_isSo_434 : decode cL_isSo 434 = .ok (.iconst 2, 1) := by decide +kernel
theorem dL_isSo_435 : decode cL_isSo 435 = .ok (.iaload, 1) := by decide +kernel
theorem dL_isSo_436 : decode cL_isSo 436 = .ok (.if_icmp .ne 36, 3) := by decide +kernel
theorem dL_isSo_439 : decode cL_isSo 439 = .ok (.aload_n 0, 1) := by decide +kernel
theorem dL_isSo_440 : decode cL_isSo 440 = .ok (.invokevirtual 98, 3) := by decide +kernel
theorem dL_isSo_443 : decode cL_isSo 443 = .ok (.aload_n 1, 1) := by decide +kernel
theorem dL_isSo_444 : decode cL_isSo 444 = .ok (.iconst 3, 1) := by decide +kernel
theorem dL_isSo_445 : decode cL_isSo 445 = .ok (.iaload, 1) := by decide +kernel
theorem dL_isSo_446 : decode cL_isSo 446 = .ok (.if_icmp .ne 26, 3) := by decide +kernel
theorem dL_isSo_449 : decode cL_isSo 449 = .ok (.aload_n 0, 1) := by decide +kernel
theorem dL_isSo_450 : decode cL_isSo 450 = .ok (.invokevirtual 101, 3) := by decide +kernel
theorem dL_isSo_453 : decode cL_isSo 453 = .ok (.aload_n 1, 1) := by decide +kernel
theorem dL_isSo_454 : decode cL_isSo 454 = .ok (.iconst 4, 1) := by decide +kernel
theorem dL_isSo_455 : decode cL_isSo 455 = .ok (.iaload, 1) := by decide +kernel
theorem dL_isSo_456 : decode cL_isSo 456 = .ok (.if_icmp .ne 16, 3) := by decide +kernel
theorem dL_isSo_459 : decode cL_isSo 459 = .ok (.aload_n 0, 1) := by decide +kernel
theorem dL_isSo_460 : decode cL_isSo 460 = .ok (.invokevirtual 104, 3) := by decide +kernel
theorem dL_isSo_463 : decode cL_isSo 463 = .ok (.iload 6, 2) := by decide +kernel
theorem dL_isSo_465 : decode cL_isSo 465 = .ok (.if_icmp .ne 7, 3) := by decide +kernel
theorem dL_isSo_468 : decode cL_isSo 468 = .ok (.iconst 1, 1) := by decide +kernel
theorem dL_isSo_469 : decode cL_isSo 469 = .ok (.goto 4, 3) := by decide +kernel
theorem dL_isSo_472 : decode cL_isSo 472 = .ok (.iconst 0, 1) := by decide +kernel
theorem dL_isSo_473 : decode cL_isSo 473 = .ok (.istore 9, 2) := by decide +kernel
theorem dL_isSo_475 : decode cL_isSo 475 = .ok (.iload 9, 2) := by decide +kernel
theorem dL_isSo_477 : decode cL_isSo 477 = .ok (.ifCond .eq 42, 3) := by decide +kernel
theorem dL_isSo_480 : decode cL_isSo 480 = .ok (.aload_n 0, 1) := by decide +kernel
theorem dL_isSo_481 : decode cL_isSo 481 = .ok (.invokevirtual 107, 3) := by decide +kernel
theorem dL_isSo_484 : decode cL_isSo 484 = .ok (.aload_n 1, 1) := by decide +kernel
theorem dL_isSo_485 : decode cL_isSo 485 = .ok (.iconst 5, 1) := by decide +kernel
theorem dL_isSo_486 : decode cL_isSo 486 = .ok (.iaload, 1) := by decide +kernel
theorem dL_isSo_487 : decode cL_isSo 487 = .ok (.ifCond .eq 9, 3) := by decide +kernel
theorem dL_isSo_490 : decode cL_isSo 490 = .ok (.aload_n 1, 1) := by decide +kernel
theorem dL_isSo_491 : decode cL_isSo 491 = .ok (.iconst 0, 1) := by decide +kernel
theorem dL_isSo_492 : decode cL_isSo 492 = .ok (.iaload, 1) := by decide +kernel
theorem dL_isSo_493 : decode cL_isSo 493 = .ok (.ifCond .ne 7, 3) := by decide +kernel
theorem dL_isSo_496 : decode cL_isSo 496 = .ok (.dconst 0, 1) := by decide +kernel
theorem dL_isSo_497 : decode cL_isSo 497 = .ok (.goto 14, 3) := by decide +kernel
theorem dL_isSo_500 : decode cL_isSo 500 = .ok (.iload 8, 2) := by decide +kernel
theorem dL_isSo_502 : decode cL_isSo 502 = .ok (.iload 7, 2) := by decide +kernel
theorem dL_isSo_504 : decode cL_isSo 504 = .ok (.isub, 1) := by decide +kernel
theorem dL_isSo_505 : decode cL_isSo 505 = .ok (.i2d, 1) := by decide +kernel
theorem dL_isSo_506 : decode cL_isSo 506 = .ok (.aload_n 1, 1) := by decide +kernel
theorem dL_isSo_507 : decode cL_isSo 507 = .ok (.iconst 0, 1) := by decide +kernel
theorem dL_isSo_508 : decode cL_isSo 508 = .ok (.iaload, 1) := by decide +kernel
theorem dL_isSo_509 : decode cL_isSo 509 = .ok (.i2d, 1) := by decide +kernel
theorem dL_isSo_510 : decode cL_isSo 510 = .ok (.ddiv, 1) := by decide +kernel
theorem dL_isSo_511 : decode cL_isSo 511 = .ok (.dcmp .l, 1) := by decide +kernel
theorem dL_isSo_512 : decode cL_isSo 512 = .ok (.ifCond .ne 7, 3) := by decide +kernel
theorem dL_isSo_515 : decode cL_isSo 515 = .ok (.iconst 1, 1) := by decide +kernel
theorem dL_isSo_516 : decode cL_isSo 516 = .ok (.goto 4, 3) := by decide +kernel
theorem dL_isSo_519 : decode cL_isSo 519 = .ok (.iconst 0, 1) := by decide +kernel
theorem dL_isSo_520 : decode cL_isSo 520 = .ok (.ireturn, 1) := by decide +kernel
