theorem dL_others_0 : decode cL_others 0 = .ok (.iload_n 1, 1) := by decide +kernel
theorem dL_others_1 : decode cL_others 1 = .ok (.bipush 12, 2) := by decide +kernel
theorem dL_others_3 : decode cL_others 3 = .ok (.invokestatic 111, 3) := by decide +kernel
theorem dL_others_6 : decode cL_others 6 = .ok (.istore 8, 2) := by decide +kernel
theorem dL_others_8 : decode cL_others 8 = .ok (.iload_n 2, 1) := by decide +kernel
theorem dL_others_9 : decode cL_others 9 = .ok (.bipush 6, 2) := by decide +kernel
theorem dL_others_11 : decode cL_others 11 = .ok (.invokestatic 111, 3) := by decide +kernel
theorem dL_others_14 : decode cL_others 14 = .ok (.istore 9, 2) := by decide +kernel
theorem dL_others_16 : decode cL_others 16 = .ok (.aload_n 3, 1) := by decide +kernel
theorem dL_others_17 : decode cL_others 17 = .ok (.iconst 5, 1) := by decide +kernel
theorem dL_others_18 : decode cL_others 18 = .ok (.iaload, 1) := by decide +kernel
theorem dL_others_19 : decode cL_others 19 = .ok (.iload 9, 2) := by decide +kernel
theorem dL_others_21 : decode cL_others 21 = .ok (.ishr, 1) := by decide +kernel
theorem dL_others_22 : decode cL_others 22 = .ok (.iconst 1, 1) := by decide +kernel
theorem dL_others_23 : decode cL_others 23 = .ok (.iand, 1) := by decide +kernel
theorem dL_others_24 : decode cL_others 24 = .ok (.iconst 1, 1) := by decide +kernel
theorem dL_others_25 : decode cL_others 25 = .ok (.if_icmp .ne 7, 3) := by decide +kernel
theorem dL_others_28 : decode cL_others 28 = .ok (.iconst 1, 1) := by decide +kernel
theorem dL_others_29 : decode cL_others 29 = .ok (.goto 4, 3) := by decide +kernel
theorem dL_others_32 : decode cL_others 32 = .ok (.iconst 0, 1) := by decide +kernel
theorem dL_others_33 : decode cL_others 33 = .ok (.istore 10, 2) := by decide +kernel
theorem dL_others_35 : decode cL_others 35 = .ok (.iload 8, 2) := by decide +kernel
theorem dL_others_37 : decode cL_others 37 = .ok (.iconst 3, 1) := by decide +kernel
theorem dL_others_38 : decode cL_others 38 = .ok (.if_icmp .ge 71, 3) := by decide +kernel
theorem dL_others_41 : decode cL_others 41 = .ok (.aload_n 3, 1) := by decide +kernel
theorem dL_others_42 : decode cL_others 42 = .ok (.iconst 1, 1) := by decide +kernel
theorem dL_others_43 : decode cL_others 43 = .ok (.iaload, 1) := by decide +kernel
theorem dL_others_44 : decode cL_others 44 = .ok (.ifCond .gt 8, 3) := by decide +kernel
theorem dL_others_47 : decode cL_others 47 = .ok (.iload 10, 2) := by decide +kernel
theorem dL_others_49 : decode cL_others 49 = .ok (.ifCond .eq 31, 3) := by decide +kernel
theorem dL_others_52 : decode cL_others 52 = .ok (.aload_n 0, 1) := by decide +kernel
theorem dL_others_53 : decode cL_others 53 = .ok (.iload 9, 2) := by decide +kernel
theorem dL_others_55 : decode cL_others 55 = .ok (.invokestatic 126, 3) := by decide +kernel
theorem dL_others_58 : decode cL_others 58 = .ok (.bipush (-33), 2) := by decide +kernel
theorem dL_others_60 : decode cL_others 60 = .ok (.if_icmp .ne 18, 3) := by decide +kernel
theorem dL_others_63 : decode cL_others 63 = .ok (.aload_n 0, 1) := by decide +kernel
theorem dL_others_64 : decode cL_others 64 = .ok (.bipush 6, 2) := by decide +kernel
theorem dL_others_66 : decode cL_others 66 = .ok (.invokestatic 126, 3) := by decide +kernel
theorem dL_others_69 : decode cL_others 69 = .ok (.bipush (-31), 2) := by decide +kernel
theorem dL_others_71 : decode cL_others 71 = .ok (.if_icmp .ne 7, 3) := by decide +kernel
theorem dL_others_74 : decode cL_others 74 = .ok (.iconst 1, 1) := by decide +kernel
theorem dL_others_75 : decode cL_others 75 = .ok (.goto 4, 3) := by decide +kernel
theorem dL_others_78 : decode cL_others 78 = .ok (.iconst 0, 1) := by decide +kernel
theorem dL_others_79 : decode cL_others 79 = .ok (.ireturn, 1) := by decide +kernel
theorem dL_others_80 : decode cL_others 80 = .ok (.aload_n 3, 1) := by decide +kernel
theorem dL_others_81 : decode cL_others 81 = .ok (.iconst 5, 1) := by decide +kernel
theorem dL_others_82 : decode cL_others 82 = .ok (.dup2, 1) := by decide +kernel
theorem dL_others_83 : decode cL_others 83 = .ok (.iaload, 1) := by decide +kernel
theorem dL_others_84 : decode cL_others 84 = .ok (.iconst 1, 1) := by decide +kernel
theorem dL_others_85 : decode cL_others 85 = .ok (.iload 9, 2) := by decide +kernel
theorem dL_others_87 : decode cL_others 87 = .ok (.ishl, 1) := by decide +kernel
theorem dL_others_88 : decode cL_others 88 = .ok (.ior, 1) := by decide +kernel
theorem dL_others_89 : decode cL_others 89 = .ok (.iastore, 1) := by decide +kernel
theorem dL_others_90 : decode cL_others 90 = .ok (.aload_n 0, 1) := by decide +kernel
theorem dL_others_91 : decode cL_others 91 = .ok (.iload 9, 2) := by decide +kernel
theorem dL_others_93 : decode cL_others 93 = .ok (.invokestatic 126, 3) := by decide +kernel
theorem dL_others_96 : decode cL_others 96 = .ok (.aload_n 3, 1) := by decide +kernel
theorem dL_others_97 : decode cL_others 97 = .ok (.invokestatic 59, 3) := by decide +kernel
theorem dL_others_100 : decode cL_others 100 = .ok (.if_icmp .ne 7, 3) := by decide +kernel
theorem dL_others_103 : decode cL_others 103 = .ok (.iconst 1, 1) := by decide +kernel
theorem dL_others_104 : decode cL_others 104 = .ok (.goto 4, 3) := by decide +kernel
theorem dL_others_107 : decode cL_others 107 = .ok (.iconst 0, 1) := by decide +kernel
theorem dL_others_108 : decode cL_others 108 = .ok (.ireturn, 1) := by decide +kernel
theorem dL_others_109 : decode cL_others 109 = .ok (.iload 8, 2) := by decide +kernel
theorem dL_others_111 : decode cL_others 111 = .ok (.iconst 3, 1) := by decide +kernel
theorem dL_others_112 : decode cL_others 112 = .ok (.if_icmp .ne 119, 3) := by decide +kernel
theorem dL_others_115 : decode cL_others 115 = .ok (.aload_n 3, 1) := by decide +kernel
theorem dL_others_116 : decode cL_others 116 = .ok (.iconst 1, 1) := by decide +kernel
theorem dL_others_117 : decode cL_others 117 = .ok (.iaload, 1) := by decide +kernel
theorem dL_others_118 : decode cL_others 118 = .ok (.ifCond .gt 8, 3) := by decide +kernel
theorem dL_others_121 : decode cL_others 121 = .ok (.iload 10, 2) := by decide +kernel
theorem dL_others_123 : decode cL_others 123 = .ok (.ifCond .ne 30, 3) := by decide +kernel
theorem dL_others_126 : decode cL_others 126 = .ok (.aload_n 0, 1) := by decide +kernel
theorem dL_others_127 : decode cL_others 127 = .ok (.iload 9, 2) := by decide +kernel
theorem dL_others_129 : decode cL_others 129 = .ok (.invokestatic 128, 3) := by decide +kernel
theorem dL_others_132 : decode cL_others 132 = .ok (.bipush (-33), 2) := by decide +kernel
theorem dL_others_134 : decode cL_others 134 = .ok (.if_icmp .ne 17, 3) := by decide +kernel
theorem dL_others_137 : decode cL_others 137 = .ok (.aload_n 0, 1) := by decide +kernel
theorem dL_others_138 : decode cL_others 138 = .ok (.iconst (-1), 1) := by decide +kernel
theorem dL_others_139 : decode cL_others 139 = .ok (.invokestatic 128, 3) := by decide +kernel
theorem dL_others_142 : decode cL_others 142 = .ok (.bipush (-31), 2) := by decide +kernel
theorem dL_others_144 : decode cL_others 144 = .ok (.if_icmp .ne 7, 3) := by decide +kernel
theorem dL_others_147 : decode cL_others 147 = .ok (.iconst 1, 1) := by decide +kernel
theorem dL_others_148 : decode cL_others 148 = .ok (.goto 4, 3) := by decide +kernel
theorem dL_others_151 : decode cL_others 151 = .ok (.iconst 0, 1) := by decide +kernel
theorem dL_others_152 : decode cL_others 152 = .ok (.ireturn, 1) := by decide +kernel
theorem dL_others_153 : decode cL_others 153 = .ok (.aload_n 3, 1) := by decide +kernel
theorem dL_others_154 : decode cL_others 154 = .ok (.aload 5, 2) := by decide +kernel
theorem dL_others_156 : decode cL_others 156 = .ok (.iload 9, 2) := by decide +kernel
theorem dL_others_158 : decode cL_others 158 = .ok (.invokestatic 65, 3) := by decide +kernel
theorem dL_others_161 : decode cL_others 161 = .ok (.istore 11, 2) := by decide +kernel
theorem dL_others_163 : decode cL_others 163 = .ok (.aload_n 3, 1) := by decide +kernel
theorem dL_others_164 : decode cL_others 164 = .ok (.iconst 5, 1) := by decide +kernel
theorem dL_others_165 : decode cL_others 165 = .ok (.dup2, 1) := by decide +kernel
theorem dL_others_166 : decode cL_others 166 = .ok (.iaload, 1) := by decide +kernel
theorem dL_others_167 : decode cL_others 167 = .ok (.iconst 1, 1) := by decide +kernel
theorem dL_others_168 : decode cL_others 168 = .ok (.iload 9, 2) := by decide +kernel
theorem dL_others_170 : decode cL_others 170 = .ok (.ishl, 1) := by decide +kernel
theorem dL_others_171 : decode cL_others 171 = .ok (.ixor, 1) := by decide +kernel
theorem dL_others_172 : decode cL_others 172 = .ok (.iastore, 1) := by decide +kernel
theorem dL_others_173 : decode cL_others 173 = .ok (.iconst 0, 1) := by decide +kernel
theorem dL_others_174 : decode cL_others 174 = .ok (.istore 12, 2) := by decide +kernel
theorem dL_others_176 : decode cL_others 176 = .ok (.iload 12, 2) := by decide +kernel
theorem dL_others_178 : decode cL_others 178 = .ok (.aload_n 3, 1) := by decide +kernel
theorem dL_others_179 : decode cL_others 179 = .ok (.iconst 0, 1) := by decide +kernel
theorem dL_others_180 : decode cL_others 180 = .ok (.iaload, 1) := by decide +kernel
theorem dL_others_181 : decode cL_others 181 = .ok (.if_icmp .ge 33, 3) := by decide +kernel
theorem dL_others_184 : decode cL_others 184 = .ok (.aload 5, 2) := by decide +kernel
theorem dL_others_186 : decode cL_others 186 = .ok (.iload 12, 2) := by decide +kernel
theorem dL_others_188 : decode cL_others 188 = .ok (.aload 5, 2) := by decide +kernel
theorem dL_others_190 : decode cL_others 190 = .ok (.iload 12, 2) := by decide +kernel
theorem dL_others_192 : decode cL_others 192 = .ok (.iaload, 1) := by decide +kernel
theorem dL_others_193 : decode cL_others 193 = .ok (.iload 9, 2) := by decide +kernel
theorem dL_others_195 : decode cL_others 195 = .ok (.if_icmp .ne 7, 3) := by decide +kernel
theorem dL_others_198 : decode cL_others 198 = .ok (.iconst (-1), 1) := by decide +kernel
theorem dL_others_199 : decode cL_others 199 = .ok (.goto 8, 3) := by decide +kernel
theorem dL_others_202 : decode cL_others 202 = .ok (.aload 5, 2) := by decide +kernel
theorem dL_others_204 : decode cL_others 204 = .ok (.iload 12, 2) := by decide +kernel
theorem dL_others_206 : decode cL_others 206 = .ok (.iaload, 1) := by decide +kernel
theorem dL_others_207 : decode cL_others 207 = .ok (.iastore, 1) := by decide +kernel
theorem dL_others_208 : decode cL_others 208 = .ok (.iinc 12 1, 3) := by decide +kernel
theorem dL_others_211 : decode cL_others 211 = .ok (.goto (-35), 3) := by decide +kernel
theorem dL_others_214 : decode cL_others 214 = .ok (.aload_n 0, 1) := by decide +kernel
theorem dL_others_215 : decode cL_others 215 = .ok (.iload 9, 2) := by decide +kernel
theorem dL_others_217 : decode cL_others 217 = .ok (.invokestatic 128, 3) := by decide +kernel
theorem dL_others_220 : decode cL_others 220 = .ok (.iload 11, 2) := by decide +kernel
theorem dL_others_222 : decode cL_others 222 = .ok (.if_icmp .ne 7, 3) := by decide +kernel
theorem dL_others_225 : decode cL_others 225 = .ok (.iconst 1, 1) := by decide +kernel
theorem dL_others_226 : decode cL_others 226 = .ok (.goto 4, 3) := by decide +kernel
theorem dL_others_229 : decode cL_others 229 = .ok (.iconst 0, 1) := by decide +kernel
theorem dL_others_230 : decode cL_others 230 = .ok (.ireturn, 1) := by decide +kernel
theorem dL_others_231 : decode cL_others 231 = .ok (.iload 8, 2) := by decide +kernel
theorem dL_others_233 : decode cL_others 233 = .ok (.bipush 7, 2) := by decide +kernel
theorem dL_others_235 : decode cL_others 235 = .ok (.if_icmp .ge 113, 3) := by decide +kernel
theorem dL_others_238 : decode cL_others 238 = .ok (.aload_n 3, 1) := by decide +kernel
theorem dL_others_239 : decode cL_others 239 = .ok (.iconst 1, 1) := by decide +kernel
theorem dL_others_240 : decode cL_others 240 = .ok (.iaload, 1) := by decide +kernel
theorem dL_others_241 : decode cL_others 241 = .ok (.ifCond .gt 9, 3) := by decide +kernel
theorem dL_others_244 : decode cL_others 244 = .ok (.aload_n 3, 1) := by decide +kernel
theorem dL_others_245 : decode cL_others 245 = .ok (.iconst 5, 1) := by decide +kernel
theorem dL_others_246 : decode cL_others 246 = .ok (.iaload, 1) := by decide +kernel
theorem dL_others_247 : decode cL_others 247 = .ok (.ifCond .ne 18, 3) := by decide +kernel
theorem dL_others_250 : decode cL_others 250 = .ok (.aload_n 0, 1) := by decide +kernel
theorem dL_others_251 : decode cL_others 251 = .ok (.invokestatic 130, 3) := by decide +kernel
theorem dL_others_254 : decode cL_others 254 = .ok (.bipush (-33), 2) := by decide +kernel
theorem dL_others_256 : decode cL_others 256 = .ok (.if_icmp .ne 7, 3) := by decide +kernel
theorem dL_others_259 : decode cL_others 259 = .ok (.iconst 1, 1) := by decide +kernel
theorem dL_others_260 : decode cL_others 260 = .ok (.goto 4, 3) := by decide +kernel
theorem dL_others_263 : decode cL_others 263 = .ok (.iconst 0, 1) := by decide +kernel
theorem dL_others_264 : decode cL_others 264 = .ok (.ireturn, 1) := by decide +kernel
theorem dL_others_265 : decode cL_others 265 = .ok (.bipush 20, 2) := by decide +kernel
theorem dL_others_267 : decode cL_others 267 = .ok (.newarray .int, 2) := by decide +kernel
theorem dL_others_269 : decode cL_others 269 = .ok (.astore 11, 2) := by decide +kernel
theorem dL_others_271 : decode cL_others 271 = .ok (.aload_n 3, 1) := by decide +kernel
theorem dL_others_272 : decode cL_others 272 = .ok (.aload 4, 2) := by decide +kernel
theorem dL_others_274 : decode cL_others 274 = .ok (.aload 5, 2) := by decide +kernel
theorem dL_others_276 : decode cL_others 276 = .ok (.aload 11, 2) := by decide +kernel
theorem dL_others_278 : decode cL_others 278 = .ok (.invokestatic 69, 3) := by decide +kernel
theorem dL_others_281 : decode cL_others 281 = .ok (.istore 12, 2) := by decide +kernel
theorem dL_others_283 : decode cL_others 283 = .ok (.iconst 0, 1) := by decide +kernel
theorem dL_others_284 : decode cL_others 284 = .ok (.istore 13, 2) := by decide +kernel
theorem dL_others_286 : decode cL_others 286 = .ok (.iload 13, 2) := by decide +kernel
theorem dL_others_288 : decode cL_others 288 = .ok (.aload_n 3, 1) := by decide +kernel
theorem dL_others_289 : decode cL_others 289 = .ok (.iconst 0, 1) := by decide +kernel
theorem dL_others_290 : decode cL_others 290 = .ok (.iaload, 1) := by decide +kernel
theorem dL_others_291 : decode cL_others 291 = .ok (.if_icmp .ge 29, 3) := by decide +kernel
theorem dL_others_294 : decode cL_others 294 = .ok (.aload 6, 2) := by decide +kernel
theorem dL_others_296 : decode cL_others 296 = .ok (.iload 13, 2) := by decide +kernel
theorem dL_others_298 : decode cL_others 298 = .ok (.aload 11, 2) := by decide +kernel
theorem dL_others_300 : decode cL_others 300 = .ok (.iload 13, 2) := by decide +kernel
theorem dL_others_302 : decode cL_others 302 = .ok (.iaload, 1) := by decide +kernel
theorem dL_others_303 : decode cL_others 303 = .ok (.iastore, 1) := by decide +kernel
theorem dL_others_304 : decode cL_others 304 = .ok (.aload 7, 2) := by decide +kernel
theorem dL_others_306 : decode cL_others 306 = .ok (.iload 13, 2) := by decide +kernel
theorem dL_others_308 : decode cL_others 308 = .ok (.aload 5, 2) := by decide +kernel
theorem dL_others_310 : decode cL_others 310 = .ok (.iload 13, 2) := by decide +kernel
theorem dL_others_312 : decode cL_others 312 = .ok (.iaload, 1) := by decide +kernel
theorem dL_others_313 : decode cL_others 313 = .ok (.iastore, 1) := by decide +kernel
theorem dL_others_314 : decode cL_others 314 = .ok (.iinc 13 1, 3) := by decide +kernel
theorem dL_others_317 : decode cL_others 317 = .ok (.goto (-31), 3) := by decide +kernel
theorem dL_others_320 : decode cL_others 320 = .ok (.aload_n 3, 1) := by decide +kernel
theorem dL_others_321 : decode cL_others 321 = .ok (.iconst 1, 1) := by decide +kernel
theorem dL_others_322 : decode cL_others 322 = .ok (.iload 12, 2) := by decide +kernel
theorem dL_others_324 : decode cL_others 324 = .ok (.ifCond .le 7, 3) := by decide +kernel
theorem dL_others_327 : decode cL_others 327 = .ok (.iconst 1, 1) := by decide +kernel
theorem dL_others_328 : decode cL_others 328 = .ok (.goto 4, 3) := by decide +kernel
theorem dL_others_331 : decode cL_others 331 = .ok (.iconst 0, 1) := by decide +kernel
theorem dL_others_332 : decode cL_others 332 = .ok (.iastore, 1) := by decide +kernel
theorem dL_others_333 : decode cL_others 333 = .ok (.aload_n 0, 1) := by decide +kernel
theorem dL_others_334 : decode cL_others 334 = .ok (.invokestatic 130, 3) := by decide +kernel
theorem dL_others_337 : decode cL_others 337 = .ok (.iload 12, 2) := by decide +kernel
theorem dL_others_339 : decode cL_others 339 = .ok (.if_icmp .ne 7, 3) := by decide +kernel
theorem dL_others_342 : decode cL_others 342 = .ok (.iconst 1, 1) := by decide +kernel
theorem dL_others_343 : decode cL_others 343 = .ok (.goto 4, 3) := by decide +kernel
theorem dL_others_346 : decode cL_others 346 = .ok (.iconst 0, 1) := by decide +kernel
theorem dL_others_347 : decode cL_others 347 = .ok (.ireturn, 1) := by decide +kernel
theorem dL_others_348 : decode cL_others 348 = .ok (.iload 8, 2) := by decide +kernel
theorem dL_others_350 : decode cL_others 350 = .ok (.bipush 10, 2) := by decide +kernel
theorem dL_others_352 : decode cL_others 352 = .ok (.if_icmp .ge 164, 3) := by decide +kernel
theorem dL_others_355 : decode cL_others 355 = .ok (.aload_n 3, 1) := by decide +kernel
theorem dL_others_356 : decode cL_others 356 = .ok (.iconst 1, 1) := by decide +kernel
theorem dL_others_357 : decode cL_others 357 = .ok (.iaload, 1) := by decide +kernel
theorem dL_others_358 : decode cL_others 358 = .ok (.ifCond .ne 27, 3) := by decide +kernel
theorem dL_others_361 : decode cL_others 361 = .ok (.aload_n 0, 1) := by decide +kernel
theorem dL_others_362 : decode cL_others 362 = .ok (.invokestatic 133, 3) := by decide +kernel
theorem dL_others_365 : decode cL_others 365 = .ok (.bipush (-33), 2) := by decide +kernel
theorem dL_others_367 : decode cL_others 367 = .ok (.if_icmp .ne 16, 3) := by decide +kernel
theorem dL_others_370 : decode cL_others 370 = .ok (.aload_n 0, 1) := by decide +kernel
theorem dL_others_371 : decode cL_others 371 = .ok (.invokestatic 135, 3) := by decide +kernel
theorem dL_others_374 : decode cL_others 374 = .ok (.bipush (-33), 2) := by decide +kernel
theorem dL_others_376 : decode cL_others 376 = .ok (.if_icmp .ne 7, 3) := by decide +kernel
theorem dL_others_379 : decode cL_others 379 = .ok (.iconst 1, 1) := by decide +kernel
theorem dL_others_380 : decode cL_others 380 = .ok (.goto 4, 3) := by decide +kernel
theorem dL_others_383 : decode cL_others 383 = .ok (.iconst 0, 1) := by decide +kernel
theorem dL_others_384 : decode cL_others 384 = .ok (.ireturn, 1) := by decide +kernel
theorem dL_others_385 : decode cL_others 385 = .ok (.iconst 0, 1) := by decide +kernel
theorem dL_others_386 : decode cL_others 386 = .ok (.istore 11, 2) := by decide +kernel
theorem dL_others_388 : decode cL_others 388 = .ok (.iconst 0, 1) := by decide +kernel
theorem dL_others_389 : decode cL_others 389 = .ok (.istore 12, 2) := by decide +kernel
theorem dL_others_391 : decode cL_others 391 = .ok (.iload 12, 2) := by decide +kernel
theorem dL_others_393 : decode cL_others 393 = .ok (.aload_n 3, 1) := by decide +kernel
theorem dL_others_394 : decode cL_others 394 = .ok (.iconst 0, 1) := by decide +kernel
theorem dL_others_395 : decode cL_others 395 = .ok (.iaload, 1) := by decide +kernel
theorem dL_others_396 : decode cL_others 396 = .ok (.if_icmp .ge 71, 3) := by decide +kernel
theorem dL_others_399 : decode cL_others 399 = .ok (.aload 6, 2) := by decide +kernel
theorem dL_others_401 : decode cL_others 401 = .ok (.iload 12, 2) := by decide +kernel
theorem dL_others_403 : decode cL_others 403 = .ok (.iaload, 1) := by decide +kernel
theorem dL_others_404 : decode cL_others 404 = .ok (.aload 7, 2) := by decide +kernel
theorem dL_others_406 : decode cL_others 406 = .ok (.iload 12, 2) := by decide +kernel
theorem dL_others_408 : decode cL_others 408 = .ok (.iaload, 1) := by decide +kernel
theorem dL_others_409 : decode cL_others 409 = .ok (.if_icmp .ne 6, 3) := by decide +kernel
theorem dL_others_412 : decode cL_others 412 = .ok (.goto 49, 3) := by decide +kernel
theorem dL_others_415 : decode cL_others 415 = .ok (.iload 11, 2) := by decide +kernel
theorem dL_others_417 : decode cL_others 417 = .ok (.aload_n 3, 1) := by decide +kernel
theorem dL_others_418 : decode cL_others 418 = .ok (.iconst 1, 1) := by decide +kernel
theorem dL_others_419 : decode cL_others 419 = .ok (.iaload, 1) := by decide +kernel
theorem dL_others_420 : decode cL_others 420 = .ok (.iconst 2, 1) := by decide +kernel
theorem dL_others_421 : decode cL_others 421 = .ok (.if_icmp .eq 11, 3) := by decide +kernel
theorem dL_others_424 : decode cL_others 424 = .ok (.aload 7, 2) := by decide +kernel
theorem dL_others_426 : decode cL_others 426 = .ok (.iload 12, 2) := by decide +kernel
theorem dL_others_428 : decode cL_others 428 = .ok (.iaload, 1) := by decide +kernel
theorem dL_others_429 : decode cL_others 429 = .ok (.ifCond .lt 7, 3) := by decide +kernel
theorem dL_others_432 : decode cL_others 432 = .ok (.iconst 1, 1) := by decide +kernel
theorem dL_others_433 : decode cL_others 433 = .ok (.goto 4, 3) := by decide +kernel
theorem dL_others_436 : decode cL_others 436 = .ok (.iconst 0, 1) := by decide +kernel
theorem dL_others_437 : decode cL_others 437 = .ok (.iadd, 1) := by decide +kernel
theorem dL_others_438 : decode cL_others 438 = .ok (.istore 11, 2) := by decide +kernel
theorem dL_others_440 : decode cL_others 440 = .ok (.aload 5, 2) := by decide +kernel
theorem dL_others_442 : decode cL_others 442 = .ok (.iload 12, 2) := by decide +kernel
theorem dL_others_444 : decode cL_others 444 = .ok (.aload_n 3, 1) := by decide +kernel
theorem dL_others_445 : decode cL_others 445 = .ok (.iconst 1, 1) := by decide +kernel
theorem dL_others_446 : decode cL_others 446 = .ok (.iaload, 1) := by decide +kernel
theorem dL_others_447 : decode cL_others 447 = .ok (.iconst 2, 1) := by decide +kernel
theorem dL_others_448 : decode cL_others 448 = .ok (.if_icmp .ne 11, 3) := by decide +kernel
theorem dL_others_451 : decode cL_others 451 = .ok (.aload 6, 2) := by decide +kernel
theorem dL_others_453 : decode cL_others 453 = .ok (.iload 12, 2) := by decide +kernel
theorem dL_others_455 : decode cL_others 455 = .ok (.iaload, 1) := by decide +kernel
theorem dL_others_456 : decode cL_others 456 = .ok (.goto 4, 3) := by decide +kernel
theorem dL_others_459 : decode cL_others 459 = .ok (.iconst (-1), 1) := by decide +kernel
theorem dL_others_460 : decode cL_others 460 = .ok (.iastore, 1) := by decide +kernel
theorem dL_others_461 : decode cL_others 461 = .ok (.iinc 12 1, 3) := by decide +kernel
theorem dL_others_464 : decode cL_others 464 = .ok (.goto (-73), 3) := by decide +kernel
theorem dL_others_467 : decode cL_others 467 = .ok (.aload_n 3, 1) := by decide +kernel
theorem dL_others_468 : decode cL_others 468 = .ok (.iconst 2, 1) := by decide +kernel
theorem dL_others_469 : decode cL_others 469 = .ok (.dup2, 1) := by decide +kernel
theorem dL_others_470 : decode cL_others 470 = .ok (.iaload, 1) := by decide +kernel
theorem dL_others_471 : decode cL_others 471 = .ok (.aload_n 3, 1) := by decide +kernel
theorem dL_others_472 : decode cL_others 472 = .ok (.iconst 1, 1) := by decide +kernel
theorem dL_others_473 : decode cL_others 473 = .ok (.iaload, 1) := by decide +kernel
theorem dL_others_474 : decode cL_others 474 = .ok (.iconst 2, 1) := by decide +kernel
theorem dL_others_475 : decode cL_others 475 = .ok (.if_icmp .ne 8, 3) := by decide +kernel
theorem dL_others_478 : decode cL_others 478 = .ok (.iload 11, 2) := by decide +kernel
theorem dL_others_480 : decode cL_others 480 = .ok (.goto 4, 3) := by decide +kernel
theorem dL_others_483 : decode cL_others 483 = .ok (.iconst 0, 1) := by decide +kernel
theorem dL_others_484 : decode cL_others 484 = .ok (.iadd, 1) := by decide +kernel
theorem dL_others_485 : decode cL_others 485 = .ok (.iastore, 1) := by decide +kernel
theorem dL_others_486 : decode cL_others 486 = .ok (.aload_n 3, 1) := by decide +kernel
theorem dL_others_487 : decode cL_others 487 = .ok (.iconst 1, 1) := by decide +kernel
theorem dL_others_488 : decode cL_others 488 = .ok (.aload_n 3, 1) := by decide +kernel
theorem dL_others_489 : decode cL_others 489 = .ok (.iconst 1, 1) := by decide +kernel
theorem dL_others_490 : decode cL_others 490 = .ok (.iaload, 1) := by decide +kernel
theorem dL_others_491 : decode cL_others 491 = .ok (.iconst 1, 1) := by decide +kernel
theorem dL_others_492 : decode cL_others 492 = .ok (.if_icmp .ne 7, 3) := by decide +kernel
theorem dL_others_495 : decode cL_others 495 = .ok (.iconst 2, 1) := by decide +kernel
theorem dL_others_496 : decode cL_others 496 = .ok (.goto 4, 3) := by decide +kernel
theorem dL_others_499 : decode cL_others 499 = .ok (.iconst 0, 1) := by decide +kernel
theorem dL_others_500 : decode cL_others 500 = .ok (.iastore, 1) := by decide +kernel
theorem dL_others_501 : decode cL_others 501 = .ok (.aload_n 0, 1) := by decide +kernel
theorem dL_others_502 : decode cL_others 502 = .ok (.invokestatic 133, 3) := by decide +kernel
theorem dL_others_505 : decode cL_others 505 = .ok (.iload 11, 2) := by decide +kernel
theorem dL_others_507 : decode cL_others 507 = .ok (.if_icmp .ne 7, 3) := by decide +kernel
theorem dL_others_510 : decode cL_others 510 = .ok (.iconst 1, 1) := by decide +kernel
theorem dL_others_511 : decode cL_others 511 = .ok (.goto 4, 3) := by decide +kernel
theorem dL_others_514 : decode cL_others 514 = .ok (.iconst 0, 1) := by decide +kernel
theorem dL_others_515 : decode cL_others 515 = .ok (.ireturn, 1) := by decide +kernel
theorem dL_others_516 : decode cL_others 516 = .ok (.iload 8, 2) := by decide +kernel
theorem dL_others_518 : decode cL_others 518 = .ok (.bipush 10, 2) := by decide +kernel
theorem dL_others_520 : decode cL_others 520 = .ok (.if_icmp .ne 118, 3) := by decide +kernel
theorem dL_others_523 : decode cL_others 523 = .ok (.iload_n 2, 1) := by decide +kernel
theorem dL_others_524 : decode cL_others 524 = .ok (.bipush 64, 2) := by decide +kernel
theorem dL_others_526 : decode cL_others 526 = .ok (.iand, 1) := by decide +kernel
theorem dL_others_527 : decode cL_others 527 = .ok (.ifCond .ne 111, 3) := by decide +kernel
theorem dL_others_530 : decode cL_others 530 = .ok (.aload_n 3, 1) := by decide +kernel
theorem dL_others_531 : decode cL_others 531 = .ok (.iconst 1, 1) := by decide +kernel
theorem dL_others_532 : decode cL_others 532 = .ok (.iaload, 1) := by decide +kernel
theorem dL_others_533 : decode cL_others 533 = .ok (.ifCond .ne 18, 3) := by decide +kernel
theorem dL_others_536 : decode cL_others 536 = .ok (.aload_n 0, 1) := by decide +kernel
theorem dL_others_537 : decode cL_others 537 = .ok (.invokestatic 135, 3) := by decide +kernel
theorem dL_others_540 : decode cL_others 540 = .ok (.bipush (-33), 2) := by decide +kernel
theorem dL_others_542 : decode cL_others 542 = .ok (.if_icmp .ne 7, 3) := by decide +kernel
theorem dL_others_545 : decode cL_others 545 = .ok (.iconst 1, 1) := by decide +kernel
theorem dL_others_546 : decode cL_others 546 = .ok (.goto 4, 3) := by decide +kernel
theorem dL_others_549 : decode cL_others 549 = .ok (.iconst 0, 1) := by decide +kernel
theorem dL_others_550 : decode cL_others 550 = .ok (.ireturn, 1) := by decide +kernel
theorem dL_others_551 : decode cL_others 551 = .ok (.iconst 0, 1) := by decide +kernel
theorem dL_others_552 : decode cL_others 552 = .ok (.istore 11, 2) := by decide +kernel
theorem dL_others_554 : decode cL_others 554 = .ok (.iconst 0, 1) := by decide +kernel
theorem dL_others_555 : decode cL_others 555 = .ok (.istore 12, 2) := by decide +kernel
theorem dL_others_557 : decode cL_others 557 = .ok (.iload 12, 2) := by decide +kernel
theorem dL_others_559 : decode cL_others 559 = .ok (.aload_n 3, 1) := by decide +kernel
theorem dL_others_560 : decode cL_others 560 = .ok (.iconst 0, 1) := by decide +kernel
theorem dL_others_561 : decode cL_others 561 = .ok (.iaload, 1) := by decide +kernel
theorem dL_others_562 : decode cL_others 562 = .ok (.if_icmp .ge 57, 3) := by decide +kernel
theorem dL_others_565 : decode cL_others 565 = .ok (.iload 11, 2) := by decide +kernel
theorem dL_others_567 : decode cL_others 567 = .ok (.aload_n 3, 1) := by decide +kernel
theorem dL_others_568 : decode cL_others 568 = .ok (.iconst 1, 1) := by decide +kernel
theorem dL_others_569 : decode cL_others 569 = .ok (.iaload, 1) := by decide +kernel
theorem dL_others_570 : decode cL_others 570 = .ok (.iconst 2, 1) := by decide +kernel
theorem dL_others_571 : decode cL_others 571 = .ok (.if_icmp .ne 28, 3) := by decide +kernel
theorem dL_others_574 : decode cL_others 574 = .ok (.aload 6, 2) := by decide +kernel
theorem dL_others_576 : decode cL_others 576 = .ok (.iload 12, 2) := by decide +kernel
theorem dL_others_578 : decode cL_others 578 = .ok (.iaload, 1) := by decide +kernel
theorem dL_others_579 : decode cL_others 579 = .ok (.aload 7, 2) := by decide +kernel
theorem dL_others_581 : decode cL_others 581 = .ok (.iload 12, 2) := by decide +kernel
theorem dL_others_583 : decode cL_others 583 = .ok (.iaload, 1) := by decide +kernel
theorem dL_others_584 : decode cL_others 584 = .ok (.if_icmp .eq 15, 3) := by decide +kernel
theorem dL_others_587 : decode cL_others 587 = .ok (.aload 7, 2) := by decide +kernel
theorem dL_others_589 : decode cL_others 589 = .ok (.iload 12, 2) := by decide +kernel
theorem dL_others_591 : decode cL_others 591 = .ok (.iaload, 1) := by decide +kernel
theorem dL_others_592 : decode cL_others 592 = .ok (.ifCond .lt 7, 3) := by decide +kernel
theorem dL_others_595 : decode cL_others 595 = .ok (.iconst 1, 1) := by decide +kernel
theorem dL_others_596 : decode cL_others 596 = .ok (.goto 4, 3) := by decide +kernel
theorem dL_others_599 : decode cL_others 599 = .ok (.iconst 0, 1) := by decide +kernel
theorem dL_others_600 : decode cL_others 600 = .ok (.iadd, 1) := by decide +kernel
theorem dL_others_601 : decode cL_others 601 = .ok (.istore 11, 2) := by decide +kernel
theorem dL_others_603 : decode cL_others 603 = .ok (.aload 5, 2) := by decide +kernel
theorem dL_others_605 : decode cL_others 605 = .ok (.iload 12, 2) := by decide +kernel
theorem dL_others_607 : decode cL_others 607 = .ok (.aload 7, 2) := by decide +kernel
theorem dL_others_609 : decode cL_others 609 = .ok (.iload 12, 2) := by decide +kernel
theorem dL_others_611 : decode cL_others 611 = .ok (.iaload, 1) := by decide +kernel
theorem dL_others_612 : decode cL_others 612 = .ok (.iastore, 1) := by decide +kernel
theorem dL_others_613 : decode cL_others 613 = .ok (.iinc 12 1, 3) := by decide +kernel
theorem dL_others_616 : decode cL_others 616 = .ok (.goto (-59), 3) := by decide +kernel
theorem dL_others_619 : decode cL_others 619 = .ok (.aload_n 3, 1) := by decide +kernel
theorem dL_others_620 : decode cL_others 620 = .ok (.iconst 1, 1) := by decide +kernel
theorem dL_others_621 : decode cL_others 621 = .ok (.iconst 0, 1) := by decide +kernel
theorem dL_others_622 : decode cL_others 622 = .ok (.iastore, 1) := by decide +kernel
theorem dL_others_623 : decode cL_others 623 = .ok (.aload_n 0, 1) := by decide +kernel
theorem dL_others_624 : decode cL_others 624 = .ok (.invokestatic 135, 3) := by decide +kernel
theorem dL_others_627 : decode cL_others 627 = .ok (.iload 11, 2) := by decide +kernel
theorem dL_others_629 : decode cL_others 629 = .ok (.if_icmp .ne 7, 3) := by decide +kernel
theorem dL_others_632 : decode cL_others 632 = .ok (.iconst 1, 1) := by decide +kernel
theorem dL_others_633 : decode cL_others 633 = .ok (.goto 4, 3) := by decide +kernel
theorem dL_others_636 : decode cL_others 636 = .ok (.iconst 0, 1) := by decide +kernel
theorem dL_others_637 : decode cL_others 637 = .ok (.ireturn, 1) := by decide +kernel
theorem dL_others_638 : decode cL_others 638 = .ok (.iconst 0, 1) := by decide +kernel
theorem dL_others_639 : decode cL_others 639 = .ok (.istore 11, 2) := by decide +kernel
theorem dL_others_641 : decode cL_others 641 = .ok (.iconst 0, 1) := by decide +kernel
theorem dL_others_642 : decode cL_others 642 = .ok (.istore 12, 2) := by decide +kernel
theorem dL_others_644 : decode cL_others 644 = .ok (.iload 12, 2) := by decide +kernel
theorem dL_others_646 : decode cL_others 646 = .ok (.aload_n 3, 1) := by decide +kernel
theorem dL_others_647 : decode cL_others 647 = .ok (.iconst 0, 1) := by decide +kernel
theorem dL_others_648 : decode cL_others 648 = .ok (.iaload, 1) := by decide +kernel
theorem dL_others_649 : decode cL_others 649 = .ok (.if_icmp .ge 50, 3) := by decide +kernel
theorem dL_others_652 : decode cL_others 652 = .ok (.iload 11, 2) := by decide +kernel
theorem dL_others_654 : decode cL_others 654 = .ok (.aload 5, 2) := by decide +kernel
theorem dL_others_656 : decode cL_others 656 = .ok (.iload 12, 2) := by decide +kernel
theorem dL_others_658 : decode cL_others 658 = .ok (.iaload, 1) := by decide +kernel
theorem dL_others_659 : decode cL_others 659 = .ok (.ifCond .ge 7, 3) := by decide +kernel
theorem dL_others_662 : decode cL_others 662 = .ok (.iconst 0, 1) := by decide +kernel
theorem dL_others_663 : decode cL_others 663 = .ok (.goto 8, 3) := by decide +kernel
theorem dL_others_666 : decode cL_others 666 = .ok (.aload 4, 2) := by decide +kernel
theorem dL_others_668 : decode cL_others 668 = .ok (.iload 12, 2) := by decide +kernel
theorem dL_others_670 : decode cL_others 670 = .ok (.iaload, 1) := by decide +kernel
theorem dL_others_671 : decode cL_others 671 = .ok (.iadd, 1) := by decide +kernel
theorem dL_others_672 : decode cL_others 672 = .ok (.istore 11, 2) := by decide +kernel
theorem dL_others_674 : decode cL_others 674 = .ok (.aload_n 3, 1) := by decide +kernel
theorem dL_others_675 : decode cL_others 675 = .ok (.iconst 4, 1) := by decide +kernel
theorem dL_others_676 : decode cL_others 676 = .ok (.dup2, 1) := by decide +kernel
theorem dL_others_677 : decode cL_others 677 = .ok (.iaload, 1) := by decide +kernel
theorem dL_others_678 : decode cL_others 678 = .ok (.aload 5, 2) := by decide +kernel
theorem dL_others_680 : decode cL_others 680 = .ok (.iload 12, 2) := by decide +kernel
theorem dL_others_682 : decode cL_others 682 = .ok (.iaload, 1) := by decide +kernel
theorem dL_others_683 : decode cL_others 683 = .ok (.ifCond .ge 7, 3) := by decide +kernel
theorem dL_others_686 : decode cL_others 686 = .ok (.iconst 1, 1) := by decide +kernel
theorem dL_others_687 : decode cL_others 687 = .ok (.goto 4, 3) := by decide +kernel
theorem dL_others_690 : decode cL_others 690 = .ok (.iconst 0, 1) := by decide +kernel
theorem dL_others_691 : decode cL_others 691 = .ok (.iadd, 1) := by decide +kernel
theorem dL_others_692 : decode cL_others 692 = .ok (.iastore, 1) := by decide +kernel
theorem dL_others_693 : decode cL_others 693 = .ok (.iinc 12 1, 3) := by decide +kernel
theorem dL_others_696 : decode cL_others 696 = .ok (.goto (-52), 3) := by decide +kernel
theorem dL_others_699 : decode cL_others 699 = .ok (.aload_n 3, 1) := by decide +kernel
theorem dL_others_700 : decode cL_others 700 = .ok (.iconst 3, 1) := by decide +kernel
theorem dL_others_701 : decode cL_others 701 = .ok (.dup2, 1) := by decide +kernel
theorem dL_others_702 : decode cL_others 702 = .ok (.iaload, 1) := by decide +kernel
theorem dL_others_703 : decode cL_others 703 = .ok (.iload 11, 2) := by decide +kernel
theorem dL_others_705 : decode cL_others 705 = .ok (.iadd, 1) := by decide +kernel
theorem dL_others_706 : decode cL_others 706 = .ok (.iastore, 1) := by decide +kernel
theorem dL_others_707 : decode cL_others 707 = .ok (.aload_n 0, 1) := by decide +kernel
theorem dL_others_708 : decode cL_others 708 = .ok (.invokevirtual 137, 3) := by decide +kernel
theorem dL_others_711 : decode cL_others 711 = .ok (.iload 11, 2) := by decide +kernel
theorem dL_others_713 : decode cL_others 713 = .ok (.if_icmp .ne 7, 3) := by decide +kernel
theorem dL_others_716 : decode cL_others 716 = .ok (.iconst 1, 1) := by decide +kernel
theorem dL_others_717 : decode cL_others 717 = .ok (.goto 4, 3) := by decide +kernel
theorem dL_others_720 : decode cL_others 720 = .ok (.iconst 0, 1) := by decide +kernel
theorem dL_others_721 : decode cL_others 721 = .ok (.ireturn, 1) := by decide +kernel
