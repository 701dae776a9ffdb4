theorem dL_doors_0 : decode cL_doors 0 = .ok (.iload_n 1, 1) := by decide +kernel
theorem dL_doors_1 : decode cL_doors 1 = .ok (.bipush 8, 2) := by decide +kernel
theorem dL_doors_3 : decode cL_doors 3 = .ok (.invokestatic 111, 3) := by decide +kernel
theorem dL_doors_6 : decode cL_doors 6 = .ok (.istore 6, 2) := by decide +kernel
theorem dL_doors_8 : decode cL_doors 8 = .ok (.iload 6, 2) := by decide +kernel
theorem dL_doors_10 : decode cL_doors 10 = .ok (.iconst 5, 1) := by decide +kernel
theorem dL_doors_11 : decode cL_doors 11 = .ok (.if_icmp .ge 107, 3) := by decide +kernel
theorem dL_doors_14 : decode cL_doors 14 = .ok (.iconst 1, 1) := by decide +kernel
theorem dL_doors_15 : decode cL_doors 15 = .ok (.iload_n 2, 1) := by decide +kernel
theorem dL_doors_16 : decode cL_doors 16 = .ok (.bipush 9, 2) := by decide +kernel
theorem dL_doors_18 : decode cL_doors 18 = .ok (.invokestatic 111, 3) := by decide +kernel
theorem dL_doors_21 : decode cL_doors 21 = .ok (.iadd, 1) := by decide +kernel
theorem dL_doors_22 : decode cL_doors 22 = .ok (.istore 7, 2) := by decide +kernel
theorem dL_doors_24 : decode cL_doors 24 = .ok (.aload_n 3, 1) := by decide +kernel
theorem dL_doors_25 : decode cL_doors 25 = .ok (.iconst 1, 1) := by decide +kernel
theorem dL_doors_26 : decode cL_doors 26 = .ok (.iaload, 1) := by decide +kernel
theorem dL_doors_27 : decode cL_doors 27 = .ok (.ifCond .gt 11, 3) := by decide +kernel
theorem dL_doors_30 : decode cL_doors 30 = .ok (.aload_n 3, 1) := by decide +kernel
theorem dL_doors_31 : decode cL_doors 31 = .ok (.iconst 0, 1) := by decide +kernel
theorem dL_doors_32 : decode cL_doors 32 = .ok (.iaload, 1) := by decide +kernel
theorem dL_doors_33 : decode cL_doors 33 = .ok (.bipush 20, 2) := by decide +kernel
theorem dL_doors_35 : decode cL_doors 35 = .ok (.if_icmp .ne 41, 3) := by decide +kernel
theorem dL_doors_38 : decode cL_doors 38 = .ok (.aload_n 0, 1) := by decide +kernel
theorem dL_doors_39 : decode cL_doors 39 = .ok (.iload 7, 2) := by decide +kernel
theorem dL_doors_41 : decode cL_doors 41 = .ok (.invokestatic 114, 3) := by decide +kernel
theorem dL_doors_44 : decode cL_doors 44 = .ok (.bipush (-33), 2) := by decide +kernel
theorem dL_doors_46 : decode cL_doors 46 = .ok (.if_icmp .ne 28, 3) := by decide +kernel
theorem dL_doors_49 : decode cL_doors 49 = .ok (.aload_n 0, 1) := by decide +kernel
theorem dL_doors_50 : decode cL_doors 50 = .ok (.iconst 0, 1) := by decide +kernel
theorem dL_doors_51 : decode cL_doors 51 = .ok (.invokestatic 114, 3) := by decide +kernel
theorem dL_doors_54 : decode cL_doors 54 = .ok (.bipush (-32), 2) := by decide +kernel
theorem dL_doors_56 : decode cL_doors 56 = .ok (.if_icmp .ne 18, 3) := by decide +kernel
theorem dL_doors_59 : decode cL_doors 59 = .ok (.aload_n 0, 1) := by decide +kernel
theorem dL_doors_60 : decode cL_doors 60 = .ok (.bipush 10, 2) := by decide +kernel
theorem dL_doors_62 : decode cL_doors 62 = .ok (.invokestatic 114, 3) := by decide +kernel
theorem dL_doors_65 : decode cL_doors 65 = .ok (.bipush (-32), 2) := by decide +kernel
theorem dL_doors_67 : decode cL_doors 67 = .ok (.if_icmp .ne 7, 3) := by decide +kernel
theorem dL_doors_70 : decode cL_doors 70 = .ok (.iconst 1, 1) := by decide +kernel
theorem dL_doors_71 : decode cL_doors 71 = .ok (.goto 4, 3) := by decide +kernel
theorem dL_doors_74 : decode cL_doors 74 = .ok (.iconst 0, 1) := by decide +kernel
theorem dL_doors_75 : decode cL_doors 75 = .ok (.ireturn, 1) := by decide +kernel
theorem dL_doors_76 : decode cL_doors 76 = .ok (.aload 4, 2) := by decide +kernel
theorem dL_doors_78 : decode cL_doors 78 = .ok (.aload_n 3, 1) := by decide +kernel
theorem dL_doors_79 : decode cL_doors 79 = .ok (.iconst 0, 1) := by decide +kernel
theorem dL_doors_80 : decode cL_doors 80 = .ok (.iaload, 1) := by decide +kernel
theorem dL_doors_81 : decode cL_doors 81 = .ok (.iload 7, 2) := by decide +kernel
theorem dL_doors_83 : decode cL_doors 83 = .ok (.iastore, 1) := by decide +kernel
theorem dL_doors_84 : decode cL_doors 84 = .ok (.aload 5, 2) := by decide +kernel
theorem dL_doors_86 : decode cL_doors 86 = .ok (.aload_n 3, 1) := by decide +kernel
theorem dL_doors_87 : decode cL_doors 87 = .ok (.iconst 0, 1) := by decide +kernel
theorem dL_doors_88 : decode cL_doors 88 = .ok (.iaload, 1) := by decide +kernel
theorem dL_doors_89 : decode cL_doors 89 = .ok (.iconst (-1), 1) := by decide +kernel
theorem dL_doors_90 : decode cL_doors 90 = .ok (.iastore, 1) := by decide +kernel
theorem dL_doors_91 : decode cL_doors 91 = .ok (.aload_n 3, 1) := by decide +kernel
theorem dL_doors_92 : decode cL_doors 92 = .ok (.iconst 0, 1) := by decide +kernel
theorem dL_doors_93 : decode cL_doors 93 = .ok (.dup2, 1) := by decide +kernel
theorem dL_doors_94 : decode cL_doors 94 = .ok (.iaload, 1) := by decide +kernel
theorem dL_doors_95 : decode cL_doors 95 = .ok (.iconst 1, 1) := by decide +kernel
theorem dL_doors_96 : decode cL_doors 96 = .ok (.iadd, 1) := by decide +kernel
theorem dL_doors_97 : decode cL_doors 97 = .ok (.iastore, 1) := by decide +kernel
theorem dL_doors_98 : decode cL_doors 98 = .ok (.aload_n 0, 1) := by decide +kernel
theorem dL_doors_99 : decode cL_doors 99 = .ok (.iload 7, 2) := by decide +kernel
theorem dL_doors_101 : decode cL_doors 101 = .ok (.invokestatic 114, 3) := by decide +kernel
theorem dL_doors_104 : decode cL_doors 104 = .ok (.aload_n 3, 1) := by decide +kernel
theorem dL_doors_105 : decode cL_doors 105 = .ok (.iconst 0, 1) := by decide +kernel
theorem dL_doors_106 : decode cL_doors 106 = .ok (.iaload, 1) := by decide +kernel
theorem dL_doors_107 : decode cL_doors 107 = .ok (.iconst 1, 1) := by decide +kernel
theorem dL_doors_108 : decode cL_doors 108 = .ok (.isub, 1) := by decide +kernel
theorem dL_doors_109 : decode cL_doors 109 = .ok (.if_icmp .ne 7, 3) := by decide +kernel
theorem dL_doors_112 : decode cL_doors 112 = .ok (.iconst 1, 1) := by decide +kernel
theorem dL_doors_113 : decode cL_doors 113 = .ok (.goto 4, 3) := by decide +kernel
theorem dL_doors_116 : decode cL_doors 116 = .ok (.iconst 0, 1) := by decide +kernel
theorem dL_doors_117 : decode cL_doors 117 = .ok (.ireturn, 1) := by decide +kernel
theorem dL_doors_118 : decode cL_doors 118 = .ok (.iload_n 2, 1) := by decide +kernel
theorem dL_doors_119 : decode cL_doors 119 = .ok (.aload_n 3, 1) := by decide +kernel
theorem dL_doors_120 : decode cL_doors 120 = .ok (.iconst 0, 1) := by decide +kernel
theorem dL_doors_121 : decode cL_doors 121 = .ok (.iaload, 1) := by decide +kernel
theorem dL_doors_122 : decode cL_doors 122 = .ok (.iconst 1, 1) := by decide +kernel
theorem dL_doors_123 : decode cL_doors 123 = .ok (.iadd, 1) := by decide +kernel
theorem dL_doors_124 : decode cL_doors 124 = .ok (.invokestatic 111, 3) := by decide +kernel
theorem dL_doors_127 : decode cL_doors 127 = .ok (.istore 7, 2) := by decide +kernel
theorem dL_doors_129 : decode cL_doors 129 = .ok (.iload 7, 2) := by decide +kernel
theorem dL_doors_131 : decode cL_doors 131 = .ok (.aload_n 3, 1) := by decide +kernel
theorem dL_doors_132 : decode cL_doors 132 = .ok (.iconst 0, 1) := by decide +kernel
theorem dL_doors_133 : decode cL_doors 133 = .ok (.iaload, 1) := by decide +kernel
theorem dL_doors_134 : decode cL_doors 134 = .ok (.if_icmp .ne 54, 3) := by decide +kernel
theorem dL_doors_137 : decode cL_doors 137 = .ok (.aload_n 0, 1) := by decide +kernel
theorem dL_doors_138 : decode cL_doors 138 = .ok (.iload 7, 2) := by decide +kernel
theorem dL_doors_140 : decode cL_doors 140 = .ok (.invokestatic 117, 3) := by decide +kernel
theorem dL_doors_143 : decode cL_doors 143 = .ok (.bipush (-31), 2) := by decide +kernel
theorem dL_doors_145 : decode cL_doors 145 = .ok (.if_icmp .ne 41, 3) := by decide +kernel
theorem dL_doors_148 : decode cL_doors 148 = .ok (.aload_n 0, 1) := by decide +kernel
theorem dL_doors_149 : decode cL_doors 149 = .ok (.iload 7, 2) := by decide +kernel
theorem dL_doors_151 : decode cL_doors 151 = .ok (.bipush 10, 2) := by decide +kernel
theorem dL_doors_153 : decode cL_doors 153 = .ok (.invokestatic 119, 3) := by decide +kernel
theorem dL_doors_156 : decode cL_doors 156 = .ok (.bipush (-31), 2) := by decide +kernel
theorem dL_doors_158 : decode cL_doors 158 = .ok (.if_icmp .ne 28, 3) := by decide +kernel
theorem dL_doors_161 : decode cL_doors 161 = .ok (.aload_n 0, 1) := by decide +kernel
theorem dL_doors_162 : decode cL_doors 162 = .ok (.iload 7, 2) := by decide +kernel
theorem dL_doors_164 : decode cL_doors 164 = .ok (.invokestatic 122, 3) := by decide +kernel
theorem dL_doors_167 : decode cL_doors 167 = .ok (.bipush (-31), 2) := by decide +kernel
theorem dL_doors_169 : decode cL_doors 169 = .ok (.if_icmp .ne 17, 3) := by decide +kernel
theorem dL_doors_172 : decode cL_doors 172 = .ok (.aload_n 0, 1) := by decide +kernel
theorem dL_doors_173 : decode cL_doors 173 = .ok (.iconst (-1), 1) := by decide +kernel
theorem dL_doors_174 : decode cL_doors 174 = .ok (.invokestatic 124, 3) := by decide +kernel
theorem dL_doors_177 : decode cL_doors 177 = .ok (.bipush (-31), 2) := by decide +kernel
theorem dL_doors_179 : decode cL_doors 179 = .ok (.if_icmp .ne 7, 3) := by decide +kernel
theorem dL_doors_182 : decode cL_doors 182 = .ok (.iconst 1, 1) := by decide +kernel
theorem dL_doors_183 : decode cL_doors 183 = .ok (.goto 4, 3) := by decide +kernel
theorem dL_doors_186 : decode cL_doors 186 = .ok (.iconst 0, 1) := by decide +kernel
theorem dL_doors_187 : decode cL_doors 187 = .ok (.ireturn, 1) := by decide +kernel
theorem dL_doors_188 : decode cL_doors 188 = .ok (.iload 6, 2) := by decide +kernel
theorem dL_doors_190 : decode cL_doors 190 = .ok (.bipush 7, 2) := by decide +kernel
theorem dL_doors_192 : decode cL_doors 192 = .ok (.if_icmp .ge 61, 3) := by decide +kernel
theorem dL_doors_195 : decode cL_doors 195 = .ok (.iconst 1, 1) := by decide +kernel
theorem dL_doors_196 : decode cL_doors 196 = .ok (.iload_n 2, 1) := by decide +kernel
theorem dL_doors_197 : decode cL_doors 197 = .ok (.bipush 6, 2) := by decide +kernel
theorem dL_doors_199 : decode cL_doors 199 = .ok (.ishr, 1) := by decide +kernel
theorem dL_doors_200 : decode cL_doors 200 = .ok (.bipush 9, 2) := by decide +kernel
theorem dL_doors_202 : decode cL_doors 202 = .ok (.invokestatic 111, 3) := by decide +kernel
theorem dL_doors_205 : decode cL_doors 205 = .ok (.iadd, 1) := by decide +kernel
theorem dL_doors_206 : decode cL_doors 206 = .ok (.istore 8, 2) := by decide +kernel
theorem dL_doors_208 : decode cL_doors 208 = .ok (.aload 4, 2) := by decide +kernel
theorem dL_doors_210 : decode cL_doors 210 = .ok (.iload 7, 2) := by decide +kernel
theorem dL_doors_212 : decode cL_doors 212 = .ok (.iaload, 1) := by decide +kernel
theorem dL_doors_213 : decode cL_doors 213 = .ok (.istore 9, 2) := by decide +kernel
theorem dL_doors_215 : decode cL_doors 215 = .ok (.aload 4, 2) := by decide +kernel
theorem dL_doors_217 : decode cL_doors 217 = .ok (.iload 7, 2) := by decide +kernel
theorem dL_doors_219 : decode cL_doors 219 = .ok (.iload 8, 2) := by decide +kernel
theorem dL_doors_221 : decode cL_doors 221 = .ok (.iastore, 1) := by decide +kernel
theorem dL_doors_222 : decode cL_doors 222 = .ok (.aload_n 0, 1) := by decide +kernel
theorem dL_doors_223 : decode cL_doors 223 = .ok (.iload 7, 2) := by decide +kernel
theorem dL_doors_225 : decode cL_doors 225 = .ok (.iload 8, 2) := by decide +kernel
theorem dL_doors_227 : decode cL_doors 227 = .ok (.invokestatic 119, 3) := by decide +kernel
theorem dL_doors_230 : decode cL_doors 230 = .ok (.iload 9, 2) := by decide +kernel
theorem dL_doors_232 : decode cL_doors 232 = .ok (.if_icmp .ne 19, 3) := by decide +kernel
theorem dL_doors_235 : decode cL_doors 235 = .ok (.aload_n 0, 1) := by decide +kernel
theorem dL_doors_236 : decode cL_doors 236 = .ok (.iload 7, 2) := by decide +kernel
theorem dL_doors_238 : decode cL_doors 238 = .ok (.iconst 0, 1) := by decide +kernel
theorem dL_doors_239 : decode cL_doors 239 = .ok (.invokestatic 119, 3) := by decide +kernel
theorem dL_doors_242 : decode cL_doors 242 = .ok (.bipush (-32), 2) := by decide +kernel
theorem dL_doors_244 : decode cL_doors 244 = .ok (.if_icmp .ne 7, 3) := by decide +kernel
theorem dL_doors_247 : decode cL_doors 247 = .ok (.iconst 1, 1) := by decide +kernel
theorem dL_doors_248 : decode cL_doors 248 = .ok (.goto 4, 3) := by decide +kernel
theorem dL_doors_251 : decode cL_doors 251 = .ok (.iconst 0, 1) := by decide +kernel
theorem dL_doors_252 : decode cL_doors 252 = .ok (.ireturn, 1) := by decide +kernel
theorem dL_doors_253 : decode cL_doors 253 = .ok (.aload_n 3, 1) := by decide +kernel
theorem dL_doors_254 : decode cL_doors 254 = .ok (.iconst 1, 1) := by decide +kernel
theorem dL_doors_255 : decode cL_doors 255 = .ok (.iaload, 1) := by decide +kernel
theorem dL_doors_256 : decode cL_doors 256 = .ok (.ifCond .le 20, 3) := by decide +kernel
theorem dL_doors_259 : decode cL_doors 259 = .ok (.aload_n 0, 1) := by decide +kernel
theorem dL_doors_260 : decode cL_doors 260 = .ok (.iload 7, 2) := by decide +kernel
theorem dL_doors_262 : decode cL_doors 262 = .ok (.invokestatic 117, 3) := by decide +kernel
theorem dL_doors_265 : decode cL_doors 265 = .ok (.bipush (-33), 2) := by decide +kernel
theorem dL_doors_267 : decode cL_doors 267 = .ok (.if_icmp .ne 7, 3) := by decide +kernel
theorem dL_doors_270 : decode cL_doors 270 = .ok (.iconst 1, 1) := by decide +kernel
theorem dL_doors_271 : decode cL_doors 271 = .ok (.goto 4, 3) := by decide +kernel
theorem dL_doors_274 : decode cL_doors 274 = .ok (.iconst 0, 1) := by decide +kernel
theorem dL_doors_275 : decode cL_doors 275 = .ok (.ireturn, 1) := by decide +kernel
theorem dL_doors_276 : decode cL_doors 276 = .ok (.aload 5, 2) := by decide +kernel
theorem dL_doors_278 : decode cL_doors 278 = .ok (.iload 7, 2) := by decide +kernel
theorem dL_doors_280 : decode cL_doors 280 = .ok (.iaload, 1) := by decide +kernel
theorem dL_doors_281 : decode cL_doors 281 = .ok (.istore 8, 2) := by decide +kernel
theorem dL_doors_283 : decode cL_doors 283 = .ok (.aload_n 3, 1) := by decide +kernel
theorem dL_doors_284 : decode cL_doors 284 = .ok (.iconst 0, 1) := by decide +kernel
theorem dL_doors_285 : decode cL_doors 285 = .ok (.dup2, 1) := by decide +kernel
theorem dL_doors_286 : decode cL_doors 286 = .ok (.iaload, 1) := by decide +kernel
theorem dL_doors_287 : decode cL_doors 287 = .ok (.iconst 1, 1) := by decide +kernel
theorem dL_doors_288 : decode cL_doors 288 = .ok (.isub, 1) := by decide +kernel
theorem dL_doors_289 : decode cL_doors 289 = .ok (.iastore, 1) := by decide +kernel
theorem dL_doors_290 : decode cL_doors 290 = .ok (.iload 7, 2) := by decide +kernel
theorem dL_doors_292 : decode cL_doors 292 = .ok (.istore 9, 2) := by decide +kernel
theorem dL_doors_294 : decode cL_doors 294 = .ok (.iload 9, 2) := by decide +kernel
theorem dL_doors_296 : decode cL_doors 296 = .ok (.aload_n 3, 1) := by decide +kernel
theorem dL_doors_297 : decode cL_doors 297 = .ok (.iconst 0, 1) := by decide +kernel
theorem dL_doors_298 : decode cL_doors 298 = .ok (.iaload, 1) := by decide +kernel
theorem dL_doors_299 : decode cL_doors 299 = .ok (.if_icmp .ge 33, 3) := by decide +kernel
theorem dL_doors_302 : decode cL_doors 302 = .ok (.aload 4, 2) := by decide +kernel
theorem dL_doors_304 : decode cL_doors 304 = .ok (.iload 9, 2) := by decide +kernel
theorem dL_doors_306 : decode cL_doors 306 = .ok (.aload 4, 2) := by decide +kernel
theorem dL_doors_308 : decode cL_doors 308 = .ok (.iload 9, 2) := by decide +kernel
theorem dL_doors_310 : decode cL_doors 310 = .ok (.iconst 1, 1) := by decide +kernel
theorem dL_doors_311 : decode cL_doors 311 = .ok (.iadd, 1) := by decide +kernel
theorem dL_doors_312 : decode cL_doors 312 = .ok (.iaload, 1) := by decide +kernel
theorem dL_doors_313 : decode cL_doors 313 = .ok (.iastore, 1) := by decide +kernel
theorem dL_doors_314 : decode cL_doors 314 = .ok (.aload 5, 2) := by decide +kernel
theorem dL_doors_316 : decode cL_doors 316 = .ok (.iload 9, 2) := by decide +kernel
theorem dL_doors_318 : decode cL_doors 318 = .ok (.aload 5, 2) := by decide +kernel
theorem dL_doors_320 : decode cL_doors 320 = .ok (.iload 9, 2) := by decide +kernel
theorem dL_doors_322 : decode cL_doors 322 = .ok (.iconst 1, 1) := by decide +kernel
theorem dL_doors_323 : decode cL_doors 323 = .ok (.iadd, 1) := by decide +kernel
theorem dL_doors_324 : decode cL_doors 324 = .ok (.iaload, 1) := by decide +kernel
theorem dL_doors_325 : decode cL_doors 325 = .ok (.iastore, 1) := by decide +kernel
theorem dL_doors_326 : decode cL_doors 326 = .ok (.iinc 9 1, 3) := by decide +kernel
theorem dL_doors_329 : decode cL_doors 329 = .ok (.goto (-35), 3) := by decide +kernel
theorem dL_doors_332 : decode cL_doors 332 = .ok (.aload_n 0, 1) := by decide +kernel
theorem dL_doors_333 : decode cL_doors 333 = .ok (.iload 7, 2) := by decide +kernel
theorem dL_doors_335 : decode cL_doors 335 = .ok (.invokestatic 117, 3) := by decide +kernel
theorem dL_doors_338 : decode cL_doors 338 = .ok (.iload 8, 2) := by decide +kernel
theorem dL_doors_340 : decode cL_doors 340 = .ok (.if_icmp .ne 7, 3) := by decide +kernel
theorem dL_doors_343 : decode cL_doors 343 = .ok (.iconst 1, 1) := by decide +kernel
theorem dL_doors_344 : decode cL_doors 344 = .ok (.goto 4, 3) := by decide +kernel
theorem dL_doors_347 : decode cL_doors 347 = .ok (.iconst 0, 1) := by decide +kernel
theorem dL_doors_348 : decode cL_doors 348 = .ok (.ireturn, 1) := by decide +kernel
