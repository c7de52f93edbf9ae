theorem dL_hours_0 : decode cL_hours 0 = .ok (.bipush 12, 2) := by decide +kernel
theorem dL_hours_2 : decode cL_hours 2 = .ok (.newarray .int, 2) := by decide +kernel
theorem dL_hours_4 : decode cL_hours 4 = .ok (.astore 5, 2) := by decide +kernel
theorem dL_hours_6 : decode cL_hours 6 = .ok (.iconst 0, 1) := by decide +kernel
theorem dL_hours_7 : decode cL_hours 7 = .ok (.istore 6, 2) := by decide +kernel
theorem dL_hours_9 : decode cL_hours 9 = .ok (.iconst 0, 1) := by decide +kernel
theorem dL_hours_10 : decode cL_hours 10 = .ok (.istore 7, 2) := by decide +kernel
theorem dL_hours_12 : decode cL_hours 12 = .ok (.iconst 0, 1) := by decide +kernel
theorem dL_hours_13 : decode cL_hours 13 = .ok (.istore 8, 2) := by decide +kernel
theorem dL_hours_15 : decode cL_hours 15 = .ok (.iconst 0, 1) := by decide +kernel
theorem dL_hours_16 : decode cL_hours 16 = .ok (.istore 9, 2) := by decide +kernel
theorem dL_hours_18 : decode cL_hours 18 = .ok (.iconst 1, 1) := by decide +kernel
theorem dL_hours_19 : decode cL_hours 19 = .ok (.istore 10, 2) := by decide +kernel
theorem dL_hours_21 : decode cL_hours 21 = .ok (.iload 10, 2) := by decide +kernel
theorem dL_hours_23 : decode cL_hours 23 = .ok (.bipush 12, 2) := by decide +kernel
theorem dL_hours_25 : decode cL_hours 25 = .ok (.if_icmp .ge 68, 3) := by decide +kernel
theorem dL_hours_28 : decode cL_hours 28 = .ok (.aload 5, 2) := by decide +kernel
theorem dL_hours_30 : decode cL_hours 30 = .ok (.iload 10, 2) := by decide +kernel
theorem dL_hours_32 : decode cL_hours 32 = .ok (.aload_n 0, 1) := by decide +kernel
theorem dL_hours_33 : decode cL_hours 33 = .ok (.aload_n 2, 1) := by decide +kernel
theorem dL_hours_34 : decode cL_hours 34 = .ok (.iload 10, 2) := by decide +kernel
theorem dL_hours_36 : decode cL_hours 36 = .ok (.iload 4, 2) := by decide +kernel
theorem dL_hours_38 : decode cL_hours 38 = .ok (.invokestatic 54, 3) := by decide +kernel
theorem dL_hours_41 : decode cL_hours 41 = .ok (.iastore, 1) := by decide +kernel
theorem dL_hours_42 : decode cL_hours 42 = .ok (.iload 6, 2) := by decide +kernel
theorem dL_hours_44 : decode cL_hours 44 = .ok (.aload 5, 2) := by decide +kernel
theorem dL_hours_46 : decode cL_hours 46 = .ok (.iload 10, 2) := by decide +kernel
theorem dL_hours_48 : decode cL_hours 48 = .ok (.iaload, 1) := by decide +kernel
theorem dL_hours_49 : decode cL_hours 49 = .ok (.iadd, 1) := by decide +kernel
theorem dL_hours_50 : decode cL_hours 50 = .ok (.istore 6, 2) := by decide +kernel
theorem dL_hours_52 : decode cL_hours 52 = .ok (.iload 10, 2) := by decide +kernel
theorem dL_hours_54 : decode cL_hours 54 = .ok (.istore 11, 2) := by decide +kernel
theorem dL_hours_56 : decode cL_hours 56 = .ok (.iload 11, 2) := by decide +kernel
theorem dL_hours_58 : decode cL_hours 58 = .ok (.ifCond .le 29, 3) := by decide +kernel
theorem dL_hours_61 : decode cL_hours 61 = .ok (.aload 5, 2) := by decide +kernel
theorem dL_hours_63 : decode cL_hours 63 = .ok (.iload 10, 2) := by decide +kernel
theorem dL_hours_65 : decode cL_hours 65 = .ok (.iaload, 1) := by decide +kernel
theorem dL_hours_66 : decode cL_hours 66 = .ok (.ifCond .le 21, 3) := by decide +kernel
theorem dL_hours_69 : decode cL_hours 69 = .ok (.iload 9, 2) := by decide +kernel
theorem dL_hours_71 : decode cL_hours 71 = .ok (.iconst 1, 1) := by decide +kernel
theorem dL_hours_72 : decode cL_hours 72 = .ok (.iload 11, 2) := by decide +kernel
theorem dL_hours_74 : decode cL_hours 74 = .ok (.ishl, 1) := by decide +kernel
theorem dL_hours_75 : decode cL_hours 75 = .ok (.ior, 1) := by decide +kernel
theorem dL_hours_76 : decode cL_hours 76 = .ok (.istore 9, 2) := by decide +kernel
theorem dL_hours_78 : decode cL_hours 78 = .ok (.aload_n 2, 1) := by decide +kernel
theorem dL_hours_79 : decode cL_hours 79 = .ok (.iload 11, 2) := by decide +kernel
theorem dL_hours_81 : decode cL_hours 81 = .ok (.iaload, 1) := by decide +kernel
theorem dL_hours_82 : decode cL_hours 82 = .ok (.istore 11, 2) := by decide +kernel
theorem dL_hours_84 : decode cL_hours 84 = .ok (.goto (-28), 3) := by decide +kernel
theorem dL_hours_87 : decode cL_hours 87 = .ok (.iinc 10 1, 3) := by decide +kernel
theorem dL_hours_90 : decode cL_hours 90 = .ok (.goto (-69), 3) := by decide +kernel
theorem dL_hours_93 : decode cL_hours 93 = .ok (.iconst 1, 1) := by decide +kernel
theorem dL_hours_94 : decode cL_hours 94 = .ok (.istore 10, 2) := by decide +kernel
theorem dL_hours_96 : decode cL_hours 96 = .ok (.iload 10, 2) := by decide +kernel
theorem dL_hours_98 : decode cL_hours 98 = .ok (.bipush 12, 2) := by decide +kernel
theorem dL_hours_100 : decode cL_hours 100 = .ok (.if_icmp .ge 36, 3) := by decide +kernel
theorem dL_hours_103 : decode cL_hours 103 = .ok (.iload 7, 2) := by decide +kernel
theorem dL_hours_105 : decode cL_hours 105 = .ok (.iload 9, 2) := by decide +kernel
theorem dL_hours_107 : decode cL_hours 107 = .ok (.iload 10, 2) := by decide +kernel
theorem dL_hours_109 : decode cL_hours 109 = .ok (.ishr, 1) := by decide +kernel
theorem dL_hours_110 : decode cL_hours 110 = .ok (.iconst 1, 1) := by decide +kernel
theorem dL_hours_111 : decode cL_hours 111 = .ok (.iand, 1) := by decide +kernel
theorem dL_hours_112 : decode cL_hours 112 = .ok (.iconst 1, 1) := by decide +kernel
theorem dL_hours_113 : decode cL_hours 113 = .ok (.if_icmp .ne 13, 3) := by decide +kernel
theorem dL_hours_116 : decode cL_hours 116 = .ok (.aload_n 2, 1) := by decide +kernel
theorem dL_hours_117 : decode cL_hours 117 = .ok (.bipush 12, 2) := by decide +kernel
theorem dL_hours_119 : decode cL_hours 119 = .ok (.iload 10, 2) := by decide +kernel
theorem dL_hours_121 : decode cL_hours 121 = .ok (.iadd, 1) := by decide +kernel
theorem dL_hours_122 : decode cL_hours 122 = .ok (.iaload, 1) := by decide +kernel
theorem dL_hours_123 : decode cL_hours 123 = .ok (.goto 4, 3) := by decide +kernel
theorem dL_hours_126 : decode cL_hours 126 = .ok (.iconst 0, 1) := by decide +kernel
theorem dL_hours_127 : decode cL_hours 127 = .ok (.iadd, 1) := by decide +kernel
theorem dL_hours_128 : decode cL_hours 128 = .ok (.istore 7, 2) := by decide +kernel
theorem dL_hours_130 : decode cL_hours 130 = .ok (.iinc 10 1, 3) := by decide +kernel
theorem dL_hours_133 : decode cL_hours 133 = .ok (.goto (-37), 3) := by decide +kernel
theorem dL_hours_136 : decode cL_hours 136 = .ok (.iconst 0, 1) := by decide +kernel
theorem dL_hours_137 : decode cL_hours 137 = .ok (.istore 10, 2) := by decide +kernel
theorem dL_hours_139 : decode cL_hours 139 = .ok (.iload 10, 2) := by decide +kernel
theorem dL_hours_141 : decode cL_hours 141 = .ok (.aload_n 1, 1) := by decide +kernel
theorem dL_hours_142 : decode cL_hours 142 = .ok (.iconst 2, 1) := by decide +kernel
theorem dL_hours_143 : decode cL_hours 143 = .ok (.iaload, 1) := by decide +kernel
theorem dL_hours_144 : decode cL_hours 144 = .ok (.if_icmp .ge 25, 3) := by decide +kernel
theorem dL_hours_147 : decode cL_hours 147 = .ok (.iload 8, 2) := by decide +kernel
theorem dL_hours_149 : decode cL_hours 149 = .ok (.aload_n 3, 1) := by decide +kernel
theorem dL_hours_150 : decode cL_hours 150 = .ok (.iload 10, 2) := by decide +kernel
theorem dL_hours_152 : decode cL_hours 152 = .ok (.iaload, 1) := by decide +kernel
theorem dL_hours_153 : decode cL_hours 153 = .ok (.aload_n 3, 1) := by decide +kernel
theorem dL_hours_154 : decode cL_hours 154 = .ok (.iconst 4, 1) := by decide +kernel
theorem dL_hours_155 : decode cL_hours 155 = .ok (.iload 10, 2) := by decide +kernel
theorem dL_hours_157 : decode cL_hours 157 = .ok (.iadd, 1) := by decide +kernel
theorem dL_hours_158 : decode cL_hours 158 = .ok (.iaload, 1) := by decide +kernel
theorem dL_hours_159 : decode cL_hours 159 = .ok (.imul, 1) := by decide +kernel
theorem dL_hours_160 : decode cL_hours 160 = .ok (.iadd, 1) := by decide +kernel
theorem dL_hours_161 : decode cL_hours 161 = .ok (.istore 8, 2) := by decide +kernel
theorem dL_hours_163 : decode cL_hours 163 = .ok (.iinc 10 1, 3) := by decide +kernel
theorem dL_hours_166 : decode cL_hours 166 = .ok (.goto (-27), 3) := by decide +kernel
theorem dL_hours_169 : decode cL_hours 169 = .ok (.iconst 2, 1) := by decide +kernel
theorem dL_hours_170 : decode cL_hours 170 = .ok (.iload 6, 2) := by decide +kernel
theorem dL_hours_172 : decode cL_hours 172 = .ok (.iload 7, 2) := by decide +kernel
theorem dL_hours_174 : decode cL_hours 174 = .ok (.iadd, 1) := by decide +kernel
theorem dL_hours_175 : decode cL_hours 175 = .ok (.imul, 1) := by decide +kernel
theorem dL_hours_176 : decode cL_hours 176 = .ok (.iload 8, 2) := by decide +kernel
theorem dL_hours_178 : decode cL_hours 178 = .ok (.if_icmp .le 7, 3) := by decide +kernel
theorem dL_hours_181 : decode cL_hours 181 = .ok (.iconst 3, 1) := by decide +kernel
theorem dL_hours_182 : decode cL_hours 182 = .ok (.goto 4, 3) := by decide +kernel
theorem dL_hours_185 : decode cL_hours 185 = .ok (.iconst 2, 1) := by decide +kernel
theorem dL_hours_186 : decode cL_hours 186 = .ok (.istore 10, 2) := by decide +kernel
theorem dL_hours_188 : decode cL_hours 188 = .ok (.iload 8, 2) := by decide +kernel
theorem dL_hours_190 : decode cL_hours 190 = .ok (.iload 6, 2) := by decide +kernel
theorem dL_hours_192 : decode cL_hours 192 = .ok (.iload 7, 2) := by decide +kernel
theorem dL_hours_194 : decode cL_hours 194 = .ok (.iadd, 1) := by decide +kernel
theorem dL_hours_195 : decode cL_hours 195 = .ok (.if_icmp .ge 11, 3) := by decide +kernel
theorem dL_hours_198 : decode cL_hours 198 = .ok (.iload 8, 2) := by decide +kernel
theorem dL_hours_200 : decode cL_hours 200 = .ok (.iload 7, 2) := by decide +kernel
theorem dL_hours_202 : decode cL_hours 202 = .ok (.isub, 1) := by decide +kernel
theorem dL_hours_203 : decode cL_hours 203 = .ok (.goto 5, 3) := by decide +kernel
theorem dL_hours_206 : decode cL_hours 206 = .ok (.iload 6, 2) := by decide +kernel
theorem dL_hours_208 : decode cL_hours 208 = .ok (.istore 11, 2) := by decide +kernel
theorem dL_hours_210 : decode cL_hours 210 = .ok (.iconst 1, 1) := by decide +kernel
theorem dL_hours_211 : decode cL_hours 211 = .ok (.istore 12, 2) := by decide +kernel
theorem dL_hours_213 : decode cL_hours 213 = .ok (.iload 12, 2) := by decide +kernel
theorem dL_hours_215 : decode cL_hours 215 = .ok (.bipush 12, 2) := by decide +kernel
theorem dL_hours_217 : decode cL_hours 217 = .ok (.if_icmp .ge 116, 3) := by decide +kernel
theorem dL_hours_220 : decode cL_hours 220 = .ok (.aload_n 0, 1) := by decide +kernel
theorem dL_hours_221 : decode cL_hours 221 = .ok (.aload_n 2, 1) := by decide +kernel
theorem dL_hours_222 : decode cL_hours 222 = .ok (.iload 12, 2) := by decide +kernel
theorem dL_hours_224 : decode cL_hours 224 = .ok (.invokestatic 47, 3) := by decide +kernel
theorem dL_hours_227 : decode cL_hours 227 = .ok (.ifCond .ne 24, 3) := by decide +kernel
theorem dL_hours_230 : decode cL_hours 230 = .ok (.aload_n 2, 1) := by decide +kernel
theorem dL_hours_231 : decode cL_hours 231 = .ok (.bipush 24, 2) := by decide +kernel
theorem dL_hours_233 : decode cL_hours 233 = .ok (.iload 12, 2) := by decide +kernel
theorem dL_hours_235 : decode cL_hours 235 = .ok (.iadd, 1) := by decide +kernel
theorem dL_hours_236 : decode cL_hours 236 = .ok (.iaload, 1) := by decide +kernel
theorem dL_hours_237 : decode cL_hours 237 = .ok (.ifCond .le 14, 3) := by decide +kernel
theorem dL_hours_240 : decode cL_hours 240 = .ok (.iload 4, 2) := by decide +kernel
theorem dL_hours_242 : decode cL_hours 242 = .ok (.bipush 18, 2) := by decide +kernel
theorem dL_hours_244 : decode cL_hours 244 = .ok (.if_icmp .ge 7, 3) := by decide +kernel
theorem dL_hours_247 : decode cL_hours 247 = .ok (.iconst 1, 1) := by decide +kernel
theorem dL_hours_248 : decode cL_hours 248 = .ok (.goto 4, 3) := by decide +kernel
theorem dL_hours_251 : decode cL_hours 251 = .ok (.iconst 0, 1) := by decide +kernel
theorem dL_hours_252 : decode cL_hours 252 = .ok (.istore 13, 2) := by decide +kernel
theorem dL_hours_254 : decode cL_hours 254 = .ok (.aload 5, 2) := by decide +kernel
theorem dL_hours_256 : decode cL_hours 256 = .ok (.iload 12, 2) := by decide +kernel
theorem dL_hours_258 : decode cL_hours 258 = .ok (.iload 11, 2) := by decide +kernel
theorem dL_hours_260 : decode cL_hours 260 = .ok (.ifCond .ge 7, 3) := by decide +kernel
theorem dL_hours_263 : decode cL_hours 263 = .ok (.iconst 0, 1) := by decide +kernel
theorem dL_hours_264 : decode cL_hours 264 = .ok (.goto 23, 3) := by decide +kernel
theorem dL_hours_267 : decode cL_hours 267 = .ok (.iload 11, 2) := by decide +kernel
theorem dL_hours_269 : decode cL_hours 269 = .ok (.aload 5, 2) := by decide +kernel
theorem dL_hours_271 : decode cL_hours 271 = .ok (.iload 12, 2) := by decide +kernel
theorem dL_hours_273 : decode cL_hours 273 = .ok (.iaload, 1) := by decide +kernel
theorem dL_hours_274 : decode cL_hours 274 = .ok (.if_icmp .ge 8, 3) := by decide +kernel
theorem dL_hours_277 : decode cL_hours 277 = .ok (.iload 11, 2) := by decide +kernel
theorem dL_hours_279 : decode cL_hours 279 = .ok (.goto 8, 3) := by decide +kernel
theorem dL_hours_282 : decode cL_hours 282 = .ok (.aload 5, 2) := by decide +kernel
theorem dL_hours_284 : decode cL_hours 284 = .ok (.iload 12, 2) := by decide +kernel
theorem dL_hours_286 : decode cL_hours 286 = .ok (.iaload, 1) := by decide +kernel
theorem dL_hours_287 : decode cL_hours 287 = .ok (.iastore, 1) := by decide +kernel
theorem dL_hours_288 : decode cL_hours 288 = .ok (.iload 11, 2) := by decide +kernel
theorem dL_hours_290 : decode cL_hours 290 = .ok (.aload 5, 2) := by decide +kernel
theorem dL_hours_292 : decode cL_hours 292 = .ok (.iload 12, 2) := by decide +kernel
theorem dL_hours_294 : decode cL_hours 294 = .ok (.iaload, 1) := by decide +kernel
theorem dL_hours_295 : decode cL_hours 295 = .ok (.isub, 1) := by decide +kernel
theorem dL_hours_296 : decode cL_hours 296 = .ok (.istore 11, 2) := by decide +kernel
theorem dL_hours_298 : decode cL_hours 298 = .ok (.aload_n 2, 1) := by decide +kernel
theorem dL_hours_299 : decode cL_hours 299 = .ok (.bipush 48, 2) := by decide +kernel
theorem dL_hours_301 : decode cL_hours 301 = .ok (.iload 12, 2) := by decide +kernel
theorem dL_hours_303 : decode cL_hours 303 = .ok (.iadd, 1) := by decide +kernel
theorem dL_hours_304 : decode cL_hours 304 = .ok (.dup2, 1) := by decide +kernel
theorem dL_hours_305 : decode cL_hours 305 = .ok (.iaload, 1) := by decide +kernel
theorem dL_hours_306 : decode cL_hours 306 = .ok (.iload 10, 2) := by decide +kernel
theorem dL_hours_308 : decode cL_hours 308 = .ok (.aload 5, 2) := by decide +kernel
theorem dL_hours_310 : decode cL_hours 310 = .ok (.iload 12, 2) := by decide +kernel
theorem dL_hours_312 : decode cL_hours 312 = .ok (.iaload, 1) := by decide +kernel
theorem dL_hours_313 : decode cL_hours 313 = .ok (.imul, 1) := by decide +kernel
theorem dL_hours_314 : decode cL_hours 314 = .ok (.iload 13, 2) := by decide +kernel
theorem dL_hours_316 : decode cL_hours 316 = .ok (.ifCond .eq 7, 3) := by decide +kernel
theorem dL_hours_319 : decode cL_hours 319 = .ok (.iconst 3, 1) := by decide +kernel
theorem dL_hours_320 : decode cL_hours 320 = .ok (.goto 4, 3) := by decide +kernel
theorem dL_hours_323 : decode cL_hours 323 = .ok (.iconst 0, 1) := by decide +kernel
theorem dL_hours_324 : decode cL_hours 324 = .ok (.isub, 1) := by decide +kernel
theorem dL_hours_325 : decode cL_hours 325 = .ok (.iadd, 1) := by decide +kernel
theorem dL_hours_326 : decode cL_hours 326 = .ok (.iastore, 1) := by decide +kernel
theorem dL_hours_327 : decode cL_hours 327 = .ok (.iinc 12 1, 3) := by decide +kernel
theorem dL_hours_330 : decode cL_hours 330 = .ok (.goto (-117), 3) := by decide +kernel
theorem dL_hours_333 : decode cL_hours 333 = .ok (.aload_n 0, 1) := by decide +kernel
theorem dL_hours_334 : decode cL_hours 334 = .ok (.iload 4, 2) := by decide +kernel
theorem dL_hours_336 : decode cL_hours 336 = .ok (.invokevirtual 58, 3) := by decide +kernel
theorem dL_hours_339 : decode cL_hours 339 = .ok (.iload 6, 2) := by decide +kernel
theorem dL_hours_341 : decode cL_hours 341 = .ok (.iload 7, 2) := by decide +kernel
theorem dL_hours_343 : decode cL_hours 343 = .ok (.iadd, 1) := by decide +kernel
theorem dL_hours_344 : decode cL_hours 344 = .ok (.if_icmp .ne 30, 3) := by decide +kernel
theorem dL_hours_347 : decode cL_hours 347 = .ok (.aload_n 0, 1) := by decide +kernel
theorem dL_hours_348 : decode cL_hours 348 = .ok (.iload 4, 2) := by decide +kernel
theorem dL_hours_350 : decode cL_hours 350 = .ok (.invokevirtual 61, 3) := by decide +kernel
theorem dL_hours_353 : decode cL_hours 353 = .ok (.iload 6, 2) := by decide +kernel
theorem dL_hours_355 : decode cL_hours 355 = .ok (.iload 7, 2) := by decide +kernel
theorem dL_hours_357 : decode cL_hours 357 = .ok (.iadd, 1) := by decide +kernel
theorem dL_hours_358 : decode cL_hours 358 = .ok (.if_icmp .ne 16, 3) := by decide +kernel
theorem dL_hours_361 : decode cL_hours 361 = .ok (.aload_n 0, 1) := by decide +kernel
theorem dL_hours_362 : decode cL_hours 362 = .ok (.invokevirtual 64, 3) := by decide +kernel
theorem dL_hours_365 : decode cL_hours 365 = .ok (.iload 7, 2) := by decide +kernel
theorem dL_hours_367 : decode cL_hours 367 = .ok (.if_icmp .ne 7, 3) := by decide +kernel
theorem dL_hours_370 : decode cL_hours 370 = .ok (.iconst 1, 1) := by decide +kernel
theorem dL_hours_371 : decode cL_hours 371 = .ok (.goto 4, 3) := by decide +kernel
theorem dL_hours_374 : decode cL_hours 374 = .ok (.iconst 0, 1) := by decide +kernel
theorem dL_hours_375 : decode cL_hours 375 = .ok (.istore 12, 2) := by decide +kernel
theorem dL_hours_377 : decode cL_hours 377 = .ok (.aload_n 1, 1) := by decide +kernel
theorem dL_hours_378 : decode cL_hours 378 = .ok (.iconst 0, 1) := by decide +kernel
theorem dL_hours_379 : decode cL_hours 379 = .ok (.dup2, 1) := by decide +kernel
theorem dL_hours_380 : decode cL_hours 380 = .ok (.iaload, 1) := by decide +kernel
theorem dL_hours_381 : decode cL_hours 381 = .ok (.iconst 1, 1) := by decide +kernel
theorem dL_hours_382 : decode cL_hours 382 = .ok (.iadd, 1) := by decide +kernel
theorem dL_hours_383 : decode cL_hours 383 = .ok (.iastore, 1) := by decide +kernel
theorem dL_hours_384 : decode cL_hours 384 = .ok (.aload_n 1, 1) := by decide +kernel
theorem dL_hours_385 : decode cL_hours 385 = .ok (.iconst 1, 1) := by decide +kernel
theorem dL_hours_386 : decode cL_hours 386 = .ok (.iload 4, 2) := by decide +kernel
theorem dL_hours_388 : decode cL_hours 388 = .ok (.iastore, 1) := by decide +kernel
theorem dL_hours_389 : decode cL_hours 389 = .ok (.iload 12, 2) := by decide +kernel
theorem dL_hours_391 : decode cL_hours 391 = .ok (.ifCond .eq 33, 3) := by decide +kernel
theorem dL_hours_394 : decode cL_hours 394 = .ok (.aload_n 0, 1) := by decide +kernel
theorem dL_hours_395 : decode cL_hours 395 = .ok (.aload_n 2, 1) := by decide +kernel
theorem dL_hours_396 : decode cL_hours 396 = .ok (.aload 5, 2) := by decide +kernel
theorem dL_hours_398 : decode cL_hours 398 = .ok (.iload 9, 2) := by decide +kernel
theorem dL_hours_400 : decode cL_hours 400 = .ok (.invokestatic 67, 3) := by decide +kernel
theorem dL_hours_403 : decode cL_hours 403 = .ok (.ifCond .eq 21, 3) := by decide +kernel
theorem dL_hours_406 : decode cL_hours 406 = .ok (.aload_n 0, 1) := by decide +kernel
theorem dL_hours_407 : decode cL_hours 407 = .ok (.aload_n 1, 1) := by decide +kernel
theorem dL_hours_408 : decode cL_hours 408 = .ok (.aload_n 3, 1) := by decide +kernel
theorem dL_hours_409 : decode cL_hours 409 = .ok (.iload 6, 2) := by decide +kernel
theorem dL_hours_411 : decode cL_hours 411 = .ok (.iload 7, 2) := by decide +kernel
theorem dL_hours_413 : decode cL_hours 413 = .ok (.iadd, 1) := by decide +kernel
theorem dL_hours_414 : decode cL_hours 414 = .ok (.invokestatic 71, 3) := by decide +kernel
theorem dL_hours_417 : decode cL_hours 417 = .ok (.ifCond .eq 7, 3) := by decide +kernel
theorem dL_hours_420 : decode cL_hours 420 = .ok (.iconst 1, 1) := by decide +kernel
theorem dL_hours_421 : decode cL_hours 421 = .ok (.goto 4, 3) := by decide +kernel
theorem dL_hours_424 : decode cL_hours 424 = .ok (.iconst 0, 1) := by decide +kernel
theorem dL_hours_425 : decode cL_hours 425 = .ok (.ireturn, 1) := by decide +kernel
set_option maxRecDepth 20000 in
theorem ggL_areMetered_L_isOnWay : GoodIn wsL_areMetered wsL_isOnWay := goodIn_r _ [4] (by decide +kernel) (by decide +kernel)
set_option maxRecDepth 20000 in
theorem gL_areMetered_L_isOnWay : GoodIn wsL_areMetered (va_wsS RL 74 yL_isOnWay wsL_isOnWay) := goodIn_app (goodIn_of _ (by decide +kernel)) ggL_areMetered_L_isOnWay
set_option maxRecDepth 20000 in
theorem ggL_areMetered_X4_got : GoodIn wsL_areMetered wsX4_got := goodIn_ca (goodIn_r _ [9, 10, 11, 12, 13, 14, 8, 15, 25, 26, 27, 28, 29, 30, 31, 32, 33, 34, 35, 36, 37, 38, 39, 40] (by decide +kernel) (by decide +kernel)) (goodIn_sub (fun _ h => List.mem_cons_of_mem _ (List.mem_append_right _ h)) (by decide +kernel))
set_option maxRecDepth 20000 in
theorem gL_areMetered_X4_got : GoodIn wsL_areMetered (wsV RL 78 RX4 yX4_got wsX4_got) := goodIn_app (goodIn_of _ (by decide +kernel)) ggL_areMetered_X4_got
set_option maxRecDepth 20000 in
theorem ggL_areMetered_X4_meter : GoodIn wsL_areMetered wsX4_meter := goodIn_ca (goodIn_r _ [19, 10, 11, 20, 13, 14, 8, 15, 25, 26, 27, 28, 29, 30, 31, 41, 42, 43, 44, 45] (by decide +kernel) (by decide +kernel)) (goodIn_sub (fun _ h => List.mem_cons_of_mem _ (List.mem_append_right _ h)) (by decide +kernel))
set_option maxRecDepth 20000 in
theorem gL_areMetered_X4_meter : GoodIn wsL_areMetered (wsV RL 81 RX4 yX4_meter wsX4_meter) := goodIn_app (goodIn_of _ (by decide +kernel)) ggL_areMetered_X4_meter
set_option maxRecDepth 20000 in
theorem ggL_areMetered_X4_isSuspected : GoodIn wsL_areMetered wsX4_isSuspected := goodIn_ca (goodIn_r _ [24, 10, 11, 20, 13, 14, 8, 15, 25, 26, 27, 28, 29, 30, 31, 41, 42, 43, 44, 45] (by decide +kernel) (by decide +kernel)) (goodIn_sub (fun _ h => List.mem_cons_of_mem _ (List.mem_append_right _ h)) (by decide +kernel))
set_option maxRecDepth 20000 in
theorem gL_areMetered_X4_isSuspected : GoodIn wsL_areMetered (wsV RL 84 RX4 yX4_isSuspected wsX4_isSuspected) := goodIn_app (goodIn_of _ (by decide +kernel)) ggL_areMetered_X4_isSuspected
