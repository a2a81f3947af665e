theorem dX10_init_0 : decode cX10_init 0 = .ok (.aload_n 0, 1) := by decide +kernel
theorem dX10_init_1 : decode cX10_init 1 = .ok (.invokespecial 1, 3) := by decide +kernel
theorem dX10_init_4 : decode cX10_init 4 = .ok (.aload_n 0, 1) := by decide +kernel
theorem dX10_init_5 : decode cX10_init 5 = .ok (.ldc 7, 2) := by decide +kernel
theorem dX10_init_7 : decode cX10_init 7 = .ok (.newarray .int, 2) := by decide +kernel
theorem dX10_init_9 : decode cX10_init 9 = .ok (.putfield 8, 3) := by decide +kernel
theorem dX10_init_12 : decode cX10_init 12 = .ok (.aload_n 0, 1) := by decide +kernel
theorem dX10_init_13 : decode cX10_init 13 = .ok (.ldc 7, 2) := by decide +kernel
theorem dX10_init_15 : decode cX10_init 15 = .ok (.newarray .int, 2) := by decide +kernel
theorem dX10_init_17 : decode cX10_init 17 = .ok (.putfield 14, 3) := by decide +kernel
theorem dX10_init_20 : decode cX10_init 20 = .ok (.aload_n 0, 1) := by decide +kernel
theorem dX10_init_21 : decode cX10_init 21 = .ok (.ldc 7, 2) := by decide +kernel
theorem dX10_init_23 : decode cX10_init 23 = .ok (.newarray .int, 2) := by decide +kernel
theorem dX10_init_25 : decode cX10_init 25 = .ok (.putfield 17, 3) := by decide +kernel
theorem dX10_init_28 : decode cX10_init 28 = .ok (.aload_n 0, 1) := by decide +kernel
theorem dX10_init_29 : decode cX10_init 29 = .ok (.ldc 7, 2) := by decide +kernel
theorem dX10_init_31 : decode cX10_init 31 = .ok (.newarray .int, 2) := by decide +kernel
theorem dX10_init_33 : decode cX10_init 33 = .ok (.putfield 20, 3) := by decide +kernel
theorem dX10_init_36 : decode cX10_init 36 = .ok (.aload_n 0, 1) := by decide +kernel
theorem dX10_init_37 : decode cX10_init 37 = .ok (.ldc 7, 2) := by decide +kernel
theorem dX10_init_39 : decode cX10_init 39 = .ok (.newarray .int, 2) := by decide +kernel
theorem dX10_init_41 : decode cX10_init 41 = .ok (.putfield 23, 3) := by decide +kernel
theorem dX10_init_44 : decode cX10_init 44 = .ok (.aload_n 0, 1) := by decide +kernel
theorem dX10_init_45 : decode cX10_init 45 = .ok (.ldc 7, 2) := by decide +kernel
theorem dX10_init_47 : decode cX10_init 47 = .ok (.newarray .long, 2) := by decide +kernel
theorem dX10_init_49 : decode cX10_init 49 = .ok (.putfield 26, 3) := by decide +kernel
theorem dX10_init_52 : decode cX10_init 52 = .ok (.aload_n 0, 1) := by decide +kernel
theorem dX10_init_53 : decode cX10_init 53 = .ok (.sipush 8192, 3) := by decide +kernel
theorem dX10_init_56 : decode cX10_init 56 = .ok (.newarray .int, 2) := by decide +kernel
theorem dX10_init_58 : decode cX10_init 58 = .ok (.putfield 30, 3) := by decide +kernel
theorem dX10_init_61 : decode cX10_init 61 = .ok (.aload_n 0, 1) := by decide +kernel
theorem dX10_init_62 : decode cX10_init 62 = .ok (.ldc 33, 2) := by decide +kernel
theorem dX10_init_64 : decode cX10_init 64 = .ok (.newarray .int, 2) := by decide +kernel
theorem dX10_init_66 : decode cX10_init 66 = .ok (.putfield 34, 3) := by decide +kernel
theorem dX10_init_69 : decode cX10_init 69 = .ok (.aload_n 0, 1) := by decide +kernel
theorem dX10_init_70 : decode cX10_init 70 = .ok (.sipush 4000, 3) := by decide +kernel
theorem dX10_init_73 : decode cX10_init 73 = .ok (.newarray .int, 2) := by decide +kernel
theorem dX10_init_75 : decode cX10_init 75 = .ok (.putfield 37, 3) := by decide +kernel
theorem dX10_init_78 : decode cX10_init 78 = .ok (.aload_n 0, 1) := by decide +kernel
theorem dX10_init_79 : decode cX10_init 79 = .ok (.bipush 20, 2) := by decide +kernel
theorem dX10_init_81 : decode cX10_init 81 = .ok (.newarray .int, 2) := by decide +kernel
theorem dX10_init_83 : decode cX10_init 83 = .ok (.putfield 40, 3) := by decide +kernel
theorem dX10_init_86 : decode cX10_init 86 = .ok (.aload_n 0, 1) := by decide +kernel
theorem dX10_init_87 : decode cX10_init 87 = .ok (.sipush 3000, 3) := by decide +kernel
theorem dX10_init_90 : decode cX10_init 90 = .ok (.newarray .int, 2) := by decide +kernel
theorem dX10_init_92 : decode cX10_init 92 = .ok (.putfield 43, 3) := by decide +kernel
theorem dX10_init_95 : decode cX10_init 95 = .ok (.aload_n 0, 1) := by decide +kernel
theorem dX10_init_96 : decode cX10_init 96 = .ok (.sipush 2000, 3) := by decide +kernel
theorem dX10_init_99 : decode cX10_init 99 = .ok (.newarray .int, 2) := by decide +kernel
theorem dX10_init_101 : decode cX10_init 101 = .ok (.putfield 46, 3) := by decide +kernel
theorem dX10_init_104 : decode cX10_init 104 = .ok (.aload_n 0, 1) := by decide +kernel
theorem dX10_init_105 : decode cX10_init 105 = .ok (.bipush 12, 2) := by decide +kernel
theorem dX10_init_107 : decode cX10_init 107 = .ok (.newarray .int, 2) := by decide +kernel
theorem dX10_init_109 : decode cX10_init 109 = .ok (.putfield 49, 3) := by decide +kernel
theorem dX10_init_112 : decode cX10_init 112 = .ok (.aload_n 0, 1) := by decide +kernel
theorem dX10_init_113 : decode cX10_init 113 = .ok (.sipush 4000, 3) := by decide +kernel
theorem dX10_init_116 : decode cX10_init 116 = .ok (.newarray .int, 2) := by decide +kernel
theorem dX10_init_118 : decode cX10_init 118 = .ok (.putfield 52, 3) := by decide +kernel
theorem dX10_init_121 : decode cX10_init 121 = .ok (.aload_n 0, 1) := by decide +kernel
theorem dX10_init_122 : decode cX10_init 122 = .ok (.iconst (-1), 1) := by decide +kernel
theorem dX10_init_123 : decode cX10_init 123 = .ok (.putfield 55, 3) := by decide +kernel
theorem dX10_init_126 : decode cX10_init 126 = .ok (.aload_n 0, 1) := by decide +kernel
theorem dX10_init_127 : decode cX10_init 127 = .ok (.bipush 40, 2) := by decide +kernel
theorem dX10_init_129 : decode cX10_init 129 = .ok (.newarray .int, 2) := by decide +kernel
theorem dX10_init_131 : decode cX10_init 131 = .ok (.putfield 59, 3) := by decide +kernel
theorem dX10_init_134 : decode cX10_init 134 = .ok (.aload_n 0, 1) := by decide +kernel
theorem dX10_init_135 : decode cX10_init 135 = .ok (.bipush 40, 2) := by decide +kernel
theorem dX10_init_137 : decode cX10_init 137 = .ok (.newarray .int, 2) := by decide +kernel
theorem dX10_init_139 : decode cX10_init 139 = .ok (.putfield 62, 3) := by decide +kernel
theorem dX10_init_142 : decode cX10_init 142 = .ok (.aload_n 0, 1) := by decide +kernel
theorem dX10_init_143 : decode cX10_init 143 = .ok (.bipush 40, 2) := by decide +kernel
theorem dX10_init_145 : decode cX10_init 145 = .ok (.newarray .int, 2) := by decide +kernel
theorem dX10_init_147 : decode cX10_init 147 = .ok (.putfield 65, 3) := by decide +kernel
theorem dX10_init_150 : decode cX10_init 150 = .ok (.aload_n 0, 1) := by decide +kernel
theorem dX10_init_151 : decode cX10_init 151 = .ok (.bipush 40, 2) := by decide +kernel
theorem dX10_init_153 : decode cX10_init 153 = .ok (.newarray .int, 2) := by decide +kernel
theorem dX10_init_155 : decode cX10_init 155 = .ok (.putfield 68, 3) := by decide +kernel
theorem dX10_init_158 : decode cX10_init 158 = .ok (.aload_n 0, 1) := by decide +kernel
theorem dX10_init_159 : decode cX10_init 159 = .ok (.sipush 1100, 3) := by decide +kernel
theorem dX10_init_162 : decode cX10_init 162 = .ok (.newarray .int, 2) := by decide +kernel
theorem dX10_init_164 : decode cX10_init 164 = .ok (.putfield 71, 3) := by decide +kernel
theorem dX10_init_167 : decode cX10_init 167 = .ok (.aload_n 0, 1) := by decide +kernel
theorem dX10_init_168 : decode cX10_init 168 = .ok (.bipush 40, 2) := by decide +kernel
theorem dX10_init_170 : decode cX10_init 170 = .ok (.newarray .int, 2) := by decide +kernel
theorem dX10_init_172 : decode cX10_init 172 = .ok (.putfield 74, 3) := by decide +kernel
theorem dX10_init_175 : decode cX10_init 175 = .ok (.aload_n 0, 1) := by decide +kernel
theorem dX10_init_176 : decode cX10_init 176 = .ok (.bipush 40, 2) := by decide +kernel
theorem dX10_init_178 : decode cX10_init 178 = .ok (.newarray .int, 2) := by decide +kernel
theorem dX10_init_180 : decode cX10_init 180 = .ok (.putfield 77, 3) := by decide +kernel
theorem dX10_init_183 : decode cX10_init 183 = .ok (.aload_n 0, 1) := by decide +kernel
theorem dX10_init_184 : decode cX10_init 184 = .ok (.sipush 240, 3) := by decide +kernel
theorem dX10_init_187 : decode cX10_init 187 = .ok (.newarray .int, 2) := by decide +kernel
theorem dX10_init_189 : decode cX10_init 189 = .ok (.putfield 80, 3) := by decide +kernel
theorem dX10_init_192 : decode cX10_init 192 = .ok (.aload_n 0, 1) := by decide +kernel
theorem dX10_init_193 : decode cX10_init 193 = .ok (.bipush 40, 2) := by decide +kernel
theorem dX10_init_195 : decode cX10_init 195 = .ok (.newarray .int, 2) := by decide +kernel
theorem dX10_init_197 : decode cX10_init 197 = .ok (.putfield 83, 3) := by decide +kernel
theorem dX10_init_200 : decode cX10_init 200 = .ok (.aload_n 0, 1) := by decide +kernel
theorem dX10_init_201 : decode cX10_init 201 = .ok (.iconst (-1), 1) := by decide +kernel
theorem dX10_init_202 : decode cX10_init 202 = .ok (.putfield 86, 3) := by decide +kernel
theorem dX10_init_205 : decode cX10_init 205 = .ok (.aload_n 0, 1) := by decide +kernel
theorem dX10_init_206 : decode cX10_init 206 = .ok (.sipush 1000, 3) := by decide +kernel
theorem dX10_init_209 : decode cX10_init 209 = .ok (.putfield 89, 3) := by decide +kernel
theorem dX10_init_212 : decode cX10_init 212 = .ok (.aload_n 0, 1) := by decide +kernel
theorem dX10_init_213 : decode cX10_init 213 = .ok (.sipush 1200, 3) := by decide +kernel
theorem dX10_init_216 : decode cX10_init 216 = .ok (.newarray .int, 2) := by decide +kernel
theorem dX10_init_218 : decode cX10_init 218 = .ok (.putfield 92, 3) := by decide +kernel
theorem dX10_init_221 : decode cX10_init 221 = .ok (.aload_n 0, 1) := by decide +kernel
theorem dX10_init_222 : decode cX10_init 222 = .ok (.sipush 1200, 3) := by decide +kernel
theorem dX10_init_225 : decode cX10_init 225 = .ok (.newarray .int, 2) := by decide +kernel
theorem dX10_init_227 : decode cX10_init 227 = .ok (.putfield 95, 3) := by decide +kernel
theorem dX10_init_230 : decode cX10_init 230 = .ok (.aload_n 0, 1) := by decide +kernel
theorem dX10_init_231 : decode cX10_init 231 = .ok (.sipush 1200, 3) := by decide +kernel
theorem dX10_init_234 : decode cX10_init 234 = .ok (.newarray .int, 2) := by decide +kernel
theorem dX10_init_236 : decode cX10_init 236 = .ok (.putfield 98, 3) := by decide +kernel
theorem dX10_init_239 : decode cX10_init 239 = .ok (.aload_n 0, 1) := by decide +kernel
theorem dX10_init_240 : decode cX10_init 240 = .ok (.sipush 2400, 3) := by decide +kernel
theorem dX10_init_243 : decode cX10_init 243 = .ok (.newarray .int, 2) := by decide +kernel
theorem dX10_init_245 : decode cX10_init 245 = .ok (.putfield 101, 3) := by decide +kernel
theorem dX10_init_248 : decode cX10_init 248 = .ok (.aload_n 0, 1) := by decide +kernel
theorem dX10_init_249 : decode cX10_init 249 = .ok (.sipush 400, 3) := by decide +kernel
theorem dX10_init_252 : decode cX10_init 252 = .ok (.newarray .int, 2) := by decide +kernel
theorem dX10_init_254 : decode cX10_init 254 = .ok (.putfield 104, 3) := by decide +kernel
theorem dX10_init_257 : decode cX10_init 257 = .ok (.aload_n 0, 1) := by decide +kernel
theorem dX10_init_258 : decode cX10_init 258 = .ok (.sipush 130, 3) := by decide +kernel
theorem dX10_init_261 : decode cX10_init 261 = .ok (.newarray .int, 2) := by decide +kernel
theorem dX10_init_263 : decode cX10_init 263 = .ok (.putfield 107, 3) := by decide +kernel
theorem dX10_init_266 : decode cX10_init 266 = .ok (.aload_n 0, 1) := by decide +kernel
theorem dX10_init_267 : decode cX10_init 267 = .ok (.sipush 1000, 3) := by decide +kernel
theorem dX10_init_270 : decode cX10_init 270 = .ok (.newarray .int, 2) := by decide +kernel
theorem dX10_init_272 : decode cX10_init 272 = .ok (.putfield 110, 3) := by decide +kernel
theorem dX10_init_275 : decode cX10_init 275 = .ok (.aload_n 0, 1) := by decide +kernel
theorem dX10_init_276 : decode cX10_init 276 = .ok (.sipush 1000, 3) := by decide +kernel
theorem dX10_init_279 : decode cX10_init 279 = .ok (.newarray .int, 2) := by decide +kernel
theorem dX10_init_281 : decode cX10_init 281 = .ok (.putfield 113, 3) := by decide +kernel
theorem dX10_init_284 : decode cX10_init 284 = .ok (.aload_n 0, 1) := by decide +kernel
theorem dX10_init_285 : decode cX10_init 285 = .ok (.sipush 300, 3) := by decide +kernel
theorem dX10_init_288 : decode cX10_init 288 = .ok (.newarray .int, 2) := by decide +kernel
theorem dX10_init_290 : decode cX10_init 290 = .ok (.putfield 116, 3) := by decide +kernel
theorem dX10_init_293 : decode cX10_init 293 = .ok (.aload_n 0, 1) := by decide +kernel
theorem dX10_init_294 : decode cX10_init 294 = .ok (.sipush 300, 3) := by decide +kernel
theorem dX10_init_297 : decode cX10_init 297 = .ok (.newarray .int, 2) := by decide +kernel
theorem dX10_init_299 : decode cX10_init 299 = .ok (.putfield 119, 3) := by decide +kernel
theorem dX10_init_302 : decode cX10_init 302 = .ok (.aload_n 0, 1) := by decide +kernel
theorem dX10_init_303 : decode cX10_init 303 = .ok (.sipush 300, 3) := by decide +kernel
theorem dX10_init_306 : decode cX10_init 306 = .ok (.newarray .int, 2) := by decide +kernel
theorem dX10_init_308 : decode cX10_init 308 = .ok (.putfield 122, 3) := by decide +kernel
theorem dX10_init_311 : decode cX10_init 311 = .ok (.aload_n 0, 1) := by decide +kernel
theorem dX10_init_312 : decode cX10_init 312 = .ok (.sipush 300, 3) := by decide +kernel
theorem dX10_init_315 : decode cX10_init 315 = .ok (.newarray .int, 2) := by decide +kernel
theorem dX10_init_317 : decode cX10_init 317 = .ok (.putfield 125, 3) := by decide +kernel
theorem dX10_init_320 : decode cX10_init 320 = .ok (.aload_n 0, 1) := by decide +kernel
theorem dX10_init_321 : decode cX10_init 321 = .ok (.sipush 300, 3) := by decide +kernel
theorem dX10_init_324 : decode cX10_init 324 = .ok (.newarray .int, 2) := by decide +kernel
theorem dX10_init_326 : decode cX10_init 326 = .ok (.putfield 128, 3) := by decide +kernel
theorem dX10_init_329 : decode cX10_init 329 = .ok (.aload_n 0, 1) := by decide +kernel
theorem dX10_init_330 : decode cX10_init 330 = .ok (.sipush 300, 3) := by decide +kernel
theorem dX10_init_333 : decode cX10_init 333 = .ok (.newarray .boolean, 2) := by decide +kernel
theorem dX10_init_335 : decode cX10_init 335 = .ok (.putfield 131, 3) := by decide +kernel
theorem dX10_init_338 : decode cX10_init 338 = .ok (.aload_n 0, 1) := by decide +kernel
theorem dX10_init_339 : decode cX10_init 339 = .ok (.sipush 2400, 3) := by decide +kernel
theorem dX10_init_342 : decode cX10_init 342 = .ok (.newarray .int, 2) := by decide +kernel
theorem dX10_init_344 : decode cX10_init 344 = .ok (.putfield 135, 3) := by decide +kernel
theorem dX10_init_347 : decode cX10_init 347 = .ok (.aload_n 0, 1) := by decide +kernel
theorem dX10_init_348 : decode cX10_init 348 = .ok (.sipush 1000, 3) := by decide +kernel
theorem dX10_init_351 : decode cX10_init 351 = .ok (.newarray .int, 2) := by decide +kernel
theorem dX10_init_353 : decode cX10_init 353 = .ok (.putfield 138, 3) := by decide +kernel
theorem dX10_init_356 : decode cX10_init 356 = .ok (.iconst 0, 1) := by decide +kernel
theorem dX10_init_357 : decode cX10_init 357 = .ok (.istore_n 1, 1) := by decide +kernel
theorem dX10_init_358 : decode cX10_init 358 = .ok (.iload_n 1, 1) := by decide +kernel
theorem dX10_init_359 : decode cX10_init 359 = .ok (.sipush 8192, 3) := by decide +kernel
theorem dX10_init_362 : decode cX10_init 362 = .ok (.if_icmp .ge 16, 3) := by decide +kernel
theorem dX10_init_365 : decode cX10_init 365 = .ok (.aload_n 0, 1) := by decide +kernel
theorem dX10_init_366 : decode cX10_init 366 = .ok (.getfield 30, 3) := by decide +kernel
theorem dX10_init_369 : decode cX10_init 369 = .ok (.iload_n 1, 1) := by decide +kernel
theorem dX10_init_370 : decode cX10_init 370 = .ok (.iconst (-1), 1) := by decide +kernel
theorem dX10_init_371 : decode cX10_init 371 = .ok (.iastore, 1) := by decide +kernel
theorem dX10_init_372 : decode cX10_init 372 = .ok (.iinc 1 1, 3) := by decide +kernel
theorem dX10_init_375 : decode cX10_init 375 = .ok (.goto (-17), 3) := by decide +kernel
theorem dX10_init_378 : decode cX10_init 378 = .ok (.aload_n 0, 1) := by decide +kernel
theorem dX10_init_379 : decode cX10_init 379 = .ok (.bipush 110, 2) := by decide +kernel
theorem dX10_init_381 : decode cX10_init 381 = .ok (.bipush 105, 2) := by decide +kernel
theorem dX10_init_383 : decode cX10_init 383 = .ok (.bipush 108, 2) := by decide +kernel
theorem dX10_init_385 : decode cX10_init 385 = .ok (.iconst 0, 1) := by decide +kernel
theorem dX10_init_386 : decode cX10_init 386 = .ok (.iconst 0, 1) := by decide +kernel
theorem dX10_init_387 : decode cX10_init 387 = .ok (.iconst 0, 1) := by decide +kernel
theorem dX10_init_388 : decode cX10_init 388 = .ok (.iconst 0, 1) := by decide +kernel
theorem dX10_init_389 : decode cX10_init 389 = .ok (.iconst 0, 1) := by decide +kernel
theorem dX10_init_390 : decode cX10_init 390 = .ok (.invokevirtual 141, 3) := by decide +kernel
theorem dX10_init_393 : decode cX10_init 393 = .ok (.aload_n 0, 1) := by decide +kernel
theorem dX10_init_394 : decode cX10_init 394 = .ok (.bipush 116, 2) := by decide +kernel
theorem dX10_init_396 : decode cX10_init 396 = .ok (.iconst 0, 1) := by decide +kernel
theorem dX10_init_397 : decode cX10_init 397 = .ok (.iconst 0, 1) := by decide +kernel
theorem dX10_init_398 : decode cX10_init 398 = .ok (.iconst 0, 1) := by decide +kernel
theorem dX10_init_399 : decode cX10_init 399 = .ok (.iconst 0, 1) := by decide +kernel
theorem dX10_init_400 : decode cX10_init 400 = .ok (.iconst 0, 1) := by decide +kernel
theorem dX10_init_401 : decode cX10_init 401 = .ok (.iconst 0, 1) := by decide +kernel
theorem dX10_init_402 : decode cX10_init 402 = .ok (.iconst 0, 1) := by decide +kernel
theorem dX10_init_403 : decode cX10_init 403 = .ok (.invokevirtual 141, 3) := by decide +kernel
theorem dX10_init_406 : decode cX10_init 406 = .ok (.aload_n 0, 1) := by decide +kernel
theorem dX10_init_407 : decode cX10_init 407 = .ok (.bipush 113, 2) := by decide +kernel
theorem dX10_init_409 : decode cX10_init 409 = .ok (.bipush 117, 2) := by decide +kernel
theorem dX10_init_411 : decode cX10_init 411 = .ok (.bipush 111, 2) := by decide +kernel
theorem dX10_init_413 : decode cX10_init 413 = .ok (.bipush 116, 2) := by decide +kernel
theorem dX10_init_415 : decode cX10_init 415 = .ok (.bipush 101, 2) := by decide +kernel
theorem dX10_init_417 : decode cX10_init 417 = .ok (.iconst 0, 1) := by decide +kernel
theorem dX10_init_418 : decode cX10_init 418 = .ok (.iconst 0, 1) := by decide +kernel
theorem dX10_init_419 : decode cX10_init 419 = .ok (.iconst 0, 1) := by decide +kernel
theorem dX10_init_420 : decode cX10_init 420 = .ok (.invokevirtual 141, 3) := by decide +kernel
theorem dX10_init_423 : decode cX10_init 423 = .ok (.aload_n 0, 1) := by decide +kernel
theorem dX10_init_424 : decode cX10_init 424 = .ok (.bipush 105, 2) := by decide +kernel
theorem dX10_init_426 : decode cX10_init 426 = .ok (.bipush 102, 2) := by decide +kernel
theorem dX10_init_428 : decode cX10_init 428 = .ok (.iconst 0, 1) := by decide +kernel
theorem dX10_init_429 : decode cX10_init 429 = .ok (.iconst 0, 1) := by decide +kernel
theorem dX10_init_430 : decode cX10_init 430 = .ok (.iconst 0, 1) := by decide +kernel
theorem dX10_init_431 : decode cX10_init 431 = .ok (.iconst 0, 1) := by decide +kernel
theorem dX10_init_432 : decode cX10_init 432 = .ok (.iconst 0, 1) := by decide +kernel
theorem dX10_init_433 : decode cX10_init 433 = .ok (.iconst 0, 1) := by decide +kernel
theorem dX10_init_434 : decode cX10_init 434 = .ok (.invokevirtual 141, 3) := by decide +kernel
theorem dX10_init_437 : decode cX10_init 437 = .ok (.aload_n 0, 1) := by decide +kernel
theorem dX10_init_438 : decode cX10_init 438 = .ok (.bipush 101, 2) := by decide +kernel
theorem dX10_init_440 : decode cX10_init 440 = .ok (.bipush 113, 2) := by decide +kernel
theorem dX10_init_442 : decode cX10_init 442 = .ok (.bipush 117, 2) := by decide +kernel
theorem dX10_init_444 : decode cX10_init 444 = .ok (.bipush 97, 2) := by decide +kernel
theorem dX10_init_446 : decode cX10_init 446 = .ok (.bipush 108, 2) := by decide +kernel
theorem dX10_init_448 : decode cX10_init 448 = .ok (.iconst 0, 1) := by decide +kernel
theorem dX10_init_449 : decode cX10_init 449 = .ok (.iconst 0, 1) := by decide +kernel
theorem dX10_init_450 : decode cX10_init 450 = .ok (.iconst 0, 1) := by decide +kernel
theorem dX10_init_451 : decode cX10_init 451 = .ok (.invokevirtual 141, 3) := by decide +kernel
theorem dX10_init_454 : decode cX10_init 454 = .ok (.aload_n 0, 1) := by decide +kernel
theorem dX10_init_455 : decode cX10_init 455 = .ok (.bipush 99, 2) := by decide +kernel
theorem dX10_init_457 : decode cX10_init 457 = .ok (.bipush 111, 2) := by decide +kernel
theorem dX10_init_459 : decode cX10_init 459 = .ok (.bipush 110, 2) := by decide +kernel
theorem dX10_init_461 : decode cX10_init 461 = .ok (.bipush 115, 2) := by decide +kernel
theorem dX10_init_463 : decode cX10_init 463 = .ok (.iconst 0, 1) := by decide +kernel
theorem dX10_init_464 : decode cX10_init 464 = .ok (.iconst 0, 1) := by decide +kernel
theorem dX10_init_465 : decode cX10_init 465 = .ok (.iconst 0, 1) := by decide +kernel
theorem dX10_init_466 : decode cX10_init 466 = .ok (.iconst 0, 1) := by decide +kernel
theorem dX10_init_467 : decode cX10_init 467 = .ok (.invokevirtual 141, 3) := by decide +kernel
theorem dX10_init_470 : decode cX10_init 470 = .ok (.aload_n 0, 1) := by decide +kernel
theorem dX10_init_471 : decode cX10_init 471 = .ok (.bipush 105, 2) := by decide +kernel
theorem dX10_init_473 : decode cX10_init 473 = .ok (.bipush 109, 2) := by decide +kernel
theorem dX10_init_475 : decode cX10_init 475 = .ok (.bipush 112, 2) := by decide +kernel
theorem dX10_init_477 : decode cX10_init 477 = .ok (.bipush 108, 2) := by decide +kernel
theorem dX10_init_479 : decode cX10_init 479 = .ok (.bipush 105, 2) := by decide +kernel
theorem dX10_init_481 : decode cX10_init 481 = .ok (.bipush 101, 2) := by decide +kernel
theorem dX10_init_483 : decode cX10_init 483 = .ok (.bipush 115, 2) := by decide +kernel
theorem dX10_init_485 : decode cX10_init 485 = .ok (.iconst 0, 1) := by decide +kernel
theorem dX10_init_486 : decode cX10_init 486 = .ok (.invokevirtual 141, 3) := by decide +kernel
theorem dX10_init_489 : decode cX10_init 489 = .ok (.aload_n 0, 1) := by decide +kernel
theorem dX10_init_490 : decode cX10_init 490 = .ok (.bipush 43, 2) := by decide +kernel
theorem dX10_init_492 : decode cX10_init 492 = .ok (.iconst 0, 1) := by decide +kernel
theorem dX10_init_493 : decode cX10_init 493 = .ok (.iconst 0, 1) := by decide +kernel
theorem dX10_init_494 : decode cX10_init 494 = .ok (.iconst 0, 1) := by decide +kernel
theorem dX10_init_495 : decode cX10_init 495 = .ok (.iconst 0, 1) := by decide +kernel
theorem dX10_init_496 : decode cX10_init 496 = .ok (.iconst 0, 1) := by decide +kernel
theorem dX10_init_497 : decode cX10_init 497 = .ok (.iconst 0, 1) := by decide +kernel
theorem dX10_init_498 : decode cX10_init 498 = .ok (.iconst 0, 1) := by decide +kernel
theorem dX10_init_499 : decode cX10_init 499 = .ok (.invokevirtual 141, 3) := by decide +kernel
theorem dX10_init_502 : decode cX10_init 502 = .ok (.aload_n 0, 1) := by decide +kernel
theorem dX10_init_503 : decode cX10_init 503 = .ok (.bipush 45, 2) := by decide +kernel
theorem dX10_init_505 : decode cX10_init 505 = .ok (.iconst 0, 1) := by decide +kernel
theorem dX10_init_506 : decode cX10_init 506 = .ok (.iconst 0, 1) := by decide +kernel
theorem dX10_init_507 : decode cX10_init 507 = .ok (.iconst 0, 1) := by decide +kernel
theorem dX10_init_508 : decode cX10_init 508 = .ok (.iconst 0, 1) := by decide +kernel
theorem dX10_init_509 : decode cX10_init 509 = .ok (.iconst 0, 1) := by decide +kernel
theorem dX10_init_510 : decode cX10_init 510 = .ok (.iconst 0, 1) := by decide +kernel
theorem dX10_init_511 : decode cX10_init 511 = .ok (.iconst 0, 1) := by decide +kernel
theorem dX10_init_512 : decode cX10_init 512 = .ok (.invokevirtual 141, 3) := by decide +kernel
theorem dX10_init_515 : decode cX10_init 515 = .ok (.aload_n 0, 1) := by decide +kernel
theorem dX10_init_516 : decode cX10_init 516 = .ok (.bipush 60, 2) := by decide +kernel
theorem dX10_init_518 : decode cX10_init 518 = .ok (.iconst 0, 1) := by decide +kernel
theorem dX10_init_519 : decode cX10_init 519 = .ok (.iconst 0, 1) := by decide +kernel
theorem dX10_init_520 : decode cX10_init 520 = .ok (.iconst 0, 1) := by decide +kernel
theorem dX10_init_521 : decode cX10_init 521 = .ok (.iconst 0, 1) := by decide +kernel
theorem dX10_init_522 : decode cX10_init 522 = .ok (.iconst 0, 1) := by decide +kernel
theorem dX10_init_523 : decode cX10_init 523 = .ok (.iconst 0, 1) := by decide +kernel
theorem dX10_init_524 : decode cX10_init 524 = .ok (.iconst 0, 1) := by decide +kernel
theorem dX10_init_525 : decode cX10_init 525 = .ok (.invokevirtual 141, 3) := by decide +kernel
theorem dX10_init_528 : decode cX10_init 528 = .ok (.aload_n 0, 1) := by decide +kernel
theorem dX10_init_529 : decode cX10_init 529 = .ok (.bipush 99, 2) := by decide +kernel
theorem dX10_init_531 : decode cX10_init 531 = .ok (.bipush 111, 2) := by decide +kernel
theorem dX10_init_533 : decode cX10_init 533 = .ok (.bipush 110, 2) := by decide +kernel
theorem dX10_init_535 : decode cX10_init 535 = .ok (.bipush 115, 2) := by decide +kernel
theorem dX10_init_537 : decode cX10_init 537 = .ok (.bipush 112, 2) := by decide +kernel
theorem dX10_init_539 : decode cX10_init 539 = .ok (.iconst 0, 1) := by decide +kernel
theorem dX10_init_540 : decode cX10_init 540 = .ok (.iconst 0, 1) := by decide +kernel
theorem dX10_init_541 : decode cX10_init 541 = .ok (.iconst 0, 1) := by decide +kernel
theorem dX10_init_542 : decode cX10_init 542 = .ok (.invokevirtual 141, 3) := by decide +kernel
theorem dX10_init_545 : decode cX10_init 545 = .ok (.aload_n 0, 1) := by decide +kernel
theorem dX10_init_546 : decode cX10_init 546 = .ok (.bipush 99, 2) := by decide +kernel
theorem dX10_init_548 : decode cX10_init 548 = .ok (.bipush 97, 2) := by decide +kernel
theorem dX10_init_550 : decode cX10_init 550 = .ok (.bipush 114, 2) := by decide +kernel
theorem dX10_init_552 : decode cX10_init 552 = .ok (.iconst 0, 1) := by decide +kernel
theorem dX10_init_553 : decode cX10_init 553 = .ok (.iconst 0, 1) := by decide +kernel
theorem dX10_init_554 : decode cX10_init 554 = .ok (.iconst 0, 1) := by decide +kernel
theorem dX10_init_555 : decode cX10_init 555 = .ok (.iconst 0, 1) := by decide +kernel
theorem dX10_init_556 : decode cX10_init 556 = .ok (.iconst 0, 1) := by decide +kernel
theorem dX10_init_557 : decode cX10_init 557 = .ok (.invokevirtual 141, 3) := by decide +kernel
theorem dX10_init_560 : decode cX10_init 560 = .ok (.aload_n 0, 1) := by decide +kernel
theorem dX10_init_561 : decode cX10_init 561 = .ok (.bipush 99, 2) := by decide +kernel
theorem dX10_init_563 : decode cX10_init 563 = .ok (.bipush 100, 2) := by decide +kernel
theorem dX10_init_565 : decode cX10_init 565 = .ok (.bipush 114, 2) := by decide +kernel
theorem dX10_init_567 : decode cX10_init 567 = .ok (.iconst 0, 1) := by decide +kernel
theorem dX10_init_568 : decode cX10_init 568 = .ok (.iconst 0, 1) := by decide +kernel
theorem dX10_init_569 : decode cX10_init 569 = .ok (.iconst 0, 1) := by decide +kernel
theorem dX10_init_570 : decode cX10_init 570 = .ok (.iconst 0, 1) := by decide +kernel
theorem dX10_init_571 : decode cX10_init 571 = .ok (.iconst 0, 1) := by decide +kernel
theorem dX10_init_572 : decode cX10_init 572 = .ok (.invokevirtual 141, 3) := by decide +kernel
theorem dX10_init_575 : decode cX10_init 575 = .ok (.aload_n 0, 1) := by decide +kernel
theorem dX10_init_576 : decode cX10_init 576 = .ok (.bipush 110, 2) := by decide +kernel
theorem dX10_init_578 : decode cX10_init 578 = .ok (.bipush 97, 2) := by decide +kernel
theorem dX10_init_580 : decode cX10_init 580 = .ok (.bipush 116, 2) := by decide +kernel
theorem dX10_init_582 : decode cX10_init 582 = .ok (.bipush 112, 2) := by decide +kernel
theorem dX10_init_584 : decode cX10_init 584 = .ok (.iconst 0, 1) := by decide +kernel
theorem dX10_init_585 : decode cX10_init 585 = .ok (.iconst 0, 1) := by decide +kernel
theorem dX10_init_586 : decode cX10_init 586 = .ok (.iconst 0, 1) := by decide +kernel
theorem dX10_init_587 : decode cX10_init 587 = .ok (.iconst 0, 1) := by decide +kernel
theorem dX10_init_588 : decode cX10_init 588 = .ok (.invokevirtual 141, 3) := by decide +kernel
theorem dX10_init_591 : decode cX10_init 591 = .ok (.aload_n 0, 1) := by decide +kernel
theorem dX10_init_592 : decode cX10_init 592 = .ok (.bipush 115, 2) := by decide +kernel
theorem dX10_init_594 : decode cX10_init 594 = .ok (.bipush 121, 2) := by decide +kernel
theorem dX10_init_596 : decode cX10_init 596 = .ok (.bipush 109, 2) := by decide +kernel
theorem dX10_init_598 : decode cX10_init 598 = .ok (.bipush 98, 2) := by decide +kernel
theorem dX10_init_600 : decode cX10_init 600 = .ok (.bipush 111, 2) := by decide +kernel
theorem dX10_init_602 : decode cX10_init 602 = .ok (.bipush 108, 2) := by decide +kernel
theorem dX10_init_604 : decode cX10_init 604 = .ok (.bipush 112, 2) := by decide +kernel
theorem dX10_init_606 : decode cX10_init 606 = .ok (.iconst 0, 1) := by decide +kernel
theorem dX10_init_607 : decode cX10_init 607 = .ok (.invokevirtual 141, 3) := by decide +kernel
theorem dX10_init_610 : decode cX10_init 610 = .ok (.aload_n 0, 1) := by decide +kernel
theorem dX10_init_611 : decode cX10_init 611 = .ok (.bipush 110, 2) := by decide +kernel
theorem dX10_init_613 : decode cX10_init 613 = .ok (.bipush 111, 2) := by decide +kernel
theorem dX10_init_615 : decode cX10_init 615 = .ok (.bipush 116, 2) := by decide +kernel
theorem dX10_init_617 : decode cX10_init 617 = .ok (.iconst 0, 1) := by decide +kernel
theorem dX10_init_618 : decode cX10_init 618 = .ok (.iconst 0, 1) := by decide +kernel
theorem dX10_init_619 : decode cX10_init 619 = .ok (.iconst 0, 1) := by decide +kernel
theorem dX10_init_620 : decode cX10_init 620 = .ok (.iconst 0, 1) := by decide +kernel
theorem dX10_init_621 : decode cX10_init 621 = .ok (.iconst 0, 1) := by decide +kernel
theorem dX10_init_622 : decode cX10_init 622 = .ok (.invokevirtual 141, 3) := by decide +kernel
theorem dX10_init_625 : decode cX10_init 625 = .ok (.aload_n 0, 1) := by decide +kernel
theorem dX10_init_626 : decode cX10_init 626 = .ok (.bipush 104, 2) := by decide +kernel
theorem dX10_init_628 : decode cX10_init 628 = .ok (.bipush 101, 2) := by decide +kernel
theorem dX10_init_630 : decode cX10_init 630 = .ok (.bipush 105, 2) := by decide +kernel
theorem dX10_init_632 : decode cX10_init 632 = .ok (.bipush 103, 2) := by decide +kernel
theorem dX10_init_634 : decode cX10_init 634 = .ok (.bipush 104, 2) := by decide +kernel
theorem dX10_init_636 : decode cX10_init 636 = .ok (.bipush 116, 2) := by decide +kernel
theorem dX10_init_638 : decode cX10_init 638 = .ok (.iconst 0, 1) := by decide +kernel
theorem dX10_init_639 : decode cX10_init 639 = .ok (.iconst 0, 1) := by decide +kernel
theorem dX10_init_640 : decode cX10_init 640 = .ok (.invokevirtual 141, 3) := by decide +kernel
theorem dX10_init_643 : decode cX10_init 643 = .ok (.aload_n 0, 1) := by decide +kernel
theorem dX10_init_644 : decode cX10_init 644 = .ok (.bipush 100, 2) := by decide +kernel
theorem dX10_init_646 : decode cX10_init 646 = .ok (.bipush 101, 2) := by decide +kernel
theorem dX10_init_648 : decode cX10_init 648 = .ok (.bipush 102, 2) := by decide +kernel
theorem dX10_init_650 : decode cX10_init 650 = .ok (.bipush 117, 2) := by decide +kernel
theorem dX10_init_652 : decode cX10_init 652 = .ok (.bipush 110, 2) := by decide +kernel
theorem dX10_init_654 : decode cX10_init 654 = .ok (.iconst 0, 1) := by decide +kernel
theorem dX10_init_655 : decode cX10_init 655 = .ok (.iconst 0, 1) := by decide +kernel
theorem dX10_init_656 : decode cX10_init 656 = .ok (.iconst 0, 1) := by decide +kernel
theorem dX10_init_657 : decode cX10_init 657 = .ok (.invokevirtual 141, 3) := by decide +kernel
theorem dX10_init_660 : decode cX10_init 660 = .ok (.aload_n 0, 1) := by decide +kernel
theorem dX10_init_661 : decode cX10_init 661 = .ok (.bipush 101, 2) := by decide +kernel
theorem dX10_init_663 : decode cX10_init 663 = .ok (.bipush 118, 2) := by decide +kernel
theorem dX10_init_665 : decode cX10_init 665 = .ok (.bipush 97, 2) := by decide +kernel
theorem dX10_init_667 : decode cX10_init 667 = .ok (.bipush 108, 2) := by decide +kernel
theorem dX10_init_669 : decode cX10_init 669 = .ok (.iconst 0, 1) := by decide +kernel
theorem dX10_init_670 : decode cX10_init 670 = .ok (.iconst 0, 1) := by decide +kernel
theorem dX10_init_671 : decode cX10_init 671 = .ok (.iconst 0, 1) := by decide +kernel
theorem dX10_init_672 : decode cX10_init 672 = .ok (.iconst 0, 1) := by decide +kernel
theorem dX10_init_673 : decode cX10_init 673 = .ok (.invokevirtual 141, 3) := by decide +kernel
theorem dX10_init_676 : decode cX10_init 676 = .ok (.aload_n 0, 1) := by decide +kernel
theorem dX10_init_677 : decode cX10_init 677 = .ok (.bipush 119, 2) := by decide +kernel
theorem dX10_init_679 : decode cX10_init 679 = .ok (.bipush 105, 2) := by decide +kernel
theorem dX10_init_681 : decode cX10_init 681 = .ok (.bipush 116, 2) := by decide +kernel
theorem dX10_init_683 : decode cX10_init 683 = .ok (.bipush 104, 2) := by decide +kernel
theorem dX10_init_685 : decode cX10_init 685 = .ok (.iconst 0, 1) := by decide +kernel
theorem dX10_init_686 : decode cX10_init 686 = .ok (.iconst 0, 1) := by decide +kernel
theorem dX10_init_687 : decode cX10_init 687 = .ok (.iconst 0, 1) := by decide +kernel
theorem dX10_init_688 : decode cX10_init 688 = .ok (.iconst 0, 1) := by decide +kernel
theorem dX10_init_689 : decode cX10_init 689 = .ok (.invokevirtual 141, 3) := by decide +kernel
theorem dX10_init_692 : decode cX10_init 692 = .ok (.aload_n 0, 1) := by decide +kernel
theorem dX10_init_693 : decode cX10_init 693 = .ok (.bipush 109, 2) := by decide +kernel
theorem dX10_init_695 : decode cX10_init 695 = .ok (.bipush 97, 2) := by decide +kernel
theorem dX10_init_697 : decode cX10_init 697 = .ok (.bipush 112, 2) := by decide +kernel
theorem dX10_init_699 : decode cX10_init 699 = .ok (.iconst 0, 1) := by decide +kernel
theorem dX10_init_700 : decode cX10_init 700 = .ok (.iconst 0, 1) := by decide +kernel
theorem dX10_init_701 : decode cX10_init 701 = .ok (.iconst 0, 1) := by decide +kernel
theorem dX10_init_702 : decode cX10_init 702 = .ok (.iconst 0, 1) := by decide +kernel
theorem dX10_init_703 : decode cX10_init 703 = .ok (.iconst 0, 1) := by decide +kernel
theorem dX10_init_704 : decode cX10_init 704 = .ok (.invokevirtual 141, 3) := by decide +kernel
theorem dX10_init_707 : decode cX10_init 707 = .ok (.aload_n 0, 1) := by decide +kernel
theorem dX10_init_708 : decode cX10_init 708 = .ok (.bipush 114, 2) := by decide +kernel
theorem dX10_init_710 : decode cX10_init 710 = .ok (.bipush 101, 2) := by decide +kernel
theorem dX10_init_712 : decode cX10_init 712 = .ok (.bipush 100, 2) := by decide +kernel
theorem dX10_init_714 : decode cX10_init 714 = .ok (.bipush 111, 2) := by decide +kernel
theorem dX10_init_716 : decode cX10_init 716 = .ok (.iconst 0, 1) := by decide +kernel
theorem dX10_init_717 : decode cX10_init 717 = .ok (.iconst 0, 1) := by decide +kernel
theorem dX10_init_718 : decode cX10_init 718 = .ok (.iconst 0, 1) := by decide +kernel
theorem dX10_init_719 : decode cX10_init 719 = .ok (.iconst 0, 1) := by decide +kernel
theorem dX10_init_720 : decode cX10_init 720 = .ok (.invokevirtual 141, 3) := by decide +kernel
theorem dX10_init_723 : decode cX10_init 723 = .ok (.aload_n 0, 1) := by decide +kernel
theorem dX10_init_724 : decode cX10_init 724 = .ok (.bipush 117, 2) := by decide +kernel
theorem dX10_init_726 : decode cX10_init 726 = .ok (.bipush 110, 2) := by decide +kernel
theorem dX10_init_728 : decode cX10_init 728 = .ok (.bipush 100, 2) := by decide +kernel
theorem dX10_init_730 : decode cX10_init 730 = .ok (.bipush 111, 2) := by decide +kernel
theorem dX10_init_732 : decode cX10_init 732 = .ok (.iconst 0, 1) := by decide +kernel
theorem dX10_init_733 : decode cX10_init 733 = .ok (.iconst 0, 1) := by decide +kernel
theorem dX10_init_734 : decode cX10_init 734 = .ok (.iconst 0, 1) := by decide +kernel
theorem dX10_init_735 : decode cX10_init 735 = .ok (.iconst 0, 1) := by decide +kernel
theorem dX10_init_736 : decode cX10_init 736 = .ok (.invokevirtual 141, 3) := by decide +kernel
theorem dX10_init_739 : decode cX10_init 739 = .ok (.aload_n 0, 1) := by decide +kernel
theorem dX10_init_740 : decode cX10_init 740 = .ok (.bipush 115, 2) := by decide +kernel
theorem dX10_init_742 : decode cX10_init 742 = .ok (.bipush 104, 2) := by decide +kernel
theorem dX10_init_744 : decode cX10_init 744 = .ok (.bipush 111, 2) := by decide +kernel
theorem dX10_init_746 : decode cX10_init 746 = .ok (.bipush 119, 2) := by decide +kernel
theorem dX10_init_748 : decode cX10_init 748 = .ok (.iconst 0, 1) := by decide +kernel
theorem dX10_init_749 : decode cX10_init 749 = .ok (.iconst 0, 1) := by decide +kernel
theorem dX10_init_750 : decode cX10_init 750 = .ok (.iconst 0, 1) := by decide +kernel
theorem dX10_init_751 : decode cX10_init 751 = .ok (.iconst 0, 1) := by decide +kernel
theorem dX10_init_752 : decode cX10_init 752 = .ok (.invokevirtual 141, 3) := by decide +kernel
theorem dX10_init_755 : decode cX10_init 755 = .ok (.return_, 1) := by decide +kernel
theorem dX10_said_0 : decode cX10_said 0 = .ok (.aload_n 0, 1) := by decide +kernel
theorem dX10_said_1 : decode cX10_said 1 = .ok (.iconst 0, 1) := by decide +kernel
theorem dX10_said_2 : decode cX10_said 2 = .ok (.putfield 145, 3) := by decide +kernel
theorem dX10_said_5 : decode cX10_said 5 = .ok (.aload_n 0, 1) := by decide +kernel
theorem dX10_said_6 : decode cX10_said 6 = .ok (.iload_n 1, 1) := by decide +kernel
theorem dX10_said_7 : decode cX10_said 7 = .ok (.invokevirtual 148, 3) := by decide +kernel
theorem dX10_said_10 : decode cX10_said 10 = .ok (.aload_n 0, 1) := by decide +kernel
theorem dX10_said_11 : decode cX10_said 11 = .ok (.iload_n 2, 1) := by decide +kernel
theorem dX10_said_12 : decode cX10_said 12 = .ok (.invokevirtual 148, 3) := by decide +kernel
theorem dX10_said_15 : decode cX10_said 15 = .ok (.aload_n 0, 1) := by decide +kernel
theorem dX10_said_16 : decode cX10_said 16 = .ok (.iload_n 3, 1) := by decide +kernel
theorem dX10_said_17 : decode cX10_said 17 = .ok (.invokevirtual 148, 3) := by decide +kernel
theorem dX10_said_20 : decode cX10_said 20 = .ok (.aload_n 0, 1) := by decide +kernel
theorem dX10_said_21 : decode cX10_said 21 = .ok (.iload 4, 2) := by decide +kernel
theorem dX10_said_23 : decode cX10_said 23 = .ok (.invokevirtual 148, 3) := by decide +kernel
theorem dX10_said_26 : decode cX10_said 26 = .ok (.aload_n 0, 1) := by decide +kernel
theorem dX10_said_27 : decode cX10_said 27 = .ok (.iload 5, 2) := by decide +kernel
theorem dX10_said_29 : decode cX10_said 29 = .ok (.invokevirtual 148, 3) := by decide +kernel
theorem dX10_said_32 : decode cX10_said 32 = .ok (.aload_n 0, 1) := by decide +kernel
theorem dX10_said_33 : decode cX10_said 33 = .ok (.iload 6, 2) := by decide +kernel
theorem dX10_said_35 : decode cX10_said 35 = .ok (.invokevirtual 148, 3) := by decide +kernel
theorem dX10_said_38 : decode cX10_said 38 = .ok (.aload_n 0, 1) := by decide +kernel
theorem dX10_said_39 : decode cX10_said 39 = .ok (.iload 7, 2) := by decide +kernel
theorem dX10_said_41 : decode cX10_said 41 = .ok (.invokevirtual 148, 3) := by decide +kernel
theorem dX10_said_44 : decode cX10_said 44 = .ok (.aload_n 0, 1) := by decide +kernel
theorem dX10_said_45 : decode cX10_said 45 = .ok (.iload 8, 2) := by decide +kernel
theorem dX10_said_47 : decode cX10_said 47 = .ok (.invokevirtual 148, 3) := by decide +kernel
theorem dX10_said_50 : decode cX10_said 50 = .ok (.aload_n 0, 1) := by decide +kernel
theorem dX10_said_51 : decode cX10_said 51 = .ok (.invokevirtual 152, 3) := by decide +kernel
theorem dX10_said_54 : decode cX10_said 54 = .ok (.istore 9, 2) := by decide +kernel
theorem dX10_said_56 : decode cX10_said 56 = .ok (.return_, 1) := by decide +kernel
theorem dX10_spell_0 : decode cX10_spell 0 = .ok (.iload_n 1, 1) := by decide +kernel
theorem dX10_spell_1 : decode cX10_spell 1 = .ok (.ifCond .ne 4, 3) := by decide +kernel
theorem dX10_spell_4 : decode cX10_spell 4 = .ok (.return_, 1) := by decide +kernel
theorem dX10_spell_5 : decode cX10_spell 5 = .ok (.aload_n 0, 1) := by decide +kernel
theorem dX10_spell_6 : decode cX10_spell 6 = .ok (.getfield 49, 3) := by decide +kernel
theorem dX10_spell_9 : decode cX10_spell 9 = .ok (.aload_n 0, 1) := by decide +kernel
theorem dX10_spell_10 : decode cX10_spell 10 = .ok (.getfield 145, 3) := by decide +kernel
theorem dX10_spell_13 : decode cX10_spell 13 = .ok (.iload_n 1, 1) := by decide +kernel
theorem dX10_spell_14 : decode cX10_spell 14 = .ok (.iastore, 1) := by decide +kernel
theorem dX10_spell_15 : decode cX10_spell 15 = .ok (.aload_n 0, 1) := by decide +kernel
theorem dX10_spell_16 : decode cX10_spell 16 = .ok (.dup, 1) := by decide +kernel
theorem dX10_spell_17 : decode cX10_spell 17 = .ok (.getfield 145, 3) := by decide +kernel
theorem dX10_spell_20 : decode cX10_spell 20 = .ok (.iconst 1, 1) := by decide +kernel
theorem dX10_spell_21 : decode cX10_spell 21 = .ok (.iadd, 1) := by decide +kernel
theorem dX10_spell_22 : decode cX10_spell 22 = .ok (.putfield 145, 3) := by decide +kernel
theorem dX10_spell_25 : decode cX10_spell 25 = .ok (.return_, 1) := by decide +kernel
theorem dX10_slot_0 : decode cX10_slot 0 = .ok (.iload_n 0, 1) := by decide +kernel
theorem dX10_slot_1 : decode cX10_slot 1 = .ok (.ldc 156, 2) := by decide +kernel
theorem dX10_slot_3 : decode cX10_slot 3 = .ok (.imul, 1) := by decide +kernel
theorem dX10_slot_4 : decode cX10_slot 4 = .ok (.iload_n 1, 1) := by decide +kernel
theorem dX10_slot_5 : decode cX10_slot 5 = .ok (.sipush 30011, 3) := by decide +kernel
theorem dX10_slot_8 : decode cX10_slot 8 = .ok (.imul, 1) := by decide +kernel
theorem dX10_slot_9 : decode cX10_slot 9 = .ok (.iadd, 1) := by decide +kernel
theorem dX10_slot_10 : decode cX10_slot 10 = .ok (.bipush 7, 2) := by decide +kernel
theorem dX10_slot_12 : decode cX10_slot 12 = .ok (.iadd, 1) := by decide +kernel
theorem dX10_slot_13 : decode cX10_slot 13 = .ok (.iconst 2, 1) := by decide +kernel
theorem dX10_slot_14 : decode cX10_slot 14 = .ok (.iushr, 1) := by decide +kernel
theorem dX10_slot_15 : decode cX10_slot 15 = .ok (.sipush 8191, 3) := by decide +kernel
theorem dX10_slot_18 : decode cX10_slot 18 = .ok (.iand, 1) := by decide +kernel
theorem dX10_slot_19 : decode cX10_slot 19 = .ok (.ireturn, 1) := by decide +kernel
theorem dX10_slotOf_0 : decode cX10_slotOf 0 = .ok (.aload_n 0, 1) := by decide +kernel
theorem dX10_slotOf_1 : decode cX10_slotOf 1 = .ok (.getfield 8, 3) := by decide +kernel
theorem dX10_slotOf_4 : decode cX10_slotOf 4 = .ok (.iload_n 1, 1) := by decide +kernel
theorem dX10_slotOf_5 : decode cX10_slotOf 5 = .ok (.iaload, 1) := by decide +kernel
theorem dX10_slotOf_6 : decode cX10_slotOf 6 = .ok (.iconst (-1), 1) := by decide +kernel
theorem dX10_slotOf_7 : decode cX10_slotOf 7 = .ok (.if_icmp .ne 24, 3) := by decide +kernel
theorem dX10_slotOf_10 : decode cX10_slotOf 10 = .ok (.aload_n 0, 1) := by decide +kernel
theorem dX10_slotOf_11 : decode cX10_slotOf 11 = .ok (.getfield 26, 3) := by decide +kernel
theorem dX10_slotOf_14 : decode cX10_slotOf 14 = .ok (.iload_n 1, 1) := by decide +kernel
theorem dX10_slotOf_15 : decode cX10_slotOf 15 = .ok (.laload, 1) := by decide +kernel
theorem dX10_slotOf_16 : decode cX10_slotOf 16 = .ok (.l2i, 1) := by decide +kernel
theorem dX10_slotOf_17 : decode cX10_slotOf 17 = .ok (.aload_n 0, 1) := by decide +kernel
theorem dX10_slotOf_18 : decode cX10_slotOf 18 = .ok (.getfield 26, 3) := by decide +kernel
theorem dX10_slotOf_21 : decode cX10_slotOf 21 = .ok (.iload_n 1, 1) := by decide +kernel
theorem dX10_slotOf_22 : decode cX10_slotOf 22 = .ok (.laload, 1) := by decide +kernel
theorem dX10_slotOf_23 : decode cX10_slotOf 23 = .ok (.bipush 32, 2) := by decide +kernel
theorem dX10_slotOf_25 : decode cX10_slotOf 25 = .ok (.lshr, 1) := by decide +kernel
theorem dX10_slotOf_26 : decode cX10_slotOf 26 = .ok (.l2i, 1) := by decide +kernel
theorem dX10_slotOf_27 : decode cX10_slotOf 27 = .ok (.invokestatic 157, 3) := by decide +kernel
theorem dX10_slotOf_30 : decode cX10_slotOf 30 = .ok (.ireturn, 1) := by decide +kernel
theorem dX10_slotOf_31 : decode cX10_slotOf 31 = .ok (.aload_n 0, 1) := by decide +kernel
theorem dX10_slotOf_32 : decode cX10_slotOf 32 = .ok (.getfield 8, 3) := by decide +kernel
theorem dX10_slotOf_35 : decode cX10_slotOf 35 = .ok (.iload_n 1, 1) := by decide +kernel
theorem dX10_slotOf_36 : decode cX10_slotOf 36 = .ok (.iaload, 1) := by decide +kernel
theorem dX10_slotOf_37 : decode cX10_slotOf 37 = .ok (.bipush (-2), 2) := by decide +kernel
theorem dX10_slotOf_39 : decode cX10_slotOf 39 = .ok (.if_icmp .ne 31, 3) := by decide +kernel
theorem dX10_slotOf_42 : decode cX10_slotOf 42 = .ok (.aload_n 0, 1) := by decide +kernel
theorem dX10_slotOf_43 : decode cX10_slotOf 43 = .ok (.bipush 12, 2) := by decide +kernel
theorem dX10_slotOf_45 : decode cX10_slotOf 45 = .ok (.aload_n 0, 1) := by decide +kernel
theorem dX10_slotOf_46 : decode cX10_slotOf 46 = .ok (.getfield 14, 3) := by decide +kernel
theorem dX10_slotOf_49 : decode cX10_slotOf 49 = .ok (.iload_n 1, 1) := by decide +kernel
theorem dX10_slotOf_50 : decode cX10_slotOf 50 = .ok (.iaload, 1) := by decide +kernel
theorem dX10_slotOf_51 : decode cX10_slotOf 51 = .ok (.imul, 1) := by decide +kernel
theorem dX10_slotOf_52 : decode cX10_slotOf 52 = .ok (.aload_n 0, 1) := by decide +kernel
theorem dX10_slotOf_53 : decode cX10_slotOf 53 = .ok (.getfield 37, 3) := by decide +kernel
theorem dX10_slotOf_56 : decode cX10_slotOf 56 = .ok (.aload_n 0, 1) := by decide +kernel
theorem dX10_slotOf_57 : decode cX10_slotOf 57 = .ok (.getfield 14, 3) := by decide +kernel
theorem dX10_slotOf_60 : decode cX10_slotOf 60 = .ok (.iload_n 1, 1) := by decide +kernel
theorem dX10_slotOf_61 : decode cX10_slotOf 61 = .ok (.iaload, 1) := by decide +kernel
theorem dX10_slotOf_62 : decode cX10_slotOf 62 = .ok (.iaload, 1) := by decide +kernel
theorem dX10_slotOf_63 : decode cX10_slotOf 63 = .ok (.iconst 0, 1) := by decide +kernel
theorem dX10_slotOf_64 : decode cX10_slotOf 64 = .ok (.invokevirtual 161, 3) := by decide +kernel
theorem dX10_slotOf_67 : decode cX10_slotOf 67 = .ok (.goto 18, 3) := by decide +kernel
theorem dX10_slotOf_70 : decode cX10_slotOf 70 = .ok (.aload_n 0, 1) := by decide +kernel
theorem dX10_slotOf_71 : decode cX10_slotOf 71 = .ok (.getfield 8, 3) := by decide +kernel
theorem dX10_slotOf_74 : decode cX10_slotOf 74 = .ok (.iload_n 1, 1) := by decide +kernel
theorem dX10_slotOf_75 : decode cX10_slotOf 75 = .ok (.iaload, 1) := by decide +kernel
theorem dX10_slotOf_76 : decode cX10_slotOf 76 = .ok (.aload_n 0, 1) := by decide +kernel
theorem dX10_slotOf_77 : decode cX10_slotOf 77 = .ok (.getfield 14, 3) := by decide +kernel
theorem dX10_slotOf_80 : decode cX10_slotOf 80 = .ok (.iload_n 1, 1) := by decide +kernel
theorem dX10_slotOf_81 : decode cX10_slotOf 81 = .ok (.iaload, 1) := by decide +kernel
theorem dX10_slotOf_82 : decode cX10_slotOf 82 = .ok (.invokestatic 157, 3) := by decide +kernel
theorem dX10_slotOf_85 : decode cX10_slotOf 85 = .ok (.ireturn, 1) := by decide +kernel
theorem dX10_spelled_0 : decode cX10_spelled 0 = .ok (.iconst 5, 1) := by decide +kernel
theorem dX10_spelled_1 : decode cX10_spelled 1 = .ok (.istore 4, 2) := by decide +kernel
theorem dX10_spelled_3 : decode cX10_spelled 3 = .ok (.iconst 0, 1) := by decide +kernel
theorem dX10_spelled_4 : decode cX10_spelled 4 = .ok (.istore 5, 2) := by decide +kernel
theorem dX10_spelled_6 : decode cX10_spelled 6 = .ok (.iload 5, 2) := by decide +kernel
theorem dX10_spelled_8 : decode cX10_spelled 8 = .ok (.iload_n 2, 1) := by decide +kernel
theorem dX10_spelled_9 : decode cX10_spelled 9 = .ok (.if_icmp .ge 41, 3) := by decide +kernel
theorem dX10_spelled_12 : decode cX10_spelled 12 = .ok (.sipush 131, 3) := by decide +kernel
theorem dX10_spelled_15 : decode cX10_spelled 15 = .ok (.iload 4, 2) := by decide +kernel
theorem dX10_spelled_17 : decode cX10_spelled 17 = .ok (.imul, 1) := by decide +kernel
theorem dX10_spelled_18 : decode cX10_spelled 18 = .ok (.iload_n 3, 1) := by decide +kernel
theorem dX10_spelled_19 : decode cX10_spelled 19 = .ok (.ifCond .eq 13, 3) := by decide +kernel
theorem dX10_spelled_22 : decode cX10_spelled 22 = .ok (.aload_n 0, 1) := by decide +kernel
theorem dX10_spelled_23 : decode cX10_spelled 23 = .ok (.getfield 49, 3) := by decide +kernel
theorem dX10_spelled_26 : decode cX10_spelled 26 = .ok (.iload 5, 2) := by decide +kernel
theorem dX10_spelled_28 : decode cX10_spelled 28 = .ok (.iaload, 1) := by decide +kernel
theorem dX10_spelled_29 : decode cX10_spelled 29 = .ok (.goto 12, 3) := by decide +kernel
theorem dX10_spelled_32 : decode cX10_spelled 32 = .ok (.aload_n 0, 1) := by decide +kernel
theorem dX10_spelled_33 : decode cX10_spelled 33 = .ok (.getfield 34, 3) := by decide +kernel
theorem dX10_spelled_36 : decode cX10_spelled 36 = .ok (.iload_n 1, 1) := by decide +kernel
theorem dX10_spelled_37 : decode cX10_spelled 37 = .ok (.iload 5, 2) := by decide +kernel
theorem dX10_spelled_39 : decode cX10_spelled 39 = .ok (.iadd, 1) := by decide +kernel
theorem dX10_spelled_40 : decode cX10_spelled 40 = .ok (.iaload, 1) := by decide +kernel
theorem dX10_spelled_41 : decode cX10_spelled 41 = .ok (.iadd, 1) := by decide +kernel
theorem dX10_spelled_42 : decode cX10_spelled 42 = .ok (.istore 4, 2) := by decide +kernel
theorem dX10_spelled_44 : decode cX10_spelled 44 = .ok (.iinc 5 1, 3) := by decide +kernel
theorem dX10_spelled_47 : decode cX10_spelled 47 = .ok (.goto (-41), 3) := by decide +kernel
theorem dX10_spelled_50 : decode cX10_spelled 50 = .ok (.iload 4, 2) := by decide +kernel
theorem dX10_spelled_52 : decode cX10_spelled 52 = .ok (.sipush 8191, 3) := by decide +kernel
theorem dX10_spelled_55 : decode cX10_spelled 55 = .ok (.iand, 1) := by decide +kernel
theorem dX10_spelled_56 : decode cX10_spelled 56 = .ok (.ireturn, 1) := by decide +kernel
theorem dX10_added_0 : decode cX10_added 0 = .ok (.aload_n 0, 1) := by decide +kernel
theorem dX10_added_1 : decode cX10_added 1 = .ok (.getfield 8, 3) := by decide +kernel
theorem dX10_added_4 : decode cX10_added 4 = .ok (.aload_n 0, 1) := by decide +kernel
theorem dX10_added_5 : decode cX10_added 5 = .ok (.getfield 165, 3) := by decide +kernel
theorem dX10_added_8 : decode cX10_added 8 = .ok (.iload_n 1, 1) := by decide +kernel
theorem dX10_added_9 : decode cX10_added 9 = .ok (.iastore, 1) := by decide +kernel
theorem dX10_added_10 : decode cX10_added 10 = .ok (.aload_n 0, 1) := by decide +kernel
theorem dX10_added_11 : decode cX10_added 11 = .ok (.getfield 14, 3) := by decide +kernel
theorem dX10_added_14 : decode cX10_added 14 = .ok (.aload_n 0, 1) := by decide +kernel
theorem dX10_added_15 : decode cX10_added 15 = .ok (.getfield 165, 3) := by decide +kernel
theorem dX10_added_18 : decode cX10_added 18 = .ok (.iload_n 2, 1) := by decide +kernel
theorem dX10_added_19 : decode cX10_added 19 = .ok (.iastore, 1) := by decide +kernel
theorem dX10_added_20 : decode cX10_added 20 = .ok (.aload_n 0, 1) := by decide +kernel
theorem dX10_added_21 : decode cX10_added 21 = .ok (.getfield 17, 3) := by decide +kernel
theorem dX10_added_24 : decode cX10_added 24 = .ok (.aload_n 0, 1) := by decide +kernel
theorem dX10_added_25 : decode cX10_added 25 = .ok (.getfield 165, 3) := by decide +kernel
theorem dX10_added_28 : decode cX10_added 28 = .ok (.aload_n 0, 1) := by decide +kernel
theorem dX10_added_29 : decode cX10_added 29 = .ok (.getfield 30, 3) := by decide +kernel
theorem dX10_added_32 : decode cX10_added 32 = .ok (.iload_n 3, 1) := by decide +kernel
theorem dX10_added_33 : decode cX10_added 33 = .ok (.iaload, 1) := by decide +kernel
theorem dX10_added_34 : decode cX10_added 34 = .ok (.iastore, 1) := by decide +kernel
theorem dX10_added_35 : decode cX10_added 35 = .ok (.aload_n 0, 1) := by decide +kernel
theorem dX10_added_36 : decode cX10_added 36 = .ok (.getfield 20, 3) := by decide +kernel
theorem dX10_added_39 : decode cX10_added 39 = .ok (.aload_n 0, 1) := by decide +kernel
theorem dX10_added_40 : decode cX10_added 40 = .ok (.getfield 165, 3) := by decide +kernel
theorem dX10_added_43 : decode cX10_added 43 = .ok (.iconst 0, 1) := by decide +kernel
theorem dX10_added_44 : decode cX10_added 44 = .ok (.iastore, 1) := by decide +kernel
theorem dX10_added_45 : decode cX10_added 45 = .ok (.aload_n 0, 1) := by decide +kernel
theorem dX10_added_46 : decode cX10_added 46 = .ok (.getfield 23, 3) := by decide +kernel
theorem dX10_added_49 : decode cX10_added 49 = .ok (.aload_n 0, 1) := by decide +kernel
theorem dX10_added_50 : decode cX10_added 50 = .ok (.getfield 165, 3) := by decide +kernel
theorem dX10_added_53 : decode cX10_added 53 = .ok (.iload_n 1, 1) := by decide +kernel
theorem dX10_added_54 : decode cX10_added 54 = .ok (.ifCond .ge 7, 3) := by decide +kernel
theorem dX10_added_57 : decode cX10_added 57 = .ok (.iconst 0, 1) := by decide +kernel
theorem dX10_added_58 : decode cX10_added 58 = .ok (.goto 35, 3) := by decide +kernel
theorem dX10_added_61 : decode cX10_added 61 = .ok (.iconst 1, 1) := by decide +kernel
theorem dX10_added_62 : decode cX10_added 62 = .ok (.aload_n 0, 1) := by decide +kernel
theorem dX10_added_63 : decode cX10_added 63 = .ok (.getfield 23, 3) := by decide +kernel
theorem dX10_added_66 : decode cX10_added 66 = .ok (.iload_n 1, 1) := by decide +kernel
theorem dX10_added_67 : decode cX10_added 67 = .ok (.iaload, 1) := by decide +kernel
theorem dX10_added_68 : decode cX10_added 68 = .ok (.aload_n 0, 1) := by decide +kernel
theorem dX10_added_69 : decode cX10_added 69 = .ok (.getfield 23, 3) := by decide +kernel
theorem dX10_added_72 : decode cX10_added 72 = .ok (.iload_n 2, 1) := by decide +kernel
theorem dX10_added_73 : decode cX10_added 73 = .ok (.iaload, 1) := by decide +kernel
theorem dX10_added_74 : decode cX10_added 74 = .ok (.if_icmp .le 12, 3) := by decide +kernel
theorem dX10_added_77 : decode cX10_added 77 = .ok (.aload_n 0, 1) := by decide +kernel
theorem dX10_added_78 : decode cX10_added 78 = .ok (.getfield 23, 3) := by decide +kernel
theorem dX10_added_81 : decode cX10_added 81 = .ok (.iload_n 1, 1) := by decide +kernel
theorem dX10_added_82 : decode cX10_added 82 = .ok (.iaload, 1) := by decide +kernel
theorem dX10_added_83 : decode cX10_added 83 = .ok (.goto 9, 3) := by decide +kernel
theorem dX10_added_86 : decode cX10_added 86 = .ok (.aload_n 0, 1) := by decide +kernel
theorem dX10_added_87 : decode cX10_added 87 = .ok (.getfield 23, 3) := by decide +kernel
theorem dX10_added_90 : decode cX10_added 90 = .ok (.iload_n 2, 1) := by decide +kernel
theorem dX10_added_91 : decode cX10_added 91 = .ok (.iaload, 1) := by decide +kernel
theorem dX10_added_92 : decode cX10_added 92 = .ok (.iadd, 1) := by decide +kernel
theorem dX10_added_93 : decode cX10_added 93 = .ok (.iastore, 1) := by decide +kernel
theorem dX10_added_94 : decode cX10_added 94 = .ok (.aload_n 0, 1) := by decide +kernel
theorem dX10_added_95 : decode cX10_added 95 = .ok (.getfield 30, 3) := by decide +kernel
theorem dX10_added_98 : decode cX10_added 98 = .ok (.iload_n 3, 1) := by decide +kernel
theorem dX10_added_99 : decode cX10_added 99 = .ok (.aload_n 0, 1) := by decide +kernel
theorem dX10_added_100 : decode cX10_added 100 = .ok (.getfield 165, 3) := by decide +kernel
theorem dX10_added_103 : decode cX10_added 103 = .ok (.iastore, 1) := by decide +kernel
theorem dX10_added_104 : decode cX10_added 104 = .ok (.aload_n 0, 1) := by decide +kernel
theorem dX10_added_105 : decode cX10_added 105 = .ok (.dup, 1) := by decide +kernel
theorem dX10_added_106 : decode cX10_added 106 = .ok (.getfield 165, 3) := by decide +kernel
theorem dX10_added_109 : decode cX10_added 109 = .ok (.iconst 1, 1) := by decide +kernel
theorem dX10_added_110 : decode cX10_added 110 = .ok (.iadd, 1) := by decide +kernel
theorem dX10_added_111 : decode cX10_added 111 = .ok (.putfield 165, 3) := by decide +kernel
theorem dX10_added_114 : decode cX10_added 114 = .ok (.aload_n 0, 1) := by decide +kernel
theorem dX10_added_115 : decode cX10_added 115 = .ok (.getfield 165, 3) := by decide +kernel
theorem dX10_added_118 : decode cX10_added 118 = .ok (.iconst 1, 1) := by decide +kernel
theorem dX10_added_119 : decode cX10_added 119 = .ok (.isub, 1) := by decide +kernel
theorem dX10_added_120 : decode cX10_added 120 = .ok (.ireturn, 1) := by decide +kernel
theorem dX10_pair_0 : decode cX10_pair 0 = .ok (.iload_n 1, 1) := by decide +kernel
theorem dX10_pair_1 : decode cX10_pair 1 = .ok (.iload_n 2, 1) := by decide +kernel
theorem dX10_pair_2 : decode cX10_pair 2 = .ok (.invokestatic 157, 3) := by decide +kernel
theorem dX10_pair_5 : decode cX10_pair 5 = .ok (.istore_n 3, 1) := by decide +kernel
theorem dX10_pair_6 : decode cX10_pair 6 = .ok (.aload_n 0, 1) := by decide +kernel
theorem dX10_pair_7 : decode cX10_pair 7 = .ok (.getfield 30, 3) := by decide +kernel
theorem dX10_pair_10 : decode cX10_pair 10 = .ok (.iload_n 3, 1) := by decide +kernel
theorem dX10_pair_11 : decode cX10_pair 11 = .ok (.iaload, 1) := by decide +kernel
theorem dX10_pair_12 : decode cX10_pair 12 = .ok (.istore 4, 2) := by decide +kernel
theorem dX10_pair_14 : decode cX10_pair 14 = .ok (.iload 4, 2) := by decide +kernel
theorem dX10_pair_16 : decode cX10_pair 16 = .ok (.iconst (-1), 1) := by decide +kernel
theorem dX10_pair_17 : decode cX10_pair 17 = .ok (.if_icmp .eq 40, 3) := by decide +kernel
theorem dX10_pair_20 : decode cX10_pair 20 = .ok (.aload_n 0, 1) := by decide +kernel
theorem dX10_pair_21 : decode cX10_pair 21 = .ok (.getfield 8, 3) := by decide +kernel
theorem dX10_pair_24 : decode cX10_pair 24 = .ok (.iload 4, 2) := by decide +kernel
theorem dX10_pair_26 : decode cX10_pair 26 = .ok (.iaload, 1) := by decide +kernel
theorem dX10_pair_27 : decode cX10_pair 27 = .ok (.iload_n 1, 1) := by decide +kernel
theorem dX10_pair_28 : decode cX10_pair 28 = .ok (.if_icmp .ne 17, 3) := by decide +kernel
theorem dX10_pair_31 : decode cX10_pair 31 = .ok (.aload_n 0, 1) := by decide +kernel
theorem dX10_pair_32 : decode cX10_pair 32 = .ok (.getfield 14, 3) := by decide +kernel
theorem dX10_pair_35 : decode cX10_pair 35 = .ok (.iload 4, 2) := by decide +kernel
theorem dX10_pair_37 : decode cX10_pair 37 = .ok (.iaload, 1) := by decide +kernel
theorem dX10_pair_38 : decode cX10_pair 38 = .ok (.iload_n 2, 1) := by decide +kernel
theorem dX10_pair_39 : decode cX10_pair 39 = .ok (.if_icmp .ne 6, 3) := by decide +kernel
theorem dX10_pair_42 : decode cX10_pair 42 = .ok (.iload 4, 2) := by decide +kernel
theorem dX10_pair_44 : decode cX10_pair 44 = .ok (.ireturn, 1) := by decide +kernel
theorem dX10_pair_45 : decode cX10_pair 45 = .ok (.aload_n 0, 1) := by decide +kernel
theorem dX10_pair_46 : decode cX10_pair 46 = .ok (.getfield 17, 3) := by decide +kernel
theorem dX10_pair_49 : decode cX10_pair 49 = .ok (.iload 4, 2) := by decide +kernel
theorem dX10_pair_51 : decode cX10_pair 51 = .ok (.iaload, 1) := by decide +kernel
theorem dX10_pair_52 : decode cX10_pair 52 = .ok (.istore 4, 2) := by decide +kernel
theorem dX10_pair_54 : decode cX10_pair 54 = .ok (.goto (-40), 3) := by decide +kernel
theorem dX10_pair_57 : decode cX10_pair 57 = .ok (.aload_n 0, 1) := by decide +kernel
theorem dX10_pair_58 : decode cX10_pair 58 = .ok (.iload_n 1, 1) := by decide +kernel
theorem dX10_pair_59 : decode cX10_pair 59 = .ok (.iload_n 2, 1) := by decide +kernel
theorem dX10_pair_60 : decode cX10_pair 60 = .ok (.iload_n 3, 1) := by decide +kernel
theorem dX10_pair_61 : decode cX10_pair 61 = .ok (.invokevirtual 168, 3) := by decide +kernel
theorem dX10_pair_64 : decode cX10_pair 64 = .ok (.ireturn, 1) := by decide +kernel
theorem dX10_natural_0 : decode cX10_natural 0 = .ok (.lload_n 1, 1) := by decide +kernel
theorem dX10_natural_1 : decode cX10_natural 1 = .ok (.l2i, 1) := by decide +kernel
theorem dX10_natural_2 : decode cX10_natural 2 = .ok (.lload_n 1, 1) := by decide +kernel
theorem dX10_natural_3 : decode cX10_natural 3 = .ok (.bipush 32, 2) := by decide +kernel
theorem dX10_natural_5 : decode cX10_natural 5 = .ok (.lshr, 1) := by decide +kernel
theorem dX10_natural_6 : decode cX10_natural 6 = .ok (.l2i, 1) := by decide +kernel
theorem dX10_natural_7 : decode cX10_natural 7 = .ok (.invokestatic 157, 3) := by decide +kernel
theorem dX10_natural_10 : decode cX10_natural 10 = .ok (.istore_n 3, 1) := by decide +kernel
theorem dX10_natural_11 : decode cX10_natural 11 = .ok (.aload_n 0, 1) := by decide +kernel
theorem dX10_natural_12 : decode cX10_natural 12 = .ok (.getfield 30, 3) := by decide +kernel
theorem dX10_natural_15 : decode cX10_natural 15 = .ok (.iload_n 3, 1) := by decide +kernel
theorem dX10_natural_16 : decode cX10_natural 16 = .ok (.iaload, 1) := by decide +kernel
theorem dX10_natural_17 : decode cX10_natural 17 = .ok (.istore 4, 2) := by decide +kernel
theorem dX10_natural_19 : decode cX10_natural 19 = .ok (.iload 4, 2) := by decide +kernel
theorem dX10_natural_21 : decode cX10_natural 21 = .ok (.iconst (-1), 1) := by decide +kernel
theorem dX10_natural_22 : decode cX10_natural 22 = .ok (.if_icmp .eq 41, 3) := by decide +kernel
theorem dX10_natural_25 : decode cX10_natural 25 = .ok (.aload_n 0, 1) := by decide +kernel
theorem dX10_natural_26 : decode cX10_natural 26 = .ok (.getfield 8, 3) := by decide +kernel
theorem dX10_natural_29 : decode cX10_natural 29 = .ok (.iload 4, 2) := by decide +kernel
theorem dX10_natural_31 : decode cX10_natural 31 = .ok (.iaload, 1) := by decide +kernel
theorem dX10_natural_32 : decode cX10_natural 32 = .ok (.iconst (-1), 1) := by decide +kernel
theorem dX10_natural_33 : decode cX10_natural 33 = .ok (.if_icmp .ne 18, 3) := by decide +kernel
theorem dX10_natural_36 : decode cX10_natural 36 = .ok (.aload_n 0, 1) := by decide +kernel
theorem dX10_natural_37 : decode cX10_natural 37 = .ok (.getfield 26, 3) := by decide +kernel
theorem dX10_natural_40 : decode cX10_natural 40 = .ok (.iload 4, 2) := by decide +kernel
theorem dX10_natural_42 : decode cX10_natural 42 = .ok (.laload, 1) := by decide +kernel
theorem dX10_natural_43 : decode cX10_natural 43 = .ok (.lload_n 1, 1) := by decide +kernel
theorem dX10_natural_44 : decode cX10_natural 44 = .ok (.lcmp, 1) := by decide +kernel
theorem dX10_natural_45 : decode cX10_natural 45 = .ok (.ifCond .ne 6, 3) := by decide +kernel
theorem dX10_natural_48 : decode cX10_natural 48 = .ok (.iload 4, 2) := by decide +kernel
theorem dX10_natural_50 : decode cX10_natural 50 = .ok (.ireturn, 1) := by decide +kernel
theorem dX10_natural_51 : decode cX10_natural 51 = .ok (.aload_n 0, 1) := by decide +kernel
theorem dX10_natural_52 : decode cX10_natural 52 = .ok (.getfield 17, 3) := by decide +kernel
theorem dX10_natural_55 : decode cX10_natural 55 = .ok (.iload 4, 2) := by decide +kernel
theorem dX10_natural_57 : decode cX10_natural 57 = .ok (.iaload, 1) := by decide +kernel
theorem dX10_natural_58 : decode cX10_natural 58 = .ok (.istore 4, 2) := by decide +kernel
theorem dX10_natural_60 : decode cX10_natural 60 = .ok (.goto (-41), 3) := by decide +kernel
theorem dX10_natural_63 : decode cX10_natural 63 = .ok (.aload_n 0, 1) := by decide +kernel
theorem dX10_natural_64 : decode cX10_natural 64 = .ok (.getfield 26, 3) := by decide +kernel
theorem dX10_natural_67 : decode cX10_natural 67 = .ok (.aload_n 0, 1) := by decide +kernel
theorem dX10_natural_68 : decode cX10_natural 68 = .ok (.getfield 165, 3) := by decide +kernel
theorem dX10_natural_71 : decode cX10_natural 71 = .ok (.lload_n 1, 1) := by decide +kernel
theorem dX10_natural_72 : decode cX10_natural 72 = .ok (.lastore, 1) := by decide +kernel
theorem dX10_natural_73 : decode cX10_natural 73 = .ok (.aload_n 0, 1) := by decide +kernel
theorem dX10_natural_74 : decode cX10_natural 74 = .ok (.iconst (-1), 1) := by decide +kernel
theorem dX10_natural_75 : decode cX10_natural 75 = .ok (.iconst 0, 1) := by decide +kernel
theorem dX10_natural_76 : decode cX10_natural 76 = .ok (.iload_n 3, 1) := by decide +kernel
theorem dX10_natural_77 : decode cX10_natural 77 = .ok (.invokevirtual 168, 3) := by decide +kernel
theorem dX10_natural_80 : decode cX10_natural 80 = .ok (.ireturn, 1) := by decide +kernel
theorem dX10_isWord_0 : decode cX10_isWord 0 = .ok (.aload_n 0, 1) := by decide +kernel
theorem dX10_isWord_1 : decode cX10_isWord 1 = .ok (.getfield 37, 3) := by decide +kernel
theorem dX10_isWord_4 : decode cX10_isWord 4 = .ok (.iload_n 1, 1) := by decide +kernel
theorem dX10_isWord_5 : decode cX10_isWord 5 = .ok (.iaload, 1) := by decide +kernel
theorem dX10_isWord_6 : decode cX10_isWord 6 = .ok (.aload_n 0, 1) := by decide +kernel
theorem dX10_isWord_7 : decode cX10_isWord 7 = .ok (.getfield 145, 3) := by decide +kernel
theorem dX10_isWord_10 : decode cX10_isWord 10 = .ok (.if_icmp .ne 7, 3) := by decide +kernel
theorem dX10_isWord_13 : decode cX10_isWord 13 = .ok (.iconst 1, 1) := by decide +kernel
theorem dX10_isWord_14 : decode cX10_isWord 14 = .ok (.goto 4, 3) := by decide +kernel
theorem dX10_isWord_17 : decode cX10_isWord 17 = .ok (.iconst 0, 1) := by decide +kernel
theorem dX10_isWord_18 : decode cX10_isWord 18 = .ok (.istore_n 2, 1) := by decide +kernel
theorem dX10_isWord_19 : decode cX10_isWord 19 = .ok (.iconst 0, 1) := by decide +kernel
theorem dX10_isWord_20 : decode cX10_isWord 20 = .ok (.istore_n 3, 1) := by decide +kernel
theorem dX10_isWord_21 : decode cX10_isWord 21 = .ok (.iload_n 3, 1) := by decide +kernel
theorem dX10_isWord_22 : decode cX10_isWord 22 = .ok (.aload_n 0, 1) := by decide +kernel
theorem dX10_isWord_23 : decode cX10_isWord 23 = .ok (.getfield 145, 3) := by decide +kernel
theorem dX10_isWord_26 : decode cX10_isWord 26 = .ok (.if_icmp .ge 39, 3) := by decide +kernel
theorem dX10_isWord_29 : decode cX10_isWord 29 = .ok (.iload_n 2, 1) := by decide +kernel
theorem dX10_isWord_30 : decode cX10_isWord 30 = .ok (.ifCond .eq 35, 3) := by decide +kernel
theorem dX10_isWord_33 : decode cX10_isWord 33 = .ok (.aload_n 0, 1) := by decide +kernel
theorem dX10_isWord_34 : decode cX10_isWord 34 = .ok (.getfield 34, 3) := by decide +kernel
theorem dX10_isWord_37 : decode cX10_isWord 37 = .ok (.bipush 12, 2) := by decide +kernel
theorem dX10_isWord_39 : decode cX10_isWord 39 = .ok (.iload_n 1, 1) := by decide +kernel
theorem dX10_isWord_40 : decode cX10_isWord 40 = .ok (.imul, 1) := by decide +kernel
theorem dX10_isWord_41 : decode cX10_isWord 41 = .ok (.iload_n 3, 1) := by decide +kernel
theorem dX10_isWord_42 : decode cX10_isWord 42 = .ok (.iadd, 1) := by decide +kernel
theorem dX10_isWord_43 : decode cX10_isWord 43 = .ok (.iaload, 1) := by decide +kernel
theorem dX10_isWord_44 : decode cX10_isWord 44 = .ok (.aload_n 0, 1) := by decide +kernel
theorem dX10_isWord_45 : decode cX10_isWord 45 = .ok (.getfield 49, 3) := by decide +kernel
theorem dX10_isWord_48 : decode cX10_isWord 48 = .ok (.iload_n 3, 1) := by decide +kernel
theorem dX10_isWord_49 : decode cX10_isWord 49 = .ok (.iaload, 1) := by decide +kernel
theorem dX10_isWord_50 : decode cX10_isWord 50 = .ok (.if_icmp .ne 7, 3) := by decide +kernel
theorem dX10_isWord_53 : decode cX10_isWord 53 = .ok (.iconst 1, 1) := by decide +kernel
theorem dX10_isWord_54 : decode cX10_isWord 54 = .ok (.goto 4, 3) := by decide +kernel
theorem dX10_isWord_57 : decode cX10_isWord 57 = .ok (.iconst 0, 1) := by decide +kernel
theorem dX10_isWord_58 : decode cX10_isWord 58 = .ok (.istore_n 2, 1) := by decide +kernel
theorem dX10_isWord_59 : decode cX10_isWord 59 = .ok (.iinc 3 1, 3) := by decide +kernel
theorem dX10_isWord_62 : decode cX10_isWord 62 = .ok (.goto (-41), 3) := by decide +kernel
theorem dX10_isWord_65 : decode cX10_isWord 65 = .ok (.iload_n 2, 1) := by decide +kernel
theorem dX10_isWord_66 : decode cX10_isWord 66 = .ok (.ireturn, 1) := by decide +kernel
theorem dX10_symbol_0 : decode cX10_symbol 0 = .ok (.aload_n 0, 1) := by decide +kernel
theorem dX10_symbol_1 : decode cX10_symbol 1 = .ok (.iconst 0, 1) := by decide +kernel
theorem dX10_symbol_2 : decode cX10_symbol 2 = .ok (.aload_n 0, 1) := by decide +kernel
theorem dX10_symbol_3 : decode cX10_symbol 3 = .ok (.getfield 145, 3) := by decide +kernel
theorem dX10_symbol_6 : decode cX10_symbol 6 = .ok (.iconst 1, 1) := by decide +kernel
theorem dX10_symbol_7 : decode cX10_symbol 7 = .ok (.invokevirtual 161, 3) := by decide +kernel
theorem dX10_symbol_10 : decode cX10_symbol 10 = .ok (.istore_n 1, 1) := by decide +kernel
theorem dX10_symbol_11 : decode cX10_symbol 11 = .ok (.aload_n 0, 1) := by decide +kernel
theorem dX10_symbol_12 : decode cX10_symbol 12 = .ok (.getfield 30, 3) := by decide +kernel
theorem dX10_symbol_15 : decode cX10_symbol 15 = .ok (.iload_n 1, 1) := by decide +kernel
theorem dX10_symbol_16 : decode cX10_symbol 16 = .ok (.iaload, 1) := by decide +kernel
theorem dX10_symbol_17 : decode cX10_symbol 17 = .ok (.istore_n 2, 1) := by decide +kernel
theorem dX10_symbol_18 : decode cX10_symbol 18 = .ok (.iload_n 2, 1) := by decide +kernel
theorem dX10_symbol_19 : decode cX10_symbol 19 = .ok (.iconst (-1), 1) := by decide +kernel
theorem dX10_symbol_20 : decode cX10_symbol 20 = .ok (.if_icmp .eq 39, 3) := by decide +kernel
theorem dX10_symbol_23 : decode cX10_symbol 23 = .ok (.aload_n 0, 1) := by decide +kernel
theorem dX10_symbol_24 : decode cX10_symbol 24 = .ok (.getfield 8, 3) := by decide +kernel
theorem dX10_symbol_27 : decode cX10_symbol 27 = .ok (.iload_n 2, 1) := by decide +kernel
theorem dX10_symbol_28 : decode cX10_symbol 28 = .ok (.iaload, 1) := by decide +kernel
theorem dX10_symbol_29 : decode cX10_symbol 29 = .ok (.bipush (-2), 2) := by decide +kernel
theorem dX10_symbol_31 : decode cX10_symbol 31 = .ok (.if_icmp .ne 18, 3) := by decide +kernel
theorem dX10_symbol_34 : decode cX10_symbol 34 = .ok (.aload_n 0, 1) := by decide +kernel
theorem dX10_symbol_35 : decode cX10_symbol 35 = .ok (.aload_n 0, 1) := by decide +kernel
theorem dX10_symbol_36 : decode cX10_symbol 36 = .ok (.getfield 14, 3) := by decide +kernel
theorem dX10_symbol_39 : decode cX10_symbol 39 = .ok (.iload_n 2, 1) := by decide +kernel
theorem dX10_symbol_40 : decode cX10_symbol 40 = .ok (.iaload, 1) := by decide +kernel
theorem dX10_symbol_41 : decode cX10_symbol 41 = .ok (.invokevirtual 172, 3) := by decide +kernel
theorem dX10_symbol_44 : decode cX10_symbol 44 = .ok (.ifCond .eq 5, 3) := by decide +kernel
theorem dX10_symbol_47 : decode cX10_symbol 47 = .ok (.iload_n 2, 1) := by decide +kernel
theorem dX10_symbol_48 : decode cX10_symbol 48 = .ok (.ireturn, 1) := by decide +kernel
theorem dX10_symbol_49 : decode cX10_symbol 49 = .ok (.aload_n 0, 1) := by decide +kernel
theorem dX10_symbol_50 : decode cX10_symbol 50 = .ok (.getfield 17, 3) := by decide +kernel
theorem dX10_symbol_53 : decode cX10_symbol 53 = .ok (.iload_n 2, 1) := by decide +kernel
theorem dX10_symbol_54 : decode cX10_symbol 54 = .ok (.iaload, 1) := by decide +kernel
theorem dX10_symbol_55 : decode cX10_symbol 55 = .ok (.istore_n 2, 1) := by decide +kernel
theorem dX10_symbol_56 : decode cX10_symbol 56 = .ok (.goto (-38), 3) := by decide +kernel
theorem dX10_symbol_59 : decode cX10_symbol 59 = .ok (.aload_n 0, 1) := by decide +kernel
theorem dX10_symbol_60 : decode cX10_symbol 60 = .ok (.getfield 37, 3) := by decide +kernel
theorem dX10_symbol_63 : decode cX10_symbol 63 = .ok (.aload_n 0, 1) := by decide +kernel
theorem dX10_symbol_64 : decode cX10_symbol 64 = .ok (.getfield 176, 3) := by decide +kernel
theorem dX10_symbol_67 : decode cX10_symbol 67 = .ok (.aload_n 0, 1) := by decide +kernel
theorem dX10_symbol_68 : decode cX10_symbol 68 = .ok (.getfield 145, 3) := by decide +kernel
theorem dX10_symbol_71 : decode cX10_symbol 71 = .ok (.iastore, 1) := by decide +kernel
theorem dX10_symbol_72 : decode cX10_symbol 72 = .ok (.iconst 0, 1) := by decide +kernel
theorem dX10_symbol_73 : decode cX10_symbol 73 = .ok (.istore_n 2, 1) := by decide +kernel
theorem dX10_symbol_74 : decode cX10_symbol 74 = .ok (.iload_n 2, 1) := by decide +kernel
theorem dX10_symbol_75 : decode cX10_symbol 75 = .ok (.aload_n 0, 1) := by decide +kernel
theorem dX10_symbol_76 : decode cX10_symbol 76 = .ok (.getfield 145, 3) := by decide +kernel
theorem dX10_symbol_79 : decode cX10_symbol 79 = .ok (.if_icmp .ge 29, 3) := by decide +kernel
theorem dX10_symbol_82 : decode cX10_symbol 82 = .ok (.aload_n 0, 1) := by decide +kernel
theorem dX10_symbol_83 : decode cX10_symbol 83 = .ok (.getfield 34, 3) := by decide +kernel
theorem dX10_symbol_86 : decode cX10_symbol 86 = .ok (.bipush 12, 2) := by decide +kernel
theorem dX10_symbol_88 : decode cX10_symbol 88 = .ok (.aload_n 0, 1) := by decide +kernel
theorem dX10_symbol_89 : decode cX10_symbol 89 = .ok (.getfield 176, 3) := by decide +kernel
theorem dX10_symbol_92 : decode cX10_symbol 92 = .ok (.imul, 1) := by decide +kernel
theorem dX10_symbol_93 : decode cX10_symbol 93 = .ok (.iload_n 2, 1) := by decide +kernel
theorem dX10_symbol_94 : decode cX10_symbol 94 = .ok (.iadd, 1) := by decide +kernel
theorem dX10_symbol_95 : decode cX10_symbol 95 = .ok (.aload_n 0, 1) := by decide +kernel
theorem dX10_symbol_96 : decode cX10_symbol 96 = .ok (.getfield 49, 3) := by decide +kernel
theorem dX10_symbol_99 : decode cX10_symbol 99 = .ok (.iload_n 2, 1) := by decide +kernel
theorem dX10_symbol_100 : decode cX10_symbol 100 = .ok (.iaload, 1) := by decide +kernel
theorem dX10_symbol_101 : decode cX10_symbol 101 = .ok (.iastore, 1) := by decide +kernel
theorem dX10_symbol_102 : decode cX10_symbol 102 = .ok (.iinc 2 1, 3) := by decide +kernel
theorem dX10_symbol_105 : decode cX10_symbol 105 = .ok (.goto (-31), 3) := by decide +kernel
theorem dX10_symbol_108 : decode cX10_symbol 108 = .ok (.aload_n 0, 1) := by decide +kernel
theorem dX10_symbol_109 : decode cX10_symbol 109 = .ok (.dup, 1) := by decide +kernel
theorem dX10_symbol_110 : decode cX10_symbol 110 = .ok (.getfield 176, 3) := by decide +kernel
theorem dX10_symbol_113 : decode cX10_symbol 113 = .ok (.iconst 1, 1) := by decide +kernel
theorem dX10_symbol_114 : decode cX10_symbol 114 = .ok (.iadd, 1) := by decide +kernel
theorem dX10_symbol_115 : decode cX10_symbol 115 = .ok (.putfield 176, 3) := by decide +kernel
theorem dX10_symbol_118 : decode cX10_symbol 118 = .ok (.aload_n 0, 1) := by decide +kernel
theorem dX10_symbol_119 : decode cX10_symbol 119 = .ok (.bipush (-2), 2) := by decide +kernel
theorem dX10_symbol_121 : decode cX10_symbol 121 = .ok (.aload_n 0, 1) := by decide +kernel
theorem dX10_symbol_122 : decode cX10_symbol 122 = .ok (.getfield 176, 3) := by decide +kernel
theorem dX10_symbol_125 : decode cX10_symbol 125 = .ok (.iconst 1, 1) := by decide +kernel
theorem dX10_symbol_126 : decode cX10_symbol 126 = .ok (.isub, 1) := by decide +kernel
theorem dX10_symbol_127 : decode cX10_symbol 127 = .ok (.iload_n 1, 1) := by decide +kernel
theorem dX10_symbol_128 : decode cX10_symbol 128 = .ok (.invokevirtual 168, 3) := by decide +kernel
theorem dX10_symbol_131 : decode cX10_symbol 131 = .ok (.ireturn, 1) := by decide +kernel
theorem dX10_forget_0 : decode cX10_forget 0 = .ok (.aload_n 0, 1) := by decide +kernel
theorem dX10_forget_1 : decode cX10_forget 1 = .ok (.getfield 165, 3) := by decide +kernel
theorem dX10_forget_4 : decode cX10_forget 4 = .ok (.iload_n 1, 1) := by decide +kernel
theorem dX10_forget_5 : decode cX10_forget 5 = .ok (.if_icmp .le 62, 3) := by decide +kernel
theorem dX10_forget_8 : decode cX10_forget 8 = .ok (.aload_n 0, 1) := by decide +kernel
theorem dX10_forget_9 : decode cX10_forget 9 = .ok (.dup, 1) := by decide +kernel
theorem dX10_forget_10 : decode cX10_forget 10 = .ok (.getfield 165, 3) := by decide +kernel
theorem dX10_forget_13 : decode cX10_forget 13 = .ok (.iconst 1, 1) := by decide +kernel
theorem dX10_forget_14 : decode cX10_forget 14 = .ok (.isub, 1) := by decide +kernel
theorem dX10_forget_15 : decode cX10_forget 15 = .ok (.putfield 165, 3) := by decide +kernel
theorem dX10_forget_18 : decode cX10_forget 18 = .ok (.aload_n 0, 1) := by decide +kernel
theorem dX10_forget_19 : decode cX10_forget 19 = .ok (.getfield 30, 3) := by decide +kernel
theorem dX10_forget_22 : decode cX10_forget 22 = .ok (.aload_n 0, 1) := by decide +kernel
theorem dX10_forget_23 : decode cX10_forget 23 = .ok (.aload_n 0, 1) := by decide +kernel
theorem dX10_forget_24 : decode cX10_forget 24 = .ok (.getfield 165, 3) := by decide +kernel
theorem dX10_forget_27 : decode cX10_forget 27 = .ok (.invokevirtual 179, 3) := by decide +kernel
theorem dX10_forget_30 : decode cX10_forget 30 = .ok (.aload_n 0, 1) := by decide +kernel
theorem dX10_forget_31 : decode cX10_forget 31 = .ok (.getfield 17, 3) := by decide +kernel
theorem dX10_forget_34 : decode cX10_forget 34 = .ok (.aload_n 0, 1) := by decide +kernel
theorem dX10_forget_35 : decode cX10_forget 35 = .ok (.getfield 165, 3) := by decide +kernel
theorem dX10_forget_38 : decode cX10_forget 38 = .ok (.iaload, 1) := by decide +kernel
theorem dX10_forget_39 : decode cX10_forget 39 = .ok (.iastore, 1) := by decide +kernel
theorem dX10_forget_40 : decode cX10_forget 40 = .ok (.aload_n 0, 1) := by decide +kernel
theorem dX10_forget_41 : decode cX10_forget 41 = .ok (.getfield 8, 3) := by decide +kernel
theorem dX10_forget_44 : decode cX10_forget 44 = .ok (.aload_n 0, 1) := by decide +kernel
theorem dX10_forget_45 : decode cX10_forget 45 = .ok (.getfield 165, 3) := by decide +kernel
theorem dX10_forget_48 : decode cX10_forget 48 = .ok (.iaload, 1) := by decide +kernel
theorem dX10_forget_49 : decode cX10_forget 49 = .ok (.bipush (-2), 2) := by decide +kernel
theorem dX10_forget_51 : decode cX10_forget 51 = .ok (.if_icmp .ne (-51), 3) := by decide +kernel
theorem dX10_forget_54 : decode cX10_forget 54 = .ok (.aload_n 0, 1) := by decide +kernel
theorem dX10_forget_55 : decode cX10_forget 55 = .ok (.dup, 1) := by decide +kernel
theorem dX10_forget_56 : decode cX10_forget 56 = .ok (.getfield 176, 3) := by decide +kernel
theorem dX10_forget_59 : decode cX10_forget 59 = .ok (.iconst 1, 1) := by decide +kernel
theorem dX10_forget_60 : decode cX10_forget 60 = .ok (.isub, 1) := by decide +kernel
theorem dX10_forget_61 : decode cX10_forget 61 = .ok (.putfield 176, 3) := by decide +kernel
theorem dX10_forget_64 : decode cX10_forget 64 = .ok (.goto (-64), 3) := by decide +kernel
theorem dX10_forget_67 : decode cX10_forget 67 = .ok (.return_, 1) := by decide +kernel
theorem dX10_isPair_0 : decode cX10_isPair 0 = .ok (.aload_n 0, 1) := by decide +kernel
theorem dX10_isPair_1 : decode cX10_isPair 1 = .ok (.getfield 8, 3) := by decide +kernel
theorem dX10_isPair_4 : decode cX10_isPair 4 = .ok (.iload_n 1, 1) := by decide +kernel
theorem dX10_isPair_5 : decode cX10_isPair 5 = .ok (.iaload, 1) := by decide +kernel
theorem dX10_isPair_6 : decode cX10_isPair 6 = .ok (.ifCond .lt 7, 3) := by decide +kernel
theorem dX10_isPair_9 : decode cX10_isPair 9 = .ok (.iconst 1, 1) := by decide +kernel
theorem dX10_isPair_10 : decode cX10_isPair 10 = .ok (.goto 4, 3) := by decide +kernel
theorem dX10_isPair_13 : decode cX10_isPair 13 = .ok (.iconst 0, 1) := by decide +kernel
theorem dX10_isPair_14 : decode cX10_isPair 14 = .ok (.ireturn, 1) := by decide +kernel
theorem dX10_isNatural_0 : decode cX10_isNatural 0 = .ok (.aload_n 0, 1) := by decide +kernel
theorem dX10_isNatural_1 : decode cX10_isNatural 1 = .ok (.getfield 8, 3) := by decide +kernel
theorem dX10_isNatural_4 : decode cX10_isNatural 4 = .ok (.iload_n 1, 1) := by decide +kernel
theorem dX10_isNatural_5 : decode cX10_isNatural 5 = .ok (.iaload, 1) := by decide +kernel
theorem dX10_isNatural_6 : decode cX10_isNatural 6 = .ok (.iconst (-1), 1) := by decide +kernel
theorem dX10_isNatural_7 : decode cX10_isNatural 7 = .ok (.if_icmp .ne 7, 3) := by decide +kernel
theorem dX10_isNatural_10 : decode cX10_isNatural 10 = .ok (.iconst 1, 1) := by decide +kernel
theorem dX10_isNatural_11 : decode cX10_isNatural 11 = .ok (.goto 4, 3) := by decide +kernel
theorem dX10_isNatural_14 : decode cX10_isNatural 14 = .ok (.iconst 0, 1) := by decide +kernel
theorem dX10_isNatural_15 : decode cX10_isNatural 15 = .ok (.ireturn, 1) := by decide +kernel
theorem dX10_isSymbol_0 : decode cX10_isSymbol 0 = .ok (.aload_n 0, 1) := by decide +kernel
theorem dX10_isSymbol_1 : decode cX10_isSymbol 1 = .ok (.getfield 8, 3) := by decide +kernel
theorem dX10_isSymbol_4 : decode cX10_isSymbol 4 = .ok (.iload_n 1, 1) := by decide +kernel
theorem dX10_isSymbol_5 : decode cX10_isSymbol 5 = .ok (.iaload, 1) := by decide +kernel
theorem dX10_isSymbol_6 : decode cX10_isSymbol 6 = .ok (.bipush (-2), 2) := by decide +kernel
theorem dX10_isSymbol_8 : decode cX10_isSymbol 8 = .ok (.if_icmp .ne 7, 3) := by decide +kernel
theorem dX10_isSymbol_11 : decode cX10_isSymbol 11 = .ok (.iconst 1, 1) := by decide +kernel
theorem dX10_isSymbol_12 : decode cX10_isSymbol 12 = .ok (.goto 4, 3) := by decide +kernel
theorem dX10_isSymbol_15 : decode cX10_isSymbol 15 = .ok (.iconst 0, 1) := by decide +kernel
theorem dX10_isSymbol_16 : decode cX10_isSymbol 16 = .ok (.ireturn, 1) := by decide +kernel
theorem dX10_list1_0 : decode cX10_list1 0 = .ok (.aload_n 0, 1) := by decide +kernel
theorem dX10_list1_1 : decode cX10_list1 1 = .ok (.iload_n 1, 1) := by decide +kernel
theorem dX10_list1_2 : decode cX10_list1 2 = .ok (.iconst 0, 1) := by decide +kernel
theorem dX10_list1_3 : decode cX10_list1 3 = .ok (.invokevirtual 183, 3) := by decide +kernel
theorem dX10_list1_6 : decode cX10_list1 6 = .ok (.ireturn, 1) := by decide +kernel
theorem dX10_list2_0 : decode cX10_list2 0 = .ok (.aload_n 0, 1) := by decide +kernel
theorem dX10_list2_1 : decode cX10_list2 1 = .ok (.iload_n 1, 1) := by decide +kernel
theorem dX10_list2_2 : decode cX10_list2 2 = .ok (.aload_n 0, 1) := by decide +kernel
theorem dX10_list2_3 : decode cX10_list2 3 = .ok (.iload_n 2, 1) := by decide +kernel
theorem dX10_list2_4 : decode cX10_list2 4 = .ok (.invokevirtual 186, 3) := by decide +kernel
theorem dX10_list2_7 : decode cX10_list2 7 = .ok (.invokevirtual 183, 3) := by decide +kernel
theorem dX10_list2_10 : decode cX10_list2 10 = .ok (.ireturn, 1) := by decide +kernel
theorem dX10_list3_0 : decode cX10_list3 0 = .ok (.aload_n 0, 1) := by decide +kernel
theorem dX10_list3_1 : decode cX10_list3 1 = .ok (.iload_n 1, 1) := by decide +kernel
theorem dX10_list3_2 : decode cX10_list3 2 = .ok (.aload_n 0, 1) := by decide +kernel
theorem dX10_list3_3 : decode cX10_list3 3 = .ok (.iload_n 2, 1) := by decide +kernel
theorem dX10_list3_4 : decode cX10_list3 4 = .ok (.iload_n 3, 1) := by decide +kernel
theorem dX10_list3_5 : decode cX10_list3 5 = .ok (.invokevirtual 189, 3) := by decide +kernel
theorem dX10_list3_8 : decode cX10_list3 8 = .ok (.invokevirtual 183, 3) := by decide +kernel
theorem dX10_list3_11 : decode cX10_list3 11 = .ok (.ireturn, 1) := by decide +kernel
theorem dX10_list4_0 : decode cX10_list4 0 = .ok (.aload_n 0, 1) := by decide +kernel
theorem dX10_list4_1 : decode cX10_list4 1 = .ok (.iload_n 1, 1) := by decide +kernel
theorem dX10_list4_2 : decode cX10_list4 2 = .ok (.aload_n 0, 1) := by decide +kernel
theorem dX10_list4_3 : decode cX10_list4 3 = .ok (.iload_n 2, 1) := by decide +kernel
theorem dX10_list4_4 : decode cX10_list4 4 = .ok (.iload_n 3, 1) := by decide +kernel
theorem dX10_list4_5 : decode cX10_list4 5 = .ok (.iload 4, 2) := by decide +kernel
theorem dX10_list4_7 : decode cX10_list4 7 = .ok (.invokevirtual 192, 3) := by decide +kernel
theorem dX10_list4_10 : decode cX10_list4 10 = .ok (.invokevirtual 183, 3) := by decide +kernel
theorem dX10_list4_13 : decode cX10_list4 13 = .ok (.ireturn, 1) := by decide +kernel
theorem dX10_lengthOf_0 : decode cX10_lengthOf 0 = .ok (.iconst 0, 1) := by decide +kernel
theorem dX10_lengthOf_1 : decode cX10_lengthOf 1 = .ok (.istore_n 2, 1) := by decide +kernel
theorem dX10_lengthOf_2 : decode cX10_lengthOf 2 = .ok (.iload_n 1, 1) := by decide +kernel
theorem dX10_lengthOf_3 : decode cX10_lengthOf 3 = .ok (.istore_n 3, 1) := by decide +kernel
theorem dX10_lengthOf_4 : decode cX10_lengthOf 4 = .ok (.aload_n 0, 1) := by decide +kernel
theorem dX10_lengthOf_5 : decode cX10_lengthOf 5 = .ok (.iload_n 3, 1) := by decide +kernel
theorem dX10_lengthOf_6 : decode cX10_lengthOf 6 = .ok (.invokevirtual 195, 3) := by decide +kernel
theorem dX10_lengthOf_9 : decode cX10_lengthOf 9 = .ok (.ifCond .eq 16, 3) := by decide +kernel
theorem dX10_lengthOf_12 : decode cX10_lengthOf 12 = .ok (.iinc 2 1, 3) := by decide +kernel
theorem dX10_lengthOf_15 : decode cX10_lengthOf 15 = .ok (.aload_n 0, 1) := by decide +kernel
theorem dX10_lengthOf_16 : decode cX10_lengthOf 16 = .ok (.getfield 14, 3) := by decide +kernel
theorem dX10_lengthOf_19 : decode cX10_lengthOf 19 = .ok (.iload_n 3, 1) := by decide +kernel
theorem dX10_lengthOf_20 : decode cX10_lengthOf 20 = .ok (.iaload, 1) := by decide +kernel
theorem dX10_lengthOf_21 : decode cX10_lengthOf 21 = .ok (.istore_n 3, 1) := by decide +kernel
theorem dX10_lengthOf_22 : decode cX10_lengthOf 22 = .ok (.goto (-18), 3) := by decide +kernel
theorem dX10_lengthOf_25 : decode cX10_lengthOf 25 = .ok (.iload_n 3, 1) := by decide +kernel
theorem dX10_lengthOf_26 : decode cX10_lengthOf 26 = .ok (.ifCond .ne 7, 3) := by decide +kernel
theorem dX10_lengthOf_29 : decode cX10_lengthOf 29 = .ok (.iload_n 2, 1) := by decide +kernel
theorem dX10_lengthOf_30 : decode cX10_lengthOf 30 = .ok (.goto 4, 3) := by decide +kernel
theorem dX10_lengthOf_33 : decode cX10_lengthOf 33 = .ok (.iconst (-1), 1) := by decide +kernel
theorem dX10_lengthOf_34 : decode cX10_lengthOf 34 = .ok (.ireturn, 1) := by decide +kernel
theorem dX10_nth_0 : decode cX10_nth 0 = .ok (.iload_n 1, 1) := by decide +kernel
theorem dX10_nth_1 : decode cX10_nth 1 = .ok (.istore_n 3, 1) := by decide +kernel
theorem dX10_nth_2 : decode cX10_nth 2 = .ok (.iconst 0, 1) := by decide +kernel
theorem dX10_nth_3 : decode cX10_nth 3 = .ok (.istore 4, 2) := by decide +kernel
theorem dX10_nth_5 : decode cX10_nth 5 = .ok (.iload 4, 2) := by decide +kernel
theorem dX10_nth_7 : decode cX10_nth 7 = .ok (.iload_n 2, 1) := by decide +kernel
theorem dX10_nth_8 : decode cX10_nth 8 = .ok (.if_icmp .ge 16, 3) := by decide +kernel
theorem dX10_nth_11 : decode cX10_nth 11 = .ok (.aload_n 0, 1) := by decide +kernel
theorem dX10_nth_12 : decode cX10_nth 12 = .ok (.getfield 14, 3) := by decide +kernel
theorem dX10_nth_15 : decode cX10_nth 15 = .ok (.iload_n 3, 1) := by decide +kernel
theorem dX10_nth_16 : decode cX10_nth 16 = .ok (.iaload, 1) := by decide +kernel
theorem dX10_nth_17 : decode cX10_nth 17 = .ok (.istore_n 3, 1) := by decide +kernel
theorem dX10_nth_18 : decode cX10_nth 18 = .ok (.iinc 4 1, 3) := by decide +kernel
theorem dX10_nth_21 : decode cX10_nth 21 = .ok (.goto (-16), 3) := by decide +kernel
theorem dX10_nth_24 : decode cX10_nth 24 = .ok (.aload_n 0, 1) := by decide +kernel
theorem dX10_nth_25 : decode cX10_nth 25 = .ok (.getfield 8, 3) := by decide +kernel
theorem dX10_nth_28 : decode cX10_nth 28 = .ok (.iload_n 3, 1) := by decide +kernel
theorem dX10_nth_29 : decode cX10_nth 29 = .ok (.iaload, 1) := by decide +kernel
theorem dX10_nth_30 : decode cX10_nth 30 = .ok (.ireturn, 1) := by decide +kernel
theorem dX10_isDigit_0 : decode cX10_isDigit 0 = .ok (.iload_n 0, 1) := by decide +kernel
theorem dX10_isDigit_1 : decode cX10_isDigit 1 = .ok (.bipush 48, 2) := by decide +kernel
theorem dX10_isDigit_3 : decode cX10_isDigit 3 = .ok (.if_icmp .lt 13, 3) := by decide +kernel
theorem dX10_isDigit_6 : decode cX10_isDigit 6 = .ok (.iload_n 0, 1) := by decide +kernel
theorem dX10_isDigit_7 : decode cX10_isDigit 7 = .ok (.bipush 57, 2) := by decide +kernel
theorem dX10_isDigit_9 : decode cX10_isDigit 9 = .ok (.if_icmp .gt 7, 3) := by decide +kernel
theorem dX10_isDigit_12 : decode cX10_isDigit 12 = .ok (.iconst 1, 1) := by decide +kernel
theorem dX10_isDigit_13 : decode cX10_isDigit 13 = .ok (.goto 4, 3) := by decide +kernel
theorem dX10_isDigit_16 : decode cX10_isDigit 16 = .ok (.iconst 0, 1) := by decide +kernel
theorem dX10_isDigit_17 : decode cX10_isDigit 17 = .ok (.ireturn, 1) := by decide +kernel
theorem dX10_isAtom_0 : decode cX10_isAtom 0 = .ok (.iload_n 0, 1) := by decide +kernel
theorem dX10_isAtom_1 : decode cX10_isAtom 1 = .ok (.bipush 97, 2) := by decide +kernel
theorem dX10_isAtom_3 : decode cX10_isAtom 3 = .ok (.if_icmp .lt 9, 3) := by decide +kernel
theorem dX10_isAtom_6 : decode cX10_isAtom 6 = .ok (.iload_n 0, 1) := by decide +kernel
theorem dX10_isAtom_7 : decode cX10_isAtom 7 = .ok (.bipush 122, 2) := by decide +kernel
theorem dX10_isAtom_9 : decode cX10_isAtom 9 = .ok (.if_icmp .le 70, 3) := by decide +kernel
theorem dX10_isAtom_12 : decode cX10_isAtom 12 = .ok (.iload_n 0, 1) := by decide +kernel
theorem dX10_isAtom_13 : decode cX10_isAtom 13 = .ok (.invokestatic 198, 3) := by decide +kernel
theorem dX10_isAtom_16 : decode cX10_isAtom 16 = .ok (.ifCond .ne 63, 3) := by decide +kernel
theorem dX10_isAtom_19 : decode cX10_isAtom 19 = .ok (.iload_n 0, 1) := by decide +kernel
theorem dX10_isAtom_20 : decode cX10_isAtom 20 = .ok (.bipush 43, 2) := by decide +kernel
theorem dX10_isAtom_22 : decode cX10_isAtom 22 = .ok (.if_icmp .eq 57, 3) := by decide +kernel
theorem dX10_isAtom_25 : decode cX10_isAtom 25 = .ok (.iload_n 0, 1) := by decide +kernel
theorem dX10_isAtom_26 : decode cX10_isAtom 26 = .ok (.bipush 45, 2) := by decide +kernel
theorem dX10_isAtom_28 : decode cX10_isAtom 28 = .ok (.if_icmp .eq 51, 3) := by decide +kernel
theorem dX10_isAtom_31 : decode cX10_isAtom 31 = .ok (.iload_n 0, 1) := by decide +kernel
theorem dX10_isAtom_32 : decode cX10_isAtom 32 = .ok (.bipush 42, 2) := by decide +kernel
theorem dX10_isAtom_34 : decode cX10_isAtom 34 = .ok (.if_icmp .eq 45, 3) := by decide +kernel
theorem dX10_isAtom_37 : decode cX10_isAtom 37 = .ok (.iload_n 0, 1) := by decide +kernel
theorem dX10_isAtom_38 : decode cX10_isAtom 38 = .ok (.bipush 47, 2) := by decide +kernel
theorem dX10_isAtom_40 : decode cX10_isAtom 40 = .ok (.if_icmp .eq 39, 3) := by decide +kernel
theorem dX10_isAtom_43 : decode cX10_isAtom 43 = .ok (.iload_n 0, 1) := by decide +kernel
theorem dX10_isAtom_44 : decode cX10_isAtom 44 = .ok (.bipush 60, 2) := by decide +kernel
theorem dX10_isAtom_46 : decode cX10_isAtom 46 = .ok (.if_icmp .eq 33, 3) := by decide +kernel
theorem dX10_isAtom_49 : decode cX10_isAtom 49 = .ok (.iload_n 0, 1) := by decide +kernel
theorem dX10_isAtom_50 : decode cX10_isAtom 50 = .ok (.bipush 62, 2) := by decide +kernel
theorem dX10_isAtom_52 : decode cX10_isAtom 52 = .ok (.if_icmp .eq 27, 3) := by decide +kernel
theorem dX10_isAtom_55 : decode cX10_isAtom 55 = .ok (.iload_n 0, 1) := by decide +kernel
theorem dX10_isAtom_56 : decode cX10_isAtom 56 = .ok (.bipush 61, 2) := by decide +kernel
theorem dX10_isAtom_58 : decode cX10_isAtom 58 = .ok (.if_icmp .eq 21, 3) := by decide +kernel
theorem dX10_isAtom_61 : decode cX10_isAtom 61 = .ok (.iload_n 0, 1) := by decide +kernel
theorem dX10_isAtom_62 : decode cX10_isAtom 62 = .ok (.bipush 63, 2) := by decide +kernel
theorem dX10_isAtom_64 : decode cX10_isAtom 64 = .ok (.if_icmp .eq 15, 3) := by decide +kernel
theorem dX10_isAtom_67 : decode cX10_isAtom 67 = .ok (.iload_n 0, 1) := by decide +kernel
theorem dX10_isAtom_68 : decode cX10_isAtom 68 = .ok (.bipush 33, 2) := by decide +kernel
theorem dX10_isAtom_70 : decode cX10_isAtom 70 = .ok (.if_icmp .eq 9, 3) := by decide +kernel
theorem dX10_isAtom_73 : decode cX10_isAtom 73 = .ok (.iload_n 0, 1) := by decide +kernel
theorem dX10_isAtom_74 : decode cX10_isAtom 74 = .ok (.bipush 95, 2) := by decide +kernel
theorem dX10_isAtom_76 : decode cX10_isAtom 76 = .ok (.if_icmp .ne 7, 3) := by decide +kernel
theorem dX10_isAtom_79 : decode cX10_isAtom 79 = .ok (.iconst 1, 1) := by decide +kernel
theorem dX10_isAtom_80 : decode cX10_isAtom 80 = .ok (.goto 4, 3) := by decide +kernel
theorem dX10_isAtom_83 : decode cX10_isAtom 83 = .ok (.iconst 0, 1) := by decide +kernel
theorem dX10_isAtom_84 : decode cX10_isAtom 84 = .ok (.ireturn, 1) := by decide +kernel
theorem dX10_skip_0 : decode cX10_skip 0 = .ok (.iconst 1, 1) := by decide +kernel
theorem dX10_skip_1 : decode cX10_skip 1 = .ok (.istore_n 1, 1) := by decide +kernel
theorem dX10_skip_2 : decode cX10_skip 2 = .ok (.iload_n 1, 1) := by decide +kernel
theorem dX10_skip_3 : decode cX10_skip 3 = .ok (.ifCond .eq 112, 3) := by decide +kernel
theorem dX10_skip_6 : decode cX10_skip 6 = .ok (.aload_n 0, 1) := by decide +kernel
theorem dX10_skip_7 : decode cX10_skip 7 = .ok (.getfield 201, 3) := by decide +kernel
theorem dX10_skip_10 : decode cX10_skip 10 = .ok (.aload_n 0, 1) := by decide +kernel
theorem dX10_skip_11 : decode cX10_skip 11 = .ok (.getfield 204, 3) := by decide +kernel
theorem dX10_skip_14 : decode cX10_skip 14 = .ok (.if_icmp .ge 101, 3) := by decide +kernel
theorem dX10_skip_17 : decode cX10_skip 17 = .ok (.aload_n 0, 1) := by decide +kernel
theorem dX10_skip_18 : decode cX10_skip 18 = .ok (.getfield 43, 3) := by decide +kernel
theorem dX10_skip_21 : decode cX10_skip 21 = .ok (.aload_n 0, 1) := by decide +kernel
theorem dX10_skip_22 : decode cX10_skip 22 = .ok (.getfield 201, 3) := by decide +kernel
theorem dX10_skip_25 : decode cX10_skip 25 = .ok (.iaload, 1) := by decide +kernel
theorem dX10_skip_26 : decode cX10_skip 26 = .ok (.bipush 59, 2) := by decide +kernel
theorem dX10_skip_28 : decode cX10_skip 28 = .ok (.if_icmp .ne 41, 3) := by decide +kernel
theorem dX10_skip_31 : decode cX10_skip 31 = .ok (.aload_n 0, 1) := by decide +kernel
theorem dX10_skip_32 : decode cX10_skip 32 = .ok (.getfield 201, 3) := by decide +kernel
theorem dX10_skip_35 : decode cX10_skip 35 = .ok (.aload_n 0, 1) := by decide +kernel
theorem dX10_skip_36 : decode cX10_skip 36 = .ok (.getfield 204, 3) := by decide +kernel
theorem dX10_skip_39 : decode cX10_skip 39 = .ok (.if_icmp .ge (-37), 3) := by decide +kernel
theorem dX10_skip_42 : decode cX10_skip 42 = .ok (.aload_n 0, 1) := by decide +kernel
theorem dX10_skip_43 : decode cX10_skip 43 = .ok (.getfield 43, 3) := by decide +kernel
theorem dX10_skip_46 : decode cX10_skip 46 = .ok (.aload_n 0, 1) := by decide +kernel
theorem dX10_skip_47 : decode cX10_skip 47 = .ok (.getfield 201, 3) := by decide +kernel
theorem dX10_skip_50 : decode cX10_skip 50 = .ok (.iaload, 1) := by decide +kernel
theorem dX10_skip_51 : decode cX10_skip 51 = .ok (.bipush 10, 2) := by decide +kernel
theorem dX10_skip_53 : decode cX10_skip 53 = .ok (.if_icmp .eq (-51), 3) := by decide +kernel
theorem dX10_skip_56 : decode cX10_skip 56 = .ok (.aload_n 0, 1) := by decide +kernel
theorem dX10_skip_57 : decode cX10_skip 57 = .ok (.dup, 1) := by decide +kernel
theorem dX10_skip_58 : decode cX10_skip 58 = .ok (.getfield 201, 3) := by decide +kernel
theorem dX10_skip_61 : decode cX10_skip 61 = .ok (.iconst 1, 1) := by decide +kernel
theorem dX10_skip_62 : decode cX10_skip 62 = .ok (.iadd, 1) := by decide +kernel
theorem dX10_skip_63 : decode cX10_skip 63 = .ok (.putfield 201, 3) := by decide +kernel
theorem dX10_skip_66 : decode cX10_skip 66 = .ok (.goto (-35), 3) := by decide +kernel
theorem dX10_skip_69 : decode cX10_skip 69 = .ok (.aload_n 0, 1) := by decide +kernel
theorem dX10_skip_70 : decode cX10_skip 70 = .ok (.getfield 43, 3) := by decide +kernel
theorem dX10_skip_73 : decode cX10_skip 73 = .ok (.aload_n 0, 1) := by decide +kernel
theorem dX10_skip_74 : decode cX10_skip 74 = .ok (.getfield 201, 3) := by decide +kernel
theorem dX10_skip_77 : decode cX10_skip 77 = .ok (.iaload, 1) := by decide +kernel
theorem dX10_skip_78 : decode cX10_skip 78 = .ok (.bipush 32, 2) := by decide +kernel
theorem dX10_skip_80 : decode cX10_skip 80 = .ok (.if_icmp .eq 17, 3) := by decide +kernel
theorem dX10_skip_83 : decode cX10_skip 83 = .ok (.aload_n 0, 1) := by decide +kernel
theorem dX10_skip_84 : decode cX10_skip 84 = .ok (.getfield 43, 3) := by decide +kernel
theorem dX10_skip_87 : decode cX10_skip 87 = .ok (.aload_n 0, 1) := by decide +kernel
theorem dX10_skip_88 : decode cX10_skip 88 = .ok (.getfield 201, 3) := by decide +kernel
theorem dX10_skip_91 : decode cX10_skip 91 = .ok (.iaload, 1) := by decide +kernel
theorem dX10_skip_92 : decode cX10_skip 92 = .ok (.bipush 10, 2) := by decide +kernel
theorem dX10_skip_94 : decode cX10_skip 94 = .ok (.if_icmp .ne 16, 3) := by decide +kernel
theorem dX10_skip_97 : decode cX10_skip 97 = .ok (.aload_n 0, 1) := by decide +kernel
theorem dX10_skip_98 : decode cX10_skip 98 = .ok (.dup, 1) := by decide +kernel
theorem dX10_skip_99 : decode cX10_skip 99 = .ok (.getfield 201, 3) := by decide +kernel
theorem dX10_skip_102 : decode cX10_skip 102 = .ok (.iconst 1, 1) := by decide +kernel
theorem dX10_skip_103 : decode cX10_skip 103 = .ok (.iadd, 1) := by decide +kernel
theorem dX10_skip_104 : decode cX10_skip 104 = .ok (.putfield 201, 3) := by decide +kernel
theorem dX10_skip_107 : decode cX10_skip 107 = .ok (.goto (-105), 3) := by decide +kernel
theorem dX10_skip_110 : decode cX10_skip 110 = .ok (.iconst 0, 1) := by decide +kernel
theorem dX10_skip_111 : decode cX10_skip 111 = .ok (.istore_n 1, 1) := by decide +kernel
theorem dX10_skip_112 : decode cX10_skip 112 = .ok (.goto (-110), 3) := by decide +kernel
theorem dX10_skip_115 : decode cX10_skip 115 = .ok (.return_, 1) := by decide +kernel
theorem dX10_bad_0 : decode cX10_bad 0 = .ok (.aload_n 0, 1) := by decide +kernel
theorem dX10_bad_1 : decode cX10_bad 1 = .ok (.getfield 207, 3) := by decide +kernel
theorem dX10_bad_4 : decode cX10_bad 4 = .ok (.ifCond .eq 4, 3) := by decide +kernel
theorem dX10_bad_7 : decode cX10_bad 7 = .ok (.return_, 1) := by decide +kernel
theorem dX10_bad_8 : decode cX10_bad 8 = .ok (.aload_n 0, 1) := by decide +kernel
theorem dX10_bad_9 : decode cX10_bad 9 = .ok (.iload_n 1, 1) := by decide +kernel
theorem dX10_bad_10 : decode cX10_bad 10 = .ok (.putfield 207, 3) := by decide +kernel
theorem dX10_bad_13 : decode cX10_bad 13 = .ok (.aload_n 0, 1) := by decide +kernel
theorem dX10_bad_14 : decode cX10_bad 14 = .ok (.iload_n 2, 1) := by decide +kernel
theorem dX10_bad_15 : decode cX10_bad 15 = .ok (.putfield 55, 3) := by decide +kernel
theorem dX10_bad_18 : decode cX10_bad 18 = .ok (.return_, 1) := by decide +kernel
theorem dX10_mayBegin_0 : decode cX10_mayBegin 0 = .ok (.aload_n 0, 1) := by decide +kernel
theorem dX10_mayBegin_1 : decode cX10_mayBegin 1 = .ok (.getfield 210, 3) := by decide +kernel
theorem dX10_mayBegin_4 : decode cX10_mayBegin 4 = .ok (.ifCond .ne 18, 3) := by decide +kernel
theorem dX10_mayBegin_7 : decode cX10_mayBegin 7 = .ok (.aload_n 0, 1) := by decide +kernel
theorem dX10_mayBegin_8 : decode cX10_mayBegin 8 = .ok (.getfield 213, 3) := by decide +kernel
theorem dX10_mayBegin_11 : decode cX10_mayBegin 11 = .ok (.ifCond .ne 7, 3) := by decide +kernel
theorem dX10_mayBegin_14 : decode cX10_mayBegin 14 = .ok (.iconst 1, 1) := by decide +kernel
theorem dX10_mayBegin_15 : decode cX10_mayBegin 15 = .ok (.goto 42, 3) := by decide +kernel
theorem dX10_mayBegin_18 : decode cX10_mayBegin 18 = .ok (.iconst 0, 1) := by decide +kernel
theorem dX10_mayBegin_19 : decode cX10_mayBegin 19 = .ok (.goto 38, 3) := by decide +kernel
theorem dX10_mayBegin_22 : decode cX10_mayBegin 22 = .ok (.aload_n 0, 1) := by decide +kernel
theorem dX10_mayBegin_23 : decode cX10_mayBegin 23 = .ok (.getfield 59, 3) := by decide +kernel
theorem dX10_mayBegin_26 : decode cX10_mayBegin 26 = .ok (.aload_n 0, 1) := by decide +kernel
theorem dX10_mayBegin_27 : decode cX10_mayBegin 27 = .ok (.getfield 210, 3) := by decide +kernel
theorem dX10_mayBegin_30 : decode cX10_mayBegin 30 = .ok (.iconst 1, 1) := by decide +kernel
theorem dX10_mayBegin_31 : decode cX10_mayBegin 31 = .ok (.isub, 1) := by decide +kernel
theorem dX10_mayBegin_32 : decode cX10_mayBegin 32 = .ok (.iaload, 1) := by decide +kernel
theorem dX10_mayBegin_33 : decode cX10_mayBegin 33 = .ok (.iconst 1, 1) := by decide +kernel
theorem dX10_mayBegin_34 : decode cX10_mayBegin 34 = .ok (.if_icmp .eq 18, 3) := by decide +kernel
theorem dX10_mayBegin_37 : decode cX10_mayBegin 37 = .ok (.aload_n 0, 1) := by decide +kernel
theorem dX10_mayBegin_38 : decode cX10_mayBegin 38 = .ok (.getfield 65, 3) := by decide +kernel
theorem dX10_mayBegin_41 : decode cX10_mayBegin 41 = .ok (.aload_n 0, 1) := by decide +kernel
theorem dX10_mayBegin_42 : decode cX10_mayBegin 42 = .ok (.getfield 210, 3) := by decide +kernel
theorem dX10_mayBegin_45 : decode cX10_mayBegin 45 = .ok (.iconst 1, 1) := by decide +kernel
theorem dX10_mayBegin_46 : decode cX10_mayBegin 46 = .ok (.isub, 1) := by decide +kernel
theorem dX10_mayBegin_47 : decode cX10_mayBegin 47 = .ok (.iaload, 1) := by decide +kernel
theorem dX10_mayBegin_48 : decode cX10_mayBegin 48 = .ok (.iconst 2, 1) := by decide +kernel
theorem dX10_mayBegin_49 : decode cX10_mayBegin 49 = .ok (.if_icmp .ge 7, 3) := by decide +kernel
theorem dX10_mayBegin_52 : decode cX10_mayBegin 52 = .ok (.iconst 1, 1) := by decide +kernel
theorem dX10_mayBegin_53 : decode cX10_mayBegin 53 = .ok (.goto 4, 3) := by decide +kernel
theorem dX10_mayBegin_56 : decode cX10_mayBegin 56 = .ok (.iconst 0, 1) := by decide +kernel
theorem dX10_mayBegin_57 : decode cX10_mayBegin 57 = .ok (.ireturn, 1) := by decide +kernel
theorem dX10_begin_0 : decode cX10_begin 0 = .ok (.aload_n 0, 1) := by decide +kernel
theorem dX10_begin_1 : decode cX10_begin 1 = .ok (.getfield 59, 3) := by decide +kernel
theorem dX10_begin_4 : decode cX10_begin 4 = .ok (.aload_n 0, 1) := by decide +kernel
theorem dX10_begin_5 : decode cX10_begin 5 = .ok (.getfield 210, 3) := by decide +kernel
theorem dX10_begin_8 : decode cX10_begin 8 = .ok (.iload_n 1, 1) := by decide +kernel
theorem dX10_begin_9 : decode cX10_begin 9 = .ok (.iastore, 1) := by decide +kernel
theorem dX10_begin_10 : decode cX10_begin 10 = .ok (.aload_n 0, 1) := by decide +kernel
theorem dX10_begin_11 : decode cX10_begin 11 = .ok (.getfield 62, 3) := by decide +kernel
theorem dX10_begin_14 : decode cX10_begin 14 = .ok (.aload_n 0, 1) := by decide +kernel
theorem dX10_begin_15 : decode cX10_begin 15 = .ok (.getfield 210, 3) := by decide +kernel
theorem dX10_begin_18 : decode cX10_begin 18 = .ok (.aload_n 0, 1) := by decide +kernel
theorem dX10_begin_19 : decode cX10_begin 19 = .ok (.getfield 217, 3) := by decide +kernel
theorem dX10_begin_22 : decode cX10_begin 22 = .ok (.iastore, 1) := by decide +kernel
theorem dX10_begin_23 : decode cX10_begin 23 = .ok (.aload_n 0, 1) := by decide +kernel
theorem dX10_begin_24 : decode cX10_begin 24 = .ok (.getfield 65, 3) := by decide +kernel
theorem dX10_begin_27 : decode cX10_begin 27 = .ok (.aload_n 0, 1) := by decide +kernel
theorem dX10_begin_28 : decode cX10_begin 28 = .ok (.getfield 210, 3) := by decide +kernel
theorem dX10_begin_31 : decode cX10_begin 31 = .ok (.iconst 0, 1) := by decide +kernel
theorem dX10_begin_32 : decode cX10_begin 32 = .ok (.iastore, 1) := by decide +kernel
theorem dX10_begin_33 : decode cX10_begin 33 = .ok (.aload_n 0, 1) := by decide +kernel
theorem dX10_begin_34 : decode cX10_begin 34 = .ok (.dup, 1) := by decide +kernel
theorem dX10_begin_35 : decode cX10_begin 35 = .ok (.getfield 210, 3) := by decide +kernel
theorem dX10_begin_38 : decode cX10_begin 38 = .ok (.iconst 1, 1) := by decide +kernel
theorem dX10_begin_39 : decode cX10_begin 39 = .ok (.iadd, 1) := by decide +kernel
theorem dX10_begin_40 : decode cX10_begin 40 = .ok (.putfield 210, 3) := by decide +kernel
theorem dX10_begin_43 : decode cX10_begin 43 = .ok (.return_, 1) := by decide +kernel
theorem dX10_deliver_0 : decode cX10_deliver 0 = .ok (.iload_n 1, 1) := by decide +kernel
theorem dX10_deliver_1 : decode cX10_deliver 1 = .ok (.istore_n 2, 1) := by decide +kernel
theorem dX10_deliver_2 : decode cX10_deliver 2 = .ok (.aload_n 0, 1) := by decide +kernel
theorem dX10_deliver_3 : decode cX10_deliver 3 = .ok (.getfield 210, 3) := by decide +kernel
theorem dX10_deliver_6 : decode cX10_deliver 6 = .ok (.ifCond .le 38, 3) := by decide +kernel
theorem dX10_deliver_9 : decode cX10_deliver 9 = .ok (.aload_n 0, 1) := by decide +kernel
theorem dX10_deliver_10 : decode cX10_deliver 10 = .ok (.getfield 59, 3) := by decide +kernel
theorem dX10_deliver_13 : decode cX10_deliver 13 = .ok (.aload_n 0, 1) := by decide +kernel
theorem dX10_deliver_14 : decode cX10_deliver 14 = .ok (.getfield 210, 3) := by decide +kernel
theorem dX10_deliver_17 : decode cX10_deliver 17 = .ok (.iconst 1, 1) := by decide +kernel
theorem dX10_deliver_18 : decode cX10_deliver 18 = .ok (.isub, 1) := by decide +kernel
theorem dX10_deliver_19 : decode cX10_deliver 19 = .ok (.iaload, 1) := by decide +kernel
theorem dX10_deliver_20 : decode cX10_deliver 20 = .ok (.iconst 1, 1) := by decide +kernel
theorem dX10_deliver_21 : decode cX10_deliver 21 = .ok (.if_icmp .ne 23, 3) := by decide +kernel
theorem dX10_deliver_24 : decode cX10_deliver 24 = .ok (.aload_n 0, 1) := by decide +kernel
theorem dX10_deliver_25 : decode cX10_deliver 25 = .ok (.iconst 2, 1) := by decide +kernel
theorem dX10_deliver_26 : decode cX10_deliver 26 = .ok (.iload_n 2, 1) := by decide +kernel
theorem dX10_deliver_27 : decode cX10_deliver 27 = .ok (.invokevirtual 189, 3) := by decide +kernel
theorem dX10_deliver_30 : decode cX10_deliver 30 = .ok (.istore_n 2, 1) := by decide +kernel
theorem dX10_deliver_31 : decode cX10_deliver 31 = .ok (.aload_n 0, 1) := by decide +kernel
theorem dX10_deliver_32 : decode cX10_deliver 32 = .ok (.dup, 1) := by decide +kernel
theorem dX10_deliver_33 : decode cX10_deliver 33 = .ok (.getfield 210, 3) := by decide +kernel
theorem dX10_deliver_36 : decode cX10_deliver 36 = .ok (.iconst 1, 1) := by decide +kernel
theorem dX10_deliver_37 : decode cX10_deliver 37 = .ok (.isub, 1) := by decide +kernel
theorem dX10_deliver_38 : decode cX10_deliver 38 = .ok (.putfield 210, 3) := by decide +kernel
theorem dX10_deliver_41 : decode cX10_deliver 41 = .ok (.goto (-39), 3) := by decide +kernel
theorem dX10_deliver_44 : decode cX10_deliver 44 = .ok (.aload_n 0, 1) := by decide +kernel
theorem dX10_deliver_45 : decode cX10_deliver 45 = .ok (.getfield 210, 3) := by decide +kernel
theorem dX10_deliver_48 : decode cX10_deliver 48 = .ok (.ifCond .ne 16, 3) := by decide +kernel
theorem dX10_deliver_51 : decode cX10_deliver 51 = .ok (.aload_n 0, 1) := by decide +kernel
theorem dX10_deliver_52 : decode cX10_deliver 52 = .ok (.iload_n 2, 1) := by decide +kernel
theorem dX10_deliver_53 : decode cX10_deliver 53 = .ok (.putfield 220, 3) := by decide +kernel
theorem dX10_deliver_56 : decode cX10_deliver 56 = .ok (.aload_n 0, 1) := by decide +kernel
theorem dX10_deliver_57 : decode cX10_deliver 57 = .ok (.iconst 1, 1) := by decide +kernel
theorem dX10_deliver_58 : decode cX10_deliver 58 = .ok (.putfield 213, 3) := by decide +kernel
theorem dX10_deliver_61 : decode cX10_deliver 61 = .ok (.goto 65, 3) := by decide +kernel
theorem dX10_deliver_64 : decode cX10_deliver 64 = .ok (.aload_n 0, 1) := by decide +kernel
theorem dX10_deliver_65 : decode cX10_deliver 65 = .ok (.getfield 65, 3) := by decide +kernel
theorem dX10_deliver_68 : decode cX10_deliver 68 = .ok (.aload_n 0, 1) := by decide +kernel
theorem dX10_deliver_69 : decode cX10_deliver 69 = .ok (.getfield 210, 3) := by decide +kernel
theorem dX10_deliver_72 : decode cX10_deliver 72 = .ok (.iconst 1, 1) := by decide +kernel
theorem dX10_deliver_73 : decode cX10_deliver 73 = .ok (.isub, 1) := by decide +kernel
theorem dX10_deliver_74 : decode cX10_deliver 74 = .ok (.iaload, 1) := by decide +kernel
theorem dX10_deliver_75 : decode cX10_deliver 75 = .ok (.iconst 1, 1) := by decide +kernel
theorem dX10_deliver_76 : decode cX10_deliver 76 = .ok (.if_icmp .ne 30, 3) := by decide +kernel
theorem dX10_deliver_79 : decode cX10_deliver 79 = .ok (.aload_n 0, 1) := by decide +kernel
theorem dX10_deliver_80 : decode cX10_deliver 80 = .ok (.getfield 68, 3) := by decide +kernel
theorem dX10_deliver_83 : decode cX10_deliver 83 = .ok (.aload_n 0, 1) := by decide +kernel
theorem dX10_deliver_84 : decode cX10_deliver 84 = .ok (.getfield 210, 3) := by decide +kernel
theorem dX10_deliver_87 : decode cX10_deliver 87 = .ok (.iconst 1, 1) := by decide +kernel
theorem dX10_deliver_88 : decode cX10_deliver 88 = .ok (.isub, 1) := by decide +kernel
theorem dX10_deliver_89 : decode cX10_deliver 89 = .ok (.iload_n 2, 1) := by decide +kernel
theorem dX10_deliver_90 : decode cX10_deliver 90 = .ok (.iastore, 1) := by decide +kernel
theorem dX10_deliver_91 : decode cX10_deliver 91 = .ok (.aload_n 0, 1) := by decide +kernel
theorem dX10_deliver_92 : decode cX10_deliver 92 = .ok (.getfield 65, 3) := by decide +kernel
theorem dX10_deliver_95 : decode cX10_deliver 95 = .ok (.aload_n 0, 1) := by decide +kernel
theorem dX10_deliver_96 : decode cX10_deliver 96 = .ok (.getfield 210, 3) := by decide +kernel
theorem dX10_deliver_99 : decode cX10_deliver 99 = .ok (.iconst 1, 1) := by decide +kernel
theorem dX10_deliver_100 : decode cX10_deliver 100 = .ok (.isub, 1) := by decide +kernel
theorem dX10_deliver_101 : decode cX10_deliver 101 = .ok (.iconst 2, 1) := by decide +kernel
theorem dX10_deliver_102 : decode cX10_deliver 102 = .ok (.iastore, 1) := by decide +kernel
theorem dX10_deliver_103 : decode cX10_deliver 103 = .ok (.goto 23, 3) := by decide +kernel
theorem dX10_deliver_106 : decode cX10_deliver 106 = .ok (.aload_n 0, 1) := by decide +kernel
theorem dX10_deliver_107 : decode cX10_deliver 107 = .ok (.getfield 71, 3) := by decide +kernel
theorem dX10_deliver_110 : decode cX10_deliver 110 = .ok (.aload_n 0, 1) := by decide +kernel
theorem dX10_deliver_111 : decode cX10_deliver 111 = .ok (.getfield 217, 3) := by decide +kernel
theorem dX10_deliver_114 : decode cX10_deliver 114 = .ok (.iload_n 2, 1) := by decide +kernel
theorem dX10_deliver_115 : decode cX10_deliver 115 = .ok (.iastore, 1) := by decide +kernel
theorem dX10_deliver_116 : decode cX10_deliver 116 = .ok (.aload_n 0, 1) := by decide +kernel
theorem dX10_deliver_117 : decode cX10_deliver 117 = .ok (.dup, 1) := by decide +kernel
theorem dX10_deliver_118 : decode cX10_deliver 118 = .ok (.getfield 217, 3) := by decide +kernel
theorem dX10_deliver_121 : decode cX10_deliver 121 = .ok (.iconst 1, 1) := by decide +kernel
theorem dX10_deliver_122 : decode cX10_deliver 122 = .ok (.iadd, 1) := by decide +kernel
theorem dX10_deliver_123 : decode cX10_deliver 123 = .ok (.putfield 217, 3) := by decide +kernel
theorem dX10_deliver_126 : decode cX10_deliver 126 = .ok (.return_, 1) := by decide +kernel
theorem dX10_close_0 : decode cX10_close 0 = .ok (.aload_n 0, 1) := by decide +kernel
theorem dX10_close_1 : decode cX10_close 1 = .ok (.getfield 210, 3) := by decide +kernel
theorem dX10_close_4 : decode cX10_close 4 = .ok (.iconst 1, 1) := by decide +kernel
theorem dX10_close_5 : decode cX10_close 5 = .ok (.isub, 1) := by decide +kernel
theorem dX10_close_6 : decode cX10_close 6 = .ok (.istore_n 1, 1) := by decide +kernel
theorem dX10_close_7 : decode cX10_close 7 = .ok (.aload_n 0, 1) := by decide +kernel
theorem dX10_close_8 : decode cX10_close 8 = .ok (.getfield 65, 3) := by decide +kernel
theorem dX10_close_11 : decode cX10_close 11 = .ok (.iload_n 1, 1) := by decide +kernel
theorem dX10_close_12 : decode cX10_close 12 = .ok (.iaload, 1) := by decide +kernel
theorem dX10_close_13 : decode cX10_close 13 = .ok (.iconst 2, 1) := by decide +kernel
theorem dX10_close_14 : decode cX10_close 14 = .ok (.if_icmp .ne 12, 3) := by decide +kernel
theorem dX10_close_17 : decode cX10_close 17 = .ok (.aload_n 0, 1) := by decide +kernel
theorem dX10_close_18 : decode cX10_close 18 = .ok (.getfield 68, 3) := by decide +kernel
theorem dX10_close_21 : decode cX10_close 21 = .ok (.iload_n 1, 1) := by decide +kernel
theorem dX10_close_22 : decode cX10_close 22 = .ok (.iaload, 1) := by decide +kernel
theorem dX10_close_23 : decode cX10_close 23 = .ok (.goto 4, 3) := by decide +kernel
theorem dX10_close_26 : decode cX10_close 26 = .ok (.iconst 0, 1) := by decide +kernel
theorem dX10_close_27 : decode cX10_close 27 = .ok (.istore_n 2, 1) := by decide +kernel
theorem dX10_close_28 : decode cX10_close 28 = .ok (.aload_n 0, 1) := by decide +kernel
theorem dX10_close_29 : decode cX10_close 29 = .ok (.getfield 217, 3) := by decide +kernel
theorem dX10_close_32 : decode cX10_close 32 = .ok (.aload_n 0, 1) := by decide +kernel
theorem dX10_close_33 : decode cX10_close 33 = .ok (.getfield 62, 3) := by decide +kernel
theorem dX10_close_36 : decode cX10_close 36 = .ok (.iload_n 1, 1) := by decide +kernel
theorem dX10_close_37 : decode cX10_close 37 = .ok (.iaload, 1) := by decide +kernel
theorem dX10_close_38 : decode cX10_close 38 = .ok (.if_icmp .le 31, 3) := by decide +kernel
theorem dX10_close_41 : decode cX10_close 41 = .ok (.aload_n 0, 1) := by decide +kernel
theorem dX10_close_42 : decode cX10_close 42 = .ok (.dup, 1) := by decide +kernel
theorem dX10_close_43 : decode cX10_close 43 = .ok (.getfield 217, 3) := by decide +kernel
theorem dX10_close_46 : decode cX10_close 46 = .ok (.iconst 1, 1) := by decide +kernel
theorem dX10_close_47 : decode cX10_close 47 = .ok (.isub, 1) := by decide +kernel
theorem dX10_close_48 : decode cX10_close 48 = .ok (.putfield 217, 3) := by decide +kernel
theorem dX10_close_51 : decode cX10_close 51 = .ok (.aload_n 0, 1) := by decide +kernel
theorem dX10_close_52 : decode cX10_close 52 = .ok (.aload_n 0, 1) := by decide +kernel
theorem dX10_close_53 : decode cX10_close 53 = .ok (.getfield 71, 3) := by decide +kernel
theorem dX10_close_56 : decode cX10_close 56 = .ok (.aload_n 0, 1) := by decide +kernel
theorem dX10_close_57 : decode cX10_close 57 = .ok (.getfield 217, 3) := by decide +kernel
theorem dX10_close_60 : decode cX10_close 60 = .ok (.iaload, 1) := by decide +kernel
theorem dX10_close_61 : decode cX10_close 61 = .ok (.iload_n 2, 1) := by decide +kernel
theorem dX10_close_62 : decode cX10_close 62 = .ok (.invokevirtual 183, 3) := by decide +kernel
theorem dX10_close_65 : decode cX10_close 65 = .ok (.istore_n 2, 1) := by decide +kernel
theorem dX10_close_66 : decode cX10_close 66 = .ok (.goto (-38), 3) := by decide +kernel
theorem dX10_close_69 : decode cX10_close 69 = .ok (.aload_n 0, 1) := by decide +kernel
theorem dX10_close_70 : decode cX10_close 70 = .ok (.dup, 1) := by decide +kernel
theorem dX10_close_71 : decode cX10_close 71 = .ok (.getfield 210, 3) := by decide +kernel
theorem dX10_close_74 : decode cX10_close 74 = .ok (.iconst 1, 1) := by decide +kernel
theorem dX10_close_75 : decode cX10_close 75 = .ok (.isub, 1) := by decide +kernel
theorem dX10_close_76 : decode cX10_close 76 = .ok (.putfield 210, 3) := by decide +kernel
theorem dX10_close_79 : decode cX10_close 79 = .ok (.aload_n 0, 1) := by decide +kernel
theorem dX10_close_80 : decode cX10_close 80 = .ok (.iload_n 2, 1) := by decide +kernel
theorem dX10_close_81 : decode cX10_close 81 = .ok (.invokevirtual 223, 3) := by decide +kernel
theorem dX10_close_84 : decode cX10_close 84 = .ok (.return_, 1) := by decide +kernel
theorem dX10_atom_0 : decode cX10_atom 0 = .ok (.iconst 1, 1) := by decide +kernel
theorem dX10_atom_1 : decode cX10_atom 1 = .ok (.istore_n 3, 1) := by decide +kernel
theorem dX10_atom_2 : decode cX10_atom 2 = .ok (.iload_n 1, 1) := by decide +kernel
theorem dX10_atom_3 : decode cX10_atom 3 = .ok (.istore 4, 2) := by decide +kernel
theorem dX10_atom_5 : decode cX10_atom 5 = .ok (.iload 4, 2) := by decide +kernel
theorem dX10_atom_7 : decode cX10_atom 7 = .ok (.iload_n 2, 1) := by decide +kernel
theorem dX10_atom_8 : decode cX10_atom 8 = .ok (.if_icmp .ge 32, 3) := by decide +kernel
theorem dX10_atom_11 : decode cX10_atom 11 = .ok (.iload_n 3, 1) := by decide +kernel
theorem dX10_atom_12 : decode cX10_atom 12 = .ok (.ifCond .eq 20, 3) := by decide +kernel
theorem dX10_atom_15 : decode cX10_atom 15 = .ok (.aload_n 0, 1) := by decide +kernel
theorem dX10_atom_16 : decode cX10_atom 16 = .ok (.getfield 43, 3) := by decide +kernel
theorem dX10_atom_19 : decode cX10_atom 19 = .ok (.iload 4, 2) := by decide +kernel
theorem dX10_atom_21 : decode cX10_atom 21 = .ok (.iaload, 1) := by decide +kernel
theorem dX10_atom_22 : decode cX10_atom 22 = .ok (.invokestatic 198, 3) := by decide +kernel
theorem dX10_atom_25 : decode cX10_atom 25 = .ok (.ifCond .eq 7, 3) := by decide +kernel
theorem dX10_atom_28 : decode cX10_atom 28 = .ok (.iconst 1, 1) := by decide +kernel
theorem dX10_atom_29 : decode cX10_atom 29 = .ok (.goto 4, 3) := by decide +kernel
theorem dX10_atom_32 : decode cX10_atom 32 = .ok (.iconst 0, 1) := by decide +kernel
theorem dX10_atom_33 : decode cX10_atom 33 = .ok (.istore_n 3, 1) := by decide +kernel
theorem dX10_atom_34 : decode cX10_atom 34 = .ok (.iinc 4 1, 3) := by decide +kernel
theorem dX10_atom_37 : decode cX10_atom 37 = .ok (.goto (-32), 3) := by decide +kernel
theorem dX10_atom_40 : decode cX10_atom 40 = .ok (.iload_n 3, 1) := by decide +kernel
theorem dX10_atom_41 : decode cX10_atom 41 = .ok (.ifCond .eq 76, 3) := by decide +kernel
theorem dX10_atom_44 : decode cX10_atom 44 = .ok (.lconst 0, 1) := by decide +kernel
theorem dX10_atom_45 : decode cX10_atom 45 = .ok (.lstore 4, 2) := by decide +kernel
theorem dX10_atom_47 : decode cX10_atom 47 = .ok (.iload_n 1, 1) := by decide +kernel
theorem dX10_atom_48 : decode cX10_atom 48 = .ok (.istore 6, 2) := by decide +kernel
theorem dX10_atom_50 : decode cX10_atom 50 = .ok (.iload 6, 2) := by decide +kernel
theorem dX10_atom_52 : decode cX10_atom 52 = .ok (.iload_n 2, 1) := by decide +kernel
theorem dX10_atom_53 : decode cX10_atom 53 = .ok (.if_icmp .ge 57, 3) := by decide +kernel
theorem dX10_atom_56 : decode cX10_atom 56 = .ok (.lload 4, 2) := by decide +kernel
theorem dX10_atom_58 : decode cX10_atom 58 = .ok (.ldc2_w 226, 3) := by decide +kernel
theorem dX10_atom_61 : decode cX10_atom 61 = .ok (.aload_n 0, 1) := by decide +kernel
theorem dX10_atom_62 : decode cX10_atom 62 = .ok (.getfield 43, 3) := by decide +kernel
theorem dX10_atom_65 : decode cX10_atom 65 = .ok (.iload 6, 2) := by decide +kernel
theorem dX10_atom_67 : decode cX10_atom 67 = .ok (.iaload, 1) := by decide +kernel
theorem dX10_atom_68 : decode cX10_atom 68 = .ok (.bipush 48, 2) := by decide +kernel
theorem dX10_atom_70 : decode cX10_atom 70 = .ok (.isub, 1) := by decide +kernel
theorem dX10_atom_71 : decode cX10_atom 71 = .ok (.i2l, 1) := by decide +kernel
theorem dX10_atom_72 : decode cX10_atom 72 = .ok (.lsub, 1) := by decide +kernel
theorem dX10_atom_73 : decode cX10_atom 73 = .ok (.ldc2_w 228, 3) := by decide +kernel
theorem dX10_atom_76 : decode cX10_atom 76 = .ok (.ldiv, 1) := by decide +kernel
theorem dX10_atom_77 : decode cX10_atom 77 = .ok (.lcmp, 1) := by decide +kernel
theorem dX10_atom_78 : decode cX10_atom 78 = .ok (.ifCond .le 5, 3) := by decide +kernel
theorem dX10_atom_81 : decode cX10_atom 81 = .ok (.iconst (-1), 1) := by decide +kernel
theorem dX10_atom_82 : decode cX10_atom 82 = .ok (.ireturn, 1) := by decide +kernel
theorem dX10_atom_83 : decode cX10_atom 83 = .ok (.ldc2_w 228, 3) := by decide +kernel
theorem dX10_atom_86 : decode cX10_atom 86 = .ok (.lload 4, 2) := by decide +kernel
theorem dX10_atom_88 : decode cX10_atom 88 = .ok (.lmul, 1) := by decide +kernel
theorem dX10_atom_89 : decode cX10_atom 89 = .ok (.aload_n 0, 1) := by decide +kernel
theorem dX10_atom_90 : decode cX10_atom 90 = .ok (.getfield 43, 3) := by decide +kernel
theorem dX10_atom_93 : decode cX10_atom 93 = .ok (.iload 6, 2) := by decide +kernel
theorem dX10_atom_95 : decode cX10_atom 95 = .ok (.iaload, 1) := by decide +kernel
theorem dX10_atom_96 : decode cX10_atom 96 = .ok (.i2l, 1) := by decide +kernel
theorem dX10_atom_97 : decode cX10_atom 97 = .ok (.ladd, 1) := by decide +kernel
theorem dX10_atom_98 : decode cX10_atom 98 = .ok (.ldc2_w 230, 3) := by decide +kernel
theorem dX10_atom_101 : decode cX10_atom 101 = .ok (.lsub, 1) := by decide +kernel
theorem dX10_atom_102 : decode cX10_atom 102 = .ok (.lstore 4, 2) := by decide +kernel
theorem dX10_atom_104 : decode cX10_atom 104 = .ok (.iinc 6 1, 3) := by decide +kernel
theorem dX10_atom_107 : decode cX10_atom 107 = .ok (.goto (-57), 3) := by decide +kernel
theorem dX10_atom_110 : decode cX10_atom 110 = .ok (.aload_n 0, 1) := by decide +kernel
theorem dX10_atom_111 : decode cX10_atom 111 = .ok (.lload 4, 2) := by decide +kernel
theorem dX10_atom_113 : decode cX10_atom 113 = .ok (.invokevirtual 232, 3) := by decide +kernel
theorem dX10_atom_116 : decode cX10_atom 116 = .ok (.ireturn, 1) := by decide +kernel
theorem dX10_atom_117 : decode cX10_atom 117 = .ok (.iload_n 2, 1) := by decide +kernel
theorem dX10_atom_118 : decode cX10_atom 118 = .ok (.iload_n 1, 1) := by decide +kernel
theorem dX10_atom_119 : decode cX10_atom 119 = .ok (.isub, 1) := by decide +kernel
theorem dX10_atom_120 : decode cX10_atom 120 = .ok (.bipush 11, 2) := by decide +kernel
theorem dX10_atom_122 : decode cX10_atom 122 = .ok (.if_icmp .le 5, 3) := by decide +kernel
theorem dX10_atom_125 : decode cX10_atom 125 = .ok (.iconst (-1), 1) := by decide +kernel
theorem dX10_atom_126 : decode cX10_atom 126 = .ok (.ireturn, 1) := by decide +kernel
theorem dX10_atom_127 : decode cX10_atom 127 = .ok (.aload_n 0, 1) := by decide +kernel
theorem dX10_atom_128 : decode cX10_atom 128 = .ok (.iconst 0, 1) := by decide +kernel
theorem dX10_atom_129 : decode cX10_atom 129 = .ok (.putfield 145, 3) := by decide +kernel
theorem dX10_atom_132 : decode cX10_atom 132 = .ok (.iload_n 1, 1) := by decide +kernel
theorem dX10_atom_133 : decode cX10_atom 133 = .ok (.istore 4, 2) := by decide +kernel
theorem dX10_atom_135 : decode cX10_atom 135 = .ok (.iload 4, 2) := by decide +kernel
theorem dX10_atom_137 : decode cX10_atom 137 = .ok (.iload_n 2, 1) := by decide +kernel
theorem dX10_atom_138 : decode cX10_atom 138 = .ok (.if_icmp .ge 20, 3) := by decide +kernel
theorem dX10_atom_141 : decode cX10_atom 141 = .ok (.aload_n 0, 1) := by decide +kernel
theorem dX10_atom_142 : decode cX10_atom 142 = .ok (.aload_n 0, 1) := by decide +kernel
theorem dX10_atom_143 : decode cX10_atom 143 = .ok (.getfield 43, 3) := by decide +kernel
theorem dX10_atom_146 : decode cX10_atom 146 = .ok (.iload 4, 2) := by decide +kernel
theorem dX10_atom_148 : decode cX10_atom 148 = .ok (.iaload, 1) := by decide +kernel
theorem dX10_atom_149 : decode cX10_atom 149 = .ok (.invokevirtual 148, 3) := by decide +kernel
theorem dX10_atom_152 : decode cX10_atom 152 = .ok (.iinc 4 1, 3) := by decide +kernel
theorem dX10_atom_155 : decode cX10_atom 155 = .ok (.goto (-20), 3) := by decide +kernel
theorem dX10_atom_158 : decode cX10_atom 158 = .ok (.aload_n 0, 1) := by decide +kernel
theorem dX10_atom_159 : decode cX10_atom 159 = .ok (.invokevirtual 152, 3) := by decide +kernel
theorem dX10_atom_162 : decode cX10_atom 162 = .ok (.ireturn, 1) := by decide +kernel
theorem dX10_isInList_0 : decode cX10_isInList 0 = .ok (.aload_n 0, 1) := by decide +kernel
theorem dX10_isInList_1 : decode cX10_isInList 1 = .ok (.getfield 210, 3) := by decide +kernel
theorem dX10_isInList_4 : decode cX10_isInList 4 = .ok (.ifCond .le 21, 3) := by decide +kernel
theorem dX10_isInList_7 : decode cX10_isInList 7 = .ok (.aload_n 0, 1) := by decide +kernel
theorem dX10_isInList_8 : decode cX10_isInList 8 = .ok (.getfield 59, 3) := by decide +kernel
theorem dX10_isInList_11 : decode cX10_isInList 11 = .ok (.aload_n 0, 1) := by decide +kernel
theorem dX10_isInList_12 : decode cX10_isInList 12 = .ok (.getfield 210, 3) := by decide +kernel
theorem dX10_isInList_15 : decode cX10_isInList 15 = .ok (.iconst 1, 1) := by decide +kernel
theorem dX10_isInList_16 : decode cX10_isInList 16 = .ok (.isub, 1) := by decide +kernel
theorem dX10_isInList_17 : decode cX10_isInList 17 = .ok (.iaload, 1) := by decide +kernel
theorem dX10_isInList_18 : decode cX10_isInList 18 = .ok (.ifCond .ne 7, 3) := by decide +kernel
theorem dX10_isInList_21 : decode cX10_isInList 21 = .ok (.iconst 1, 1) := by decide +kernel
theorem dX10_isInList_22 : decode cX10_isInList 22 = .ok (.goto 4, 3) := by decide +kernel
theorem dX10_isInList_25 : decode cX10_isInList 25 = .ok (.iconst 0, 1) := by decide +kernel
theorem dX10_isInList_26 : decode cX10_isInList 26 = .ok (.ireturn, 1) := by decide +kernel
theorem dX10_readWord_0 : decode cX10_readWord 0 = .ok (.aload_n 0, 1) := by decide +kernel
theorem dX10_readWord_1 : decode cX10_readWord 1 = .ok (.getfield 201, 3) := by decide +kernel
theorem dX10_readWord_4 : decode cX10_readWord 4 = .ok (.istore_n 2, 1) := by decide +kernel
theorem dX10_readWord_5 : decode cX10_readWord 5 = .ok (.aload_n 0, 1) := by decide +kernel
theorem dX10_readWord_6 : decode cX10_readWord 6 = .ok (.getfield 43, 3) := by decide +kernel
theorem dX10_readWord_9 : decode cX10_readWord 9 = .ok (.aload_n 0, 1) := by decide +kernel
theorem dX10_readWord_10 : decode cX10_readWord 10 = .ok (.getfield 201, 3) := by decide +kernel
theorem dX10_readWord_13 : decode cX10_readWord 13 = .ok (.iaload, 1) := by decide +kernel
theorem dX10_readWord_14 : decode cX10_readWord 14 = .ok (.istore_n 3, 1) := by decide +kernel
theorem dX10_readWord_15 : decode cX10_readWord 15 = .ok (.iload_n 1, 1) := by decide +kernel
theorem dX10_readWord_16 : decode cX10_readWord 16 = .ok (.sipush 1000, 3) := by decide +kernel
theorem dX10_readWord_19 : decode cX10_readWord 19 = .ok (.if_icmp .le 7, 3) := by decide +kernel
theorem dX10_readWord_22 : decode cX10_readWord 22 = .ok (.iconst 1, 1) := by decide +kernel
theorem dX10_readWord_23 : decode cX10_readWord 23 = .ok (.goto 4, 3) := by decide +kernel
theorem dX10_readWord_26 : decode cX10_readWord 26 = .ok (.iconst 0, 1) := by decide +kernel
theorem dX10_readWord_27 : decode cX10_readWord 27 = .ok (.istore 4, 2) := by decide +kernel
theorem dX10_readWord_29 : decode cX10_readWord 29 = .ok (.aload_n 0, 1) := by decide +kernel
theorem dX10_readWord_30 : decode cX10_readWord 30 = .ok (.dup, 1) := by decide +kernel
theorem dX10_readWord_31 : decode cX10_readWord 31 = .ok (.getfield 201, 3) := by decide +kernel
theorem dX10_readWord_34 : decode cX10_readWord 34 = .ok (.iconst 1, 1) := by decide +kernel
theorem dX10_readWord_35 : decode cX10_readWord 35 = .ok (.iadd, 1) := by decide +kernel
theorem dX10_readWord_36 : decode cX10_readWord 36 = .ok (.putfield 201, 3) := by decide +kernel
theorem dX10_readWord_39 : decode cX10_readWord 39 = .ok (.iload_n 3, 1) := by decide +kernel
theorem dX10_readWord_40 : decode cX10_readWord 40 = .ok (.bipush 40, 2) := by decide +kernel
theorem dX10_readWord_42 : decode cX10_readWord 42 = .ok (.if_icmp .eq 9, 3) := by decide +kernel
theorem dX10_readWord_45 : decode cX10_readWord 45 = .ok (.iload_n 3, 1) := by decide +kernel
theorem dX10_readWord_46 : decode cX10_readWord 46 = .ok (.bipush 39, 2) := by decide +kernel
theorem dX10_readWord_48 : decode cX10_readWord 48 = .ok (.if_icmp .ne 69, 3) := by decide +kernel
theorem dX10_readWord_51 : decode cX10_readWord 51 = .ok (.aload_n 0, 1) := by decide +kernel
theorem dX10_readWord_52 : decode cX10_readWord 52 = .ok (.invokevirtual 236, 3) := by decide +kernel
theorem dX10_readWord_55 : decode cX10_readWord 55 = .ok (.ifCond .ne 12, 3) := by decide +kernel
theorem dX10_readWord_58 : decode cX10_readWord 58 = .ok (.aload_n 0, 1) := by decide +kernel
theorem dX10_readWord_59 : decode cX10_readWord 59 = .ok (.iconst 3, 1) := by decide +kernel
theorem dX10_readWord_60 : decode cX10_readWord 60 = .ok (.iload_n 2, 1) := by decide +kernel
theorem dX10_readWord_61 : decode cX10_readWord 61 = .ok (.invokevirtual 240, 3) := by decide +kernel
theorem dX10_readWord_64 : decode cX10_readWord 64 = .ok (.goto 311, 3) := by decide +kernel
theorem dX10_readWord_67 : decode cX10_readWord 67 = .ok (.aload_n 0, 1) := by decide +kernel
theorem dX10_readWord_68 : decode cX10_readWord 68 = .ok (.getfield 210, 3) := by decide +kernel
theorem dX10_readWord_71 : decode cX10_readWord 71 = .ok (.bipush 40, 2) := by decide +kernel
theorem dX10_readWord_73 : decode cX10_readWord 73 = .ok (.if_icmp .ne 12, 3) := by decide +kernel
theorem dX10_readWord_76 : decode cX10_readWord 76 = .ok (.aload_n 0, 1) := by decide +kernel
theorem dX10_readWord_77 : decode cX10_readWord 77 = .ok (.iconst 4, 1) := by decide +kernel
theorem dX10_readWord_78 : decode cX10_readWord 78 = .ok (.iload_n 2, 1) := by decide +kernel
theorem dX10_readWord_79 : decode cX10_readWord 79 = .ok (.invokevirtual 240, 3) := by decide +kernel
theorem dX10_readWord_82 : decode cX10_readWord 82 = .ok (.goto 293, 3) := by decide +kernel
theorem dX10_readWord_85 : decode cX10_readWord 85 = .ok (.iload 4, 2) := by decide +kernel
theorem dX10_readWord_87 : decode cX10_readWord 87 = .ok (.ifCond .eq 12, 3) := by decide +kernel
theorem dX10_readWord_90 : decode cX10_readWord 90 = .ok (.aload_n 0, 1) := by decide +kernel
theorem dX10_readWord_91 : decode cX10_readWord 91 = .ok (.iconst 5, 1) := by decide +kernel
theorem dX10_readWord_92 : decode cX10_readWord 92 = .ok (.iload_n 2, 1) := by decide +kernel
theorem dX10_readWord_93 : decode cX10_readWord 93 = .ok (.invokevirtual 240, 3) := by decide +kernel
theorem dX10_readWord_96 : decode cX10_readWord 96 = .ok (.goto 279, 3) := by decide +kernel
theorem dX10_readWord_99 : decode cX10_readWord 99 = .ok (.aload_n 0, 1) := by decide +kernel
theorem dX10_readWord_100 : decode cX10_readWord 100 = .ok (.iload_n 3, 1) := by decide +kernel
theorem dX10_readWord_101 : decode cX10_readWord 101 = .ok (.bipush 40, 2) := by decide +kernel
theorem dX10_readWord_103 : decode cX10_readWord 103 = .ok (.if_icmp .ne 7, 3) := by decide +kernel
theorem dX10_readWord_106 : decode cX10_readWord 106 = .ok (.iconst 0, 1) := by decide +kernel
theorem dX10_readWord_107 : decode cX10_readWord 107 = .ok (.goto 4, 3) := by decide +kernel
theorem dX10_readWord_110 : decode cX10_readWord 110 = .ok (.iconst 1, 1) := by decide +kernel
theorem dX10_readWord_111 : decode cX10_readWord 111 = .ok (.invokevirtual 244, 3) := by decide +kernel
theorem dX10_readWord_114 : decode cX10_readWord 114 = .ok (.goto 261, 3) := by decide +kernel
theorem dX10_readWord_117 : decode cX10_readWord 117 = .ok (.iload_n 3, 1) := by decide +kernel
theorem dX10_readWord_118 : decode cX10_readWord 118 = .ok (.bipush 41, 2) := by decide +kernel
theorem dX10_readWord_120 : decode cX10_readWord 120 = .ok (.if_icmp .ne 55, 3) := by decide +kernel
theorem dX10_readWord_123 : decode cX10_readWord 123 = .ok (.aload_n 0, 1) := by decide +kernel
theorem dX10_readWord_124 : decode cX10_readWord 124 = .ok (.invokevirtual 247, 3) := by decide +kernel
theorem dX10_readWord_127 : decode cX10_readWord 127 = .ok (.ifCond .eq 18, 3) := by decide +kernel
theorem dX10_readWord_130 : decode cX10_readWord 130 = .ok (.aload_n 0, 1) := by decide +kernel
theorem dX10_readWord_131 : decode cX10_readWord 131 = .ok (.getfield 65, 3) := by decide +kernel
theorem dX10_readWord_134 : decode cX10_readWord 134 = .ok (.aload_n 0, 1) := by decide +kernel
theorem dX10_readWord_135 : decode cX10_readWord 135 = .ok (.getfield 210, 3) := by decide +kernel
theorem dX10_readWord_138 : decode cX10_readWord 138 = .ok (.iconst 1, 1) := by decide +kernel
theorem dX10_readWord_139 : decode cX10_readWord 139 = .ok (.isub, 1) := by decide +kernel
theorem dX10_readWord_140 : decode cX10_readWord 140 = .ok (.iaload, 1) := by decide +kernel
theorem dX10_readWord_141 : decode cX10_readWord 141 = .ok (.iconst 1, 1) := by decide +kernel
theorem dX10_readWord_142 : decode cX10_readWord 142 = .ok (.if_icmp .ne 12, 3) := by decide +kernel
theorem dX10_readWord_145 : decode cX10_readWord 145 = .ok (.aload_n 0, 1) := by decide +kernel
theorem dX10_readWord_146 : decode cX10_readWord 146 = .ok (.iconst 3, 1) := by decide +kernel
theorem dX10_readWord_147 : decode cX10_readWord 147 = .ok (.iload_n 2, 1) := by decide +kernel
theorem dX10_readWord_148 : decode cX10_readWord 148 = .ok (.invokevirtual 240, 3) := by decide +kernel
theorem dX10_readWord_151 : decode cX10_readWord 151 = .ok (.goto 224, 3) := by decide +kernel
theorem dX10_readWord_154 : decode cX10_readWord 154 = .ok (.iload 4, 2) := by decide +kernel
theorem dX10_readWord_156 : decode cX10_readWord 156 = .ok (.ifCond .eq 12, 3) := by decide +kernel
theorem dX10_readWord_159 : decode cX10_readWord 159 = .ok (.aload_n 0, 1) := by decide +kernel
theorem dX10_readWord_160 : decode cX10_readWord 160 = .ok (.iconst 5, 1) := by decide +kernel
theorem dX10_readWord_161 : decode cX10_readWord 161 = .ok (.iload_n 2, 1) := by decide +kernel
theorem dX10_readWord_162 : decode cX10_readWord 162 = .ok (.invokevirtual 240, 3) := by decide +kernel
theorem dX10_readWord_165 : decode cX10_readWord 165 = .ok (.goto 210, 3) := by decide +kernel
theorem dX10_readWord_168 : decode cX10_readWord 168 = .ok (.aload_n 0, 1) := by decide +kernel
theorem dX10_readWord_169 : decode cX10_readWord 169 = .ok (.invokevirtual 250, 3) := by decide +kernel
theorem dX10_readWord_172 : decode cX10_readWord 172 = .ok (.goto 203, 3) := by decide +kernel
theorem dX10_readWord_175 : decode cX10_readWord 175 = .ok (.iload_n 3, 1) := by decide +kernel
theorem dX10_readWord_176 : decode cX10_readWord 176 = .ok (.bipush 46, 2) := by decide +kernel
theorem dX10_readWord_178 : decode cX10_readWord 178 = .ok (.if_icmp .ne 80, 3) := by decide +kernel
theorem dX10_readWord_181 : decode cX10_readWord 181 = .ok (.aload_n 0, 1) := by decide +kernel
theorem dX10_readWord_182 : decode cX10_readWord 182 = .ok (.invokevirtual 247, 3) := by decide +kernel
theorem dX10_readWord_185 : decode cX10_readWord 185 = .ok (.ifCond .eq 35, 3) := by decide +kernel
theorem dX10_readWord_188 : decode cX10_readWord 188 = .ok (.aload_n 0, 1) := by decide +kernel
theorem dX10_readWord_189 : decode cX10_readWord 189 = .ok (.getfield 65, 3) := by decide +kernel
theorem dX10_readWord_192 : decode cX10_readWord 192 = .ok (.aload_n 0, 1) := by decide +kernel
theorem dX10_readWord_193 : decode cX10_readWord 193 = .ok (.getfield 210, 3) := by decide +kernel
theorem dX10_readWord_196 : decode cX10_readWord 196 = .ok (.iconst 1, 1) := by decide +kernel
theorem dX10_readWord_197 : decode cX10_readWord 197 = .ok (.isub, 1) := by decide +kernel
theorem dX10_readWord_198 : decode cX10_readWord 198 = .ok (.iaload, 1) := by decide +kernel
theorem dX10_readWord_199 : decode cX10_readWord 199 = .ok (.ifCond .ne 21, 3) := by decide +kernel
theorem dX10_readWord_202 : decode cX10_readWord 202 = .ok (.aload_n 0, 1) := by decide +kernel
theorem dX10_readWord_203 : decode cX10_readWord 203 = .ok (.getfield 217, 3) := by decide +kernel
theorem dX10_readWord_206 : decode cX10_readWord 206 = .ok (.aload_n 0, 1) := by decide +kernel
theorem dX10_readWord_207 : decode cX10_readWord 207 = .ok (.getfield 62, 3) := by decide +kernel
theorem dX10_readWord_210 : decode cX10_readWord 210 = .ok (.aload_n 0, 1) := by decide +kernel
theorem dX10_readWord_211 : decode cX10_readWord 211 = .ok (.getfield 210, 3) := by decide +kernel
theorem dX10_readWord_214 : decode cX10_readWord 214 = .ok (.iconst 1, 1) := by decide +kernel
theorem dX10_readWord_215 : decode cX10_readWord 215 = .ok (.isub, 1) := by decide +kernel
theorem dX10_readWord_216 : decode cX10_readWord 216 = .ok (.iaload, 1) := by decide +kernel
theorem dX10_readWord_217 : decode cX10_readWord 217 = .ok (.if_icmp .ne 12, 3) := by decide +kernel
theorem dX10_readWord_220 : decode cX10_readWord 220 = .ok (.aload_n 0, 1) := by decide +kernel
theorem dX10_readWord_221 : decode cX10_readWord 221 = .ok (.iconst 3, 1) := by decide +kernel
theorem dX10_readWord_222 : decode cX10_readWord 222 = .ok (.iload_n 2, 1) := by decide +kernel
theorem dX10_readWord_223 : decode cX10_readWord 223 = .ok (.invokevirtual 240, 3) := by decide +kernel
theorem dX10_readWord_226 : decode cX10_readWord 226 = .ok (.goto 149, 3) := by decide +kernel
theorem dX10_readWord_229 : decode cX10_readWord 229 = .ok (.iload 4, 2) := by decide +kernel
theorem dX10_readWord_231 : decode cX10_readWord 231 = .ok (.ifCond .eq 12, 3) := by decide +kernel
theorem dX10_readWord_234 : decode cX10_readWord 234 = .ok (.aload_n 0, 1) := by decide +kernel
theorem dX10_readWord_235 : decode cX10_readWord 235 = .ok (.iconst 5, 1) := by decide +kernel
theorem dX10_readWord_236 : decode cX10_readWord 236 = .ok (.iload_n 2, 1) := by decide +kernel
theorem dX10_readWord_237 : decode cX10_readWord 237 = .ok (.invokevirtual 240, 3) := by decide +kernel
theorem dX10_readWord_240 : decode cX10_readWord 240 = .ok (.goto 135, 3) := by decide +kernel
theorem dX10_readWord_243 : decode cX10_readWord 243 = .ok (.aload_n 0, 1) := by decide +kernel
theorem dX10_readWord_244 : decode cX10_readWord 244 = .ok (.getfield 65, 3) := by decide +kernel
theorem dX10_readWord_247 : decode cX10_readWord 247 = .ok (.aload_n 0, 1) := by decide +kernel
theorem dX10_readWord_248 : decode cX10_readWord 248 = .ok (.getfield 210, 3) := by decide +kernel
theorem dX10_readWord_251 : decode cX10_readWord 251 = .ok (.iconst 1, 1) := by decide +kernel
theorem dX10_readWord_252 : decode cX10_readWord 252 = .ok (.isub, 1) := by decide +kernel
theorem dX10_readWord_253 : decode cX10_readWord 253 = .ok (.iconst 1, 1) := by decide +kernel
theorem dX10_readWord_254 : decode cX10_readWord 254 = .ok (.iastore, 1) := by decide +kernel
theorem dX10_readWord_255 : decode cX10_readWord 255 = .ok (.goto 120, 3) := by decide +kernel
theorem dX10_readWord_258 : decode cX10_readWord 258 = .ok (.iload_n 3, 1) := by decide +kernel
theorem dX10_readWord_259 : decode cX10_readWord 259 = .ok (.invokestatic 253, 3) := by decide +kernel
theorem dX10_readWord_262 : decode cX10_readWord 262 = .ok (.ifCond .ne 12, 3) := by decide +kernel
theorem dX10_readWord_265 : decode cX10_readWord 265 = .ok (.aload_n 0, 1) := by decide +kernel
theorem dX10_readWord_266 : decode cX10_readWord 266 = .ok (.iconst 1, 1) := by decide +kernel
theorem dX10_readWord_267 : decode cX10_readWord 267 = .ok (.iload_n 2, 1) := by decide +kernel
theorem dX10_readWord_268 : decode cX10_readWord 268 = .ok (.invokevirtual 240, 3) := by decide +kernel
theorem dX10_readWord_271 : decode cX10_readWord 271 = .ok (.goto 104, 3) := by decide +kernel
theorem dX10_readWord_274 : decode cX10_readWord 274 = .ok (.aload_n 0, 1) := by decide +kernel
theorem dX10_readWord_275 : decode cX10_readWord 275 = .ok (.getfield 201, 3) := by decide +kernel
theorem dX10_readWord_278 : decode cX10_readWord 278 = .ok (.aload_n 0, 1) := by decide +kernel
theorem dX10_readWord_279 : decode cX10_readWord 279 = .ok (.getfield 204, 3) := by decide +kernel
theorem dX10_readWord_282 : decode cX10_readWord 282 = .ok (.if_icmp .ge 31, 3) := by decide +kernel
theorem dX10_readWord_285 : decode cX10_readWord 285 = .ok (.aload_n 0, 1) := by decide +kernel
theorem dX10_readWord_286 : decode cX10_readWord 286 = .ok (.getfield 43, 3) := by decide +kernel
theorem dX10_readWord_289 : decode cX10_readWord 289 = .ok (.aload_n 0, 1) := by decide +kernel
theorem dX10_readWord_290 : decode cX10_readWord 290 = .ok (.getfield 201, 3) := by decide +kernel
theorem dX10_readWord_293 : decode cX10_readWord 293 = .ok (.iaload, 1) := by decide +kernel
theorem dX10_readWord_294 : decode cX10_readWord 294 = .ok (.invokestatic 253, 3) := by decide +kernel
theorem dX10_readWord_297 : decode cX10_readWord 297 = .ok (.ifCond .eq 16, 3) := by decide +kernel
theorem dX10_readWord_300 : decode cX10_readWord 300 = .ok (.aload_n 0, 1) := by decide +kernel
theorem dX10_readWord_301 : decode cX10_readWord 301 = .ok (.dup, 1) := by decide +kernel
theorem dX10_readWord_302 : decode cX10_readWord 302 = .ok (.getfield 201, 3) := by decide +kernel
theorem dX10_readWord_305 : decode cX10_readWord 305 = .ok (.iconst 1, 1) := by decide +kernel
theorem dX10_readWord_306 : decode cX10_readWord 306 = .ok (.iadd, 1) := by decide +kernel
theorem dX10_readWord_307 : decode cX10_readWord 307 = .ok (.putfield 201, 3) := by decide +kernel
theorem dX10_readWord_310 : decode cX10_readWord 310 = .ok (.goto (-36), 3) := by decide +kernel
theorem dX10_readWord_313 : decode cX10_readWord 313 = .ok (.aload_n 0, 1) := by decide +kernel
theorem dX10_readWord_314 : decode cX10_readWord 314 = .ok (.iload_n 2, 1) := by decide +kernel
theorem dX10_readWord_315 : decode cX10_readWord 315 = .ok (.aload_n 0, 1) := by decide +kernel
theorem dX10_readWord_316 : decode cX10_readWord 316 = .ok (.getfield 201, 3) := by decide +kernel
theorem dX10_readWord_319 : decode cX10_readWord 319 = .ok (.invokevirtual 256, 3) := by decide +kernel
theorem dX10_readWord_322 : decode cX10_readWord 322 = .ok (.istore 5, 2) := by decide +kernel
theorem dX10_readWord_324 : decode cX10_readWord 324 = .ok (.iload 5, 2) := by decide +kernel
theorem dX10_readWord_326 : decode cX10_readWord 326 = .ok (.iconst (-1), 1) := by decide +kernel
theorem dX10_readWord_327 : decode cX10_readWord 327 = .ok (.if_icmp .ne 12, 3) := by decide +kernel
theorem dX10_readWord_330 : decode cX10_readWord 330 = .ok (.aload_n 0, 1) := by decide +kernel
theorem dX10_readWord_331 : decode cX10_readWord 331 = .ok (.iconst 2, 1) := by decide +kernel
theorem dX10_readWord_332 : decode cX10_readWord 332 = .ok (.iload_n 2, 1) := by decide +kernel
theorem dX10_readWord_333 : decode cX10_readWord 333 = .ok (.invokevirtual 240, 3) := by decide +kernel
theorem dX10_readWord_336 : decode cX10_readWord 336 = .ok (.goto 39, 3) := by decide +kernel
theorem dX10_readWord_339 : decode cX10_readWord 339 = .ok (.aload_n 0, 1) := by decide +kernel
theorem dX10_readWord_340 : decode cX10_readWord 340 = .ok (.invokevirtual 236, 3) := by decide +kernel
theorem dX10_readWord_343 : decode cX10_readWord 343 = .ok (.ifCond .ne 12, 3) := by decide +kernel
theorem dX10_readWord_346 : decode cX10_readWord 346 = .ok (.aload_n 0, 1) := by decide +kernel
theorem dX10_readWord_347 : decode cX10_readWord 347 = .ok (.iconst 3, 1) := by decide +kernel
theorem dX10_readWord_348 : decode cX10_readWord 348 = .ok (.iload_n 2, 1) := by decide +kernel
theorem dX10_readWord_349 : decode cX10_readWord 349 = .ok (.invokevirtual 240, 3) := by decide +kernel
theorem dX10_readWord_352 : decode cX10_readWord 352 = .ok (.goto 23, 3) := by decide +kernel
theorem dX10_readWord_355 : decode cX10_readWord 355 = .ok (.iload 4, 2) := by decide +kernel
theorem dX10_readWord_357 : decode cX10_readWord 357 = .ok (.ifCond .eq 12, 3) := by decide +kernel
theorem dX10_readWord_360 : decode cX10_readWord 360 = .ok (.aload_n 0, 1) := by decide +kernel
theorem dX10_readWord_361 : decode cX10_readWord 361 = .ok (.iconst 5, 1) := by decide +kernel
theorem dX10_readWord_362 : decode cX10_readWord 362 = .ok (.iload_n 2, 1) := by decide +kernel
theorem dX10_readWord_363 : decode cX10_readWord 363 = .ok (.invokevirtual 240, 3) := by decide +kernel
theorem dX10_readWord_366 : decode cX10_readWord 366 = .ok (.goto 9, 3) := by decide +kernel
theorem dX10_readWord_369 : decode cX10_readWord 369 = .ok (.aload_n 0, 1) := by decide +kernel
theorem dX10_readWord_370 : decode cX10_readWord 370 = .ok (.iload 5, 2) := by decide +kernel
theorem dX10_readWord_372 : decode cX10_readWord 372 = .ok (.invokevirtual 223, 3) := by decide +kernel
theorem dX10_readWord_375 : decode cX10_readWord 375 = .ok (.return_, 1) := by decide +kernel
theorem dX10_reads_0 : decode cX10_reads 0 = .ok (.aload_n 0, 1) := by decide +kernel
theorem dX10_reads_1 : decode cX10_reads 1 = .ok (.iconst 0, 1) := by decide +kernel
theorem dX10_reads_2 : decode cX10_reads 2 = .ok (.putfield 201, 3) := by decide +kernel
theorem dX10_reads_5 : decode cX10_reads 5 = .ok (.aload_n 0, 1) := by decide +kernel
theorem dX10_reads_6 : decode cX10_reads 6 = .ok (.iconst 0, 1) := by decide +kernel
theorem dX10_reads_7 : decode cX10_reads 7 = .ok (.putfield 210, 3) := by decide +kernel
theorem dX10_reads_10 : decode cX10_reads 10 = .ok (.aload_n 0, 1) := by decide +kernel
theorem dX10_reads_11 : decode cX10_reads 11 = .ok (.iconst 0, 1) := by decide +kernel
theorem dX10_reads_12 : decode cX10_reads 12 = .ok (.putfield 217, 3) := by decide +kernel
theorem dX10_reads_15 : decode cX10_reads 15 = .ok (.aload_n 0, 1) := by decide +kernel
theorem dX10_reads_16 : decode cX10_reads 16 = .ok (.iconst 0, 1) := by decide +kernel
theorem dX10_reads_17 : decode cX10_reads 17 = .ok (.putfield 213, 3) := by decide +kernel
theorem dX10_reads_20 : decode cX10_reads 20 = .ok (.aload_n 0, 1) := by decide +kernel
theorem dX10_reads_21 : decode cX10_reads 21 = .ok (.iconst 0, 1) := by decide +kernel
theorem dX10_reads_22 : decode cX10_reads 22 = .ok (.putfield 207, 3) := by decide +kernel
theorem dX10_reads_25 : decode cX10_reads 25 = .ok (.aload_n 0, 1) := by decide +kernel
theorem dX10_reads_26 : decode cX10_reads 26 = .ok (.iconst (-1), 1) := by decide +kernel
theorem dX10_reads_27 : decode cX10_reads 27 = .ok (.putfield 55, 3) := by decide +kernel
theorem dX10_reads_30 : decode cX10_reads 30 = .ok (.iconst 0, 1) := by decide +kernel
theorem dX10_reads_31 : decode cX10_reads 31 = .ok (.istore_n 1, 1) := by decide +kernel
theorem dX10_reads_32 : decode cX10_reads 32 = .ok (.aload_n 0, 1) := by decide +kernel
theorem dX10_reads_33 : decode cX10_reads 33 = .ok (.invokevirtual 259, 3) := by decide +kernel
theorem dX10_reads_36 : decode cX10_reads 36 = .ok (.aload_n 0, 1) := by decide +kernel
theorem dX10_reads_37 : decode cX10_reads 37 = .ok (.getfield 207, 3) := by decide +kernel
theorem dX10_reads_40 : decode cX10_reads 40 = .ok (.ifCond .ne 29, 3) := by decide +kernel
theorem dX10_reads_43 : decode cX10_reads 43 = .ok (.aload_n 0, 1) := by decide +kernel
theorem dX10_reads_44 : decode cX10_reads 44 = .ok (.getfield 201, 3) := by decide +kernel
theorem dX10_reads_47 : decode cX10_reads 47 = .ok (.aload_n 0, 1) := by decide +kernel
theorem dX10_reads_48 : decode cX10_reads 48 = .ok (.getfield 204, 3) := by decide +kernel
theorem dX10_reads_51 : decode cX10_reads 51 = .ok (.if_icmp .ge 18, 3) := by decide +kernel
theorem dX10_reads_54 : decode cX10_reads 54 = .ok (.iinc 1 1, 3) := by decide +kernel
theorem dX10_reads_57 : decode cX10_reads 57 = .ok (.aload_n 0, 1) := by decide +kernel
theorem dX10_reads_58 : decode cX10_reads 58 = .ok (.iload_n 1, 1) := by decide +kernel
theorem dX10_reads_59 : decode cX10_reads 59 = .ok (.invokevirtual 262, 3) := by decide +kernel
theorem dX10_reads_62 : decode cX10_reads 62 = .ok (.aload_n 0, 1) := by decide +kernel
theorem dX10_reads_63 : decode cX10_reads 63 = .ok (.invokevirtual 259, 3) := by decide +kernel
theorem dX10_reads_66 : decode cX10_reads 66 = .ok (.goto (-30), 3) := by decide +kernel
theorem dX10_reads_69 : decode cX10_reads 69 = .ok (.aload_n 0, 1) := by decide +kernel
theorem dX10_reads_70 : decode cX10_reads 70 = .ok (.getfield 207, 3) := by decide +kernel
theorem dX10_reads_73 : decode cX10_reads 73 = .ok (.ifCond .ne 19, 3) := by decide +kernel
theorem dX10_reads_76 : decode cX10_reads 76 = .ok (.aload_n 0, 1) := by decide +kernel
theorem dX10_reads_77 : decode cX10_reads 77 = .ok (.getfield 213, 3) := by decide +kernel
theorem dX10_reads_80 : decode cX10_reads 80 = .ok (.ifCond .ne 12, 3) := by decide +kernel
theorem dX10_reads_83 : decode cX10_reads 83 = .ok (.aload_n 0, 1) := by decide +kernel
theorem dX10_reads_84 : decode cX10_reads 84 = .ok (.iconst 3, 1) := by decide +kernel
theorem dX10_reads_85 : decode cX10_reads 85 = .ok (.aload_n 0, 1) := by decide +kernel
theorem dX10_reads_86 : decode cX10_reads 86 = .ok (.getfield 204, 3) := by decide +kernel
theorem dX10_reads_89 : decode cX10_reads 89 = .ok (.invokevirtual 240, 3) := by decide +kernel
theorem dX10_reads_92 : decode cX10_reads 92 = .ok (.aload_n 0, 1) := by decide +kernel
theorem dX10_reads_93 : decode cX10_reads 93 = .ok (.iconst 0, 1) := by decide +kernel
theorem dX10_reads_94 : decode cX10_reads 94 = .ok (.putfield 204, 3) := by decide +kernel
theorem dX10_reads_97 : decode cX10_reads 97 = .ok (.aload_n 0, 1) := by decide +kernel
theorem dX10_reads_98 : decode cX10_reads 98 = .ok (.getfield 207, 3) := by decide +kernel
theorem dX10_reads_101 : decode cX10_reads 101 = .ok (.ifCond .ne 7, 3) := by decide +kernel
theorem dX10_reads_104 : decode cX10_reads 104 = .ok (.iconst 1, 1) := by decide +kernel
theorem dX10_reads_105 : decode cX10_reads 105 = .ok (.goto 4, 3) := by decide +kernel
theorem dX10_reads_108 : decode cX10_reads 108 = .ok (.iconst 0, 1) := by decide +kernel
theorem dX10_reads_109 : decode cX10_reads 109 = .ok (.ireturn, 1) := by decide +kernel
theorem dX10_tellLetter_0 : decode cX10_tellLetter 0 = .ok (.aload_n 0, 1) := by decide +kernel
theorem dX10_tellLetter_1 : decode cX10_tellLetter 1 = .ok (.getfield 265, 3) := by decide +kernel
theorem dX10_tellLetter_4 : decode cX10_tellLetter 4 = .ok (.sipush 2000, 3) := by decide +kernel
theorem dX10_tellLetter_7 : decode cX10_tellLetter 7 = .ok (.if_icmp .ge 23, 3) := by decide +kernel
theorem dX10_tellLetter_10 : decode cX10_tellLetter 10 = .ok (.aload_n 0, 1) := by decide +kernel
theorem dX10_tellLetter_11 : decode cX10_tellLetter 11 = .ok (.getfield 46, 3) := by decide +kernel
theorem dX10_tellLetter_14 : decode cX10_tellLetter 14 = .ok (.aload_n 0, 1) := by decide +kernel
theorem dX10_tellLetter_15 : decode cX10_tellLetter 15 = .ok (.getfield 265, 3) := by decide +kernel
theorem dX10_tellLetter_18 : decode cX10_tellLetter 18 = .ok (.iload_n 1, 1) := by decide +kernel
theorem dX10_tellLetter_19 : decode cX10_tellLetter 19 = .ok (.iastore, 1) := by decide +kernel
theorem dX10_tellLetter_20 : decode cX10_tellLetter 20 = .ok (.aload_n 0, 1) := by decide +kernel
theorem dX10_tellLetter_21 : decode cX10_tellLetter 21 = .ok (.dup, 1) := by decide +kernel
theorem dX10_tellLetter_22 : decode cX10_tellLetter 22 = .ok (.getfield 265, 3) := by decide +kernel
theorem dX10_tellLetter_25 : decode cX10_tellLetter 25 = .ok (.iconst 1, 1) := by decide +kernel
theorem dX10_tellLetter_26 : decode cX10_tellLetter 26 = .ok (.iadd, 1) := by decide +kernel
theorem dX10_tellLetter_27 : decode cX10_tellLetter 27 = .ok (.putfield 265, 3) := by decide +kernel
theorem dX10_tellLetter_30 : decode cX10_tellLetter 30 = .ok (.return_, 1) := by decide +kernel
theorem dX10_isFull_0 : decode cX10_isFull 0 = .ok (.aload_n 0, 1) := by decide +kernel
theorem dX10_isFull_1 : decode cX10_isFull 1 = .ok (.getfield 265, 3) := by decide +kernel
theorem dX10_isFull_4 : decode cX10_isFull 4 = .ok (.sipush 2000, 3) := by decide +kernel
theorem dX10_isFull_7 : decode cX10_isFull 7 = .ok (.if_icmp .ne 7, 3) := by decide +kernel
theorem dX10_isFull_10 : decode cX10_isFull 10 = .ok (.iconst 1, 1) := by decide +kernel
theorem dX10_isFull_11 : decode cX10_isFull 11 = .ok (.goto 4, 3) := by decide +kernel
theorem dX10_isFull_14 : decode cX10_isFull 14 = .ok (.iconst 0, 1) := by decide +kernel
theorem dX10_isFull_15 : decode cX10_isFull 15 = .ok (.ireturn, 1) := by decide +kernel
theorem dX10_tellAtom_0 : decode cX10_tellAtom 0 = .ok (.aload_n 0, 1) := by decide +kernel
theorem dX10_tellAtom_1 : decode cX10_tellAtom 1 = .ok (.iload_n 1, 1) := by decide +kernel
theorem dX10_tellAtom_2 : decode cX10_tellAtom 2 = .ok (.invokevirtual 268, 3) := by decide +kernel
theorem dX10_tellAtom_5 : decode cX10_tellAtom 5 = .ok (.ifCond .eq 47, 3) := by decide +kernel
theorem dX10_tellAtom_8 : decode cX10_tellAtom 8 = .ok (.iconst 0, 1) := by decide +kernel
theorem dX10_tellAtom_9 : decode cX10_tellAtom 9 = .ok (.istore_n 2, 1) := by decide +kernel
theorem dX10_tellAtom_10 : decode cX10_tellAtom 10 = .ok (.iload_n 2, 1) := by decide +kernel
theorem dX10_tellAtom_11 : decode cX10_tellAtom 11 = .ok (.aload_n 0, 1) := by decide +kernel
theorem dX10_tellAtom_12 : decode cX10_tellAtom 12 = .ok (.getfield 37, 3) := by decide +kernel
theorem dX10_tellAtom_15 : decode cX10_tellAtom 15 = .ok (.aload_n 0, 1) := by decide +kernel
theorem dX10_tellAtom_16 : decode cX10_tellAtom 16 = .ok (.getfield 14, 3) := by decide +kernel
theorem dX10_tellAtom_19 : decode cX10_tellAtom 19 = .ok (.iload_n 1, 1) := by decide +kernel
theorem dX10_tellAtom_20 : decode cX10_tellAtom 20 = .ok (.iaload, 1) := by decide +kernel
theorem dX10_tellAtom_21 : decode cX10_tellAtom 21 = .ok (.iaload, 1) := by decide +kernel
theorem dX10_tellAtom_22 : decode cX10_tellAtom 22 = .ok (.if_icmp .ge 29, 3) := by decide +kernel
theorem dX10_tellAtom_25 : decode cX10_tellAtom 25 = .ok (.aload_n 0, 1) := by decide +kernel
theorem dX10_tellAtom_26 : decode cX10_tellAtom 26 = .ok (.aload_n 0, 1) := by decide +kernel
theorem dX10_tellAtom_27 : decode cX10_tellAtom 27 = .ok (.getfield 34, 3) := by decide +kernel
theorem dX10_tellAtom_30 : decode cX10_tellAtom 30 = .ok (.bipush 12, 2) := by decide +kernel
theorem dX10_tellAtom_32 : decode cX10_tellAtom 32 = .ok (.aload_n 0, 1) := by decide +kernel
theorem dX10_tellAtom_33 : decode cX10_tellAtom 33 = .ok (.getfield 14, 3) := by decide +kernel
theorem dX10_tellAtom_36 : decode cX10_tellAtom 36 = .ok (.iload_n 1, 1) := by decide +kernel
theorem dX10_tellAtom_37 : decode cX10_tellAtom 37 = .ok (.iaload, 1) := by decide +kernel
theorem dX10_tellAtom_38 : decode cX10_tellAtom 38 = .ok (.imul, 1) := by decide +kernel
theorem dX10_tellAtom_39 : decode cX10_tellAtom 39 = .ok (.iload_n 2, 1) := by decide +kernel
theorem dX10_tellAtom_40 : decode cX10_tellAtom 40 = .ok (.iadd, 1) := by decide +kernel
theorem dX10_tellAtom_41 : decode cX10_tellAtom 41 = .ok (.iaload, 1) := by decide +kernel
theorem dX10_tellAtom_42 : decode cX10_tellAtom 42 = .ok (.invokevirtual 271, 3) := by decide +kernel
theorem dX10_tellAtom_45 : decode cX10_tellAtom 45 = .ok (.iinc 2 1, 3) := by decide +kernel
theorem dX10_tellAtom_48 : decode cX10_tellAtom 48 = .ok (.goto (-38), 3) := by decide +kernel
theorem dX10_tellAtom_51 : decode cX10_tellAtom 51 = .ok (.return_, 1) := by decide +kernel
theorem dX10_tellAtom_52 : decode cX10_tellAtom 52 = .ok (.lconst 1, 1) := by decide +kernel
theorem dX10_tellAtom_53 : decode cX10_tellAtom 53 = .ok (.lstore_n 2, 1) := by decide +kernel
theorem dX10_tellAtom_54 : decode cX10_tellAtom 54 = .ok (.aload_n 0, 1) := by decide +kernel
theorem dX10_tellAtom_55 : decode cX10_tellAtom 55 = .ok (.getfield 26, 3) := by decide +kernel
theorem dX10_tellAtom_58 : decode cX10_tellAtom 58 = .ok (.iload_n 1, 1) := by decide +kernel
theorem dX10_tellAtom_59 : decode cX10_tellAtom 59 = .ok (.laload, 1) := by decide +kernel
theorem dX10_tellAtom_60 : decode cX10_tellAtom 60 = .ok (.lload_n 2, 1) := by decide +kernel
theorem dX10_tellAtom_61 : decode cX10_tellAtom 61 = .ok (.ldiv, 1) := by decide +kernel
theorem dX10_tellAtom_62 : decode cX10_tellAtom 62 = .ok (.ldc2_w 228, 3) := by decide +kernel
theorem dX10_tellAtom_65 : decode cX10_tellAtom 65 = .ok (.lcmp, 1) := by decide +kernel
theorem dX10_tellAtom_66 : decode cX10_tellAtom 66 = .ok (.ifCond .lt 12, 3) := by decide +kernel
theorem dX10_tellAtom_69 : decode cX10_tellAtom 69 = .ok (.ldc2_w 228, 3) := by decide +kernel
theorem dX10_tellAtom_72 : decode cX10_tellAtom 72 = .ok (.lload_n 2, 1) := by decide +kernel
theorem dX10_tellAtom_73 : decode cX10_tellAtom 73 = .ok (.lmul, 1) := by decide +kernel
theorem dX10_tellAtom_74 : decode cX10_tellAtom 74 = .ok (.lstore_n 2, 1) := by decide +kernel
theorem dX10_tellAtom_75 : decode cX10_tellAtom 75 = .ok (.goto (-21), 3) := by decide +kernel
theorem dX10_tellAtom_78 : decode cX10_tellAtom 78 = .ok (.lload_n 2, 1) := by decide +kernel
theorem dX10_tellAtom_79 : decode cX10_tellAtom 79 = .ok (.lconst 0, 1) := by decide +kernel
theorem dX10_tellAtom_80 : decode cX10_tellAtom 80 = .ok (.lcmp, 1) := by decide +kernel
theorem dX10_tellAtom_81 : decode cX10_tellAtom 81 = .ok (.ifCond .le 32, 3) := by decide +kernel
theorem dX10_tellAtom_84 : decode cX10_tellAtom 84 = .ok (.aload_n 0, 1) := by decide +kernel
theorem dX10_tellAtom_85 : decode cX10_tellAtom 85 = .ok (.bipush 48, 2) := by decide +kernel
theorem dX10_tellAtom_87 : decode cX10_tellAtom 87 = .ok (.aload_n 0, 1) := by decide +kernel
theorem dX10_tellAtom_88 : decode cX10_tellAtom 88 = .ok (.getfield 26, 3) := by decide +kernel
theorem dX10_tellAtom_91 : decode cX10_tellAtom 91 = .ok (.iload_n 1, 1) := by decide +kernel
theorem dX10_tellAtom_92 : decode cX10_tellAtom 92 = .ok (.laload, 1) := by decide +kernel
theorem dX10_tellAtom_93 : decode cX10_tellAtom 93 = .ok (.lload_n 2, 1) := by decide +kernel
theorem dX10_tellAtom_94 : decode cX10_tellAtom 94 = .ok (.ldiv, 1) := by decide +kernel
theorem dX10_tellAtom_95 : decode cX10_tellAtom 95 = .ok (.ldc2_w 228, 3) := by decide +kernel
theorem dX10_tellAtom_98 : decode cX10_tellAtom 98 = .ok (.lrem, 1) := by decide +kernel
theorem dX10_tellAtom_99 : decode cX10_tellAtom 99 = .ok (.l2i, 1) := by decide +kernel
theorem dX10_tellAtom_100 : decode cX10_tellAtom 100 = .ok (.iadd, 1) := by decide +kernel
theorem dX10_tellAtom_101 : decode cX10_tellAtom 101 = .ok (.invokevirtual 271, 3) := by decide +kernel
theorem dX10_tellAtom_104 : decode cX10_tellAtom 104 = .ok (.lload_n 2, 1) := by decide +kernel
theorem dX10_tellAtom_105 : decode cX10_tellAtom 105 = .ok (.ldc2_w 228, 3) := by decide +kernel
theorem dX10_tellAtom_108 : decode cX10_tellAtom 108 = .ok (.ldiv, 1) := by decide +kernel
theorem dX10_tellAtom_109 : decode cX10_tellAtom 109 = .ok (.lstore_n 2, 1) := by decide +kernel
theorem dX10_tellAtom_110 : decode cX10_tellAtom 110 = .ok (.goto (-32), 3) := by decide +kernel
theorem dX10_tellAtom_113 : decode cX10_tellAtom 113 = .ok (.return_, 1) := by decide +kernel
theorem dX10_isQuoted_0 : decode cX10_isQuoted 0 = .ok (.aload_n 0, 1) := by decide +kernel
theorem dX10_isQuoted_1 : decode cX10_isQuoted 1 = .ok (.iload_n 1, 1) := by decide +kernel
theorem dX10_isQuoted_2 : decode cX10_isQuoted 2 = .ok (.invokevirtual 195, 3) := by decide +kernel
theorem dX10_isQuoted_5 : decode cX10_isQuoted 5 = .ok (.ifCond .eq 44, 3) := by decide +kernel
theorem dX10_isQuoted_8 : decode cX10_isQuoted 8 = .ok (.aload_n 0, 1) := by decide +kernel
theorem dX10_isQuoted_9 : decode cX10_isQuoted 9 = .ok (.getfield 8, 3) := by decide +kernel
theorem dX10_isQuoted_12 : decode cX10_isQuoted 12 = .ok (.iload_n 1, 1) := by decide +kernel
theorem dX10_isQuoted_13 : decode cX10_isQuoted 13 = .ok (.iaload, 1) := by decide +kernel
theorem dX10_isQuoted_14 : decode cX10_isQuoted 14 = .ok (.iconst 2, 1) := by decide +kernel
theorem dX10_isQuoted_15 : decode cX10_isQuoted 15 = .ok (.if_icmp .ne 34, 3) := by decide +kernel
theorem dX10_isQuoted_18 : decode cX10_isQuoted 18 = .ok (.aload_n 0, 1) := by decide +kernel
theorem dX10_isQuoted_19 : decode cX10_isQuoted 19 = .ok (.aload_n 0, 1) := by decide +kernel
theorem dX10_isQuoted_20 : decode cX10_isQuoted 20 = .ok (.getfield 14, 3) := by decide +kernel
theorem dX10_isQuoted_23 : decode cX10_isQuoted 23 = .ok (.iload_n 1, 1) := by decide +kernel
theorem dX10_isQuoted_24 : decode cX10_isQuoted 24 = .ok (.iaload, 1) := by decide +kernel
theorem dX10_isQuoted_25 : decode cX10_isQuoted 25 = .ok (.invokevirtual 195, 3) := by decide +kernel
theorem dX10_isQuoted_28 : decode cX10_isQuoted 28 = .ok (.ifCond .eq 21, 3) := by decide +kernel
theorem dX10_isQuoted_31 : decode cX10_isQuoted 31 = .ok (.aload_n 0, 1) := by decide +kernel
theorem dX10_isQuoted_32 : decode cX10_isQuoted 32 = .ok (.getfield 14, 3) := by decide +kernel
theorem dX10_isQuoted_35 : decode cX10_isQuoted 35 = .ok (.aload_n 0, 1) := by decide +kernel
theorem dX10_isQuoted_36 : decode cX10_isQuoted 36 = .ok (.getfield 14, 3) := by decide +kernel
theorem dX10_isQuoted_39 : decode cX10_isQuoted 39 = .ok (.iload_n 1, 1) := by decide +kernel
theorem dX10_isQuoted_40 : decode cX10_isQuoted 40 = .ok (.iaload, 1) := by decide +kernel
theorem dX10_isQuoted_41 : decode cX10_isQuoted 41 = .ok (.iaload, 1) := by decide +kernel
theorem dX10_isQuoted_42 : decode cX10_isQuoted 42 = .ok (.ifCond .ne 7, 3) := by decide +kernel
theorem dX10_isQuoted_45 : decode cX10_isQuoted 45 = .ok (.iconst 1, 1) := by decide +kernel
theorem dX10_isQuoted_46 : decode cX10_isQuoted 46 = .ok (.goto 4, 3) := by decide +kernel
theorem dX10_isQuoted_49 : decode cX10_isQuoted 49 = .ok (.iconst 0, 1) := by decide +kernel
theorem dX10_isQuoted_50 : decode cX10_isQuoted 50 = .ok (.ireturn, 1) := by decide +kernel
theorem dX10_later_0 : decode cX10_later 0 = .ok (.aload_n 0, 1) := by decide +kernel
theorem dX10_later_1 : decode cX10_later 1 = .ok (.getfield 52, 3) := by decide +kernel
theorem dX10_later_4 : decode cX10_later 4 = .ok (.aload_n 0, 1) := by decide +kernel
theorem dX10_later_5 : decode cX10_later 5 = .ok (.getfield 274, 3) := by decide +kernel
theorem dX10_later_8 : decode cX10_later 8 = .ok (.iload_n 1, 1) := by decide +kernel
theorem dX10_later_9 : decode cX10_later 9 = .ok (.iastore, 1) := by decide +kernel
theorem dX10_later_10 : decode cX10_later 10 = .ok (.aload_n 0, 1) := by decide +kernel
theorem dX10_later_11 : decode cX10_later 11 = .ok (.dup, 1) := by decide +kernel
theorem dX10_later_12 : decode cX10_later 12 = .ok (.getfield 274, 3) := by decide +kernel
theorem dX10_later_15 : decode cX10_later 15 = .ok (.iconst 1, 1) := by decide +kernel
theorem dX10_later_16 : decode cX10_later 16 = .ok (.iadd, 1) := by decide +kernel
theorem dX10_later_17 : decode cX10_later 17 = .ok (.putfield 274, 3) := by decide +kernel
theorem dX10_later_20 : decode cX10_later 20 = .ok (.return_, 1) := by decide +kernel
theorem dX10_tellObject_0 : decode cX10_tellObject 0 = .ok (.aload_n 0, 1) := by decide +kernel
theorem dX10_tellObject_1 : decode cX10_tellObject 1 = .ok (.iconst 0, 1) := by decide +kernel
theorem dX10_tellObject_2 : decode cX10_tellObject 2 = .ok (.putfield 274, 3) := by decide +kernel
theorem dX10_tellObject_5 : decode cX10_tellObject 5 = .ok (.aload_n 0, 1) := by decide +kernel
theorem dX10_tellObject_6 : decode cX10_tellObject 6 = .ok (.iconst 2, 1) := by decide +kernel
theorem dX10_tellObject_7 : decode cX10_tellObject 7 = .ok (.iload_n 1, 1) := by decide +kernel
theorem dX10_tellObject_8 : decode cX10_tellObject 8 = .ok (.imul, 1) := by decide +kernel
theorem dX10_tellObject_9 : decode cX10_tellObject 9 = .ok (.invokevirtual 277, 3) := by decide +kernel
theorem dX10_tellObject_12 : decode cX10_tellObject 12 = .ok (.aload_n 0, 1) := by decide +kernel
theorem dX10_tellObject_13 : decode cX10_tellObject 13 = .ok (.getfield 274, 3) := by decide +kernel
theorem dX10_tellObject_16 : decode cX10_tellObject 16 = .ok (.ifCond .le 213, 3) := by decide +kernel
theorem dX10_tellObject_19 : decode cX10_tellObject 19 = .ok (.aload_n 0, 1) := by decide +kernel
theorem dX10_tellObject_20 : decode cX10_tellObject 20 = .ok (.invokevirtual 280, 3) := by decide +kernel
theorem dX10_tellObject_23 : decode cX10_tellObject 23 = .ok (.ifCond .ne 206, 3) := by decide +kernel
theorem dX10_tellObject_26 : decode cX10_tellObject 26 = .ok (.aload_n 0, 1) := by decide +kernel
theorem dX10_tellObject_27 : decode cX10_tellObject 27 = .ok (.dup, 1) := by decide +kernel
theorem dX10_tellObject_28 : decode cX10_tellObject 28 = .ok (.getfield 274, 3) := by decide +kernel
theorem dX10_tellObject_31 : decode cX10_tellObject 31 = .ok (.iconst 1, 1) := by decide +kernel
theorem dX10_tellObject_32 : decode cX10_tellObject 32 = .ok (.isub, 1) := by decide +kernel
theorem dX10_tellObject_33 : decode cX10_tellObject 33 = .ok (.putfield 274, 3) := by decide +kernel
theorem dX10_tellObject_36 : decode cX10_tellObject 36 = .ok (.aload_n 0, 1) := by decide +kernel
theorem dX10_tellObject_37 : decode cX10_tellObject 37 = .ok (.getfield 52, 3) := by decide +kernel
theorem dX10_tellObject_40 : decode cX10_tellObject 40 = .ok (.aload_n 0, 1) := by decide +kernel
theorem dX10_tellObject_41 : decode cX10_tellObject 41 = .ok (.getfield 274, 3) := by decide +kernel
theorem dX10_tellObject_44 : decode cX10_tellObject 44 = .ok (.iaload, 1) := by decide +kernel
theorem dX10_tellObject_45 : decode cX10_tellObject 45 = .ok (.istore_n 2, 1) := by decide +kernel
theorem dX10_tellObject_46 : decode cX10_tellObject 46 = .ok (.iload_n 2, 1) := by decide +kernel
theorem dX10_tellObject_47 : decode cX10_tellObject 47 = .ok (.iconst 2, 1) := by decide +kernel
theorem dX10_tellObject_48 : decode cX10_tellObject 48 = .ok (.idiv, 1) := by decide +kernel
theorem dX10_tellObject_49 : decode cX10_tellObject 49 = .ok (.istore_n 3, 1) := by decide +kernel
theorem dX10_tellObject_50 : decode cX10_tellObject 50 = .ok (.iload_n 2, 1) := by decide +kernel
theorem dX10_tellObject_51 : decode cX10_tellObject 51 = .ok (.iconst 2, 1) := by decide +kernel
theorem dX10_tellObject_52 : decode cX10_tellObject 52 = .ok (.irem, 1) := by decide +kernel
theorem dX10_tellObject_53 : decode cX10_tellObject 53 = .ok (.ifCond .ne 88, 3) := by decide +kernel
theorem dX10_tellObject_56 : decode cX10_tellObject 56 = .ok (.aload_n 0, 1) := by decide +kernel
theorem dX10_tellObject_57 : decode cX10_tellObject 57 = .ok (.iload_n 3, 1) := by decide +kernel
theorem dX10_tellObject_58 : decode cX10_tellObject 58 = .ok (.invokevirtual 195, 3) := by decide +kernel
theorem dX10_tellObject_61 : decode cX10_tellObject 61 = .ok (.ifCond .ne 11, 3) := by decide +kernel
theorem dX10_tellObject_64 : decode cX10_tellObject 64 = .ok (.aload_n 0, 1) := by decide +kernel
theorem dX10_tellObject_65 : decode cX10_tellObject 65 = .ok (.iload_n 3, 1) := by decide +kernel
theorem dX10_tellObject_66 : decode cX10_tellObject 66 = .ok (.invokevirtual 283, 3) := by decide +kernel
theorem dX10_tellObject_69 : decode cX10_tellObject 69 = .ok (.goto 157, 3) := by decide +kernel
theorem dX10_tellObject_72 : decode cX10_tellObject 72 = .ok (.aload_n 0, 1) := by decide +kernel
theorem dX10_tellObject_73 : decode cX10_tellObject 73 = .ok (.iload_n 3, 1) := by decide +kernel
theorem dX10_tellObject_74 : decode cX10_tellObject 74 = .ok (.invokevirtual 286, 3) := by decide +kernel
theorem dX10_tellObject_77 : decode cX10_tellObject 77 = .ok (.ifCond .eq 29, 3) := by decide +kernel
theorem dX10_tellObject_80 : decode cX10_tellObject 80 = .ok (.aload_n 0, 1) := by decide +kernel
theorem dX10_tellObject_81 : decode cX10_tellObject 81 = .ok (.bipush 39, 2) := by decide +kernel
theorem dX10_tellObject_83 : decode cX10_tellObject 83 = .ok (.invokevirtual 271, 3) := by decide +kernel
theorem dX10_tellObject_86 : decode cX10_tellObject 86 = .ok (.aload_n 0, 1) := by decide +kernel
theorem dX10_tellObject_87 : decode cX10_tellObject 87 = .ok (.iconst 2, 1) := by decide +kernel
theorem dX10_tellObject_88 : decode cX10_tellObject 88 = .ok (.aload_n 0, 1) := by decide +kernel
theorem dX10_tellObject_89 : decode cX10_tellObject 89 = .ok (.getfield 8, 3) := by decide +kernel
theorem dX10_tellObject_92 : decode cX10_tellObject 92 = .ok (.aload_n 0, 1) := by decide +kernel
theorem dX10_tellObject_93 : decode cX10_tellObject 93 = .ok (.getfield 14, 3) := by decide +kernel
theorem dX10_tellObject_96 : decode cX10_tellObject 96 = .ok (.iload_n 3, 1) := by decide +kernel
theorem dX10_tellObject_97 : decode cX10_tellObject 97 = .ok (.iaload, 1) := by decide +kernel
theorem dX10_tellObject_98 : decode cX10_tellObject 98 = .ok (.iaload, 1) := by decide +kernel
theorem dX10_tellObject_99 : decode cX10_tellObject 99 = .ok (.imul, 1) := by decide +kernel
theorem dX10_tellObject_100 : decode cX10_tellObject 100 = .ok (.invokevirtual 277, 3) := by decide +kernel
theorem dX10_tellObject_103 : decode cX10_tellObject 103 = .ok (.goto 123, 3) := by decide +kernel
theorem dX10_tellObject_106 : decode cX10_tellObject 106 = .ok (.aload_n 0, 1) := by decide +kernel
theorem dX10_tellObject_107 : decode cX10_tellObject 107 = .ok (.bipush 40, 2) := by decide +kernel
theorem dX10_tellObject_109 : decode cX10_tellObject 109 = .ok (.invokevirtual 271, 3) := by decide +kernel
theorem dX10_tellObject_112 : decode cX10_tellObject 112 = .ok (.aload_n 0, 1) := by decide +kernel
theorem dX10_tellObject_113 : decode cX10_tellObject 113 = .ok (.iconst 2, 1) := by decide +kernel
theorem dX10_tellObject_114 : decode cX10_tellObject 114 = .ok (.aload_n 0, 1) := by decide +kernel
theorem dX10_tellObject_115 : decode cX10_tellObject 115 = .ok (.getfield 14, 3) := by decide +kernel
theorem dX10_tellObject_118 : decode cX10_tellObject 118 = .ok (.iload_n 3, 1) := by decide +kernel
theorem dX10_tellObject_119 : decode cX10_tellObject 119 = .ok (.iaload, 1) := by decide +kernel
theorem dX10_tellObject_120 : decode cX10_tellObject 120 = .ok (.imul, 1) := by decide +kernel
theorem dX10_tellObject_121 : decode cX10_tellObject 121 = .ok (.iconst 1, 1) := by decide +kernel
theorem dX10_tellObject_122 : decode cX10_tellObject 122 = .ok (.iadd, 1) := by decide +kernel
theorem dX10_tellObject_123 : decode cX10_tellObject 123 = .ok (.invokevirtual 277, 3) := by decide +kernel
theorem dX10_tellObject_126 : decode cX10_tellObject 126 = .ok (.aload_n 0, 1) := by decide +kernel
theorem dX10_tellObject_127 : decode cX10_tellObject 127 = .ok (.iconst 2, 1) := by decide +kernel
theorem dX10_tellObject_128 : decode cX10_tellObject 128 = .ok (.aload_n 0, 1) := by decide +kernel
theorem dX10_tellObject_129 : decode cX10_tellObject 129 = .ok (.getfield 8, 3) := by decide +kernel
theorem dX10_tellObject_132 : decode cX10_tellObject 132 = .ok (.iload_n 3, 1) := by decide +kernel
theorem dX10_tellObject_133 : decode cX10_tellObject 133 = .ok (.iaload, 1) := by decide +kernel
theorem dX10_tellObject_134 : decode cX10_tellObject 134 = .ok (.imul, 1) := by decide +kernel
theorem dX10_tellObject_135 : decode cX10_tellObject 135 = .ok (.invokevirtual 277, 3) := by decide +kernel
theorem dX10_tellObject_138 : decode cX10_tellObject 138 = .ok (.goto 88, 3) := by decide +kernel
theorem dX10_tellObject_141 : decode cX10_tellObject 141 = .ok (.iload_n 3, 1) := by decide +kernel
theorem dX10_tellObject_142 : decode cX10_tellObject 142 = .ok (.ifCond .ne 12, 3) := by decide +kernel
theorem dX10_tellObject_145 : decode cX10_tellObject 145 = .ok (.aload_n 0, 1) := by decide +kernel
theorem dX10_tellObject_146 : decode cX10_tellObject 146 = .ok (.bipush 41, 2) := by decide +kernel
theorem dX10_tellObject_148 : decode cX10_tellObject 148 = .ok (.invokevirtual 271, 3) := by decide +kernel
theorem dX10_tellObject_151 : decode cX10_tellObject 151 = .ok (.goto 75, 3) := by decide +kernel
theorem dX10_tellObject_154 : decode cX10_tellObject 154 = .ok (.aload_n 0, 1) := by decide +kernel
theorem dX10_tellObject_155 : decode cX10_tellObject 155 = .ok (.iload_n 3, 1) := by decide +kernel
theorem dX10_tellObject_156 : decode cX10_tellObject 156 = .ok (.invokevirtual 195, 3) := by decide +kernel
theorem dX10_tellObject_159 : decode cX10_tellObject 159 = .ok (.ifCond .eq 38, 3) := by decide +kernel
theorem dX10_tellObject_162 : decode cX10_tellObject 162 = .ok (.aload_n 0, 1) := by decide +kernel
theorem dX10_tellObject_163 : decode cX10_tellObject 163 = .ok (.bipush 32, 2) := by decide +kernel
theorem dX10_tellObject_165 : decode cX10_tellObject 165 = .ok (.invokevirtual 271, 3) := by decide +kernel
theorem dX10_tellObject_168 : decode cX10_tellObject 168 = .ok (.aload_n 0, 1) := by decide +kernel
theorem dX10_tellObject_169 : decode cX10_tellObject 169 = .ok (.iconst 2, 1) := by decide +kernel
theorem dX10_tellObject_170 : decode cX10_tellObject 170 = .ok (.aload_n 0, 1) := by decide +kernel
theorem dX10_tellObject_171 : decode cX10_tellObject 171 = .ok (.getfield 14, 3) := by decide +kernel
theorem dX10_tellObject_174 : decode cX10_tellObject 174 = .ok (.iload_n 3, 1) := by decide +kernel
theorem dX10_tellObject_175 : decode cX10_tellObject 175 = .ok (.iaload, 1) := by decide +kernel
theorem dX10_tellObject_176 : decode cX10_tellObject 176 = .ok (.imul, 1) := by decide +kernel
theorem dX10_tellObject_177 : decode cX10_tellObject 177 = .ok (.iconst 1, 1) := by decide +kernel
theorem dX10_tellObject_178 : decode cX10_tellObject 178 = .ok (.iadd, 1) := by decide +kernel
theorem dX10_tellObject_179 : decode cX10_tellObject 179 = .ok (.invokevirtual 277, 3) := by decide +kernel
theorem dX10_tellObject_182 : decode cX10_tellObject 182 = .ok (.aload_n 0, 1) := by decide +kernel
theorem dX10_tellObject_183 : decode cX10_tellObject 183 = .ok (.iconst 2, 1) := by decide +kernel
theorem dX10_tellObject_184 : decode cX10_tellObject 184 = .ok (.aload_n 0, 1) := by decide +kernel
theorem dX10_tellObject_185 : decode cX10_tellObject 185 = .ok (.getfield 8, 3) := by decide +kernel
theorem dX10_tellObject_188 : decode cX10_tellObject 188 = .ok (.iload_n 3, 1) := by decide +kernel
theorem dX10_tellObject_189 : decode cX10_tellObject 189 = .ok (.iaload, 1) := by decide +kernel
theorem dX10_tellObject_190 : decode cX10_tellObject 190 = .ok (.imul, 1) := by decide +kernel
theorem dX10_tellObject_191 : decode cX10_tellObject 191 = .ok (.invokevirtual 277, 3) := by decide +kernel
theorem dX10_tellObject_194 : decode cX10_tellObject 194 = .ok (.goto 32, 3) := by decide +kernel
theorem dX10_tellObject_197 : decode cX10_tellObject 197 = .ok (.aload_n 0, 1) := by decide +kernel
theorem dX10_tellObject_198 : decode cX10_tellObject 198 = .ok (.bipush 32, 2) := by decide +kernel
theorem dX10_tellObject_200 : decode cX10_tellObject 200 = .ok (.invokevirtual 271, 3) := by decide +kernel
theorem dX10_tellObject_203 : decode cX10_tellObject 203 = .ok (.aload_n 0, 1) := by decide +kernel
theorem dX10_tellObject_204 : decode cX10_tellObject 204 = .ok (.bipush 46, 2) := by decide +kernel
theorem dX10_tellObject_206 : decode cX10_tellObject 206 = .ok (.invokevirtual 271, 3) := by decide +kernel
theorem dX10_tellObject_209 : decode cX10_tellObject 209 = .ok (.aload_n 0, 1) := by decide +kernel
theorem dX10_tellObject_210 : decode cX10_tellObject 210 = .ok (.bipush 32, 2) := by decide +kernel
theorem dX10_tellObject_212 : decode cX10_tellObject 212 = .ok (.invokevirtual 271, 3) := by decide +kernel
theorem dX10_tellObject_215 : decode cX10_tellObject 215 = .ok (.aload_n 0, 1) := by decide +kernel
theorem dX10_tellObject_216 : decode cX10_tellObject 216 = .ok (.iload_n 3, 1) := by decide +kernel
theorem dX10_tellObject_217 : decode cX10_tellObject 217 = .ok (.invokevirtual 283, 3) := by decide +kernel
theorem dX10_tellObject_220 : decode cX10_tellObject 220 = .ok (.aload_n 0, 1) := by decide +kernel
theorem dX10_tellObject_221 : decode cX10_tellObject 221 = .ok (.bipush 41, 2) := by decide +kernel
theorem dX10_tellObject_223 : decode cX10_tellObject 223 = .ok (.invokevirtual 271, 3) := by decide +kernel
theorem dX10_tellObject_226 : decode cX10_tellObject 226 = .ok (.goto (-214), 3) := by decide +kernel
theorem dX10_tellObject_229 : decode cX10_tellObject 229 = .ok (.return_, 1) := by decide +kernel
theorem dX10_isVariable_0 : decode cX10_isVariable 0 = .ok (.aload_n 0, 1) := by decide +kernel
theorem dX10_isVariable_1 : decode cX10_isVariable 1 = .ok (.iload_n 1, 1) := by decide +kernel
theorem dX10_isVariable_2 : decode cX10_isVariable 2 = .ok (.invokevirtual 268, 3) := by decide +kernel
theorem dX10_isVariable_5 : decode cX10_isVariable 5 = .ok (.ifCond .eq 16, 3) := by decide +kernel
theorem dX10_isVariable_8 : decode cX10_isVariable 8 = .ok (.iload_n 1, 1) := by decide +kernel
theorem dX10_isVariable_9 : decode cX10_isVariable 9 = .ok (.ifCond .eq 12, 3) := by decide +kernel
theorem dX10_isVariable_12 : decode cX10_isVariable 12 = .ok (.iload_n 1, 1) := by decide +kernel
theorem dX10_isVariable_13 : decode cX10_isVariable 13 = .ok (.iconst 1, 1) := by decide +kernel
theorem dX10_isVariable_14 : decode cX10_isVariable 14 = .ok (.if_icmp .eq 7, 3) := by decide +kernel
theorem dX10_isVariable_17 : decode cX10_isVariable 17 = .ok (.iconst 1, 1) := by decide +kernel
theorem dX10_isVariable_18 : decode cX10_isVariable 18 = .ok (.goto 4, 3) := by decide +kernel
theorem dX10_isVariable_21 : decode cX10_isVariable 21 = .ok (.iconst 0, 1) := by decide +kernel
theorem dX10_isVariable_22 : decode cX10_isVariable 22 = .ok (.ireturn, 1) := by decide +kernel
theorem dX10_isConstant_0 : decode cX10_isConstant 0 = .ok (.aload_n 0, 1) := by decide +kernel
theorem dX10_isConstant_1 : decode cX10_isConstant 1 = .ok (.iload_n 1, 1) := by decide +kernel
theorem dX10_isConstant_2 : decode cX10_isConstant 2 = .ok (.invokevirtual 289, 3) := by decide +kernel
theorem dX10_isConstant_5 : decode cX10_isConstant 5 = .ok (.ifCond .ne 20, 3) := by decide +kernel
theorem dX10_isConstant_8 : decode cX10_isConstant 8 = .ok (.iload_n 1, 1) := by decide +kernel
theorem dX10_isConstant_9 : decode cX10_isConstant 9 = .ok (.ifCond .eq 16, 3) := by decide +kernel
theorem dX10_isConstant_12 : decode cX10_isConstant 12 = .ok (.iload_n 1, 1) := by decide +kernel
theorem dX10_isConstant_13 : decode cX10_isConstant 13 = .ok (.iconst 1, 1) := by decide +kernel
theorem dX10_isConstant_14 : decode cX10_isConstant 14 = .ok (.if_icmp .eq 11, 3) := by decide +kernel
theorem dX10_isConstant_17 : decode cX10_isConstant 17 = .ok (.aload_n 0, 1) := by decide +kernel
theorem dX10_isConstant_18 : decode cX10_isConstant 18 = .ok (.iload_n 1, 1) := by decide +kernel
theorem dX10_isConstant_19 : decode cX10_isConstant 19 = .ok (.invokevirtual 286, 3) := by decide +kernel
theorem dX10_isConstant_22 : decode cX10_isConstant 22 = .ok (.ifCond .eq 7, 3) := by decide +kernel
theorem dX10_isConstant_25 : decode cX10_isConstant 25 = .ok (.iconst 1, 1) := by decide +kernel
theorem dX10_isConstant_26 : decode cX10_isConstant 26 = .ok (.goto 4, 3) := by decide +kernel
theorem dX10_isConstant_29 : decode cX10_isConstant 29 = .ok (.iconst 0, 1) := by decide +kernel
theorem dX10_isConstant_30 : decode cX10_isConstant 30 = .ok (.ireturn, 1) := by decide +kernel
theorem dX10_isCall_0 : decode cX10_isCall 0 = .ok (.aload_n 0, 1) := by decide +kernel
theorem dX10_isCall_1 : decode cX10_isCall 1 = .ok (.iload_n 1, 1) := by decide +kernel
theorem dX10_isCall_2 : decode cX10_isCall 2 = .ok (.invokevirtual 195, 3) := by decide +kernel
theorem dX10_isCall_5 : decode cX10_isCall 5 = .ok (.ifCond .eq 17, 3) := by decide +kernel
theorem dX10_isCall_8 : decode cX10_isCall 8 = .ok (.aload_n 0, 1) := by decide +kernel
theorem dX10_isCall_9 : decode cX10_isCall 9 = .ok (.getfield 8, 3) := by decide +kernel
theorem dX10_isCall_12 : decode cX10_isCall 12 = .ok (.iload_n 1, 1) := by decide +kernel
theorem dX10_isCall_13 : decode cX10_isCall 13 = .ok (.iaload, 1) := by decide +kernel
theorem dX10_isCall_14 : decode cX10_isCall 14 = .ok (.iconst 2, 1) := by decide +kernel
theorem dX10_isCall_15 : decode cX10_isCall 15 = .ok (.if_icmp .eq 7, 3) := by decide +kernel
theorem dX10_isCall_18 : decode cX10_isCall 18 = .ok (.iconst 1, 1) := by decide +kernel
theorem dX10_isCall_19 : decode cX10_isCall 19 = .ok (.goto 4, 3) := by decide +kernel
theorem dX10_isCall_22 : decode cX10_isCall 22 = .ok (.iconst 0, 1) := by decide +kernel
theorem dX10_isCall_23 : decode cX10_isCall 23 = .ok (.ireturn, 1) := by decide +kernel
theorem dX10_isCallOf_0 : decode cX10_isCallOf 0 = .ok (.aload_n 0, 1) := by decide +kernel
theorem dX10_isCallOf_1 : decode cX10_isCallOf 1 = .ok (.iload_n 1, 1) := by decide +kernel
theorem dX10_isCallOf_2 : decode cX10_isCallOf 2 = .ok (.invokevirtual 195, 3) := by decide +kernel
theorem dX10_isCallOf_5 : decode cX10_isCallOf 5 = .ok (.ifCond .eq 17, 3) := by decide +kernel
theorem dX10_isCallOf_8 : decode cX10_isCallOf 8 = .ok (.aload_n 0, 1) := by decide +kernel
theorem dX10_isCallOf_9 : decode cX10_isCallOf 9 = .ok (.getfield 8, 3) := by decide +kernel
theorem dX10_isCallOf_12 : decode cX10_isCallOf 12 = .ok (.iload_n 1, 1) := by decide +kernel
theorem dX10_isCallOf_13 : decode cX10_isCallOf 13 = .ok (.iaload, 1) := by decide +kernel
theorem dX10_isCallOf_14 : decode cX10_isCallOf 14 = .ok (.iload_n 2, 1) := by decide +kernel
theorem dX10_isCallOf_15 : decode cX10_isCallOf 15 = .ok (.if_icmp .ne 7, 3) := by decide +kernel
theorem dX10_isCallOf_18 : decode cX10_isCallOf 18 = .ok (.iconst 1, 1) := by decide +kernel
theorem dX10_isCallOf_19 : decode cX10_isCallOf 19 = .ok (.goto 4, 3) := by decide +kernel
theorem dX10_isCallOf_22 : decode cX10_isCallOf 22 = .ok (.iconst 0, 1) := by decide +kernel
theorem dX10_isCallOf_23 : decode cX10_isCallOf 23 = .ok (.ireturn, 1) := by decide +kernel
theorem dX10_constantOf_0 : decode cX10_constantOf 0 = .ok (.aload_n 0, 1) := by decide +kernel
theorem dX10_constantOf_1 : decode cX10_constantOf 1 = .ok (.iload_n 1, 1) := by decide +kernel
theorem dX10_constantOf_2 : decode cX10_constantOf 2 = .ok (.invokevirtual 289, 3) := by decide +kernel
theorem dX10_constantOf_5 : decode cX10_constantOf 5 = .ok (.ifCond .ne 12, 3) := by decide +kernel
theorem dX10_constantOf_8 : decode cX10_constantOf 8 = .ok (.iload_n 1, 1) := by decide +kernel
theorem dX10_constantOf_9 : decode cX10_constantOf 9 = .ok (.ifCond .eq 8, 3) := by decide +kernel
theorem dX10_constantOf_12 : decode cX10_constantOf 12 = .ok (.iload_n 1, 1) := by decide +kernel
theorem dX10_constantOf_13 : decode cX10_constantOf 13 = .ok (.iconst 1, 1) := by decide +kernel
theorem dX10_constantOf_14 : decode cX10_constantOf 14 = .ok (.if_icmp .ne 7, 3) := by decide +kernel
theorem dX10_constantOf_17 : decode cX10_constantOf 17 = .ok (.iload_n 1, 1) := by decide +kernel
theorem dX10_constantOf_18 : decode cX10_constantOf 18 = .ok (.goto 9, 3) := by decide +kernel
theorem dX10_constantOf_21 : decode cX10_constantOf 21 = .ok (.aload_n 0, 1) := by decide +kernel
theorem dX10_constantOf_22 : decode cX10_constantOf 22 = .ok (.iconst 2, 1) := by decide +kernel
theorem dX10_constantOf_23 : decode cX10_constantOf 23 = .ok (.iload_n 1, 1) := by decide +kernel
theorem dX10_constantOf_24 : decode cX10_constantOf 24 = .ok (.invokevirtual 189, 3) := by decide +kernel
theorem dX10_constantOf_27 : decode cX10_constantOf 27 = .ok (.ireturn, 1) := by decide +kernel
theorem dX10_valueOf_0 : decode cX10_valueOf 0 = .ok (.aload_n 0, 1) := by decide +kernel
theorem dX10_valueOf_1 : decode cX10_valueOf 1 = .ok (.iload_n 1, 1) := by decide +kernel
theorem dX10_valueOf_2 : decode cX10_valueOf 2 = .ok (.invokevirtual 195, 3) := by decide +kernel
theorem dX10_valueOf_5 : decode cX10_valueOf 5 = .ok (.ifCond .eq 17, 3) := by decide +kernel
theorem dX10_valueOf_8 : decode cX10_valueOf 8 = .ok (.aload_n 0, 1) := by decide +kernel
theorem dX10_valueOf_9 : decode cX10_valueOf 9 = .ok (.getfield 8, 3) := by decide +kernel
theorem dX10_valueOf_12 : decode cX10_valueOf 12 = .ok (.aload_n 0, 1) := by decide +kernel
theorem dX10_valueOf_13 : decode cX10_valueOf 13 = .ok (.getfield 14, 3) := by decide +kernel
theorem dX10_valueOf_16 : decode cX10_valueOf 16 = .ok (.iload_n 1, 1) := by decide +kernel
theorem dX10_valueOf_17 : decode cX10_valueOf 17 = .ok (.iaload, 1) := by decide +kernel
theorem dX10_valueOf_18 : decode cX10_valueOf 18 = .ok (.iaload, 1) := by decide +kernel
theorem dX10_valueOf_19 : decode cX10_valueOf 19 = .ok (.goto 4, 3) := by decide +kernel
theorem dX10_valueOf_22 : decode cX10_valueOf 22 = .ok (.iload_n 1, 1) := by decide +kernel
theorem dX10_valueOf_23 : decode cX10_valueOf 23 = .ok (.ireturn, 1) := by decide +kernel
theorem dX10_term_0 : decode cX10_term 0 = .ok (.aload_n 0, 1) := by decide +kernel
theorem dX10_term_1 : decode cX10_term 1 = .ok (.iload_n 1, 1) := by decide +kernel
theorem dX10_term_2 : decode cX10_term 2 = .ok (.iload_n 2, 1) := by decide +kernel
theorem dX10_term_3 : decode cX10_term 3 = .ok (.invokevirtual 292, 3) := by decide +kernel
theorem dX10_term_6 : decode cX10_term 6 = .ok (.ireturn, 1) := by decide +kernel
theorem dX10_functionOf_0 : decode cX10_functionOf 0 = .ok (.iload_n 1, 1) := by decide +kernel
theorem dX10_functionOf_1 : decode cX10_functionOf 1 = .ok (.iconst 3, 1) := by decide +kernel
theorem dX10_functionOf_2 : decode cX10_functionOf 2 = .ok (.if_icmp .lt 11, 3) := by decide +kernel
theorem dX10_functionOf_5 : decode cX10_functionOf 5 = .ok (.iload_n 1, 1) := by decide +kernel
theorem dX10_functionOf_6 : decode cX10_functionOf 6 = .ok (.bipush 16, 2) := by decide +kernel
theorem dX10_functionOf_8 : decode cX10_functionOf 8 = .ok (.if_icmp .gt 5, 3) := by decide +kernel
theorem dX10_functionOf_11 : decode cX10_functionOf 11 = .ok (.iload_n 1, 1) := by decide +kernel
theorem dX10_functionOf_12 : decode cX10_functionOf 12 = .ok (.ireturn, 1) := by decide +kernel
theorem dX10_functionOf_13 : decode cX10_functionOf 13 = .ok (.iload_n 1, 1) := by decide +kernel
theorem dX10_functionOf_14 : decode cX10_functionOf 14 = .ok (.aload_n 0, 1) := by decide +kernel
theorem dX10_functionOf_15 : decode cX10_functionOf 15 = .ok (.getfield 86, 3) := by decide +kernel
theorem dX10_functionOf_18 : decode cX10_functionOf 18 = .ok (.if_icmp .ne 6, 3) := by decide +kernel
theorem dX10_functionOf_21 : decode cX10_functionOf 21 = .ok (.bipush 99, 2) := by decide +kernel
theorem dX10_functionOf_23 : decode cX10_functionOf 23 = .ok (.ireturn, 1) := by decide +kernel
theorem dX10_functionOf_24 : decode cX10_functionOf 24 = .ok (.iconst 0, 1) := by decide +kernel
theorem dX10_functionOf_25 : decode cX10_functionOf 25 = .ok (.istore_n 2, 1) := by decide +kernel
theorem dX10_functionOf_26 : decode cX10_functionOf 26 = .ok (.iload_n 2, 1) := by decide +kernel
theorem dX10_functionOf_27 : decode cX10_functionOf 27 = .ok (.aload_n 0, 1) := by decide +kernel
theorem dX10_functionOf_28 : decode cX10_functionOf 28 = .ok (.getfield 295, 3) := by decide +kernel
theorem dX10_functionOf_31 : decode cX10_functionOf 31 = .ok (.if_icmp .ge 24, 3) := by decide +kernel
theorem dX10_functionOf_34 : decode cX10_functionOf 34 = .ok (.aload_n 0, 1) := by decide +kernel
theorem dX10_functionOf_35 : decode cX10_functionOf 35 = .ok (.getfield 74, 3) := by decide +kernel
theorem dX10_functionOf_38 : decode cX10_functionOf 38 = .ok (.iload_n 2, 1) := by decide +kernel
theorem dX10_functionOf_39 : decode cX10_functionOf 39 = .ok (.iaload, 1) := by decide +kernel
theorem dX10_functionOf_40 : decode cX10_functionOf 40 = .ok (.iload_n 1, 1) := by decide +kernel
theorem dX10_functionOf_41 : decode cX10_functionOf 41 = .ok (.if_icmp .ne 8, 3) := by decide +kernel
theorem dX10_functionOf_44 : decode cX10_functionOf 44 = .ok (.bipush 100, 2) := by decide +kernel
theorem dX10_functionOf_46 : decode cX10_functionOf 46 = .ok (.iload_n 2, 1) := by decide +kernel
theorem dX10_functionOf_47 : decode cX10_functionOf 47 = .ok (.iadd, 1) := by decide +kernel
theorem dX10_functionOf_48 : decode cX10_functionOf 48 = .ok (.ireturn, 1) := by decide +kernel
theorem dX10_functionOf_49 : decode cX10_functionOf 49 = .ok (.iinc 2 1, 3) := by decide +kernel
theorem dX10_functionOf_52 : decode cX10_functionOf 52 = .ok (.goto (-26), 3) := by decide +kernel
theorem dX10_functionOf_55 : decode cX10_functionOf 55 = .ok (.iconst (-1), 1) := by decide +kernel
theorem dX10_functionOf_56 : decode cX10_functionOf 56 = .ok (.ireturn, 1) := by decide +kernel
theorem dX10_manyOf_0 : decode cX10_manyOf 0 = .ok (.iload_n 1, 1) := by decide +kernel
theorem dX10_manyOf_1 : decode cX10_manyOf 1 = .ok (.iconst 3, 1) := by decide +kernel
theorem dX10_manyOf_2 : decode cX10_manyOf 2 = .ok (.if_icmp .ne 5, 3) := by decide +kernel
theorem dX10_manyOf_5 : decode cX10_manyOf 5 = .ok (.iconst 3, 1) := by decide +kernel
theorem dX10_manyOf_6 : decode cX10_manyOf 6 = .ok (.ireturn, 1) := by decide +kernel
theorem dX10_manyOf_7 : decode cX10_manyOf 7 = .ok (.iload_n 1, 1) := by decide +kernel
theorem dX10_manyOf_8 : decode cX10_manyOf 8 = .ok (.bipush 9, 2) := by decide +kernel
theorem dX10_manyOf_10 : decode cX10_manyOf 10 = .ok (.if_icmp .gt 5, 3) := by decide +kernel
theorem dX10_manyOf_13 : decode cX10_manyOf 13 = .ok (.iconst 2, 1) := by decide +kernel
theorem dX10_manyOf_14 : decode cX10_manyOf 14 = .ok (.ireturn, 1) := by decide +kernel
theorem dX10_manyOf_15 : decode cX10_manyOf 15 = .ok (.iload_n 1, 1) := by decide +kernel
theorem dX10_manyOf_16 : decode cX10_manyOf 16 = .ok (.bipush 16, 2) := by decide +kernel
theorem dX10_manyOf_18 : decode cX10_manyOf 18 = .ok (.if_icmp .gt 5, 3) := by decide +kernel
theorem dX10_manyOf_21 : decode cX10_manyOf 21 = .ok (.iconst 1, 1) := by decide +kernel
theorem dX10_manyOf_22 : decode cX10_manyOf 22 = .ok (.ireturn, 1) := by decide +kernel
theorem dX10_manyOf_23 : decode cX10_manyOf 23 = .ok (.iload_n 1, 1) := by decide +kernel
theorem dX10_manyOf_24 : decode cX10_manyOf 24 = .ok (.bipush 99, 2) := by decide +kernel
theorem dX10_manyOf_26 : decode cX10_manyOf 26 = .ok (.if_icmp .ne 10, 3) := by decide +kernel
theorem dX10_manyOf_29 : decode cX10_manyOf 29 = .ok (.aload_n 0, 1) := by decide +kernel
theorem dX10_manyOf_30 : decode cX10_manyOf 30 = .ok (.getfield 298, 3) := by decide +kernel
theorem dX10_manyOf_33 : decode cX10_manyOf 33 = .ok (.goto 12, 3) := by decide +kernel
theorem dX10_manyOf_36 : decode cX10_manyOf 36 = .ok (.aload_n 0, 1) := by decide +kernel
theorem dX10_manyOf_37 : decode cX10_manyOf 37 = .ok (.getfield 77, 3) := by decide +kernel
theorem dX10_manyOf_40 : decode cX10_manyOf 40 = .ok (.iload_n 1, 1) := by decide +kernel
theorem dX10_manyOf_41 : decode cX10_manyOf 41 = .ok (.bipush 100, 2) := by decide +kernel
theorem dX10_manyOf_43 : decode cX10_manyOf 43 = .ok (.isub, 1) := by decide +kernel
theorem dX10_manyOf_44 : decode cX10_manyOf 44 = .ok (.iaload, 1) := by decide +kernel
theorem dX10_manyOf_45 : decode cX10_manyOf 45 = .ok (.ireturn, 1) := by decide +kernel
theorem dX10_isReserved_0 : decode cX10_isReserved 0 = .ok (.iload_n 0, 1) := by decide +kernel
theorem dX10_isReserved_1 : decode cX10_isReserved 1 = .ok (.ifCond .lt 13, 3) := by decide +kernel
theorem dX10_isReserved_4 : decode cX10_isReserved 4 = .ok (.iload_n 0, 1) := by decide +kernel
theorem dX10_isReserved_5 : decode cX10_isReserved 5 = .ok (.bipush 16, 2) := by decide +kernel
theorem dX10_isReserved_7 : decode cX10_isReserved 7 = .ok (.if_icmp .gt 7, 3) := by decide +kernel
theorem dX10_isReserved_10 : decode cX10_isReserved 10 = .ok (.iconst 1, 1) := by decide +kernel
theorem dX10_isReserved_11 : decode cX10_isReserved 11 = .ok (.goto 4, 3) := by decide +kernel
theorem dX10_isReserved_14 : decode cX10_isReserved 14 = .ok (.iconst 0, 1) := by decide +kernel
theorem dX10_isReserved_15 : decode cX10_isReserved 15 = .ok (.ireturn, 1) := by decide +kernel
theorem dX10_sizeOf_0 : decode cX10_sizeOf 0 = .ok (.aload_n 0, 1) := by decide +kernel
theorem dX10_sizeOf_1 : decode cX10_sizeOf 1 = .ok (.iload_n 1, 1) := by decide +kernel
theorem dX10_sizeOf_2 : decode cX10_sizeOf 2 = .ok (.invokevirtual 304, 3) := by decide +kernel
theorem dX10_sizeOf_5 : decode cX10_sizeOf 5 = .ok (.ifCond .eq 12, 3) := by decide +kernel
theorem dX10_sizeOf_8 : decode cX10_sizeOf 8 = .ok (.aload_n 0, 1) := by decide +kernel
theorem dX10_sizeOf_9 : decode cX10_sizeOf 9 = .ok (.getfield 20, 3) := by decide +kernel
theorem dX10_sizeOf_12 : decode cX10_sizeOf 12 = .ok (.iload_n 1, 1) := by decide +kernel
theorem dX10_sizeOf_13 : decode cX10_sizeOf 13 = .ok (.iaload, 1) := by decide +kernel
theorem dX10_sizeOf_14 : decode cX10_sizeOf 14 = .ok (.goto 4, 3) := by decide +kernel
theorem dX10_sizeOf_17 : decode cX10_sizeOf 17 = .ok (.iconst 1, 1) := by decide +kernel
theorem dX10_sizeOf_18 : decode cX10_sizeOf 18 = .ok (.ireturn, 1) := by decide +kernel
theorem dX10_callFrom_0 : decode cX10_callFrom 0 = .ok (.iconst 0, 1) := by decide +kernel
theorem dX10_callFrom_1 : decode cX10_callFrom 1 = .ok (.istore_n 3, 1) := by decide +kernel
theorem dX10_callFrom_2 : decode cX10_callFrom 2 = .ok (.iconst 1, 1) := by decide +kernel
theorem dX10_callFrom_3 : decode cX10_callFrom 3 = .ok (.istore 4, 2) := by decide +kernel
theorem dX10_callFrom_5 : decode cX10_callFrom 5 = .ok (.aload_n 0, 1) := by decide +kernel
theorem dX10_callFrom_6 : decode cX10_callFrom 6 = .ok (.getfield 307, 3) := by decide +kernel
theorem dX10_callFrom_9 : decode cX10_callFrom 9 = .ok (.iconst 1, 1) := by decide +kernel
theorem dX10_callFrom_10 : decode cX10_callFrom 10 = .ok (.isub, 1) := by decide +kernel
theorem dX10_callFrom_11 : decode cX10_callFrom 11 = .ok (.istore 5, 2) := by decide +kernel
theorem dX10_callFrom_13 : decode cX10_callFrom 13 = .ok (.iload 5, 2) := by decide +kernel
theorem dX10_callFrom_15 : decode cX10_callFrom 15 = .ok (.iload_n 2, 1) := by decide +kernel
theorem dX10_callFrom_16 : decode cX10_callFrom 16 = .ok (.if_icmp .lt 38, 3) := by decide +kernel
theorem dX10_callFrom_19 : decode cX10_callFrom 19 = .ok (.iload 4, 2) := by decide +kernel
theorem dX10_callFrom_21 : decode cX10_callFrom 21 = .ok (.aload_n 0, 1) := by decide +kernel
theorem dX10_callFrom_22 : decode cX10_callFrom 22 = .ok (.aload_n 0, 1) := by decide +kernel
theorem dX10_callFrom_23 : decode cX10_callFrom 23 = .ok (.getfield 101, 3) := by decide +kernel
theorem dX10_callFrom_26 : decode cX10_callFrom 26 = .ok (.iload 5, 2) := by decide +kernel
theorem dX10_callFrom_28 : decode cX10_callFrom 28 = .ok (.iaload, 1) := by decide +kernel
theorem dX10_callFrom_29 : decode cX10_callFrom 29 = .ok (.invokevirtual 310, 3) := by decide +kernel
theorem dX10_callFrom_32 : decode cX10_callFrom 32 = .ok (.iadd, 1) := by decide +kernel
theorem dX10_callFrom_33 : decode cX10_callFrom 33 = .ok (.istore 4, 2) := by decide +kernel
theorem dX10_callFrom_35 : decode cX10_callFrom 35 = .ok (.aload_n 0, 1) := by decide +kernel
theorem dX10_callFrom_36 : decode cX10_callFrom 36 = .ok (.aload_n 0, 1) := by decide +kernel
theorem dX10_callFrom_37 : decode cX10_callFrom 37 = .ok (.getfield 101, 3) := by decide +kernel
theorem dX10_callFrom_40 : decode cX10_callFrom 40 = .ok (.iload 5, 2) := by decide +kernel
theorem dX10_callFrom_42 : decode cX10_callFrom 42 = .ok (.iaload, 1) := by decide +kernel
theorem dX10_callFrom_43 : decode cX10_callFrom 43 = .ok (.iload_n 3, 1) := by decide +kernel
theorem dX10_callFrom_44 : decode cX10_callFrom 44 = .ok (.invokevirtual 183, 3) := by decide +kernel
theorem dX10_callFrom_47 : decode cX10_callFrom 47 = .ok (.istore_n 3, 1) := by decide +kernel
theorem dX10_callFrom_48 : decode cX10_callFrom 48 = .ok (.iinc 5 (-1), 3) := by decide +kernel
theorem dX10_callFrom_51 : decode cX10_callFrom 51 = .ok (.goto (-38), 3) := by decide +kernel
theorem dX10_callFrom_54 : decode cX10_callFrom 54 = .ok (.aload_n 0, 1) := by decide +kernel
theorem dX10_callFrom_55 : decode cX10_callFrom 55 = .ok (.iload_n 1, 1) := by decide +kernel
theorem dX10_callFrom_56 : decode cX10_callFrom 56 = .ok (.iload_n 3, 1) := by decide +kernel
theorem dX10_callFrom_57 : decode cX10_callFrom 57 = .ok (.invokevirtual 183, 3) := by decide +kernel
theorem dX10_callFrom_60 : decode cX10_callFrom 60 = .ok (.istore 5, 2) := by decide +kernel
theorem dX10_callFrom_62 : decode cX10_callFrom 62 = .ok (.aload_n 0, 1) := by decide +kernel
theorem dX10_callFrom_63 : decode cX10_callFrom 63 = .ok (.getfield 20, 3) := by decide +kernel
theorem dX10_callFrom_66 : decode cX10_callFrom 66 = .ok (.iload 5, 2) := by decide +kernel
theorem dX10_callFrom_68 : decode cX10_callFrom 68 = .ok (.iload 4, 2) := by decide +kernel
theorem dX10_callFrom_70 : decode cX10_callFrom 70 = .ok (.sipush 30000, 3) := by decide +kernel
theorem dX10_callFrom_73 : decode cX10_callFrom 73 = .ok (.if_icmp .le 9, 3) := by decide +kernel
theorem dX10_callFrom_76 : decode cX10_callFrom 76 = .ok (.sipush 30000, 3) := by decide +kernel
theorem dX10_callFrom_79 : decode cX10_callFrom 79 = .ok (.goto 5, 3) := by decide +kernel
theorem dX10_callFrom_82 : decode cX10_callFrom 82 = .ok (.iload 4, 2) := by decide +kernel
theorem dX10_callFrom_84 : decode cX10_callFrom 84 = .ok (.iastore, 1) := by decide +kernel
theorem dX10_callFrom_85 : decode cX10_callFrom 85 = .ok (.iload 5, 2) := by decide +kernel
theorem dX10_callFrom_87 : decode cX10_callFrom 87 = .ok (.ireturn, 1) := by decide +kernel
theorem dX10_build_0 : decode cX10_build 0 = .ok (.aload_n 0, 1) := by decide +kernel
theorem dX10_build_1 : decode cX10_build 1 = .ok (.getfield 101, 3) := by decide +kernel
theorem dX10_build_4 : decode cX10_build 4 = .ok (.aload_n 0, 1) := by decide +kernel
theorem dX10_build_5 : decode cX10_build 5 = .ok (.getfield 307, 3) := by decide +kernel
theorem dX10_build_8 : decode cX10_build 8 = .ok (.iload_n 1, 1) := by decide +kernel
theorem dX10_build_9 : decode cX10_build 9 = .ok (.iastore, 1) := by decide +kernel
theorem dX10_build_10 : decode cX10_build 10 = .ok (.aload_n 0, 1) := by decide +kernel
theorem dX10_build_11 : decode cX10_build 11 = .ok (.dup, 1) := by decide +kernel
theorem dX10_build_12 : decode cX10_build 12 = .ok (.getfield 307, 3) := by decide +kernel
theorem dX10_build_15 : decode cX10_build 15 = .ok (.iconst 1, 1) := by decide +kernel
theorem dX10_build_16 : decode cX10_build 16 = .ok (.iadd, 1) := by decide +kernel
theorem dX10_build_17 : decode cX10_build 17 = .ok (.putfield 307, 3) := by decide +kernel
theorem dX10_build_20 : decode cX10_build 20 = .ok (.return_, 1) := by decide +kernel
theorem dX10_openCall_0 : decode cX10_openCall 0 = .ok (.aload_n 0, 1) := by decide +kernel
theorem dX10_openCall_1 : decode cX10_openCall 1 = .ok (.getfield 92, 3) := by decide +kernel
theorem dX10_openCall_4 : decode cX10_openCall 4 = .ok (.aload_n 0, 1) := by decide +kernel
theorem dX10_openCall_5 : decode cX10_openCall 5 = .ok (.getfield 313, 3) := by decide +kernel
theorem dX10_openCall_8 : decode cX10_openCall 8 = .ok (.iload_n 1, 1) := by decide +kernel
theorem dX10_openCall_9 : decode cX10_openCall 9 = .ok (.iastore, 1) := by decide +kernel
theorem dX10_openCall_10 : decode cX10_openCall 10 = .ok (.aload_n 0, 1) := by decide +kernel
theorem dX10_openCall_11 : decode cX10_openCall 11 = .ok (.getfield 95, 3) := by decide +kernel
theorem dX10_openCall_14 : decode cX10_openCall 14 = .ok (.aload_n 0, 1) := by decide +kernel
theorem dX10_openCall_15 : decode cX10_openCall 15 = .ok (.getfield 313, 3) := by decide +kernel
theorem dX10_openCall_18 : decode cX10_openCall 18 = .ok (.aload_n 0, 1) := by decide +kernel
theorem dX10_openCall_19 : decode cX10_openCall 19 = .ok (.getfield 14, 3) := by decide +kernel
theorem dX10_openCall_22 : decode cX10_openCall 22 = .ok (.iload_n 1, 1) := by decide +kernel
theorem dX10_openCall_23 : decode cX10_openCall 23 = .ok (.iaload, 1) := by decide +kernel
theorem dX10_openCall_24 : decode cX10_openCall 24 = .ok (.iastore, 1) := by decide +kernel
theorem dX10_openCall_25 : decode cX10_openCall 25 = .ok (.aload_n 0, 1) := by decide +kernel
theorem dX10_openCall_26 : decode cX10_openCall 26 = .ok (.getfield 98, 3) := by decide +kernel
theorem dX10_openCall_29 : decode cX10_openCall 29 = .ok (.aload_n 0, 1) := by decide +kernel
theorem dX10_openCall_30 : decode cX10_openCall 30 = .ok (.getfield 313, 3) := by decide +kernel
theorem dX10_openCall_33 : decode cX10_openCall 33 = .ok (.aload_n 0, 1) := by decide +kernel
theorem dX10_openCall_34 : decode cX10_openCall 34 = .ok (.getfield 307, 3) := by decide +kernel
theorem dX10_openCall_37 : decode cX10_openCall 37 = .ok (.iastore, 1) := by decide +kernel
theorem dX10_openCall_38 : decode cX10_openCall 38 = .ok (.aload_n 0, 1) := by decide +kernel
theorem dX10_openCall_39 : decode cX10_openCall 39 = .ok (.dup, 1) := by decide +kernel
theorem dX10_openCall_40 : decode cX10_openCall 40 = .ok (.getfield 313, 3) := by decide +kernel
theorem dX10_openCall_43 : decode cX10_openCall 43 = .ok (.iconst 1, 1) := by decide +kernel
theorem dX10_openCall_44 : decode cX10_openCall 44 = .ok (.iadd, 1) := by decide +kernel
theorem dX10_openCall_45 : decode cX10_openCall 45 = .ok (.putfield 313, 3) := by decide +kernel
theorem dX10_openCall_48 : decode cX10_openCall 48 = .ok (.return_, 1) := by decide +kernel
theorem dX10_beginTerm_0 : decode cX10_beginTerm 0 = .ok (.aload_n 0, 1) := by decide +kernel
theorem dX10_beginTerm_1 : decode cX10_beginTerm 1 = .ok (.iload_n 1, 1) := by decide +kernel
theorem dX10_beginTerm_2 : decode cX10_beginTerm 2 = .ok (.invokevirtual 195, 3) := by decide +kernel
theorem dX10_beginTerm_5 : decode cX10_beginTerm 5 = .ok (.ifCond .ne 10, 3) := by decide +kernel
theorem dX10_beginTerm_8 : decode cX10_beginTerm 8 = .ok (.aload_n 0, 1) := by decide +kernel
theorem dX10_beginTerm_9 : decode cX10_beginTerm 9 = .ok (.iload_n 1, 1) := by decide +kernel
theorem dX10_beginTerm_10 : decode cX10_beginTerm 10 = .ok (.invokevirtual 316, 3) := by decide +kernel
theorem dX10_beginTerm_13 : decode cX10_beginTerm 13 = .ok (.iconst 1, 1) := by decide +kernel
theorem dX10_beginTerm_14 : decode cX10_beginTerm 14 = .ok (.ireturn, 1) := by decide +kernel
theorem dX10_beginTerm_15 : decode cX10_beginTerm 15 = .ok (.aload_n 0, 1) := by decide +kernel
theorem dX10_beginTerm_16 : decode cX10_beginTerm 16 = .ok (.getfield 8, 3) := by decide +kernel
theorem dX10_beginTerm_19 : decode cX10_beginTerm 19 = .ok (.iload_n 1, 1) := by decide +kernel
theorem dX10_beginTerm_20 : decode cX10_beginTerm 20 = .ok (.iaload, 1) := by decide +kernel
theorem dX10_beginTerm_21 : decode cX10_beginTerm 21 = .ok (.iconst 2, 1) := by decide +kernel
theorem dX10_beginTerm_22 : decode cX10_beginTerm 22 = .ok (.if_icmp .ne 34, 3) := by decide +kernel
theorem dX10_beginTerm_25 : decode cX10_beginTerm 25 = .ok (.aload_n 0, 1) := by decide +kernel
theorem dX10_beginTerm_26 : decode cX10_beginTerm 26 = .ok (.iload_n 1, 1) := by decide +kernel
theorem dX10_beginTerm_27 : decode cX10_beginTerm 27 = .ok (.invokevirtual 286, 3) := by decide +kernel
theorem dX10_beginTerm_30 : decode cX10_beginTerm 30 = .ok (.ifCond .ne 5, 3) := by decide +kernel
theorem dX10_beginTerm_33 : decode cX10_beginTerm 33 = .ok (.iconst 0, 1) := by decide +kernel
theorem dX10_beginTerm_34 : decode cX10_beginTerm 34 = .ok (.ireturn, 1) := by decide +kernel
theorem dX10_beginTerm_35 : decode cX10_beginTerm 35 = .ok (.aload_n 0, 1) := by decide +kernel
theorem dX10_beginTerm_36 : decode cX10_beginTerm 36 = .ok (.aload_n 0, 1) := by decide +kernel
theorem dX10_beginTerm_37 : decode cX10_beginTerm 37 = .ok (.aload_n 0, 1) := by decide +kernel
theorem dX10_beginTerm_38 : decode cX10_beginTerm 38 = .ok (.getfield 8, 3) := by decide +kernel
theorem dX10_beginTerm_41 : decode cX10_beginTerm 41 = .ok (.aload_n 0, 1) := by decide +kernel
theorem dX10_beginTerm_42 : decode cX10_beginTerm 42 = .ok (.getfield 14, 3) := by decide +kernel
theorem dX10_beginTerm_45 : decode cX10_beginTerm 45 = .ok (.iload_n 1, 1) := by decide +kernel
theorem dX10_beginTerm_46 : decode cX10_beginTerm 46 = .ok (.iaload, 1) := by decide +kernel
theorem dX10_beginTerm_47 : decode cX10_beginTerm 47 = .ok (.iaload, 1) := by decide +kernel
theorem dX10_beginTerm_48 : decode cX10_beginTerm 48 = .ok (.invokevirtual 319, 3) := by decide +kernel
theorem dX10_beginTerm_51 : decode cX10_beginTerm 51 = .ok (.invokevirtual 316, 3) := by decide +kernel
theorem dX10_beginTerm_54 : decode cX10_beginTerm 54 = .ok (.iconst 1, 1) := by decide +kernel
theorem dX10_beginTerm_55 : decode cX10_beginTerm 55 = .ok (.ireturn, 1) := by decide +kernel
theorem dX10_beginTerm_56 : decode cX10_beginTerm 56 = .ok (.aload_n 0, 1) := by decide +kernel
theorem dX10_beginTerm_57 : decode cX10_beginTerm 57 = .ok (.aload_n 0, 1) := by decide +kernel
theorem dX10_beginTerm_58 : decode cX10_beginTerm 58 = .ok (.getfield 8, 3) := by decide +kernel
theorem dX10_beginTerm_61 : decode cX10_beginTerm 61 = .ok (.iload_n 1, 1) := by decide +kernel
theorem dX10_beginTerm_62 : decode cX10_beginTerm 62 = .ok (.iaload, 1) := by decide +kernel
theorem dX10_beginTerm_63 : decode cX10_beginTerm 63 = .ok (.invokevirtual 268, 3) := by decide +kernel
theorem dX10_beginTerm_66 : decode cX10_beginTerm 66 = .ok (.ifCond .ne 5, 3) := by decide +kernel
theorem dX10_beginTerm_69 : decode cX10_beginTerm 69 = .ok (.iconst 0, 1) := by decide +kernel
theorem dX10_beginTerm_70 : decode cX10_beginTerm 70 = .ok (.ireturn, 1) := by decide +kernel
theorem dX10_beginTerm_71 : decode cX10_beginTerm 71 = .ok (.aload_n 0, 1) := by decide +kernel
theorem dX10_beginTerm_72 : decode cX10_beginTerm 72 = .ok (.aload_n 0, 1) := by decide +kernel
theorem dX10_beginTerm_73 : decode cX10_beginTerm 73 = .ok (.getfield 8, 3) := by decide +kernel
theorem dX10_beginTerm_76 : decode cX10_beginTerm 76 = .ok (.iload_n 1, 1) := by decide +kernel
theorem dX10_beginTerm_77 : decode cX10_beginTerm 77 = .ok (.iaload, 1) := by decide +kernel
theorem dX10_beginTerm_78 : decode cX10_beginTerm 78 = .ok (.invokevirtual 322, 3) := by decide +kernel
theorem dX10_beginTerm_81 : decode cX10_beginTerm 81 = .ok (.istore_n 2, 1) := by decide +kernel
theorem dX10_beginTerm_82 : decode cX10_beginTerm 82 = .ok (.iload_n 2, 1) := by decide +kernel
theorem dX10_beginTerm_83 : decode cX10_beginTerm 83 = .ok (.iconst (-1), 1) := by decide +kernel
theorem dX10_beginTerm_84 : decode cX10_beginTerm 84 = .ok (.if_icmp .eq 21, 3) := by decide +kernel
theorem dX10_beginTerm_87 : decode cX10_beginTerm 87 = .ok (.aload_n 0, 1) := by decide +kernel
theorem dX10_beginTerm_88 : decode cX10_beginTerm 88 = .ok (.aload_n 0, 1) := by decide +kernel
theorem dX10_beginTerm_89 : decode cX10_beginTerm 89 = .ok (.getfield 14, 3) := by decide +kernel
theorem dX10_beginTerm_92 : decode cX10_beginTerm 92 = .ok (.iload_n 1, 1) := by decide +kernel
theorem dX10_beginTerm_93 : decode cX10_beginTerm 93 = .ok (.iaload, 1) := by decide +kernel
theorem dX10_beginTerm_94 : decode cX10_beginTerm 94 = .ok (.invokevirtual 325, 3) := by decide +kernel
theorem dX10_beginTerm_97 : decode cX10_beginTerm 97 = .ok (.aload_n 0, 1) := by decide +kernel
theorem dX10_beginTerm_98 : decode cX10_beginTerm 98 = .ok (.iload_n 2, 1) := by decide +kernel
theorem dX10_beginTerm_99 : decode cX10_beginTerm 99 = .ok (.invokevirtual 328, 3) := by decide +kernel
theorem dX10_beginTerm_102 : decode cX10_beginTerm 102 = .ok (.if_icmp .eq 5, 3) := by decide +kernel
theorem dX10_beginTerm_105 : decode cX10_beginTerm 105 = .ok (.iconst 0, 1) := by decide +kernel
theorem dX10_beginTerm_106 : decode cX10_beginTerm 106 = .ok (.ireturn, 1) := by decide +kernel
theorem dX10_beginTerm_107 : decode cX10_beginTerm 107 = .ok (.aload_n 0, 1) := by decide +kernel
theorem dX10_beginTerm_108 : decode cX10_beginTerm 108 = .ok (.iload_n 1, 1) := by decide +kernel
theorem dX10_beginTerm_109 : decode cX10_beginTerm 109 = .ok (.invokevirtual 331, 3) := by decide +kernel
theorem dX10_beginTerm_112 : decode cX10_beginTerm 112 = .ok (.iconst 1, 1) := by decide +kernel
theorem dX10_beginTerm_113 : decode cX10_beginTerm 113 = .ok (.ireturn, 1) := by decide +kernel
theorem dX10_termOf_0 : decode cX10_termOf 0 = .ok (.aload_n 0, 1) := by decide +kernel
theorem dX10_termOf_1 : decode cX10_termOf 1 = .ok (.getfield 313, 3) := by decide +kernel
theorem dX10_termOf_4 : decode cX10_termOf 4 = .ok (.istore_n 2, 1) := by decide +kernel
theorem dX10_termOf_5 : decode cX10_termOf 5 = .ok (.aload_n 0, 1) := by decide +kernel
theorem dX10_termOf_6 : decode cX10_termOf 6 = .ok (.getfield 307, 3) := by decide +kernel
theorem dX10_termOf_9 : decode cX10_termOf 9 = .ok (.istore_n 3, 1) := by decide +kernel
theorem dX10_termOf_10 : decode cX10_termOf 10 = .ok (.aload_n 0, 1) := by decide +kernel
theorem dX10_termOf_11 : decode cX10_termOf 11 = .ok (.iload_n 1, 1) := by decide +kernel
theorem dX10_termOf_12 : decode cX10_termOf 12 = .ok (.invokevirtual 334, 3) := by decide +kernel
theorem dX10_termOf_15 : decode cX10_termOf 15 = .ok (.istore 4, 2) := by decide +kernel
theorem dX10_termOf_17 : decode cX10_termOf 17 = .ok (.aload_n 0, 1) := by decide +kernel
theorem dX10_termOf_18 : decode cX10_termOf 18 = .ok (.getfield 313, 3) := by decide +kernel
theorem dX10_termOf_21 : decode cX10_termOf 21 = .ok (.iload_n 2, 1) := by decide +kernel
theorem dX10_termOf_22 : decode cX10_termOf 22 = .ok (.if_icmp .le 125, 3) := by decide +kernel
theorem dX10_termOf_25 : decode cX10_termOf 25 = .ok (.iload 4, 2) := by decide +kernel
theorem dX10_termOf_27 : decode cX10_termOf 27 = .ok (.ifCond .eq 120, 3) := by decide +kernel
theorem dX10_termOf_30 : decode cX10_termOf 30 = .ok (.aload_n 0, 1) := by decide +kernel
theorem dX10_termOf_31 : decode cX10_termOf 31 = .ok (.getfield 313, 3) := by decide +kernel
theorem dX10_termOf_34 : decode cX10_termOf 34 = .ok (.iconst 1, 1) := by decide +kernel
theorem dX10_termOf_35 : decode cX10_termOf 35 = .ok (.isub, 1) := by decide +kernel
theorem dX10_termOf_36 : decode cX10_termOf 36 = .ok (.istore 5, 2) := by decide +kernel
theorem dX10_termOf_38 : decode cX10_termOf 38 = .ok (.aload_n 0, 1) := by decide +kernel
theorem dX10_termOf_39 : decode cX10_termOf 39 = .ok (.getfield 95, 3) := by decide +kernel
theorem dX10_termOf_42 : decode cX10_termOf 42 = .ok (.iload 5, 2) := by decide +kernel
theorem dX10_termOf_44 : decode cX10_termOf 44 = .ok (.iaload, 1) := by decide +kernel
theorem dX10_termOf_45 : decode cX10_termOf 45 = .ok (.ifCond .ne 58, 3) := by decide +kernel
theorem dX10_termOf_48 : decode cX10_termOf 48 = .ok (.aload_n 0, 1) := by decide +kernel
theorem dX10_termOf_49 : decode cX10_termOf 49 = .ok (.dup, 1) := by decide +kernel
theorem dX10_termOf_50 : decode cX10_termOf 50 = .ok (.getfield 313, 3) := by decide +kernel
theorem dX10_termOf_53 : decode cX10_termOf 53 = .ok (.iconst 1, 1) := by decide +kernel
theorem dX10_termOf_54 : decode cX10_termOf 54 = .ok (.isub, 1) := by decide +kernel
theorem dX10_termOf_55 : decode cX10_termOf 55 = .ok (.putfield 313, 3) := by decide +kernel
theorem dX10_termOf_58 : decode cX10_termOf 58 = .ok (.aload_n 0, 1) := by decide +kernel
theorem dX10_termOf_59 : decode cX10_termOf 59 = .ok (.aload_n 0, 1) := by decide +kernel
theorem dX10_termOf_60 : decode cX10_termOf 60 = .ok (.getfield 8, 3) := by decide +kernel
theorem dX10_termOf_63 : decode cX10_termOf 63 = .ok (.aload_n 0, 1) := by decide +kernel
theorem dX10_termOf_64 : decode cX10_termOf 64 = .ok (.getfield 92, 3) := by decide +kernel
theorem dX10_termOf_67 : decode cX10_termOf 67 = .ok (.iload 5, 2) := by decide +kernel
theorem dX10_termOf_69 : decode cX10_termOf 69 = .ok (.iaload, 1) := by decide +kernel
theorem dX10_termOf_70 : decode cX10_termOf 70 = .ok (.iaload, 1) := by decide +kernel
theorem dX10_termOf_71 : decode cX10_termOf 71 = .ok (.aload_n 0, 1) := by decide +kernel
theorem dX10_termOf_72 : decode cX10_termOf 72 = .ok (.getfield 98, 3) := by decide +kernel
theorem dX10_termOf_75 : decode cX10_termOf 75 = .ok (.iload 5, 2) := by decide +kernel
theorem dX10_termOf_77 : decode cX10_termOf 77 = .ok (.iaload, 1) := by decide +kernel
theorem dX10_termOf_78 : decode cX10_termOf 78 = .ok (.invokevirtual 337, 3) := by decide +kernel
theorem dX10_termOf_81 : decode cX10_termOf 81 = .ok (.istore 6, 2) := by decide +kernel
theorem dX10_termOf_83 : decode cX10_termOf 83 = .ok (.aload_n 0, 1) := by decide +kernel
theorem dX10_termOf_84 : decode cX10_termOf 84 = .ok (.aload_n 0, 1) := by decide +kernel
theorem dX10_termOf_85 : decode cX10_termOf 85 = .ok (.getfield 98, 3) := by decide +kernel
theorem dX10_termOf_88 : decode cX10_termOf 88 = .ok (.iload 5, 2) := by decide +kernel
theorem dX10_termOf_90 : decode cX10_termOf 90 = .ok (.iaload, 1) := by decide +kernel
theorem dX10_termOf_91 : decode cX10_termOf 91 = .ok (.putfield 307, 3) := by decide +kernel
theorem dX10_termOf_94 : decode cX10_termOf 94 = .ok (.aload_n 0, 1) := by decide +kernel
theorem dX10_termOf_95 : decode cX10_termOf 95 = .ok (.iload 6, 2) := by decide +kernel
theorem dX10_termOf_97 : decode cX10_termOf 97 = .ok (.invokevirtual 316, 3) := by decide +kernel
theorem dX10_termOf_100 : decode cX10_termOf 100 = .ok (.goto 44, 3) := by decide +kernel
theorem dX10_termOf_103 : decode cX10_termOf 103 = .ok (.aload_n 0, 1) := by decide +kernel
theorem dX10_termOf_104 : decode cX10_termOf 104 = .ok (.getfield 8, 3) := by decide +kernel
theorem dX10_termOf_107 : decode cX10_termOf 107 = .ok (.aload_n 0, 1) := by decide +kernel
theorem dX10_termOf_108 : decode cX10_termOf 108 = .ok (.getfield 95, 3) := by decide +kernel
theorem dX10_termOf_111 : decode cX10_termOf 111 = .ok (.iload 5, 2) := by decide +kernel
theorem dX10_termOf_113 : decode cX10_termOf 113 = .ok (.iaload, 1) := by decide +kernel
theorem dX10_termOf_114 : decode cX10_termOf 114 = .ok (.iaload, 1) := by decide +kernel
theorem dX10_termOf_115 : decode cX10_termOf 115 = .ok (.istore 6, 2) := by decide +kernel
theorem dX10_termOf_117 : decode cX10_termOf 117 = .ok (.aload_n 0, 1) := by decide +kernel
theorem dX10_termOf_118 : decode cX10_termOf 118 = .ok (.getfield 95, 3) := by decide +kernel
theorem dX10_termOf_121 : decode cX10_termOf 121 = .ok (.iload 5, 2) := by decide +kernel
theorem dX10_termOf_123 : decode cX10_termOf 123 = .ok (.aload_n 0, 1) := by decide +kernel
theorem dX10_termOf_124 : decode cX10_termOf 124 = .ok (.getfield 14, 3) := by decide +kernel
theorem dX10_termOf_127 : decode cX10_termOf 127 = .ok (.aload_n 0, 1) := by decide +kernel
theorem dX10_termOf_128 : decode cX10_termOf 128 = .ok (.getfield 95, 3) := by decide +kernel
theorem dX10_termOf_131 : decode cX10_termOf 131 = .ok (.iload 5, 2) := by decide +kernel
theorem dX10_termOf_133 : decode cX10_termOf 133 = .ok (.iaload, 1) := by decide +kernel
theorem dX10_termOf_134 : decode cX10_termOf 134 = .ok (.iaload, 1) := by decide +kernel
theorem dX10_termOf_135 : decode cX10_termOf 135 = .ok (.iastore, 1) := by decide +kernel
theorem dX10_termOf_136 : decode cX10_termOf 136 = .ok (.aload_n 0, 1) := by decide +kernel
theorem dX10_termOf_137 : decode cX10_termOf 137 = .ok (.iload 6, 2) := by decide +kernel
theorem dX10_termOf_139 : decode cX10_termOf 139 = .ok (.invokevirtual 334, 3) := by decide +kernel
theorem dX10_termOf_142 : decode cX10_termOf 142 = .ok (.istore 4, 2) := by decide +kernel
theorem dX10_termOf_144 : decode cX10_termOf 144 = .ok (.goto (-127), 3) := by decide +kernel
theorem dX10_termOf_147 : decode cX10_termOf 147 = .ok (.aload_n 0, 1) := by decide +kernel
theorem dX10_termOf_148 : decode cX10_termOf 148 = .ok (.iload_n 2, 1) := by decide +kernel
theorem dX10_termOf_149 : decode cX10_termOf 149 = .ok (.putfield 313, 3) := by decide +kernel
theorem dX10_termOf_152 : decode cX10_termOf 152 = .ok (.aload_n 0, 1) := by decide +kernel
theorem dX10_termOf_153 : decode cX10_termOf 153 = .ok (.iload_n 3, 1) := by decide +kernel
theorem dX10_termOf_154 : decode cX10_termOf 154 = .ok (.putfield 307, 3) := by decide +kernel
theorem dX10_termOf_157 : decode cX10_termOf 157 = .ok (.iload 4, 2) := by decide +kernel
theorem dX10_termOf_159 : decode cX10_termOf 159 = .ok (.ifCond .eq 27, 3) := by decide +kernel
theorem dX10_termOf_162 : decode cX10_termOf 162 = .ok (.aload_n 0, 1) := by decide +kernel
theorem dX10_termOf_163 : decode cX10_termOf 163 = .ok (.aload_n 0, 1) := by decide +kernel
theorem dX10_termOf_164 : decode cX10_termOf 164 = .ok (.getfield 101, 3) := by decide +kernel
theorem dX10_termOf_167 : decode cX10_termOf 167 = .ok (.iload_n 3, 1) := by decide +kernel
theorem dX10_termOf_168 : decode cX10_termOf 168 = .ok (.iaload, 1) := by decide +kernel
theorem dX10_termOf_169 : decode cX10_termOf 169 = .ok (.invokevirtual 310, 3) := by decide +kernel
theorem dX10_termOf_172 : decode cX10_termOf 172 = .ok (.bipush 120, 2) := by decide +kernel
theorem dX10_termOf_174 : decode cX10_termOf 174 = .ok (.if_icmp .gt 12, 3) := by decide +kernel
theorem dX10_termOf_177 : decode cX10_termOf 177 = .ok (.aload_n 0, 1) := by decide +kernel
theorem dX10_termOf_178 : decode cX10_termOf 178 = .ok (.getfield 101, 3) := by decide +kernel
theorem dX10_termOf_181 : decode cX10_termOf 181 = .ok (.iload_n 3, 1) := by decide +kernel
theorem dX10_termOf_182 : decode cX10_termOf 182 = .ok (.iaload, 1) := by decide +kernel
theorem dX10_termOf_183 : decode cX10_termOf 183 = .ok (.goto 4, 3) := by decide +kernel
theorem dX10_termOf_186 : decode cX10_termOf 186 = .ok (.iconst (-1), 1) := by decide +kernel
theorem dX10_termOf_187 : decode cX10_termOf 187 = .ok (.ireturn, 1) := by decide +kernel
theorem dX10_walkTo_0 : decode cX10_walkTo 0 = .ok (.aload_n 0, 1) := by decide +kernel
theorem dX10_walkTo_1 : decode cX10_walkTo 1 = .ok (.getfield 104, 3) := by decide +kernel
theorem dX10_walkTo_4 : decode cX10_walkTo 4 = .ok (.aload_n 0, 1) := by decide +kernel
theorem dX10_walkTo_5 : decode cX10_walkTo 5 = .ok (.getfield 340, 3) := by decide +kernel
theorem dX10_walkTo_8 : decode cX10_walkTo 8 = .ok (.iload_n 1, 1) := by decide +kernel
theorem dX10_walkTo_9 : decode cX10_walkTo 9 = .ok (.iastore, 1) := by decide +kernel
theorem dX10_walkTo_10 : decode cX10_walkTo 10 = .ok (.aload_n 0, 1) := by decide +kernel
theorem dX10_walkTo_11 : decode cX10_walkTo 11 = .ok (.dup, 1) := by decide +kernel
theorem dX10_walkTo_12 : decode cX10_walkTo 12 = .ok (.getfield 340, 3) := by decide +kernel
theorem dX10_walkTo_15 : decode cX10_walkTo 15 = .ok (.iconst 1, 1) := by decide +kernel
theorem dX10_walkTo_16 : decode cX10_walkTo 16 = .ok (.iadd, 1) := by decide +kernel
theorem dX10_walkTo_17 : decode cX10_walkTo 17 = .ok (.putfield 340, 3) := by decide +kernel
theorem dX10_walkTo_20 : decode cX10_walkTo 20 = .ok (.return_, 1) := by decide +kernel
theorem dX10_walkOn_0 : decode cX10_walkOn 0 = .ok (.aload_n 0, 1) := by decide +kernel
theorem dX10_walkOn_1 : decode cX10_walkOn 1 = .ok (.dup, 1) := by decide +kernel
theorem dX10_walkOn_2 : decode cX10_walkOn 2 = .ok (.getfield 340, 3) := by decide +kernel
theorem dX10_walkOn_5 : decode cX10_walkOn 5 = .ok (.iconst 1, 1) := by decide +kernel
theorem dX10_walkOn_6 : decode cX10_walkOn 6 = .ok (.isub, 1) := by decide +kernel
theorem dX10_walkOn_7 : decode cX10_walkOn 7 = .ok (.putfield 340, 3) := by decide +kernel
theorem dX10_walkOn_10 : decode cX10_walkOn 10 = .ok (.aload_n 0, 1) := by decide +kernel
theorem dX10_walkOn_11 : decode cX10_walkOn 11 = .ok (.getfield 104, 3) := by decide +kernel
theorem dX10_walkOn_14 : decode cX10_walkOn 14 = .ok (.aload_n 0, 1) := by decide +kernel
theorem dX10_walkOn_15 : decode cX10_walkOn 15 = .ok (.getfield 340, 3) := by decide +kernel
theorem dX10_walkOn_18 : decode cX10_walkOn 18 = .ok (.iaload, 1) := by decide +kernel
theorem dX10_walkOn_19 : decode cX10_walkOn 19 = .ok (.istore_n 1, 1) := by decide +kernel
theorem dX10_walkOn_20 : decode cX10_walkOn 20 = .ok (.aload_n 0, 1) := by decide +kernel
theorem dX10_walkOn_21 : decode cX10_walkOn 21 = .ok (.iload_n 1, 1) := by decide +kernel
theorem dX10_walkOn_22 : decode cX10_walkOn 22 = .ok (.invokevirtual 304, 3) := by decide +kernel
theorem dX10_walkOn_25 : decode cX10_walkOn 25 = .ok (.ifCond .ne 5, 3) := by decide +kernel
theorem dX10_walkOn_28 : decode cX10_walkOn 28 = .ok (.iload_n 1, 1) := by decide +kernel
theorem dX10_walkOn_29 : decode cX10_walkOn 29 = .ok (.ireturn, 1) := by decide +kernel
theorem dX10_walkOn_30 : decode cX10_walkOn 30 = .ok (.aload_n 0, 1) := by decide +kernel
theorem dX10_walkOn_31 : decode cX10_walkOn 31 = .ok (.aload_n 0, 1) := by decide +kernel
theorem dX10_walkOn_32 : decode cX10_walkOn 32 = .ok (.getfield 14, 3) := by decide +kernel
theorem dX10_walkOn_35 : decode cX10_walkOn 35 = .ok (.iload_n 1, 1) := by decide +kernel
theorem dX10_walkOn_36 : decode cX10_walkOn 36 = .ok (.iaload, 1) := by decide +kernel
theorem dX10_walkOn_37 : decode cX10_walkOn 37 = .ok (.invokevirtual 325, 3) := by decide +kernel
theorem dX10_walkOn_40 : decode cX10_walkOn 40 = .ok (.istore_n 2, 1) := by decide +kernel
theorem dX10_walkOn_41 : decode cX10_walkOn 41 = .ok (.iload_n 2, 1) := by decide +kernel
theorem dX10_walkOn_42 : decode cX10_walkOn 42 = .ok (.istore_n 3, 1) := by decide +kernel
theorem dX10_walkOn_43 : decode cX10_walkOn 43 = .ok (.iload_n 3, 1) := by decide +kernel
theorem dX10_walkOn_44 : decode cX10_walkOn 44 = .ok (.iconst 1, 1) := by decide +kernel
theorem dX10_walkOn_45 : decode cX10_walkOn 45 = .ok (.if_icmp .lt 19, 3) := by decide +kernel
theorem dX10_walkOn_48 : decode cX10_walkOn 48 = .ok (.aload_n 0, 1) := by decide +kernel
theorem dX10_walkOn_49 : decode cX10_walkOn 49 = .ok (.aload_n 0, 1) := by decide +kernel
theorem dX10_walkOn_50 : decode cX10_walkOn 50 = .ok (.iload_n 1, 1) := by decide +kernel
theorem dX10_walkOn_51 : decode cX10_walkOn 51 = .ok (.iload_n 3, 1) := by decide +kernel
theorem dX10_walkOn_52 : decode cX10_walkOn 52 = .ok (.invokevirtual 292, 3) := by decide +kernel
theorem dX10_walkOn_55 : decode cX10_walkOn 55 = .ok (.invokevirtual 343, 3) := by decide +kernel
theorem dX10_walkOn_58 : decode cX10_walkOn 58 = .ok (.iinc 3 (-1), 3) := by decide +kernel
theorem dX10_walkOn_61 : decode cX10_walkOn 61 = .ok (.goto (-18), 3) := by decide +kernel
theorem dX10_walkOn_64 : decode cX10_walkOn 64 = .ok (.iload_n 1, 1) := by decide +kernel
theorem dX10_walkOn_65 : decode cX10_walkOn 65 = .ok (.ireturn, 1) := by decide +kernel
theorem dX10_hasCall_0 : decode cX10_hasCall 0 = .ok (.aload_n 0, 1) := by decide +kernel
theorem dX10_hasCall_1 : decode cX10_hasCall 1 = .ok (.iconst 0, 1) := by decide +kernel
theorem dX10_hasCall_2 : decode cX10_hasCall 2 = .ok (.putfield 340, 3) := by decide +kernel
theorem dX10_hasCall_5 : decode cX10_hasCall 5 = .ok (.aload_n 0, 1) := by decide +kernel
theorem dX10_hasCall_6 : decode cX10_hasCall 6 = .ok (.iload_n 1, 1) := by decide +kernel
theorem dX10_hasCall_7 : decode cX10_hasCall 7 = .ok (.invokevirtual 343, 3) := by decide +kernel
theorem dX10_hasCall_10 : decode cX10_hasCall 10 = .ok (.aload_n 0, 1) := by decide +kernel
theorem dX10_hasCall_11 : decode cX10_hasCall 11 = .ok (.getfield 340, 3) := by decide +kernel
theorem dX10_hasCall_14 : decode cX10_hasCall 14 = .ok (.ifCond .le 22, 3) := by decide +kernel
theorem dX10_hasCall_17 : decode cX10_hasCall 17 = .ok (.aload_n 0, 1) := by decide +kernel
theorem dX10_hasCall_18 : decode cX10_hasCall 18 = .ok (.invokevirtual 346, 3) := by decide +kernel
theorem dX10_hasCall_21 : decode cX10_hasCall 21 = .ok (.istore_n 3, 1) := by decide +kernel
theorem dX10_hasCall_22 : decode cX10_hasCall 22 = .ok (.aload_n 0, 1) := by decide +kernel
theorem dX10_hasCall_23 : decode cX10_hasCall 23 = .ok (.iload_n 3, 1) := by decide +kernel
theorem dX10_hasCall_24 : decode cX10_hasCall 24 = .ok (.iload_n 2, 1) := by decide +kernel
theorem dX10_hasCall_25 : decode cX10_hasCall 25 = .ok (.invokevirtual 349, 3) := by decide +kernel
theorem dX10_hasCall_28 : decode cX10_hasCall 28 = .ok (.ifCond .eq 5, 3) := by decide +kernel
theorem dX10_hasCall_31 : decode cX10_hasCall 31 = .ok (.iconst 1, 1) := by decide +kernel
theorem dX10_hasCall_32 : decode cX10_hasCall 32 = .ok (.ireturn, 1) := by decide +kernel
theorem dX10_hasCall_33 : decode cX10_hasCall 33 = .ok (.goto (-23), 3) := by decide +kernel
theorem dX10_hasCall_36 : decode cX10_hasCall 36 = .ok (.iconst 0, 1) := by decide +kernel
theorem dX10_hasCall_37 : decode cX10_hasCall 37 = .ok (.ireturn, 1) := by decide +kernel
theorem dX10_variablesOf_0 : decode cX10_variablesOf 0 = .ok (.aload_n 0, 1) := by decide +kernel
theorem dX10_variablesOf_1 : decode cX10_variablesOf 1 = .ok (.iconst 0, 1) := by decide +kernel
theorem dX10_variablesOf_2 : decode cX10_variablesOf 2 = .ok (.putfield 353, 3) := by decide +kernel
theorem dX10_variablesOf_5 : decode cX10_variablesOf 5 = .ok (.aload_n 0, 1) := by decide +kernel
theorem dX10_variablesOf_6 : decode cX10_variablesOf 6 = .ok (.iconst 0, 1) := by decide +kernel
theorem dX10_variablesOf_7 : decode cX10_variablesOf 7 = .ok (.putfield 340, 3) := by decide +kernel
theorem dX10_variablesOf_10 : decode cX10_variablesOf 10 = .ok (.aload_n 0, 1) := by decide +kernel
theorem dX10_variablesOf_11 : decode cX10_variablesOf 11 = .ok (.iload_n 1, 1) := by decide +kernel
theorem dX10_variablesOf_12 : decode cX10_variablesOf 12 = .ok (.invokevirtual 343, 3) := by decide +kernel
theorem dX10_variablesOf_15 : decode cX10_variablesOf 15 = .ok (.aload_n 0, 1) := by decide +kernel
theorem dX10_variablesOf_16 : decode cX10_variablesOf 16 = .ok (.getfield 340, 3) := by decide +kernel
theorem dX10_variablesOf_19 : decode cX10_variablesOf 19 = .ok (.ifCond .le 83, 3) := by decide +kernel
theorem dX10_variablesOf_22 : decode cX10_variablesOf 22 = .ok (.aload_n 0, 1) := by decide +kernel
theorem dX10_variablesOf_23 : decode cX10_variablesOf 23 = .ok (.invokevirtual 346, 3) := by decide +kernel
theorem dX10_variablesOf_26 : decode cX10_variablesOf 26 = .ok (.istore_n 2, 1) := by decide +kernel
theorem dX10_variablesOf_27 : decode cX10_variablesOf 27 = .ok (.aload_n 0, 1) := by decide +kernel
theorem dX10_variablesOf_28 : decode cX10_variablesOf 28 = .ok (.iload_n 2, 1) := by decide +kernel
theorem dX10_variablesOf_29 : decode cX10_variablesOf 29 = .ok (.invokevirtual 356, 3) := by decide +kernel
theorem dX10_variablesOf_32 : decode cX10_variablesOf 32 = .ok (.istore_n 3, 1) := by decide +kernel
theorem dX10_variablesOf_33 : decode cX10_variablesOf 33 = .ok (.iconst 0, 1) := by decide +kernel
theorem dX10_variablesOf_34 : decode cX10_variablesOf 34 = .ok (.istore 4, 2) := by decide +kernel
theorem dX10_variablesOf_36 : decode cX10_variablesOf 36 = .ok (.iload 4, 2) := by decide +kernel
theorem dX10_variablesOf_38 : decode cX10_variablesOf 38 = .ok (.aload_n 0, 1) := by decide +kernel
theorem dX10_variablesOf_39 : decode cX10_variablesOf 39 = .ok (.getfield 353, 3) := by decide +kernel
theorem dX10_variablesOf_42 : decode cX10_variablesOf 42 = .ok (.if_icmp .ge 30, 3) := by decide +kernel
theorem dX10_variablesOf_45 : decode cX10_variablesOf 45 = .ok (.iload_n 3, 1) := by decide +kernel
theorem dX10_variablesOf_46 : decode cX10_variablesOf 46 = .ok (.ifCond .eq 26, 3) := by decide +kernel
theorem dX10_variablesOf_49 : decode cX10_variablesOf 49 = .ok (.aload_n 0, 1) := by decide +kernel
theorem dX10_variablesOf_50 : decode cX10_variablesOf 50 = .ok (.getfield 107, 3) := by decide +kernel
theorem dX10_variablesOf_53 : decode cX10_variablesOf 53 = .ok (.iload 4, 2) := by decide +kernel
theorem dX10_variablesOf_55 : decode cX10_variablesOf 55 = .ok (.iaload, 1) := by decide +kernel
theorem dX10_variablesOf_56 : decode cX10_variablesOf 56 = .ok (.iload_n 2, 1) := by decide +kernel
theorem dX10_variablesOf_57 : decode cX10_variablesOf 57 = .ok (.if_icmp .eq 7, 3) := by decide +kernel
theorem dX10_variablesOf_60 : decode cX10_variablesOf 60 = .ok (.iconst 1, 1) := by decide +kernel
theorem dX10_variablesOf_61 : decode cX10_variablesOf 61 = .ok (.goto 4, 3) := by decide +kernel
theorem dX10_variablesOf_64 : decode cX10_variablesOf 64 = .ok (.iconst 0, 1) := by decide +kernel
theorem dX10_variablesOf_65 : decode cX10_variablesOf 65 = .ok (.istore_n 3, 1) := by decide +kernel
theorem dX10_variablesOf_66 : decode cX10_variablesOf 66 = .ok (.iinc 4 1, 3) := by decide +kernel
theorem dX10_variablesOf_69 : decode cX10_variablesOf 69 = .ok (.goto (-33), 3) := by decide +kernel
theorem dX10_variablesOf_72 : decode cX10_variablesOf 72 = .ok (.iload_n 3, 1) := by decide +kernel
theorem dX10_variablesOf_73 : decode cX10_variablesOf 73 = .ok (.ifCond .ne 6, 3) := by decide +kernel
theorem dX10_variablesOf_76 : decode cX10_variablesOf 76 = .ok (.goto (-61), 3) := by decide +kernel
theorem dX10_variablesOf_79 : decode cX10_variablesOf 79 = .ok (.aload_n 0, 1) := by decide +kernel
theorem dX10_variablesOf_80 : decode cX10_variablesOf 80 = .ok (.getfield 107, 3) := by decide +kernel
theorem dX10_variablesOf_83 : decode cX10_variablesOf 83 = .ok (.aload_n 0, 1) := by decide +kernel
theorem dX10_variablesOf_84 : decode cX10_variablesOf 84 = .ok (.getfield 353, 3) := by decide +kernel
theorem dX10_variablesOf_87 : decode cX10_variablesOf 87 = .ok (.iload_n 2, 1) := by decide +kernel
theorem dX10_variablesOf_88 : decode cX10_variablesOf 88 = .ok (.iastore, 1) := by decide +kernel
theorem dX10_variablesOf_89 : decode cX10_variablesOf 89 = .ok (.aload_n 0, 1) := by decide +kernel
theorem dX10_variablesOf_90 : decode cX10_variablesOf 90 = .ok (.dup, 1) := by decide +kernel
theorem dX10_variablesOf_91 : decode cX10_variablesOf 91 = .ok (.getfield 353, 3) := by decide +kernel
theorem dX10_variablesOf_94 : decode cX10_variablesOf 94 = .ok (.iconst 1, 1) := by decide +kernel
theorem dX10_variablesOf_95 : decode cX10_variablesOf 95 = .ok (.iadd, 1) := by decide +kernel
theorem dX10_variablesOf_96 : decode cX10_variablesOf 96 = .ok (.putfield 353, 3) := by decide +kernel
theorem dX10_variablesOf_99 : decode cX10_variablesOf 99 = .ok (.goto (-84), 3) := by decide +kernel
theorem dX10_variablesOf_102 : decode cX10_variablesOf 102 = .ok (.return_, 1) := by decide +kernel
theorem dX10_beginEval_0 : decode cX10_beginEval 0 = .ok (.aload_n 0, 1) := by decide +kernel
theorem dX10_beginEval_1 : decode cX10_beginEval 1 = .ok (.iconst 1, 1) := by decide +kernel
theorem dX10_beginEval_2 : decode cX10_beginEval 2 = .ok (.putfield 359, 3) := by decide +kernel
theorem dX10_beginEval_5 : decode cX10_beginEval 5 = .ok (.aload_n 0, 1) := by decide +kernel
theorem dX10_beginEval_6 : decode cX10_beginEval 6 = .ok (.iload_n 1, 1) := by decide +kernel
theorem dX10_beginEval_7 : decode cX10_beginEval 7 = .ok (.invokevirtual 362, 3) := by decide +kernel
theorem dX10_beginEval_10 : decode cX10_beginEval 10 = .ok (.ifCond .eq 13, 3) := by decide +kernel
theorem dX10_beginEval_13 : decode cX10_beginEval 13 = .ok (.aload_n 0, 1) := by decide +kernel
theorem dX10_beginEval_14 : decode cX10_beginEval 14 = .ok (.aload_n 0, 1) := by decide +kernel
theorem dX10_beginEval_15 : decode cX10_beginEval 15 = .ok (.iload_n 1, 1) := by decide +kernel
theorem dX10_beginEval_16 : decode cX10_beginEval 16 = .ok (.invokevirtual 365, 3) := by decide +kernel
theorem dX10_beginEval_19 : decode cX10_beginEval 19 = .ok (.putfield 368, 3) := by decide +kernel
theorem dX10_beginEval_22 : decode cX10_beginEval 22 = .ok (.return_, 1) := by decide +kernel
theorem dX10_beginEval_23 : decode cX10_beginEval 23 = .ok (.aload_n 0, 1) := by decide +kernel
theorem dX10_beginEval_24 : decode cX10_beginEval 24 = .ok (.iload_n 1, 1) := by decide +kernel
theorem dX10_beginEval_25 : decode cX10_beginEval 25 = .ok (.invokevirtual 195, 3) := by decide +kernel
theorem dX10_beginEval_28 : decode cX10_beginEval 28 = .ok (.ifCond .ne 78, 3) := by decide +kernel
theorem dX10_beginEval_31 : decode cX10_beginEval 31 = .ok (.iconst 0, 1) := by decide +kernel
theorem dX10_beginEval_32 : decode cX10_beginEval 32 = .ok (.istore 5, 2) := by decide +kernel
theorem dX10_beginEval_34 : decode cX10_beginEval 34 = .ok (.iload_n 2, 1) := by decide +kernel
theorem dX10_beginEval_35 : decode cX10_beginEval 35 = .ok (.iconst (-1), 1) := by decide +kernel
theorem dX10_beginEval_36 : decode cX10_beginEval 36 = .ok (.if_icmp .ne 34, 3) := by decide +kernel
theorem dX10_beginEval_39 : decode cX10_beginEval 39 = .ok (.aload_n 0, 1) := by decide +kernel
theorem dX10_beginEval_40 : decode cX10_beginEval 40 = .ok (.getfield 110, 3) := by decide +kernel
theorem dX10_beginEval_43 : decode cX10_beginEval 43 = .ok (.iload 5, 2) := by decide +kernel
theorem dX10_beginEval_45 : decode cX10_beginEval 45 = .ok (.iaload, 1) := by decide +kernel
theorem dX10_beginEval_46 : decode cX10_beginEval 46 = .ok (.iload_n 1, 1) := by decide +kernel
theorem dX10_beginEval_47 : decode cX10_beginEval 47 = .ok (.if_icmp .eq 9, 3) := by decide +kernel
theorem dX10_beginEval_50 : decode cX10_beginEval 50 = .ok (.iinc 5 1, 3) := by decide +kernel
theorem dX10_beginEval_53 : decode cX10_beginEval 53 = .ok (.goto (-14), 3) := by decide +kernel
theorem dX10_beginEval_56 : decode cX10_beginEval 56 = .ok (.aload_n 0, 1) := by decide +kernel
theorem dX10_beginEval_57 : decode cX10_beginEval 57 = .ok (.aload_n 0, 1) := by decide +kernel
theorem dX10_beginEval_58 : decode cX10_beginEval 58 = .ok (.getfield 113, 3) := by decide +kernel
theorem dX10_beginEval_61 : decode cX10_beginEval 61 = .ok (.iload 5, 2) := by decide +kernel
theorem dX10_beginEval_63 : decode cX10_beginEval 63 = .ok (.iaload, 1) := by decide +kernel
theorem dX10_beginEval_64 : decode cX10_beginEval 64 = .ok (.putfield 368, 3) := by decide +kernel
theorem dX10_beginEval_67 : decode cX10_beginEval 67 = .ok (.goto 38, 3) := by decide +kernel
theorem dX10_beginEval_70 : decode cX10_beginEval 70 = .ok (.aload_n 0, 1) := by decide +kernel
theorem dX10_beginEval_71 : decode cX10_beginEval 71 = .ok (.getfield 80, 3) := by decide +kernel
theorem dX10_beginEval_74 : decode cX10_beginEval 74 = .ok (.bipush 6, 2) := by decide +kernel
theorem dX10_beginEval_76 : decode cX10_beginEval 76 = .ok (.iload_n 2, 1) := by decide +kernel
theorem dX10_beginEval_77 : decode cX10_beginEval 77 = .ok (.imul, 1) := by decide +kernel
theorem dX10_beginEval_78 : decode cX10_beginEval 78 = .ok (.iload 5, 2) := by decide +kernel
theorem dX10_beginEval_80 : decode cX10_beginEval 80 = .ok (.iadd, 1) := by decide +kernel
theorem dX10_beginEval_81 : decode cX10_beginEval 81 = .ok (.iaload, 1) := by decide +kernel
theorem dX10_beginEval_82 : decode cX10_beginEval 82 = .ok (.iload_n 1, 1) := by decide +kernel
theorem dX10_beginEval_83 : decode cX10_beginEval 83 = .ok (.if_icmp .eq 9, 3) := by decide +kernel
theorem dX10_beginEval_86 : decode cX10_beginEval 86 = .ok (.iinc 5 1, 3) := by decide +kernel
theorem dX10_beginEval_89 : decode cX10_beginEval 89 = .ok (.goto (-19), 3) := by decide +kernel
theorem dX10_beginEval_92 : decode cX10_beginEval 92 = .ok (.aload_n 0, 1) := by decide +kernel
theorem dX10_beginEval_93 : decode cX10_beginEval 93 = .ok (.aload_n 0, 1) := by decide +kernel
theorem dX10_beginEval_94 : decode cX10_beginEval 94 = .ok (.getfield 135, 3) := by decide +kernel
theorem dX10_beginEval_97 : decode cX10_beginEval 97 = .ok (.iload_n 3, 1) := by decide +kernel
theorem dX10_beginEval_98 : decode cX10_beginEval 98 = .ok (.iload 5, 2) := by decide +kernel
theorem dX10_beginEval_100 : decode cX10_beginEval 100 = .ok (.iadd, 1) := by decide +kernel
theorem dX10_beginEval_101 : decode cX10_beginEval 101 = .ok (.iaload, 1) := by decide +kernel
theorem dX10_beginEval_102 : decode cX10_beginEval 102 = .ok (.putfield 368, 3) := by decide +kernel
theorem dX10_beginEval_105 : decode cX10_beginEval 105 = .ok (.return_, 1) := by decide +kernel
theorem dX10_beginEval_106 : decode cX10_beginEval 106 = .ok (.aload_n 0, 1) := by decide +kernel
theorem dX10_beginEval_107 : decode cX10_beginEval 107 = .ok (.iconst 0, 1) := by decide +kernel
theorem dX10_beginEval_108 : decode cX10_beginEval 108 = .ok (.putfield 359, 3) := by decide +kernel
theorem dX10_beginEval_111 : decode cX10_beginEval 111 = .ok (.aload_n 0, 1) := by decide +kernel
theorem dX10_beginEval_112 : decode cX10_beginEval 112 = .ok (.getfield 371, 3) := by decide +kernel
theorem dX10_beginEval_115 : decode cX10_beginEval 115 = .ok (.sipush 300, 3) := by decide +kernel
theorem dX10_beginEval_118 : decode cX10_beginEval 118 = .ok (.if_icmp .ne 9, 3) := by decide +kernel
theorem dX10_beginEval_121 : decode cX10_beginEval 121 = .ok (.aload_n 0, 1) := by decide +kernel
theorem dX10_beginEval_122 : decode cX10_beginEval 122 = .ok (.iconst 2, 1) := by decide +kernel
theorem dX10_beginEval_123 : decode cX10_beginEval 123 = .ok (.putfield 374, 3) := by decide +kernel
theorem dX10_beginEval_126 : decode cX10_beginEval 126 = .ok (.return_, 1) := by decide +kernel
theorem dX10_beginEval_127 : decode cX10_beginEval 127 = .ok (.iload 4, 2) := by decide +kernel
theorem dX10_beginEval_129 : decode cX10_beginEval 129 = .ok (.ifCond .eq 16, 3) := by decide +kernel
theorem dX10_beginEval_132 : decode cX10_beginEval 132 = .ok (.aload_n 0, 1) := by decide +kernel
theorem dX10_beginEval_133 : decode cX10_beginEval 133 = .ok (.getfield 377, 3) := by decide +kernel
theorem dX10_beginEval_136 : decode cX10_beginEval 136 = .ok (.ifCond .ne 9, 3) := by decide +kernel
theorem dX10_beginEval_139 : decode cX10_beginEval 139 = .ok (.aload_n 0, 1) := by decide +kernel
theorem dX10_beginEval_140 : decode cX10_beginEval 140 = .ok (.iconst (-1), 1) := by decide +kernel
theorem dX10_beginEval_141 : decode cX10_beginEval 141 = .ok (.putfield 374, 3) := by decide +kernel
theorem dX10_beginEval_144 : decode cX10_beginEval 144 = .ok (.return_, 1) := by decide +kernel
theorem dX10_beginEval_145 : decode cX10_beginEval 145 = .ok (.aload_n 0, 1) := by decide +kernel
theorem dX10_beginEval_146 : decode cX10_beginEval 146 = .ok (.getfield 380, 3) := by decide +kernel
theorem dX10_beginEval_149 : decode cX10_beginEval 149 = .ok (.aload_n 0, 1) := by decide +kernel
theorem dX10_beginEval_150 : decode cX10_beginEval 150 = .ok (.getfield 89, 3) := by decide +kernel
theorem dX10_beginEval_153 : decode cX10_beginEval 153 = .ok (.if_icmp .ne 9, 3) := by decide +kernel
theorem dX10_beginEval_156 : decode cX10_beginEval 156 = .ok (.aload_n 0, 1) := by decide +kernel
theorem dX10_beginEval_157 : decode cX10_beginEval 157 = .ok (.iconst 1, 1) := by decide +kernel
theorem dX10_beginEval_158 : decode cX10_beginEval 158 = .ok (.putfield 374, 3) := by decide +kernel
theorem dX10_beginEval_161 : decode cX10_beginEval 161 = .ok (.return_, 1) := by decide +kernel
theorem dX10_beginEval_162 : decode cX10_beginEval 162 = .ok (.aload_n 0, 1) := by decide +kernel
theorem dX10_beginEval_163 : decode cX10_beginEval 163 = .ok (.dup, 1) := by decide +kernel
theorem dX10_beginEval_164 : decode cX10_beginEval 164 = .ok (.getfield 380, 3) := by decide +kernel
theorem dX10_beginEval_167 : decode cX10_beginEval 167 = .ok (.iconst 1, 1) := by decide +kernel
theorem dX10_beginEval_168 : decode cX10_beginEval 168 = .ok (.iadd, 1) := by decide +kernel
theorem dX10_beginEval_169 : decode cX10_beginEval 169 = .ok (.putfield 380, 3) := by decide +kernel
theorem dX10_beginEval_172 : decode cX10_beginEval 172 = .ok (.aload_n 0, 1) := by decide +kernel
theorem dX10_beginEval_173 : decode cX10_beginEval 173 = .ok (.dup, 1) := by decide +kernel
theorem dX10_beginEval_174 : decode cX10_beginEval 174 = .ok (.getfield 377, 3) := by decide +kernel
theorem dX10_beginEval_177 : decode cX10_beginEval 177 = .ok (.iconst 1, 1) := by decide +kernel
theorem dX10_beginEval_178 : decode cX10_beginEval 178 = .ok (.isub, 1) := by decide +kernel
theorem dX10_beginEval_179 : decode cX10_beginEval 179 = .ok (.putfield 377, 3) := by decide +kernel
theorem dX10_beginEval_182 : decode cX10_beginEval 182 = .ok (.aload_n 0, 1) := by decide +kernel
theorem dX10_beginEval_183 : decode cX10_beginEval 183 = .ok (.getfield 116, 3) := by decide +kernel
theorem dX10_beginEval_186 : decode cX10_beginEval 186 = .ok (.aload_n 0, 1) := by decide +kernel
theorem dX10_beginEval_187 : decode cX10_beginEval 187 = .ok (.getfield 371, 3) := by decide +kernel
theorem dX10_beginEval_190 : decode cX10_beginEval 190 = .ok (.iload_n 1, 1) := by decide +kernel
theorem dX10_beginEval_191 : decode cX10_beginEval 191 = .ok (.iastore, 1) := by decide +kernel
theorem dX10_beginEval_192 : decode cX10_beginEval 192 = .ok (.aload_n 0, 1) := by decide +kernel
theorem dX10_beginEval_193 : decode cX10_beginEval 193 = .ok (.getfield 119, 3) := by decide +kernel
theorem dX10_beginEval_196 : decode cX10_beginEval 196 = .ok (.aload_n 0, 1) := by decide +kernel
theorem dX10_beginEval_197 : decode cX10_beginEval 197 = .ok (.getfield 371, 3) := by decide +kernel
theorem dX10_beginEval_200 : decode cX10_beginEval 200 = .ok (.aload_n 0, 1) := by decide +kernel
theorem dX10_beginEval_201 : decode cX10_beginEval 201 = .ok (.getfield 14, 3) := by decide +kernel
theorem dX10_beginEval_204 : decode cX10_beginEval 204 = .ok (.iload_n 1, 1) := by decide +kernel
theorem dX10_beginEval_205 : decode cX10_beginEval 205 = .ok (.iaload, 1) := by decide +kernel
theorem dX10_beginEval_206 : decode cX10_beginEval 206 = .ok (.iastore, 1) := by decide +kernel
theorem dX10_beginEval_207 : decode cX10_beginEval 207 = .ok (.aload_n 0, 1) := by decide +kernel
theorem dX10_beginEval_208 : decode cX10_beginEval 208 = .ok (.getfield 122, 3) := by decide +kernel
theorem dX10_beginEval_211 : decode cX10_beginEval 211 = .ok (.aload_n 0, 1) := by decide +kernel
theorem dX10_beginEval_212 : decode cX10_beginEval 212 = .ok (.getfield 371, 3) := by decide +kernel
theorem dX10_beginEval_215 : decode cX10_beginEval 215 = .ok (.aload_n 0, 1) := by decide +kernel
theorem dX10_beginEval_216 : decode cX10_beginEval 216 = .ok (.getfield 383, 3) := by decide +kernel
theorem dX10_beginEval_219 : decode cX10_beginEval 219 = .ok (.iastore, 1) := by decide +kernel
theorem dX10_beginEval_220 : decode cX10_beginEval 220 = .ok (.aload_n 0, 1) := by decide +kernel
theorem dX10_beginEval_221 : decode cX10_beginEval 221 = .ok (.getfield 125, 3) := by decide +kernel
theorem dX10_beginEval_224 : decode cX10_beginEval 224 = .ok (.aload_n 0, 1) := by decide +kernel
theorem dX10_beginEval_225 : decode cX10_beginEval 225 = .ok (.getfield 371, 3) := by decide +kernel
theorem dX10_beginEval_228 : decode cX10_beginEval 228 = .ok (.iload_n 2, 1) := by decide +kernel
theorem dX10_beginEval_229 : decode cX10_beginEval 229 = .ok (.iastore, 1) := by decide +kernel
theorem dX10_beginEval_230 : decode cX10_beginEval 230 = .ok (.aload_n 0, 1) := by decide +kernel
theorem dX10_beginEval_231 : decode cX10_beginEval 231 = .ok (.getfield 128, 3) := by decide +kernel
theorem dX10_beginEval_234 : decode cX10_beginEval 234 = .ok (.aload_n 0, 1) := by decide +kernel
theorem dX10_beginEval_235 : decode cX10_beginEval 235 = .ok (.getfield 371, 3) := by decide +kernel
theorem dX10_beginEval_238 : decode cX10_beginEval 238 = .ok (.iload_n 3, 1) := by decide +kernel
theorem dX10_beginEval_239 : decode cX10_beginEval 239 = .ok (.iastore, 1) := by decide +kernel
theorem dX10_beginEval_240 : decode cX10_beginEval 240 = .ok (.aload_n 0, 1) := by decide +kernel
theorem dX10_beginEval_241 : decode cX10_beginEval 241 = .ok (.getfield 131, 3) := by decide +kernel
theorem dX10_beginEval_244 : decode cX10_beginEval 244 = .ok (.aload_n 0, 1) := by decide +kernel
theorem dX10_beginEval_245 : decode cX10_beginEval 245 = .ok (.getfield 371, 3) := by decide +kernel
theorem dX10_beginEval_248 : decode cX10_beginEval 248 = .ok (.iconst 0, 1) := by decide +kernel
theorem dX10_beginEval_249 : decode cX10_beginEval 249 = .ok (.bastore, 1) := by decide +kernel
theorem dX10_beginEval_250 : decode cX10_beginEval 250 = .ok (.aload_n 0, 1) := by decide +kernel
theorem dX10_beginEval_251 : decode cX10_beginEval 251 = .ok (.dup, 1) := by decide +kernel
theorem dX10_beginEval_252 : decode cX10_beginEval 252 = .ok (.getfield 371, 3) := by decide +kernel
theorem dX10_beginEval_255 : decode cX10_beginEval 255 = .ok (.iconst 1, 1) := by decide +kernel
theorem dX10_beginEval_256 : decode cX10_beginEval 256 = .ok (.iadd, 1) := by decide +kernel
theorem dX10_beginEval_257 : decode cX10_beginEval 257 = .ok (.putfield 371, 3) := by decide +kernel
theorem dX10_beginEval_260 : decode cX10_beginEval 260 = .ok (.return_, 1) := by decide +kernel
theorem dX10_numberOf_0 : decode cX10_numberOf 0 = .ok (.aload_n 0, 1) := by decide +kernel
theorem dX10_numberOf_1 : decode cX10_numberOf 1 = .ok (.iload_n 1, 1) := by decide +kernel
theorem dX10_numberOf_2 : decode cX10_numberOf 2 = .ok (.invokevirtual 289, 3) := by decide +kernel
theorem dX10_numberOf_5 : decode cX10_numberOf 5 = .ok (.ifCond .eq 12, 3) := by decide +kernel
theorem dX10_numberOf_8 : decode cX10_numberOf 8 = .ok (.aload_n 0, 1) := by decide +kernel
theorem dX10_numberOf_9 : decode cX10_numberOf 9 = .ok (.getfield 26, 3) := by decide +kernel
theorem dX10_numberOf_12 : decode cX10_numberOf 12 = .ok (.iload_n 1, 1) := by decide +kernel
theorem dX10_numberOf_13 : decode cX10_numberOf 13 = .ok (.laload, 1) := by decide +kernel
theorem dX10_numberOf_14 : decode cX10_numberOf 14 = .ok (.goto 4, 3) := by decide +kernel
theorem dX10_numberOf_17 : decode cX10_numberOf 17 = .ok (.lconst 0, 1) := by decide +kernel
theorem dX10_numberOf_18 : decode cX10_numberOf 18 = .ok (.lreturn, 1) := by decide +kernel
theorem dX10_truth_0 : decode cX10_truth 0 = .ok (.iload_n 0, 1) := by decide +kernel
theorem dX10_truth_1 : decode cX10_truth 1 = .ok (.ifCond .eq 7, 3) := by decide +kernel
theorem dX10_truth_4 : decode cX10_truth 4 = .ok (.iconst 1, 1) := by decide +kernel
theorem dX10_truth_5 : decode cX10_truth 5 = .ok (.goto 4, 3) := by decide +kernel
theorem dX10_truth_8 : decode cX10_truth 8 = .ok (.iconst 0, 1) := by decide +kernel
theorem dX10_truth_9 : decode cX10_truth 9 = .ok (.ireturn, 1) := by decide +kernel
theorem dX10_basic_0 : decode cX10_basic 0 = .ok (.aload_n 0, 1) := by decide +kernel
theorem dX10_basic_1 : decode cX10_basic 1 = .ok (.getfield 135, 3) := by decide +kernel
theorem dX10_basic_4 : decode cX10_basic 4 = .ok (.iload_n 2, 1) := by decide +kernel
theorem dX10_basic_5 : decode cX10_basic 5 = .ok (.iaload, 1) := by decide +kernel
theorem dX10_basic_6 : decode cX10_basic 6 = .ok (.istore_n 3, 1) := by decide +kernel
theorem dX10_basic_7 : decode cX10_basic 7 = .ok (.aload_n 0, 1) := by decide +kernel
theorem dX10_basic_8 : decode cX10_basic 8 = .ok (.getfield 135, 3) := by decide +kernel
theorem dX10_basic_11 : decode cX10_basic 11 = .ok (.iload_n 2, 1) := by decide +kernel
theorem dX10_basic_12 : decode cX10_basic 12 = .ok (.iconst 1, 1) := by decide +kernel
theorem dX10_basic_13 : decode cX10_basic 13 = .ok (.iadd, 1) := by decide +kernel
theorem dX10_basic_14 : decode cX10_basic 14 = .ok (.iaload, 1) := by decide +kernel
theorem dX10_basic_15 : decode cX10_basic 15 = .ok (.istore 4, 2) := by decide +kernel
theorem dX10_basic_17 : decode cX10_basic 17 = .ok (.iload_n 1, 1) := by decide +kernel
theorem dX10_basic_18 : decode cX10_basic 18 = .ok (.tableswitch 284 4 16 #[66, 81, 89, 107, 147, 183, 207, 216, 235, 254, 263, 284, 272], 66) := by decide +kernel
theorem dX10_basic_84 : decode cX10_basic 84 = .ok (.iload_n 3, 1) := by decide +kernel
theorem dX10_basic_85 : decode cX10_basic 85 = .ok (.iload 4, 2) := by decide +kernel
theorem dX10_basic_87 : decode cX10_basic 87 = .ok (.if_icmp .ne 7, 3) := by decide +kernel
theorem dX10_basic_90 : decode cX10_basic 90 = .ok (.iconst 1, 1) := by decide +kernel
theorem dX10_basic_91 : decode cX10_basic 91 = .ok (.goto 4, 3) := by decide +kernel
theorem dX10_basic_94 : decode cX10_basic 94 = .ok (.iconst 0, 1) := by decide +kernel
theorem dX10_basic_95 : decode cX10_basic 95 = .ok (.invokestatic 386, 3) := by decide +kernel
theorem dX10_basic_98 : decode cX10_basic 98 = .ok (.ireturn, 1) := by decide +kernel
theorem dX10_basic_99 : decode cX10_basic 99 = .ok (.aload_n 0, 1) := by decide +kernel
theorem dX10_basic_100 : decode cX10_basic 100 = .ok (.iload_n 3, 1) := by decide +kernel
theorem dX10_basic_101 : decode cX10_basic 101 = .ok (.iload 4, 2) := by decide +kernel
theorem dX10_basic_103 : decode cX10_basic 103 = .ok (.invokevirtual 183, 3) := by decide +kernel
theorem dX10_basic_106 : decode cX10_basic 106 = .ok (.ireturn, 1) := by decide +kernel
theorem dX10_basic_107 : decode cX10_basic 107 = .ok (.iload_n 3, 1) := by decide +kernel
theorem dX10_basic_108 : decode cX10_basic 108 = .ok (.ifCond .eq 8, 3) := by decide +kernel
theorem dX10_basic_111 : decode cX10_basic 111 = .ok (.iload 4, 2) := by decide +kernel
theorem dX10_basic_113 : decode cX10_basic 113 = .ok (.ifCond .eq 7, 3) := by decide +kernel
theorem dX10_basic_116 : decode cX10_basic 116 = .ok (.iconst 1, 1) := by decide +kernel
theorem dX10_basic_117 : decode cX10_basic 117 = .ok (.goto 4, 3) := by decide +kernel
theorem dX10_basic_120 : decode cX10_basic 120 = .ok (.iconst 0, 1) := by decide +kernel
theorem dX10_basic_121 : decode cX10_basic 121 = .ok (.invokestatic 386, 3) := by decide +kernel
theorem dX10_basic_124 : decode cX10_basic 124 = .ok (.ireturn, 1) := by decide +kernel
theorem dX10_basic_125 : decode cX10_basic 125 = .ok (.aload_n 0, 1) := by decide +kernel
theorem dX10_basic_126 : decode cX10_basic 126 = .ok (.iload_n 3, 1) := by decide +kernel
theorem dX10_basic_127 : decode cX10_basic 127 = .ok (.invokevirtual 390, 3) := by decide +kernel
theorem dX10_basic_130 : decode cX10_basic 130 = .ok (.ldc2_w 226, 3) := by decide +kernel
theorem dX10_basic_133 : decode cX10_basic 133 = .ok (.aload_n 0, 1) := by decide +kernel
theorem dX10_basic_134 : decode cX10_basic 134 = .ok (.iload 4, 2) := by decide +kernel
theorem dX10_basic_136 : decode cX10_basic 136 = .ok (.invokevirtual 390, 3) := by decide +kernel
theorem dX10_basic_139 : decode cX10_basic 139 = .ok (.lsub, 1) := by decide +kernel
theorem dX10_basic_140 : decode cX10_basic 140 = .ok (.lcmp, 1) := by decide +kernel
theorem dX10_basic_141 : decode cX10_basic 141 = .ok (.ifCond .le 7, 3) := by decide +kernel
theorem dX10_basic_144 : decode cX10_basic 144 = .ok (.iconst (-1), 1) := by decide +kernel
theorem dX10_basic_145 : decode cX10_basic 145 = .ok (.goto 19, 3) := by decide +kernel
theorem dX10_basic_148 : decode cX10_basic 148 = .ok (.aload_n 0, 1) := by decide +kernel
theorem dX10_basic_149 : decode cX10_basic 149 = .ok (.aload_n 0, 1) := by decide +kernel
theorem dX10_basic_150 : decode cX10_basic 150 = .ok (.iload_n 3, 1) := by decide +kernel
theorem dX10_basic_151 : decode cX10_basic 151 = .ok (.invokevirtual 390, 3) := by decide +kernel
theorem dX10_basic_154 : decode cX10_basic 154 = .ok (.aload_n 0, 1) := by decide +kernel
theorem dX10_basic_155 : decode cX10_basic 155 = .ok (.iload 4, 2) := by decide +kernel
theorem dX10_basic_157 : decode cX10_basic 157 = .ok (.invokevirtual 390, 3) := by decide +kernel
theorem dX10_basic_160 : decode cX10_basic 160 = .ok (.ladd, 1) := by decide +kernel
theorem dX10_basic_161 : decode cX10_basic 161 = .ok (.invokevirtual 232, 3) := by decide +kernel
theorem dX10_basic_164 : decode cX10_basic 164 = .ok (.ireturn, 1) := by decide +kernel
theorem dX10_basic_165 : decode cX10_basic 165 = .ok (.aload_n 0, 1) := by decide +kernel
theorem dX10_basic_166 : decode cX10_basic 166 = .ok (.aload_n 0, 1) := by decide +kernel
theorem dX10_basic_167 : decode cX10_basic 167 = .ok (.iload_n 3, 1) := by decide +kernel
theorem dX10_basic_168 : decode cX10_basic 168 = .ok (.invokevirtual 390, 3) := by decide +kernel
theorem dX10_basic_171 : decode cX10_basic 171 = .ok (.aload_n 0, 1) := by decide +kernel
theorem dX10_basic_172 : decode cX10_basic 172 = .ok (.iload 4, 2) := by decide +kernel
theorem dX10_basic_174 : decode cX10_basic 174 = .ok (.invokevirtual 390, 3) := by decide +kernel
theorem dX10_basic_177 : decode cX10_basic 177 = .ok (.lcmp, 1) := by decide +kernel
theorem dX10_basic_178 : decode cX10_basic 178 = .ok (.ifCond .le 18, 3) := by decide +kernel
theorem dX10_basic_181 : decode cX10_basic 181 = .ok (.aload_n 0, 1) := by decide +kernel
theorem dX10_basic_182 : decode cX10_basic 182 = .ok (.iload_n 3, 1) := by decide +kernel
theorem dX10_basic_183 : decode cX10_basic 183 = .ok (.invokevirtual 390, 3) := by decide +kernel
theorem dX10_basic_186 : decode cX10_basic 186 = .ok (.aload_n 0, 1) := by decide +kernel
theorem dX10_basic_187 : decode cX10_basic 187 = .ok (.iload 4, 2) := by decide +kernel
theorem dX10_basic_189 : decode cX10_basic 189 = .ok (.invokevirtual 390, 3) := by decide +kernel
theorem dX10_basic_192 : decode cX10_basic 192 = .ok (.lsub, 1) := by decide +kernel
theorem dX10_basic_193 : decode cX10_basic 193 = .ok (.goto 4, 3) := by decide +kernel
theorem dX10_basic_196 : decode cX10_basic 196 = .ok (.lconst 0, 1) := by decide +kernel
theorem dX10_basic_197 : decode cX10_basic 197 = .ok (.invokevirtual 232, 3) := by decide +kernel
theorem dX10_basic_200 : decode cX10_basic 200 = .ok (.ireturn, 1) := by decide +kernel
theorem dX10_basic_201 : decode cX10_basic 201 = .ok (.aload_n 0, 1) := by decide +kernel
theorem dX10_basic_202 : decode cX10_basic 202 = .ok (.iload_n 3, 1) := by decide +kernel
theorem dX10_basic_203 : decode cX10_basic 203 = .ok (.invokevirtual 390, 3) := by decide +kernel
theorem dX10_basic_206 : decode cX10_basic 206 = .ok (.aload_n 0, 1) := by decide +kernel
theorem dX10_basic_207 : decode cX10_basic 207 = .ok (.iload 4, 2) := by decide +kernel
theorem dX10_basic_209 : decode cX10_basic 209 = .ok (.invokevirtual 390, 3) := by decide +kernel
theorem dX10_basic_212 : decode cX10_basic 212 = .ok (.lcmp, 1) := by decide +kernel
theorem dX10_basic_213 : decode cX10_basic 213 = .ok (.ifCond .ge 7, 3) := by decide +kernel
theorem dX10_basic_216 : decode cX10_basic 216 = .ok (.iconst 1, 1) := by decide +kernel
theorem dX10_basic_217 : decode cX10_basic 217 = .ok (.goto 4, 3) := by decide +kernel
theorem dX10_basic_220 : decode cX10_basic 220 = .ok (.iconst 0, 1) := by decide +kernel
theorem dX10_basic_221 : decode cX10_basic 221 = .ok (.invokestatic 386, 3) := by decide +kernel
theorem dX10_basic_224 : decode cX10_basic 224 = .ok (.ireturn, 1) := by decide +kernel
theorem dX10_basic_225 : decode cX10_basic 225 = .ok (.aload_n 0, 1) := by decide +kernel
theorem dX10_basic_226 : decode cX10_basic 226 = .ok (.iload_n 3, 1) := by decide +kernel
theorem dX10_basic_227 : decode cX10_basic 227 = .ok (.invokevirtual 195, 3) := by decide +kernel
theorem dX10_basic_230 : decode cX10_basic 230 = .ok (.invokestatic 386, 3) := by decide +kernel
theorem dX10_basic_233 : decode cX10_basic 233 = .ok (.ireturn, 1) := by decide +kernel
theorem dX10_basic_234 : decode cX10_basic 234 = .ok (.aload_n 0, 1) := by decide +kernel
theorem dX10_basic_235 : decode cX10_basic 235 = .ok (.iload_n 3, 1) := by decide +kernel
theorem dX10_basic_236 : decode cX10_basic 236 = .ok (.invokevirtual 195, 3) := by decide +kernel
theorem dX10_basic_239 : decode cX10_basic 239 = .ok (.ifCond .eq 12, 3) := by decide +kernel
theorem dX10_basic_242 : decode cX10_basic 242 = .ok (.aload_n 0, 1) := by decide +kernel
theorem dX10_basic_243 : decode cX10_basic 243 = .ok (.getfield 8, 3) := by decide +kernel
theorem dX10_basic_246 : decode cX10_basic 246 = .ok (.iload_n 3, 1) := by decide +kernel
theorem dX10_basic_247 : decode cX10_basic 247 = .ok (.iaload, 1) := by decide +kernel
theorem dX10_basic_248 : decode cX10_basic 248 = .ok (.goto 4, 3) := by decide +kernel
theorem dX10_basic_251 : decode cX10_basic 251 = .ok (.iconst 0, 1) := by decide +kernel
theorem dX10_basic_252 : decode cX10_basic 252 = .ok (.ireturn, 1) := by decide +kernel
theorem dX10_basic_253 : decode cX10_basic 253 = .ok (.aload_n 0, 1) := by decide +kernel
theorem dX10_basic_254 : decode cX10_basic 254 = .ok (.iload_n 3, 1) := by decide +kernel
theorem dX10_basic_255 : decode cX10_basic 255 = .ok (.invokevirtual 195, 3) := by decide +kernel
theorem dX10_basic_258 : decode cX10_basic 258 = .ok (.ifCond .eq 12, 3) := by decide +kernel
theorem dX10_basic_261 : decode cX10_basic 261 = .ok (.aload_n 0, 1) := by decide +kernel
theorem dX10_basic_262 : decode cX10_basic 262 = .ok (.getfield 14, 3) := by decide +kernel
theorem dX10_basic_265 : decode cX10_basic 265 = .ok (.iload_n 3, 1) := by decide +kernel
theorem dX10_basic_266 : decode cX10_basic 266 = .ok (.iaload, 1) := by decide +kernel
theorem dX10_basic_267 : decode cX10_basic 267 = .ok (.goto 4, 3) := by decide +kernel
theorem dX10_basic_270 : decode cX10_basic 270 = .ok (.iconst 0, 1) := by decide +kernel
theorem dX10_basic_271 : decode cX10_basic 271 = .ok (.ireturn, 1) := by decide +kernel
theorem dX10_basic_272 : decode cX10_basic 272 = .ok (.aload_n 0, 1) := by decide +kernel
theorem dX10_basic_273 : decode cX10_basic 273 = .ok (.iload_n 3, 1) := by decide +kernel
theorem dX10_basic_274 : decode cX10_basic 274 = .ok (.invokevirtual 289, 3) := by decide +kernel
theorem dX10_basic_277 : decode cX10_basic 277 = .ok (.invokestatic 386, 3) := by decide +kernel
theorem dX10_basic_280 : decode cX10_basic 280 = .ok (.ireturn, 1) := by decide +kernel
theorem dX10_basic_281 : decode cX10_basic 281 = .ok (.aload_n 0, 1) := by decide +kernel
theorem dX10_basic_282 : decode cX10_basic 282 = .ok (.iload_n 3, 1) := by decide +kernel
theorem dX10_basic_283 : decode cX10_basic 283 = .ok (.invokevirtual 268, 3) := by decide +kernel
theorem dX10_basic_286 : decode cX10_basic 286 = .ok (.invokestatic 386, 3) := by decide +kernel
theorem dX10_basic_289 : decode cX10_basic 289 = .ok (.ireturn, 1) := by decide +kernel
theorem dX10_basic_290 : decode cX10_basic 290 = .ok (.aload_n 0, 1) := by decide +kernel
theorem dX10_basic_291 : decode cX10_basic 291 = .ok (.aload_n 0, 1) := by decide +kernel
theorem dX10_basic_292 : decode cX10_basic 292 = .ok (.getfield 23, 3) := by decide +kernel
theorem dX10_basic_295 : decode cX10_basic 295 = .ok (.iload_n 3, 1) := by decide +kernel
theorem dX10_basic_296 : decode cX10_basic 296 = .ok (.iaload, 1) := by decide +kernel
theorem dX10_basic_297 : decode cX10_basic 297 = .ok (.i2l, 1) := by decide +kernel
theorem dX10_basic_298 : decode cX10_basic 298 = .ok (.invokevirtual 232, 3) := by decide +kernel
theorem dX10_basic_301 : decode cX10_basic 301 = .ok (.ireturn, 1) := by decide +kernel
theorem dX10_basic_302 : decode cX10_basic 302 = .ok (.iload_n 3, 1) := by decide +kernel
theorem dX10_basic_303 : decode cX10_basic 303 = .ok (.ifCond .ne 7, 3) := by decide +kernel
theorem dX10_basic_306 : decode cX10_basic 306 = .ok (.iconst 1, 1) := by decide +kernel
theorem dX10_basic_307 : decode cX10_basic 307 = .ok (.goto 4, 3) := by decide +kernel
theorem dX10_basic_310 : decode cX10_basic 310 = .ok (.iconst 0, 1) := by decide +kernel
theorem dX10_basic_311 : decode cX10_basic 311 = .ok (.invokestatic 386, 3) := by decide +kernel
theorem dX10_basic_314 : decode cX10_basic 314 = .ok (.ireturn, 1) := by decide +kernel
theorem dX10_takeValue_0 : decode cX10_takeValue 0 = .ok (.aload_n 0, 1) := by decide +kernel
theorem dX10_takeValue_1 : decode cX10_takeValue 1 = .ok (.getfield 371, 3) := by decide +kernel
theorem dX10_takeValue_4 : decode cX10_takeValue 4 = .ok (.iconst 1, 1) := by decide +kernel
theorem dX10_takeValue_5 : decode cX10_takeValue 5 = .ok (.isub, 1) := by decide +kernel
theorem dX10_takeValue_6 : decode cX10_takeValue 6 = .ok (.istore_n 2, 1) := by decide +kernel
theorem dX10_takeValue_7 : decode cX10_takeValue 7 = .ok (.aload_n 0, 1) := by decide +kernel
theorem dX10_takeValue_8 : decode cX10_takeValue 8 = .ok (.getfield 131, 3) := by decide +kernel
theorem dX10_takeValue_11 : decode cX10_takeValue 11 = .ok (.iload_n 2, 1) := by decide +kernel
theorem dX10_takeValue_12 : decode cX10_takeValue 12 = .ok (.baload, 1) := by decide +kernel
theorem dX10_takeValue_13 : decode cX10_takeValue 13 = .ok (.ifCond .eq 26, 3) := by decide +kernel
theorem dX10_takeValue_16 : decode cX10_takeValue 16 = .ok (.aload_n 0, 1) := by decide +kernel
theorem dX10_takeValue_17 : decode cX10_takeValue 17 = .ok (.dup, 1) := by decide +kernel
theorem dX10_takeValue_18 : decode cX10_takeValue 18 = .ok (.getfield 371, 3) := by decide +kernel
theorem dX10_takeValue_21 : decode cX10_takeValue 21 = .ok (.iconst 1, 1) := by decide +kernel
theorem dX10_takeValue_22 : decode cX10_takeValue 22 = .ok (.isub, 1) := by decide +kernel
theorem dX10_takeValue_23 : decode cX10_takeValue 23 = .ok (.putfield 371, 3) := by decide +kernel
theorem dX10_takeValue_26 : decode cX10_takeValue 26 = .ok (.aload_n 0, 1) := by decide +kernel
theorem dX10_takeValue_27 : decode cX10_takeValue 27 = .ok (.aload_n 0, 1) := by decide +kernel
theorem dX10_takeValue_28 : decode cX10_takeValue 28 = .ok (.getfield 122, 3) := by decide +kernel
theorem dX10_takeValue_31 : decode cX10_takeValue 31 = .ok (.iload_n 2, 1) := by decide +kernel
theorem dX10_takeValue_32 : decode cX10_takeValue 32 = .ok (.iaload, 1) := by decide +kernel
theorem dX10_takeValue_33 : decode cX10_takeValue 33 = .ok (.putfield 383, 3) := by decide +kernel
theorem dX10_takeValue_36 : decode cX10_takeValue 36 = .ok (.goto 95, 3) := by decide +kernel
theorem dX10_takeValue_39 : decode cX10_takeValue 39 = .ok (.aload_n 0, 1) := by decide +kernel
theorem dX10_takeValue_40 : decode cX10_takeValue 40 = .ok (.getfield 8, 3) := by decide +kernel
theorem dX10_takeValue_43 : decode cX10_takeValue 43 = .ok (.aload_n 0, 1) := by decide +kernel
theorem dX10_takeValue_44 : decode cX10_takeValue 44 = .ok (.getfield 116, 3) := by decide +kernel
theorem dX10_takeValue_47 : decode cX10_takeValue 47 = .ok (.iload_n 2, 1) := by decide +kernel
theorem dX10_takeValue_48 : decode cX10_takeValue 48 = .ok (.iaload, 1) := by decide +kernel
theorem dX10_takeValue_49 : decode cX10_takeValue 49 = .ok (.iaload, 1) := by decide +kernel
theorem dX10_takeValue_50 : decode cX10_takeValue 50 = .ok (.iconst 3, 1) := by decide +kernel
theorem dX10_takeValue_51 : decode cX10_takeValue 51 = .ok (.if_icmp .ne 52, 3) := by decide +kernel
theorem dX10_takeValue_54 : decode cX10_takeValue 54 = .ok (.aload_n 0, 1) := by decide +kernel
theorem dX10_takeValue_55 : decode cX10_takeValue 55 = .ok (.getfield 131, 3) := by decide +kernel
theorem dX10_takeValue_58 : decode cX10_takeValue 58 = .ok (.iload_n 2, 1) := by decide +kernel
theorem dX10_takeValue_59 : decode cX10_takeValue 59 = .ok (.iconst 1, 1) := by decide +kernel
theorem dX10_takeValue_60 : decode cX10_takeValue 60 = .ok (.bastore, 1) := by decide +kernel
theorem dX10_takeValue_61 : decode cX10_takeValue 61 = .ok (.aload_n 0, 1) := by decide +kernel
theorem dX10_takeValue_62 : decode cX10_takeValue 62 = .ok (.aload_n 0, 1) := by decide +kernel
theorem dX10_takeValue_63 : decode cX10_takeValue 63 = .ok (.aload_n 0, 1) := by decide +kernel
theorem dX10_takeValue_64 : decode cX10_takeValue 64 = .ok (.getfield 116, 3) := by decide +kernel
theorem dX10_takeValue_67 : decode cX10_takeValue 67 = .ok (.iload_n 2, 1) := by decide +kernel
theorem dX10_takeValue_68 : decode cX10_takeValue 68 = .ok (.iaload, 1) := by decide +kernel
theorem dX10_takeValue_69 : decode cX10_takeValue 69 = .ok (.aload_n 0, 1) := by decide +kernel
theorem dX10_takeValue_70 : decode cX10_takeValue 70 = .ok (.getfield 368, 3) := by decide +kernel
theorem dX10_takeValue_73 : decode cX10_takeValue 73 = .ok (.ifCond .ne 7, 3) := by decide +kernel
theorem dX10_takeValue_76 : decode cX10_takeValue 76 = .ok (.iconst 3, 1) := by decide +kernel
theorem dX10_takeValue_77 : decode cX10_takeValue 77 = .ok (.goto 4, 3) := by decide +kernel
theorem dX10_takeValue_80 : decode cX10_takeValue 80 = .ok (.iconst 2, 1) := by decide +kernel
theorem dX10_takeValue_81 : decode cX10_takeValue 81 = .ok (.invokevirtual 394, 3) := by decide +kernel
theorem dX10_takeValue_84 : decode cX10_takeValue 84 = .ok (.aload_n 0, 1) := by decide +kernel
theorem dX10_takeValue_85 : decode cX10_takeValue 85 = .ok (.getfield 125, 3) := by decide +kernel
theorem dX10_takeValue_88 : decode cX10_takeValue 88 = .ok (.iload_n 2, 1) := by decide +kernel
theorem dX10_takeValue_89 : decode cX10_takeValue 89 = .ok (.iaload, 1) := by decide +kernel
theorem dX10_takeValue_90 : decode cX10_takeValue 90 = .ok (.aload_n 0, 1) := by decide +kernel
theorem dX10_takeValue_91 : decode cX10_takeValue 91 = .ok (.getfield 128, 3) := by decide +kernel
theorem dX10_takeValue_94 : decode cX10_takeValue 94 = .ok (.iload_n 2, 1) := by decide +kernel
theorem dX10_takeValue_95 : decode cX10_takeValue 95 = .ok (.iaload, 1) := by decide +kernel
theorem dX10_takeValue_96 : decode cX10_takeValue 96 = .ok (.iload_n 1, 1) := by decide +kernel
theorem dX10_takeValue_97 : decode cX10_takeValue 97 = .ok (.invokevirtual 397, 3) := by decide +kernel
theorem dX10_takeValue_100 : decode cX10_takeValue 100 = .ok (.goto 31, 3) := by decide +kernel
theorem dX10_takeValue_103 : decode cX10_takeValue 103 = .ok (.aload_n 0, 1) := by decide +kernel
theorem dX10_takeValue_104 : decode cX10_takeValue 104 = .ok (.getfield 135, 3) := by decide +kernel
theorem dX10_takeValue_107 : decode cX10_takeValue 107 = .ok (.aload_n 0, 1) := by decide +kernel
theorem dX10_takeValue_108 : decode cX10_takeValue 108 = .ok (.getfield 383, 3) := by decide +kernel
theorem dX10_takeValue_111 : decode cX10_takeValue 111 = .ok (.aload_n 0, 1) := by decide +kernel
theorem dX10_takeValue_112 : decode cX10_takeValue 112 = .ok (.getfield 368, 3) := by decide +kernel
theorem dX10_takeValue_115 : decode cX10_takeValue 115 = .ok (.iastore, 1) := by decide +kernel
theorem dX10_takeValue_116 : decode cX10_takeValue 116 = .ok (.aload_n 0, 1) := by decide +kernel
theorem dX10_takeValue_117 : decode cX10_takeValue 117 = .ok (.dup, 1) := by decide +kernel
theorem dX10_takeValue_118 : decode cX10_takeValue 118 = .ok (.getfield 383, 3) := by decide +kernel
theorem dX10_takeValue_121 : decode cX10_takeValue 121 = .ok (.iconst 1, 1) := by decide +kernel
theorem dX10_takeValue_122 : decode cX10_takeValue 122 = .ok (.iadd, 1) := by decide +kernel
theorem dX10_takeValue_123 : decode cX10_takeValue 123 = .ok (.putfield 383, 3) := by decide +kernel
theorem dX10_takeValue_126 : decode cX10_takeValue 126 = .ok (.aload_n 0, 1) := by decide +kernel
theorem dX10_takeValue_127 : decode cX10_takeValue 127 = .ok (.iconst 0, 1) := by decide +kernel
theorem dX10_takeValue_128 : decode cX10_takeValue 128 = .ok (.putfield 359, 3) := by decide +kernel
theorem dX10_takeValue_131 : decode cX10_takeValue 131 = .ok (.return_, 1) := by decide +kernel
theorem dX10_goOn_0 : decode cX10_goOn 0 = .ok (.aload_n 0, 1) := by decide +kernel
theorem dX10_goOn_1 : decode cX10_goOn 1 = .ok (.getfield 371, 3) := by decide +kernel
theorem dX10_goOn_4 : decode cX10_goOn 4 = .ok (.iconst 1, 1) := by decide +kernel
theorem dX10_goOn_5 : decode cX10_goOn 5 = .ok (.isub, 1) := by decide +kernel
theorem dX10_goOn_6 : decode cX10_goOn 6 = .ok (.istore_n 2, 1) := by decide +kernel
theorem dX10_goOn_7 : decode cX10_goOn 7 = .ok (.aload_n 0, 1) := by decide +kernel
theorem dX10_goOn_8 : decode cX10_goOn 8 = .ok (.getfield 119, 3) := by decide +kernel
theorem dX10_goOn_11 : decode cX10_goOn 11 = .ok (.iload_n 2, 1) := by decide +kernel
theorem dX10_goOn_12 : decode cX10_goOn 12 = .ok (.iaload, 1) := by decide +kernel
theorem dX10_goOn_13 : decode cX10_goOn 13 = .ok (.ifCond .eq 51, 3) := by decide +kernel
theorem dX10_goOn_16 : decode cX10_goOn 16 = .ok (.aload_n 0, 1) := by decide +kernel
theorem dX10_goOn_17 : decode cX10_goOn 17 = .ok (.getfield 8, 3) := by decide +kernel
theorem dX10_goOn_20 : decode cX10_goOn 20 = .ok (.aload_n 0, 1) := by decide +kernel
theorem dX10_goOn_21 : decode cX10_goOn 21 = .ok (.getfield 119, 3) := by decide +kernel
theorem dX10_goOn_24 : decode cX10_goOn 24 = .ok (.iload_n 2, 1) := by decide +kernel
theorem dX10_goOn_25 : decode cX10_goOn 25 = .ok (.iaload, 1) := by decide +kernel
theorem dX10_goOn_26 : decode cX10_goOn 26 = .ok (.iaload, 1) := by decide +kernel
theorem dX10_goOn_27 : decode cX10_goOn 27 = .ok (.istore_n 3, 1) := by decide +kernel
theorem dX10_goOn_28 : decode cX10_goOn 28 = .ok (.aload_n 0, 1) := by decide +kernel
theorem dX10_goOn_29 : decode cX10_goOn 29 = .ok (.getfield 119, 3) := by decide +kernel
theorem dX10_goOn_32 : decode cX10_goOn 32 = .ok (.iload_n 2, 1) := by decide +kernel
theorem dX10_goOn_33 : decode cX10_goOn 33 = .ok (.aload_n 0, 1) := by decide +kernel
theorem dX10_goOn_34 : decode cX10_goOn 34 = .ok (.getfield 14, 3) := by decide +kernel
theorem dX10_goOn_37 : decode cX10_goOn 37 = .ok (.aload_n 0, 1) := by decide +kernel
theorem dX10_goOn_38 : decode cX10_goOn 38 = .ok (.getfield 119, 3) := by decide +kernel
theorem dX10_goOn_41 : decode cX10_goOn 41 = .ok (.iload_n 2, 1) := by decide +kernel
theorem dX10_goOn_42 : decode cX10_goOn 42 = .ok (.iaload, 1) := by decide +kernel
theorem dX10_goOn_43 : decode cX10_goOn 43 = .ok (.iaload, 1) := by decide +kernel
theorem dX10_goOn_44 : decode cX10_goOn 44 = .ok (.iastore, 1) := by decide +kernel
theorem dX10_goOn_45 : decode cX10_goOn 45 = .ok (.aload_n 0, 1) := by decide +kernel
theorem dX10_goOn_46 : decode cX10_goOn 46 = .ok (.iload_n 3, 1) := by decide +kernel
theorem dX10_goOn_47 : decode cX10_goOn 47 = .ok (.aload_n 0, 1) := by decide +kernel
theorem dX10_goOn_48 : decode cX10_goOn 48 = .ok (.getfield 125, 3) := by decide +kernel
theorem dX10_goOn_51 : decode cX10_goOn 51 = .ok (.iload_n 2, 1) := by decide +kernel
theorem dX10_goOn_52 : decode cX10_goOn 52 = .ok (.iaload, 1) := by decide +kernel
theorem dX10_goOn_53 : decode cX10_goOn 53 = .ok (.aload_n 0, 1) := by decide +kernel
theorem dX10_goOn_54 : decode cX10_goOn 54 = .ok (.getfield 128, 3) := by decide +kernel
theorem dX10_goOn_57 : decode cX10_goOn 57 = .ok (.iload_n 2, 1) := by decide +kernel
theorem dX10_goOn_58 : decode cX10_goOn 58 = .ok (.iaload, 1) := by decide +kernel
theorem dX10_goOn_59 : decode cX10_goOn 59 = .ok (.iload_n 1, 1) := by decide +kernel
theorem dX10_goOn_60 : decode cX10_goOn 60 = .ok (.invokevirtual 397, 3) := by decide +kernel
theorem dX10_goOn_63 : decode cX10_goOn 63 = .ok (.return_, 1) := by decide +kernel
theorem dX10_goOn_64 : decode cX10_goOn 64 = .ok (.aload_n 0, 1) := by decide +kernel
theorem dX10_goOn_65 : decode cX10_goOn 65 = .ok (.aload_n 0, 1) := by decide +kernel
theorem dX10_goOn_66 : decode cX10_goOn 66 = .ok (.getfield 8, 3) := by decide +kernel
theorem dX10_goOn_69 : decode cX10_goOn 69 = .ok (.aload_n 0, 1) := by decide +kernel
theorem dX10_goOn_70 : decode cX10_goOn 70 = .ok (.getfield 116, 3) := by decide +kernel
theorem dX10_goOn_73 : decode cX10_goOn 73 = .ok (.iload_n 2, 1) := by decide +kernel
theorem dX10_goOn_74 : decode cX10_goOn 74 = .ok (.iaload, 1) := by decide +kernel
theorem dX10_goOn_75 : decode cX10_goOn 75 = .ok (.iaload, 1) := by decide +kernel
theorem dX10_goOn_76 : decode cX10_goOn 76 = .ok (.invokevirtual 322, 3) := by decide +kernel
theorem dX10_goOn_79 : decode cX10_goOn 79 = .ok (.istore_n 3, 1) := by decide +kernel
theorem dX10_goOn_80 : decode cX10_goOn 80 = .ok (.aload_n 0, 1) := by decide +kernel
theorem dX10_goOn_81 : decode cX10_goOn 81 = .ok (.getfield 131, 3) := by decide +kernel
theorem dX10_goOn_84 : decode cX10_goOn 84 = .ok (.iload_n 2, 1) := by decide +kernel
theorem dX10_goOn_85 : decode cX10_goOn 85 = .ok (.iconst 1, 1) := by decide +kernel
theorem dX10_goOn_86 : decode cX10_goOn 86 = .ok (.bastore, 1) := by decide +kernel
theorem dX10_goOn_87 : decode cX10_goOn 87 = .ok (.iload_n 3, 1) := by decide +kernel
theorem dX10_goOn_88 : decode cX10_goOn 88 = .ok (.bipush 100, 2) := by decide +kernel
theorem dX10_goOn_90 : decode cX10_goOn 90 = .ok (.if_icmp .lt 28, 3) := by decide +kernel
theorem dX10_goOn_93 : decode cX10_goOn 93 = .ok (.aload_n 0, 1) := by decide +kernel
theorem dX10_goOn_94 : decode cX10_goOn 94 = .ok (.aload_n 0, 1) := by decide +kernel
theorem dX10_goOn_95 : decode cX10_goOn 95 = .ok (.getfield 83, 3) := by decide +kernel
theorem dX10_goOn_98 : decode cX10_goOn 98 = .ok (.iload_n 3, 1) := by decide +kernel
theorem dX10_goOn_99 : decode cX10_goOn 99 = .ok (.bipush 100, 2) := by decide +kernel
theorem dX10_goOn_101 : decode cX10_goOn 101 = .ok (.isub, 1) := by decide +kernel
theorem dX10_goOn_102 : decode cX10_goOn 102 = .ok (.iaload, 1) := by decide +kernel
theorem dX10_goOn_103 : decode cX10_goOn 103 = .ok (.iload_n 3, 1) := by decide +kernel
theorem dX10_goOn_104 : decode cX10_goOn 104 = .ok (.bipush 100, 2) := by decide +kernel
theorem dX10_goOn_106 : decode cX10_goOn 106 = .ok (.isub, 1) := by decide +kernel
theorem dX10_goOn_107 : decode cX10_goOn 107 = .ok (.aload_n 0, 1) := by decide +kernel
theorem dX10_goOn_108 : decode cX10_goOn 108 = .ok (.getfield 122, 3) := by decide +kernel
theorem dX10_goOn_111 : decode cX10_goOn 111 = .ok (.iload_n 2, 1) := by decide +kernel
theorem dX10_goOn_112 : decode cX10_goOn 112 = .ok (.iaload, 1) := by decide +kernel
theorem dX10_goOn_113 : decode cX10_goOn 113 = .ok (.iload_n 1, 1) := by decide +kernel
theorem dX10_goOn_114 : decode cX10_goOn 114 = .ok (.invokevirtual 397, 3) := by decide +kernel
theorem dX10_goOn_117 : decode cX10_goOn 117 = .ok (.return_, 1) := by decide +kernel
theorem dX10_goOn_118 : decode cX10_goOn 118 = .ok (.aload_n 0, 1) := by decide +kernel
theorem dX10_goOn_119 : decode cX10_goOn 119 = .ok (.aload_n 0, 1) := by decide +kernel
theorem dX10_goOn_120 : decode cX10_goOn 120 = .ok (.iload_n 3, 1) := by decide +kernel
theorem dX10_goOn_121 : decode cX10_goOn 121 = .ok (.aload_n 0, 1) := by decide +kernel
theorem dX10_goOn_122 : decode cX10_goOn 122 = .ok (.getfield 122, 3) := by decide +kernel
theorem dX10_goOn_125 : decode cX10_goOn 125 = .ok (.iload_n 2, 1) := by decide +kernel
theorem dX10_goOn_126 : decode cX10_goOn 126 = .ok (.iaload, 1) := by decide +kernel
theorem dX10_goOn_127 : decode cX10_goOn 127 = .ok (.invokevirtual 401, 3) := by decide +kernel
theorem dX10_goOn_130 : decode cX10_goOn 130 = .ok (.putfield 368, 3) := by decide +kernel
theorem dX10_goOn_133 : decode cX10_goOn 133 = .ok (.aload_n 0, 1) := by decide +kernel
theorem dX10_goOn_134 : decode cX10_goOn 134 = .ok (.iconst 1, 1) := by decide +kernel
theorem dX10_goOn_135 : decode cX10_goOn 135 = .ok (.putfield 359, 3) := by decide +kernel
theorem dX10_goOn_138 : decode cX10_goOn 138 = .ok (.aload_n 0, 1) := by decide +kernel
theorem dX10_goOn_139 : decode cX10_goOn 139 = .ok (.getfield 368, 3) := by decide +kernel
theorem dX10_goOn_142 : decode cX10_goOn 142 = .ok (.iconst (-1), 1) := by decide +kernel
theorem dX10_goOn_143 : decode cX10_goOn 143 = .ok (.if_icmp .ne 8, 3) := by decide +kernel
theorem dX10_goOn_146 : decode cX10_goOn 146 = .ok (.aload_n 0, 1) := by decide +kernel
theorem dX10_goOn_147 : decode cX10_goOn 147 = .ok (.iconst 3, 1) := by decide +kernel
theorem dX10_goOn_148 : decode cX10_goOn 148 = .ok (.putfield 374, 3) := by decide +kernel
theorem dX10_goOn_151 : decode cX10_goOn 151 = .ok (.return_, 1) := by decide +kernel
theorem dX10_evaluated_0 : decode cX10_evaluated 0 = .ok (.aload_n 0, 1) := by decide +kernel
theorem dX10_evaluated_1 : decode cX10_evaluated 1 = .ok (.iconst 0, 1) := by decide +kernel
theorem dX10_evaluated_2 : decode cX10_evaluated 2 = .ok (.putfield 371, 3) := by decide +kernel
theorem dX10_evaluated_5 : decode cX10_evaluated 5 = .ok (.aload_n 0, 1) := by decide +kernel
theorem dX10_evaluated_6 : decode cX10_evaluated 6 = .ok (.iconst 0, 1) := by decide +kernel
theorem dX10_evaluated_7 : decode cX10_evaluated 7 = .ok (.putfield 383, 3) := by decide +kernel
theorem dX10_evaluated_10 : decode cX10_evaluated 10 = .ok (.aload_n 0, 1) := by decide +kernel
theorem dX10_evaluated_11 : decode cX10_evaluated 11 = .ok (.bipush 100, 2) := by decide +kernel
theorem dX10_evaluated_13 : decode cX10_evaluated 13 = .ok (.putfield 377, 3) := by decide +kernel
theorem dX10_evaluated_16 : decode cX10_evaluated 16 = .ok (.aload_n 0, 1) := by decide +kernel
theorem dX10_evaluated_17 : decode cX10_evaluated 17 = .ok (.iconst 0, 1) := by decide +kernel
theorem dX10_evaluated_18 : decode cX10_evaluated 18 = .ok (.putfield 374, 3) := by decide +kernel
theorem dX10_evaluated_21 : decode cX10_evaluated 21 = .ok (.aload_n 0, 1) := by decide +kernel
theorem dX10_evaluated_22 : decode cX10_evaluated 22 = .ok (.iload_n 1, 1) := by decide +kernel
theorem dX10_evaluated_23 : decode cX10_evaluated 23 = .ok (.iconst (-1), 1) := by decide +kernel
theorem dX10_evaluated_24 : decode cX10_evaluated 24 = .ok (.iconst 0, 1) := by decide +kernel
theorem dX10_evaluated_25 : decode cX10_evaluated 25 = .ok (.iload_n 2, 1) := by decide +kernel
theorem dX10_evaluated_26 : decode cX10_evaluated 26 = .ok (.invokevirtual 397, 3) := by decide +kernel
theorem dX10_evaluated_29 : decode cX10_evaluated 29 = .ok (.aload_n 0, 1) := by decide +kernel
theorem dX10_evaluated_30 : decode cX10_evaluated 30 = .ok (.getfield 374, 3) := by decide +kernel
theorem dX10_evaluated_33 : decode cX10_evaluated 33 = .ok (.ifCond .ne 40, 3) := by decide +kernel
theorem dX10_evaluated_36 : decode cX10_evaluated 36 = .ok (.aload_n 0, 1) := by decide +kernel
theorem dX10_evaluated_37 : decode cX10_evaluated 37 = .ok (.getfield 359, 3) := by decide +kernel
theorem dX10_evaluated_40 : decode cX10_evaluated 40 = .ok (.ifCond .eq 10, 3) := by decide +kernel
theorem dX10_evaluated_43 : decode cX10_evaluated 43 = .ok (.aload_n 0, 1) := by decide +kernel
theorem dX10_evaluated_44 : decode cX10_evaluated 44 = .ok (.getfield 371, 3) := by decide +kernel
theorem dX10_evaluated_47 : decode cX10_evaluated 47 = .ok (.ifCond .eq 26, 3) := by decide +kernel
theorem dX10_evaluated_50 : decode cX10_evaluated 50 = .ok (.aload_n 0, 1) := by decide +kernel
theorem dX10_evaluated_51 : decode cX10_evaluated 51 = .ok (.getfield 359, 3) := by decide +kernel
theorem dX10_evaluated_54 : decode cX10_evaluated 54 = .ok (.ifCond .eq 11, 3) := by decide +kernel
theorem dX10_evaluated_57 : decode cX10_evaluated 57 = .ok (.aload_n 0, 1) := by decide +kernel
theorem dX10_evaluated_58 : decode cX10_evaluated 58 = .ok (.iload_n 2, 1) := by decide +kernel
theorem dX10_evaluated_59 : decode cX10_evaluated 59 = .ok (.invokevirtual 404, 3) := by decide +kernel
theorem dX10_evaluated_62 : decode cX10_evaluated 62 = .ok (.goto (-33), 3) := by decide +kernel
theorem dX10_evaluated_65 : decode cX10_evaluated 65 = .ok (.aload_n 0, 1) := by decide +kernel
theorem dX10_evaluated_66 : decode cX10_evaluated 66 = .ok (.iload_n 2, 1) := by decide +kernel
theorem dX10_evaluated_67 : decode cX10_evaluated 67 = .ok (.invokevirtual 408, 3) := by decide +kernel
theorem dX10_evaluated_70 : decode cX10_evaluated 70 = .ok (.goto (-41), 3) := by decide +kernel
theorem dX10_evaluated_73 : decode cX10_evaluated 73 = .ok (.aload_n 0, 1) := by decide +kernel
theorem dX10_evaluated_74 : decode cX10_evaluated 74 = .ok (.getfield 374, 3) := by decide +kernel
theorem dX10_evaluated_77 : decode cX10_evaluated 77 = .ok (.ifCond .ne 10, 3) := by decide +kernel
theorem dX10_evaluated_80 : decode cX10_evaluated 80 = .ok (.aload_n 0, 1) := by decide +kernel
theorem dX10_evaluated_81 : decode cX10_evaluated 81 = .ok (.getfield 368, 3) := by decide +kernel
theorem dX10_evaluated_84 : decode cX10_evaluated 84 = .ok (.goto 4, 3) := by decide +kernel
theorem dX10_evaluated_87 : decode cX10_evaluated 87 = .ok (.iconst (-1), 1) := by decide +kernel
theorem dX10_evaluated_88 : decode cX10_evaluated 88 = .ok (.ireturn, 1) := by decide +kernel
theorem dX10_isNewName_0 : decode cX10_isNewName 0 = .ok (.aload_n 0, 1) := by decide +kernel
theorem dX10_isNewName_1 : decode cX10_isNewName 1 = .ok (.iload_n 1, 1) := by decide +kernel
theorem dX10_isNewName_2 : decode cX10_isNewName 2 = .ok (.invokevirtual 268, 3) := by decide +kernel
theorem dX10_isNewName_5 : decode cX10_isNewName 5 = .ok (.ifCond .eq 14, 3) := by decide +kernel
theorem dX10_isNewName_8 : decode cX10_isNewName 8 = .ok (.iload_n 1, 1) := by decide +kernel
theorem dX10_isNewName_9 : decode cX10_isNewName 9 = .ok (.invokestatic 411, 3) := by decide +kernel
theorem dX10_isNewName_12 : decode cX10_isNewName 12 = .ok (.ifCond .ne 7, 3) := by decide +kernel
theorem dX10_isNewName_15 : decode cX10_isNewName 15 = .ok (.iconst 1, 1) := by decide +kernel
theorem dX10_isNewName_16 : decode cX10_isNewName 16 = .ok (.goto 4, 3) := by decide +kernel
theorem dX10_isNewName_19 : decode cX10_isNewName 19 = .ok (.iconst 0, 1) := by decide +kernel
theorem dX10_isNewName_20 : decode cX10_isNewName 20 = .ok (.ireturn, 1) := by decide +kernel
theorem dX10_definition_0 : decode cX10_definition 0 = .ok (.iconst 0, 1) := by decide +kernel
theorem dX10_definition_1 : decode cX10_definition 1 = .ok (.istore_n 2, 1) := by decide +kernel
theorem dX10_definition_2 : decode cX10_definition 2 = .ok (.iload_n 2, 1) := by decide +kernel
theorem dX10_definition_3 : decode cX10_definition 3 = .ok (.aload_n 0, 1) := by decide +kernel
theorem dX10_definition_4 : decode cX10_definition 4 = .ok (.getfield 295, 3) := by decide +kernel
theorem dX10_definition_7 : decode cX10_definition 7 = .ok (.if_icmp .ge 21, 3) := by decide +kernel
theorem dX10_definition_10 : decode cX10_definition 10 = .ok (.aload_n 0, 1) := by decide +kernel
theorem dX10_definition_11 : decode cX10_definition 11 = .ok (.getfield 74, 3) := by decide +kernel
theorem dX10_definition_14 : decode cX10_definition 14 = .ok (.iload_n 2, 1) := by decide +kernel
theorem dX10_definition_15 : decode cX10_definition 15 = .ok (.iaload, 1) := by decide +kernel
theorem dX10_definition_16 : decode cX10_definition 16 = .ok (.iload_n 1, 1) := by decide +kernel
theorem dX10_definition_17 : decode cX10_definition 17 = .ok (.if_icmp .ne 5, 3) := by decide +kernel
theorem dX10_definition_20 : decode cX10_definition 20 = .ok (.iload_n 2, 1) := by decide +kernel
theorem dX10_definition_21 : decode cX10_definition 21 = .ok (.ireturn, 1) := by decide +kernel
theorem dX10_definition_22 : decode cX10_definition 22 = .ok (.iinc 2 1, 3) := by decide +kernel
theorem dX10_definition_25 : decode cX10_definition 25 = .ok (.goto (-23), 3) := by decide +kernel
theorem dX10_definition_28 : decode cX10_definition 28 = .ok (.iconst (-1), 1) := by decide +kernel
theorem dX10_definition_29 : decode cX10_definition 29 = .ok (.ireturn, 1) := by decide +kernel
theorem dX10_areVariables_0 : decode cX10_areVariables 0 = .ok (.aload_n 0, 1) := by decide +kernel
theorem dX10_areVariables_1 : decode cX10_areVariables 1 = .ok (.iload_n 1, 1) := by decide +kernel
theorem dX10_areVariables_2 : decode cX10_areVariables 2 = .ok (.invokevirtual 325, 3) := by decide +kernel
theorem dX10_areVariables_5 : decode cX10_areVariables 5 = .ok (.istore_n 3, 1) := by decide +kernel
theorem dX10_areVariables_6 : decode cX10_areVariables 6 = .ok (.iload_n 3, 1) := by decide +kernel
theorem dX10_areVariables_7 : decode cX10_areVariables 7 = .ok (.iconst (-1), 1) := by decide +kernel
theorem dX10_areVariables_8 : decode cX10_areVariables 8 = .ok (.if_icmp .eq 8, 3) := by decide +kernel
theorem dX10_areVariables_11 : decode cX10_areVariables 11 = .ok (.iload_n 3, 1) := by decide +kernel
theorem dX10_areVariables_12 : decode cX10_areVariables 12 = .ok (.iload_n 2, 1) := by decide +kernel
theorem dX10_areVariables_13 : decode cX10_areVariables 13 = .ok (.if_icmp .le 5, 3) := by decide +kernel
theorem dX10_areVariables_16 : decode cX10_areVariables 16 = .ok (.iconst 0, 1) := by decide +kernel
theorem dX10_areVariables_17 : decode cX10_areVariables 17 = .ok (.ireturn, 1) := by decide +kernel
theorem dX10_areVariables_18 : decode cX10_areVariables 18 = .ok (.iconst 0, 1) := by decide +kernel
theorem dX10_areVariables_19 : decode cX10_areVariables 19 = .ok (.istore 4, 2) := by decide +kernel
theorem dX10_areVariables_21 : decode cX10_areVariables 21 = .ok (.iload 4, 2) := by decide +kernel
theorem dX10_areVariables_23 : decode cX10_areVariables 23 = .ok (.iload_n 3, 1) := by decide +kernel
theorem dX10_areVariables_24 : decode cX10_areVariables 24 = .ok (.if_icmp .ge 60, 3) := by decide +kernel
theorem dX10_areVariables_27 : decode cX10_areVariables 27 = .ok (.aload_n 0, 1) := by decide +kernel
theorem dX10_areVariables_28 : decode cX10_areVariables 28 = .ok (.aload_n 0, 1) := by decide +kernel
theorem dX10_areVariables_29 : decode cX10_areVariables 29 = .ok (.iload_n 1, 1) := by decide +kernel
theorem dX10_areVariables_30 : decode cX10_areVariables 30 = .ok (.iload 4, 2) := by decide +kernel
theorem dX10_areVariables_32 : decode cX10_areVariables 32 = .ok (.invokevirtual 292, 3) := by decide +kernel
theorem dX10_areVariables_35 : decode cX10_areVariables 35 = .ok (.invokevirtual 356, 3) := by decide +kernel
theorem dX10_areVariables_38 : decode cX10_areVariables 38 = .ok (.ifCond .ne 5, 3) := by decide +kernel
theorem dX10_areVariables_41 : decode cX10_areVariables 41 = .ok (.iconst 0, 1) := by decide +kernel
theorem dX10_areVariables_42 : decode cX10_areVariables 42 = .ok (.ireturn, 1) := by decide +kernel
theorem dX10_areVariables_43 : decode cX10_areVariables 43 = .ok (.iconst 0, 1) := by decide +kernel
theorem dX10_areVariables_44 : decode cX10_areVariables 44 = .ok (.istore 5, 2) := by decide +kernel
theorem dX10_areVariables_46 : decode cX10_areVariables 46 = .ok (.iload 5, 2) := by decide +kernel
theorem dX10_areVariables_48 : decode cX10_areVariables 48 = .ok (.iload 4, 2) := by decide +kernel
theorem dX10_areVariables_50 : decode cX10_areVariables 50 = .ok (.if_icmp .ge 28, 3) := by decide +kernel
theorem dX10_areVariables_53 : decode cX10_areVariables 53 = .ok (.aload_n 0, 1) := by decide +kernel
theorem dX10_areVariables_54 : decode cX10_areVariables 54 = .ok (.iload_n 1, 1) := by decide +kernel
theorem dX10_areVariables_55 : decode cX10_areVariables 55 = .ok (.iload 5, 2) := by decide +kernel
theorem dX10_areVariables_57 : decode cX10_areVariables 57 = .ok (.invokevirtual 292, 3) := by decide +kernel
theorem dX10_areVariables_60 : decode cX10_areVariables 60 = .ok (.aload_n 0, 1) := by decide +kernel
theorem dX10_areVariables_61 : decode cX10_areVariables 61 = .ok (.iload_n 1, 1) := by decide +kernel
theorem dX10_areVariables_62 : decode cX10_areVariables 62 = .ok (.iload 4, 2) := by decide +kernel
theorem dX10_areVariables_64 : decode cX10_areVariables 64 = .ok (.invokevirtual 292, 3) := by decide +kernel
theorem dX10_areVariables_67 : decode cX10_areVariables 67 = .ok (.if_icmp .ne 5, 3) := by decide +kernel
theorem dX10_areVariables_70 : decode cX10_areVariables 70 = .ok (.iconst 0, 1) := by decide +kernel
theorem dX10_areVariables_71 : decode cX10_areVariables 71 = .ok (.ireturn, 1) := by decide +kernel
theorem dX10_areVariables_72 : decode cX10_areVariables 72 = .ok (.iinc 5 1, 3) := by decide +kernel
theorem dX10_areVariables_75 : decode cX10_areVariables 75 = .ok (.goto (-29), 3) := by decide +kernel
theorem dX10_areVariables_78 : decode cX10_areVariables 78 = .ok (.iinc 4 1, 3) := by decide +kernel
theorem dX10_areVariables_81 : decode cX10_areVariables 81 = .ok (.goto (-60), 3) := by decide +kernel
theorem dX10_areVariables_84 : decode cX10_areVariables 84 = .ok (.iconst 1, 1) := by decide +kernel
theorem dX10_areVariables_85 : decode cX10_areVariables 85 = .ok (.ireturn, 1) := by decide +kernel
theorem dX10_isIn_0 : decode cX10_isIn 0 = .ok (.iload_n 1, 1) := by decide +kernel
theorem dX10_isIn_1 : decode cX10_isIn 1 = .ok (.istore_n 3, 1) := by decide +kernel
theorem dX10_isIn_2 : decode cX10_isIn 2 = .ok (.iload_n 3, 1) := by decide +kernel
theorem dX10_isIn_3 : decode cX10_isIn 3 = .ok (.ifCond .eq 25, 3) := by decide +kernel
theorem dX10_isIn_6 : decode cX10_isIn 6 = .ok (.aload_n 0, 1) := by decide +kernel
theorem dX10_isIn_7 : decode cX10_isIn 7 = .ok (.getfield 8, 3) := by decide +kernel
theorem dX10_isIn_10 : decode cX10_isIn 10 = .ok (.iload_n 3, 1) := by decide +kernel
theorem dX10_isIn_11 : decode cX10_isIn 11 = .ok (.iaload, 1) := by decide +kernel
theorem dX10_isIn_12 : decode cX10_isIn 12 = .ok (.iload_n 2, 1) := by decide +kernel
theorem dX10_isIn_13 : decode cX10_isIn 13 = .ok (.if_icmp .ne 5, 3) := by decide +kernel
theorem dX10_isIn_16 : decode cX10_isIn 16 = .ok (.iconst 1, 1) := by decide +kernel
theorem dX10_isIn_17 : decode cX10_isIn 17 = .ok (.ireturn, 1) := by decide +kernel
theorem dX10_isIn_18 : decode cX10_isIn 18 = .ok (.aload_n 0, 1) := by decide +kernel
theorem dX10_isIn_19 : decode cX10_isIn 19 = .ok (.getfield 14, 3) := by decide +kernel
theorem dX10_isIn_22 : decode cX10_isIn 22 = .ok (.iload_n 3, 1) := by decide +kernel
theorem dX10_isIn_23 : decode cX10_isIn 23 = .ok (.iaload, 1) := by decide +kernel
theorem dX10_isIn_24 : decode cX10_isIn 24 = .ok (.istore_n 3, 1) := by decide +kernel
theorem dX10_isIn_25 : decode cX10_isIn 25 = .ok (.goto (-23), 3) := by decide +kernel
theorem dX10_isIn_28 : decode cX10_isIn 28 = .ok (.iconst 0, 1) := by decide +kernel
theorem dX10_isIn_29 : decode cX10_isIn 29 = .ok (.ireturn, 1) := by decide +kernel
theorem dX10_hasOnly_0 : decode cX10_hasOnly 0 = .ok (.aload_n 0, 1) := by decide +kernel
theorem dX10_hasOnly_1 : decode cX10_hasOnly 1 = .ok (.iload_n 1, 1) := by decide +kernel
theorem dX10_hasOnly_2 : decode cX10_hasOnly 2 = .ok (.invokevirtual 414, 3) := by decide +kernel
theorem dX10_hasOnly_5 : decode cX10_hasOnly 5 = .ok (.iconst 0, 1) := by decide +kernel
theorem dX10_hasOnly_6 : decode cX10_hasOnly 6 = .ok (.istore_n 3, 1) := by decide +kernel
theorem dX10_hasOnly_7 : decode cX10_hasOnly 7 = .ok (.iload_n 3, 1) := by decide +kernel
theorem dX10_hasOnly_8 : decode cX10_hasOnly 8 = .ok (.aload_n 0, 1) := by decide +kernel
theorem dX10_hasOnly_9 : decode cX10_hasOnly 9 = .ok (.getfield 353, 3) := by decide +kernel
theorem dX10_hasOnly_12 : decode cX10_hasOnly 12 = .ok (.if_icmp .ge 25, 3) := by decide +kernel
theorem dX10_hasOnly_15 : decode cX10_hasOnly 15 = .ok (.aload_n 0, 1) := by decide +kernel
theorem dX10_hasOnly_16 : decode cX10_hasOnly 16 = .ok (.iload_n 2, 1) := by decide +kernel
theorem dX10_hasOnly_17 : decode cX10_hasOnly 17 = .ok (.aload_n 0, 1) := by decide +kernel
theorem dX10_hasOnly_18 : decode cX10_hasOnly 18 = .ok (.getfield 107, 3) := by decide +kernel
theorem dX10_hasOnly_21 : decode cX10_hasOnly 21 = .ok (.iload_n 3, 1) := by decide +kernel
theorem dX10_hasOnly_22 : decode cX10_hasOnly 22 = .ok (.iaload, 1) := by decide +kernel
theorem dX10_hasOnly_23 : decode cX10_hasOnly 23 = .ok (.invokevirtual 417, 3) := by decide +kernel
theorem dX10_hasOnly_26 : decode cX10_hasOnly 26 = .ok (.ifCond .ne 5, 3) := by decide +kernel
theorem dX10_hasOnly_29 : decode cX10_hasOnly 29 = .ok (.iconst 0, 1) := by decide +kernel
theorem dX10_hasOnly_30 : decode cX10_hasOnly 30 = .ok (.ireturn, 1) := by decide +kernel
theorem dX10_hasOnly_31 : decode cX10_hasOnly 31 = .ok (.iinc 3 1, 3) := by decide +kernel
theorem dX10_hasOnly_34 : decode cX10_hasOnly 34 = .ok (.goto (-27), 3) := by decide +kernel
theorem dX10_hasOnly_37 : decode cX10_hasOnly 37 = .ok (.iconst 1, 1) := by decide +kernel
theorem dX10_hasOnly_38 : decode cX10_hasOnly 38 = .ok (.ireturn, 1) := by decide +kernel
theorem dX10_tellOut_0 : decode cX10_tellOut 0 = .ok (.aload_n 0, 1) := by decide +kernel
theorem dX10_tellOut_1 : decode cX10_tellOut 1 = .ok (.iconst 0, 1) := by decide +kernel
theorem dX10_tellOut_2 : decode cX10_tellOut 2 = .ok (.putfield 265, 3) := by decide +kernel
theorem dX10_tellOut_5 : decode cX10_tellOut 5 = .ok (.aload_n 0, 1) := by decide +kernel
theorem dX10_tellOut_6 : decode cX10_tellOut 6 = .ok (.iload_n 1, 1) := by decide +kernel
theorem dX10_tellOut_7 : decode cX10_tellOut 7 = .ok (.invokevirtual 420, 3) := by decide +kernel
theorem dX10_tellOut_10 : decode cX10_tellOut 10 = .ok (.return_, 1) := by decide +kernel
theorem dX10_toldValue_0 : decode cX10_toldValue 0 = .ok (.aload_n 0, 1) := by decide +kernel
theorem dX10_toldValue_1 : decode cX10_toldValue 1 = .ok (.iload_n 1, 1) := by decide +kernel
theorem dX10_toldValue_2 : decode cX10_toldValue 2 = .ok (.iconst 0, 1) := by decide +kernel
theorem dX10_toldValue_3 : decode cX10_toldValue 3 = .ok (.invokevirtual 423, 3) := by decide +kernel
theorem dX10_toldValue_6 : decode cX10_toldValue 6 = .ok (.istore_n 2, 1) := by decide +kernel
theorem dX10_toldValue_7 : decode cX10_toldValue 7 = .ok (.iload_n 2, 1) := by decide +kernel
theorem dX10_toldValue_8 : decode cX10_toldValue 8 = .ok (.iconst (-1), 1) := by decide +kernel
theorem dX10_toldValue_9 : decode cX10_toldValue 9 = .ok (.if_icmp .ne 13, 3) := by decide +kernel
theorem dX10_toldValue_12 : decode cX10_toldValue 12 = .ok (.aload_n 0, 1) := by decide +kernel
theorem dX10_toldValue_13 : decode cX10_toldValue 13 = .ok (.aload_n 0, 1) := by decide +kernel
theorem dX10_toldValue_14 : decode cX10_toldValue 14 = .ok (.getfield 374, 3) := by decide +kernel
theorem dX10_toldValue_17 : decode cX10_toldValue 17 = .ok (.putfield 301, 3) := by decide +kernel
theorem dX10_toldValue_20 : decode cX10_toldValue 20 = .ok (.iconst 4, 1) := by decide +kernel
theorem dX10_toldValue_21 : decode cX10_toldValue 21 = .ok (.ireturn, 1) := by decide +kernel
theorem dX10_toldValue_22 : decode cX10_toldValue 22 = .ok (.aload_n 0, 1) := by decide +kernel
theorem dX10_toldValue_23 : decode cX10_toldValue 23 = .ok (.iload_n 2, 1) := by decide +kernel
theorem dX10_toldValue_24 : decode cX10_toldValue 24 = .ok (.invokevirtual 427, 3) := by decide +kernel
theorem dX10_toldValue_27 : decode cX10_toldValue 27 = .ok (.iconst 0, 1) := by decide +kernel
theorem dX10_toldValue_28 : decode cX10_toldValue 28 = .ok (.ireturn, 1) := by decide +kernel
theorem dX10_eval_0 : decode cX10_eval 0 = .ok (.aload_n 0, 1) := by decide +kernel
theorem dX10_eval_1 : decode cX10_eval 1 = .ok (.iload_n 1, 1) := by decide +kernel
theorem dX10_eval_2 : decode cX10_eval 2 = .ok (.invokevirtual 325, 3) := by decide +kernel
theorem dX10_eval_5 : decode cX10_eval 5 = .ok (.iconst 2, 1) := by decide +kernel
theorem dX10_eval_6 : decode cX10_eval 6 = .ok (.if_icmp .ne 16, 3) := by decide +kernel
theorem dX10_eval_9 : decode cX10_eval 9 = .ok (.aload_n 0, 1) := by decide +kernel
theorem dX10_eval_10 : decode cX10_eval 10 = .ok (.aload_n 0, 1) := by decide +kernel
theorem dX10_eval_11 : decode cX10_eval 11 = .ok (.iload_n 1, 1) := by decide +kernel
theorem dX10_eval_12 : decode cX10_eval 12 = .ok (.iconst 1, 1) := by decide +kernel
theorem dX10_eval_13 : decode cX10_eval 13 = .ok (.invokevirtual 292, 3) := by decide +kernel
theorem dX10_eval_16 : decode cX10_eval 16 = .ok (.invokevirtual 430, 3) := by decide +kernel
theorem dX10_eval_19 : decode cX10_eval 19 = .ok (.goto 4, 3) := by decide +kernel
theorem dX10_eval_22 : decode cX10_eval 22 = .ok (.iconst (-1), 1) := by decide +kernel
theorem dX10_eval_23 : decode cX10_eval 23 = .ok (.istore_n 2, 1) := by decide +kernel
theorem dX10_eval_24 : decode cX10_eval 24 = .ok (.iload_n 2, 1) := by decide +kernel
theorem dX10_eval_25 : decode cX10_eval 25 = .ok (.iconst (-1), 1) := by decide +kernel
theorem dX10_eval_26 : decode cX10_eval 26 = .ok (.if_icmp .eq 12, 3) := by decide +kernel
theorem dX10_eval_29 : decode cX10_eval 29 = .ok (.aload_n 0, 1) := by decide +kernel
theorem dX10_eval_30 : decode cX10_eval 30 = .ok (.iload_n 2, 1) := by decide +kernel
theorem dX10_eval_31 : decode cX10_eval 31 = .ok (.iconst 0, 1) := by decide +kernel
theorem dX10_eval_32 : decode cX10_eval 32 = .ok (.invokevirtual 433, 3) := by decide +kernel
theorem dX10_eval_35 : decode cX10_eval 35 = .ok (.ifCond .ne 5, 3) := by decide +kernel
theorem dX10_eval_38 : decode cX10_eval 38 = .ok (.iconst 2, 1) := by decide +kernel
theorem dX10_eval_39 : decode cX10_eval 39 = .ok (.ireturn, 1) := by decide +kernel
theorem dX10_eval_40 : decode cX10_eval 40 = .ok (.aload_n 0, 1) := by decide +kernel
theorem dX10_eval_41 : decode cX10_eval 41 = .ok (.iload_n 2, 1) := by decide +kernel
theorem dX10_eval_42 : decode cX10_eval 42 = .ok (.invokevirtual 436, 3) := by decide +kernel
theorem dX10_eval_45 : decode cX10_eval 45 = .ok (.ireturn, 1) := by decide +kernel
theorem dX10_with_0 : decode cX10_with 0 = .ok (.aload_n 0, 1) := by decide +kernel
theorem dX10_with_1 : decode cX10_with 1 = .ok (.iload_n 1, 1) := by decide +kernel
theorem dX10_with_2 : decode cX10_with 2 = .ok (.invokevirtual 325, 3) := by decide +kernel
theorem dX10_with_5 : decode cX10_with 5 = .ok (.iconst 3, 1) := by decide +kernel
theorem dX10_with_6 : decode cX10_with 6 = .ok (.if_icmp .ne 17, 3) := by decide +kernel
theorem dX10_with_9 : decode cX10_with 9 = .ok (.aload_n 0, 1) := by decide +kernel
theorem dX10_with_10 : decode cX10_with 10 = .ok (.aload_n 0, 1) := by decide +kernel
theorem dX10_with_11 : decode cX10_with 11 = .ok (.iload_n 1, 1) := by decide +kernel
theorem dX10_with_12 : decode cX10_with 12 = .ok (.iconst 1, 1) := by decide +kernel
theorem dX10_with_13 : decode cX10_with 13 = .ok (.invokevirtual 292, 3) := by decide +kernel
theorem dX10_with_16 : decode cX10_with 16 = .ok (.invokevirtual 325, 3) := by decide +kernel
theorem dX10_with_19 : decode cX10_with 19 = .ok (.iconst (-1), 1) := by decide +kernel
theorem dX10_with_20 : decode cX10_with 20 = .ok (.if_icmp .ne 5, 3) := by decide +kernel
theorem dX10_with_23 : decode cX10_with 23 = .ok (.iconst 2, 1) := by decide +kernel
theorem dX10_with_24 : decode cX10_with 24 = .ok (.ireturn, 1) := by decide +kernel
theorem dX10_with_25 : decode cX10_with 25 = .ok (.aload_n 0, 1) := by decide +kernel
theorem dX10_with_26 : decode cX10_with 26 = .ok (.iconst 0, 1) := by decide +kernel
theorem dX10_with_27 : decode cX10_with 27 = .ok (.putfield 439, 3) := by decide +kernel
theorem dX10_with_30 : decode cX10_with 30 = .ok (.aload_n 0, 1) := by decide +kernel
theorem dX10_with_31 : decode cX10_with 31 = .ok (.iload_n 1, 1) := by decide +kernel
theorem dX10_with_32 : decode cX10_with 32 = .ok (.iconst 1, 1) := by decide +kernel
theorem dX10_with_33 : decode cX10_with 33 = .ok (.invokevirtual 292, 3) := by decide +kernel
theorem dX10_with_36 : decode cX10_with 36 = .ok (.istore_n 2, 1) := by decide +kernel
theorem dX10_with_37 : decode cX10_with 37 = .ok (.iload_n 2, 1) := by decide +kernel
theorem dX10_with_38 : decode cX10_with 38 = .ok (.ifCond .eq 135, 3) := by decide +kernel
theorem dX10_with_41 : decode cX10_with 41 = .ok (.aload_n 0, 1) := by decide +kernel
theorem dX10_with_42 : decode cX10_with 42 = .ok (.aload_n 0, 1) := by decide +kernel
theorem dX10_with_43 : decode cX10_with 43 = .ok (.getfield 8, 3) := by decide +kernel
theorem dX10_with_46 : decode cX10_with 46 = .ok (.iload_n 2, 1) := by decide +kernel
theorem dX10_with_47 : decode cX10_with 47 = .ok (.iaload, 1) := by decide +kernel
theorem dX10_with_48 : decode cX10_with 48 = .ok (.invokevirtual 325, 3) := by decide +kernel
theorem dX10_with_51 : decode cX10_with 51 = .ok (.iconst 2, 1) := by decide +kernel
theorem dX10_with_52 : decode cX10_with 52 = .ok (.if_icmp .ne 21, 3) := by decide +kernel
theorem dX10_with_55 : decode cX10_with 55 = .ok (.aload_n 0, 1) := by decide +kernel
theorem dX10_with_56 : decode cX10_with 56 = .ok (.aload_n 0, 1) := by decide +kernel
theorem dX10_with_57 : decode cX10_with 57 = .ok (.getfield 8, 3) := by decide +kernel
theorem dX10_with_60 : decode cX10_with 60 = .ok (.aload_n 0, 1) := by decide +kernel
theorem dX10_with_61 : decode cX10_with 61 = .ok (.getfield 8, 3) := by decide +kernel
theorem dX10_with_64 : decode cX10_with 64 = .ok (.iload_n 2, 1) := by decide +kernel
theorem dX10_with_65 : decode cX10_with 65 = .ok (.iaload, 1) := by decide +kernel
theorem dX10_with_66 : decode cX10_with 66 = .ok (.iaload, 1) := by decide +kernel
theorem dX10_with_67 : decode cX10_with 67 = .ok (.invokevirtual 356, 3) := by decide +kernel
theorem dX10_with_70 : decode cX10_with 70 = .ok (.ifCond .ne 5, 3) := by decide +kernel
theorem dX10_with_73 : decode cX10_with 73 = .ok (.iconst 2, 1) := by decide +kernel
theorem dX10_with_74 : decode cX10_with 74 = .ok (.ireturn, 1) := by decide +kernel
theorem dX10_with_75 : decode cX10_with 75 = .ok (.iconst 0, 1) := by decide +kernel
theorem dX10_with_76 : decode cX10_with 76 = .ok (.istore_n 3, 1) := by decide +kernel
theorem dX10_with_77 : decode cX10_with 77 = .ok (.iload_n 3, 1) := by decide +kernel
theorem dX10_with_78 : decode cX10_with 78 = .ok (.aload_n 0, 1) := by decide +kernel
theorem dX10_with_79 : decode cX10_with 79 = .ok (.getfield 439, 3) := by decide +kernel
theorem dX10_with_82 : decode cX10_with 82 = .ok (.if_icmp .ge 31, 3) := by decide +kernel
theorem dX10_with_85 : decode cX10_with 85 = .ok (.aload_n 0, 1) := by decide +kernel
theorem dX10_with_86 : decode cX10_with 86 = .ok (.getfield 110, 3) := by decide +kernel
theorem dX10_with_89 : decode cX10_with 89 = .ok (.iload_n 3, 1) := by decide +kernel
theorem dX10_with_90 : decode cX10_with 90 = .ok (.iaload, 1) := by decide +kernel
theorem dX10_with_91 : decode cX10_with 91 = .ok (.aload_n 0, 1) := by decide +kernel
theorem dX10_with_92 : decode cX10_with 92 = .ok (.getfield 8, 3) := by decide +kernel
theorem dX10_with_95 : decode cX10_with 95 = .ok (.aload_n 0, 1) := by decide +kernel
theorem dX10_with_96 : decode cX10_with 96 = .ok (.getfield 8, 3) := by decide +kernel
theorem dX10_with_99 : decode cX10_with 99 = .ok (.iload_n 2, 1) := by decide +kernel
theorem dX10_with_100 : decode cX10_with 100 = .ok (.iaload, 1) := by decide +kernel
theorem dX10_with_101 : decode cX10_with 101 = .ok (.iaload, 1) := by decide +kernel
theorem dX10_with_102 : decode cX10_with 102 = .ok (.if_icmp .ne 5, 3) := by decide +kernel
theorem dX10_with_105 : decode cX10_with 105 = .ok (.iconst 2, 1) := by decide +kernel
theorem dX10_with_106 : decode cX10_with 106 = .ok (.ireturn, 1) := by decide +kernel
theorem dX10_with_107 : decode cX10_with 107 = .ok (.iinc 3 1, 3) := by decide +kernel
theorem dX10_with_110 : decode cX10_with 110 = .ok (.goto (-33), 3) := by decide +kernel
theorem dX10_with_113 : decode cX10_with 113 = .ok (.aload_n 0, 1) := by decide +kernel
theorem dX10_with_114 : decode cX10_with 114 = .ok (.getfield 110, 3) := by decide +kernel
theorem dX10_with_117 : decode cX10_with 117 = .ok (.aload_n 0, 1) := by decide +kernel
theorem dX10_with_118 : decode cX10_with 118 = .ok (.getfield 439, 3) := by decide +kernel
theorem dX10_with_121 : decode cX10_with 121 = .ok (.aload_n 0, 1) := by decide +kernel
theorem dX10_with_122 : decode cX10_with 122 = .ok (.getfield 8, 3) := by decide +kernel
theorem dX10_with_125 : decode cX10_with 125 = .ok (.aload_n 0, 1) := by decide +kernel
theorem dX10_with_126 : decode cX10_with 126 = .ok (.getfield 8, 3) := by decide +kernel
theorem dX10_with_129 : decode cX10_with 129 = .ok (.iload_n 2, 1) := by decide +kernel
theorem dX10_with_130 : decode cX10_with 130 = .ok (.iaload, 1) := by decide +kernel
theorem dX10_with_131 : decode cX10_with 131 = .ok (.iaload, 1) := by decide +kernel
theorem dX10_with_132 : decode cX10_with 132 = .ok (.iastore, 1) := by decide +kernel
theorem dX10_with_133 : decode cX10_with 133 = .ok (.aload_n 0, 1) := by decide +kernel
theorem dX10_with_134 : decode cX10_with 134 = .ok (.getfield 113, 3) := by decide +kernel
theorem dX10_with_137 : decode cX10_with 137 = .ok (.aload_n 0, 1) := by decide +kernel
theorem dX10_with_138 : decode cX10_with 138 = .ok (.getfield 439, 3) := by decide +kernel
theorem dX10_with_141 : decode cX10_with 141 = .ok (.aload_n 0, 1) := by decide +kernel
theorem dX10_with_142 : decode cX10_with 142 = .ok (.aload_n 0, 1) := by decide +kernel
theorem dX10_with_143 : decode cX10_with 143 = .ok (.getfield 8, 3) := by decide +kernel
theorem dX10_with_146 : decode cX10_with 146 = .ok (.iload_n 2, 1) := by decide +kernel
theorem dX10_with_147 : decode cX10_with 147 = .ok (.iaload, 1) := by decide +kernel
theorem dX10_with_148 : decode cX10_with 148 = .ok (.iconst 1, 1) := by decide +kernel
theorem dX10_with_149 : decode cX10_with 149 = .ok (.invokevirtual 292, 3) := by decide +kernel
theorem dX10_with_152 : decode cX10_with 152 = .ok (.iastore, 1) := by decide +kernel
theorem dX10_with_153 : decode cX10_with 153 = .ok (.aload_n 0, 1) := by decide +kernel
theorem dX10_with_154 : decode cX10_with 154 = .ok (.dup, 1) := by decide +kernel
theorem dX10_with_155 : decode cX10_with 155 = .ok (.getfield 439, 3) := by decide +kernel
theorem dX10_with_158 : decode cX10_with 158 = .ok (.iconst 1, 1) := by decide +kernel
theorem dX10_with_159 : decode cX10_with 159 = .ok (.iadd, 1) := by decide +kernel
theorem dX10_with_160 : decode cX10_with 160 = .ok (.putfield 439, 3) := by decide +kernel
theorem dX10_with_163 : decode cX10_with 163 = .ok (.aload_n 0, 1) := by decide +kernel
theorem dX10_with_164 : decode cX10_with 164 = .ok (.getfield 14, 3) := by decide +kernel
theorem dX10_with_167 : decode cX10_with 167 = .ok (.iload_n 2, 1) := by decide +kernel
theorem dX10_with_168 : decode cX10_with 168 = .ok (.iaload, 1) := by decide +kernel
theorem dX10_with_169 : decode cX10_with 169 = .ok (.istore_n 2, 1) := by decide +kernel
theorem dX10_with_170 : decode cX10_with 170 = .ok (.goto (-133), 3) := by decide +kernel
theorem dX10_with_173 : decode cX10_with 173 = .ok (.aload_n 0, 1) := by decide +kernel
theorem dX10_with_174 : decode cX10_with 174 = .ok (.aload_n 0, 1) := by decide +kernel
theorem dX10_with_175 : decode cX10_with 175 = .ok (.iload_n 1, 1) := by decide +kernel
theorem dX10_with_176 : decode cX10_with 176 = .ok (.iconst 2, 1) := by decide +kernel
theorem dX10_with_177 : decode cX10_with 177 = .ok (.invokevirtual 292, 3) := by decide +kernel
theorem dX10_with_180 : decode cX10_with 180 = .ok (.invokevirtual 430, 3) := by decide +kernel
theorem dX10_with_183 : decode cX10_with 183 = .ok (.istore_n 2, 1) := by decide +kernel
theorem dX10_with_184 : decode cX10_with 184 = .ok (.iload_n 2, 1) := by decide +kernel
theorem dX10_with_185 : decode cX10_with 185 = .ok (.iconst (-1), 1) := by decide +kernel
theorem dX10_with_186 : decode cX10_with 186 = .ok (.if_icmp .ne 5, 3) := by decide +kernel
theorem dX10_with_189 : decode cX10_with 189 = .ok (.iconst 2, 1) := by decide +kernel
theorem dX10_with_190 : decode cX10_with 190 = .ok (.ireturn, 1) := by decide +kernel
theorem dX10_with_191 : decode cX10_with 191 = .ok (.aload_n 0, 1) := by decide +kernel
theorem dX10_with_192 : decode cX10_with 192 = .ok (.iload_n 2, 1) := by decide +kernel
theorem dX10_with_193 : decode cX10_with 193 = .ok (.invokevirtual 414, 3) := by decide +kernel
theorem dX10_with_196 : decode cX10_with 196 = .ok (.iconst 0, 1) := by decide +kernel
theorem dX10_with_197 : decode cX10_with 197 = .ok (.istore_n 3, 1) := by decide +kernel
theorem dX10_with_198 : decode cX10_with 198 = .ok (.iload_n 3, 1) := by decide +kernel
theorem dX10_with_199 : decode cX10_with 199 = .ok (.aload_n 0, 1) := by decide +kernel
theorem dX10_with_200 : decode cX10_with 200 = .ok (.getfield 353, 3) := by decide +kernel
theorem dX10_with_203 : decode cX10_with 203 = .ok (.if_icmp .ge 65, 3) := by decide +kernel
theorem dX10_with_206 : decode cX10_with 206 = .ok (.iconst 0, 1) := by decide +kernel
theorem dX10_with_207 : decode cX10_with 207 = .ok (.istore 4, 2) := by decide +kernel
theorem dX10_with_209 : decode cX10_with 209 = .ok (.iconst 0, 1) := by decide +kernel
theorem dX10_with_210 : decode cX10_with 210 = .ok (.istore 5, 2) := by decide +kernel
theorem dX10_with_212 : decode cX10_with 212 = .ok (.iload 5, 2) := by decide +kernel
theorem dX10_with_214 : decode cX10_with 214 = .ok (.aload_n 0, 1) := by decide +kernel
theorem dX10_with_215 : decode cX10_with 215 = .ok (.getfield 439, 3) := by decide +kernel
theorem dX10_with_218 : decode cX10_with 218 = .ok (.if_icmp .ge 37, 3) := by decide +kernel
theorem dX10_with_221 : decode cX10_with 221 = .ok (.iload 4, 2) := by decide +kernel
theorem dX10_with_223 : decode cX10_with 223 = .ok (.ifCond .ne 19, 3) := by decide +kernel
theorem dX10_with_226 : decode cX10_with 226 = .ok (.aload_n 0, 1) := by decide +kernel
theorem dX10_with_227 : decode cX10_with 227 = .ok (.getfield 110, 3) := by decide +kernel
theorem dX10_with_230 : decode cX10_with 230 = .ok (.iload 5, 2) := by decide +kernel
theorem dX10_with_232 : decode cX10_with 232 = .ok (.iaload, 1) := by decide +kernel
theorem dX10_with_233 : decode cX10_with 233 = .ok (.aload_n 0, 1) := by decide +kernel
theorem dX10_with_234 : decode cX10_with 234 = .ok (.getfield 107, 3) := by decide +kernel
theorem dX10_with_237 : decode cX10_with 237 = .ok (.iload_n 3, 1) := by decide +kernel
theorem dX10_with_238 : decode cX10_with 238 = .ok (.iaload, 1) := by decide +kernel
theorem dX10_with_239 : decode cX10_with 239 = .ok (.if_icmp .ne 7, 3) := by decide +kernel
theorem dX10_with_242 : decode cX10_with 242 = .ok (.iconst 1, 1) := by decide +kernel
theorem dX10_with_243 : decode cX10_with 243 = .ok (.goto 4, 3) := by decide +kernel
theorem dX10_with_246 : decode cX10_with 246 = .ok (.iconst 0, 1) := by decide +kernel
theorem dX10_with_247 : decode cX10_with 247 = .ok (.istore 4, 2) := by decide +kernel
theorem dX10_with_249 : decode cX10_with 249 = .ok (.iinc 5 1, 3) := by decide +kernel
theorem dX10_with_252 : decode cX10_with 252 = .ok (.goto (-40), 3) := by decide +kernel
theorem dX10_with_255 : decode cX10_with 255 = .ok (.iload 4, 2) := by decide +kernel
theorem dX10_with_257 : decode cX10_with 257 = .ok (.ifCond .ne 5, 3) := by decide +kernel
theorem dX10_with_260 : decode cX10_with 260 = .ok (.iconst 2, 1) := by decide +kernel
theorem dX10_with_261 : decode cX10_with 261 = .ok (.ireturn, 1) := by decide +kernel
theorem dX10_with_262 : decode cX10_with 262 = .ok (.iinc 3 1, 3) := by decide +kernel
theorem dX10_with_265 : decode cX10_with 265 = .ok (.goto (-67), 3) := by decide +kernel
theorem dX10_with_268 : decode cX10_with 268 = .ok (.aload_n 0, 1) := by decide +kernel
theorem dX10_with_269 : decode cX10_with 269 = .ok (.iload_n 2, 1) := by decide +kernel
theorem dX10_with_270 : decode cX10_with 270 = .ok (.invokevirtual 436, 3) := by decide +kernel
theorem dX10_with_273 : decode cX10_with 273 = .ok (.ireturn, 1) := by decide +kernel
theorem dX10_map_0 : decode cX10_map 0 = .ok (.aload_n 0, 1) := by decide +kernel
theorem dX10_map_1 : decode cX10_map 1 = .ok (.iload_n 1, 1) := by decide +kernel
theorem dX10_map_2 : decode cX10_map 2 = .ok (.invokevirtual 325, 3) := by decide +kernel
theorem dX10_map_5 : decode cX10_map 5 = .ok (.iconst 3, 1) := by decide +kernel
theorem dX10_map_6 : decode cX10_map 6 = .ok (.if_icmp .ne 30, 3) := by decide +kernel
theorem dX10_map_9 : decode cX10_map 9 = .ok (.aload_n 0, 1) := by decide +kernel
theorem dX10_map_10 : decode cX10_map 10 = .ok (.aload_n 0, 1) := by decide +kernel
theorem dX10_map_11 : decode cX10_map 11 = .ok (.iload_n 1, 1) := by decide +kernel
theorem dX10_map_12 : decode cX10_map 12 = .ok (.iconst 2, 1) := by decide +kernel
theorem dX10_map_13 : decode cX10_map 13 = .ok (.invokevirtual 292, 3) := by decide +kernel
theorem dX10_map_16 : decode cX10_map 16 = .ok (.invokevirtual 325, 3) := by decide +kernel
theorem dX10_map_19 : decode cX10_map 19 = .ok (.iconst (-1), 1) := by decide +kernel
theorem dX10_map_20 : decode cX10_map 20 = .ok (.if_icmp .eq 16, 3) := by decide +kernel
theorem dX10_map_23 : decode cX10_map 23 = .ok (.aload_n 0, 1) := by decide +kernel
theorem dX10_map_24 : decode cX10_map 24 = .ok (.aload_n 0, 1) := by decide +kernel
theorem dX10_map_25 : decode cX10_map 25 = .ok (.iload_n 1, 1) := by decide +kernel
theorem dX10_map_26 : decode cX10_map 26 = .ok (.iconst 1, 1) := by decide +kernel
theorem dX10_map_27 : decode cX10_map 27 = .ok (.invokevirtual 292, 3) := by decide +kernel
theorem dX10_map_30 : decode cX10_map 30 = .ok (.invokevirtual 442, 3) := by decide +kernel
theorem dX10_map_33 : decode cX10_map 33 = .ok (.ifCond .ne 5, 3) := by decide +kernel
theorem dX10_map_36 : decode cX10_map 36 = .ok (.iconst 2, 1) := by decide +kernel
theorem dX10_map_37 : decode cX10_map 37 = .ok (.ireturn, 1) := by decide +kernel
theorem dX10_map_38 : decode cX10_map 38 = .ok (.aload_n 0, 1) := by decide +kernel
theorem dX10_map_39 : decode cX10_map 39 = .ok (.aload_n 0, 1) := by decide +kernel
theorem dX10_map_40 : decode cX10_map 40 = .ok (.iload_n 1, 1) := by decide +kernel
theorem dX10_map_41 : decode cX10_map 41 = .ok (.iconst 1, 1) := by decide +kernel
theorem dX10_map_42 : decode cX10_map 42 = .ok (.invokevirtual 292, 3) := by decide +kernel
theorem dX10_map_45 : decode cX10_map 45 = .ok (.invokevirtual 445, 3) := by decide +kernel
theorem dX10_map_48 : decode cX10_map 48 = .ok (.istore_n 2, 1) := by decide +kernel
theorem dX10_map_49 : decode cX10_map 49 = .ok (.iload_n 2, 1) := by decide +kernel
theorem dX10_map_50 : decode cX10_map 50 = .ok (.iconst (-1), 1) := by decide +kernel
theorem dX10_map_51 : decode cX10_map 51 = .ok (.if_icmp .ne 5, 3) := by decide +kernel
theorem dX10_map_54 : decode cX10_map 54 = .ok (.iconst 3, 1) := by decide +kernel
theorem dX10_map_55 : decode cX10_map 55 = .ok (.ireturn, 1) := by decide +kernel
theorem dX10_map_56 : decode cX10_map 56 = .ok (.aload_n 0, 1) := by decide +kernel
theorem dX10_map_57 : decode cX10_map 57 = .ok (.getfield 77, 3) := by decide +kernel
theorem dX10_map_60 : decode cX10_map 60 = .ok (.iload_n 2, 1) := by decide +kernel
theorem dX10_map_61 : decode cX10_map 61 = .ok (.iaload, 1) := by decide +kernel
theorem dX10_map_62 : decode cX10_map 62 = .ok (.iconst 1, 1) := by decide +kernel
theorem dX10_map_63 : decode cX10_map 63 = .ok (.if_icmp .eq 5, 3) := by decide +kernel
theorem dX10_map_66 : decode cX10_map 66 = .ok (.iconst 2, 1) := by decide +kernel
theorem dX10_map_67 : decode cX10_map 67 = .ok (.ireturn, 1) := by decide +kernel
theorem dX10_map_68 : decode cX10_map 68 = .ok (.iconst 0, 1) := by decide +kernel
theorem dX10_map_69 : decode cX10_map 69 = .ok (.istore_n 3, 1) := by decide +kernel
theorem dX10_map_70 : decode cX10_map 70 = .ok (.aload_n 0, 1) := by decide +kernel
theorem dX10_map_71 : decode cX10_map 71 = .ok (.iload_n 1, 1) := by decide +kernel
theorem dX10_map_72 : decode cX10_map 72 = .ok (.iconst 2, 1) := by decide +kernel
theorem dX10_map_73 : decode cX10_map 73 = .ok (.invokevirtual 292, 3) := by decide +kernel
theorem dX10_map_76 : decode cX10_map 76 = .ok (.istore 4, 2) := by decide +kernel
theorem dX10_map_78 : decode cX10_map 78 = .ok (.iload 4, 2) := by decide +kernel
theorem dX10_map_80 : decode cX10_map 80 = .ok (.ifCond .eq 74, 3) := by decide +kernel
theorem dX10_map_83 : decode cX10_map 83 = .ok (.aload_n 0, 1) := by decide +kernel
theorem dX10_map_84 : decode cX10_map 84 = .ok (.aload_n 0, 1) := by decide +kernel
theorem dX10_map_85 : decode cX10_map 85 = .ok (.iload_n 1, 1) := by decide +kernel
theorem dX10_map_86 : decode cX10_map 86 = .ok (.iconst 1, 1) := by decide +kernel
theorem dX10_map_87 : decode cX10_map 87 = .ok (.invokevirtual 292, 3) := by decide +kernel
theorem dX10_map_90 : decode cX10_map 90 = .ok (.aload_n 0, 1) := by decide +kernel
theorem dX10_map_91 : decode cX10_map 91 = .ok (.aload_n 0, 1) := by decide +kernel
theorem dX10_map_92 : decode cX10_map 92 = .ok (.getfield 8, 3) := by decide +kernel
theorem dX10_map_95 : decode cX10_map 95 = .ok (.iload 4, 2) := by decide +kernel
theorem dX10_map_97 : decode cX10_map 97 = .ok (.iaload, 1) := by decide +kernel
theorem dX10_map_98 : decode cX10_map 98 = .ok (.invokevirtual 319, 3) := by decide +kernel
theorem dX10_map_101 : decode cX10_map 101 = .ok (.invokevirtual 189, 3) := by decide +kernel
theorem dX10_map_104 : decode cX10_map 104 = .ok (.istore 5, 2) := by decide +kernel
theorem dX10_map_106 : decode cX10_map 106 = .ok (.aload_n 0, 1) := by decide +kernel
theorem dX10_map_107 : decode cX10_map 107 = .ok (.getfield 138, 3) := by decide +kernel
theorem dX10_map_110 : decode cX10_map 110 = .ok (.iload_n 3, 1) := by decide +kernel
theorem dX10_map_111 : decode cX10_map 111 = .ok (.aload_n 0, 1) := by decide +kernel
theorem dX10_map_112 : decode cX10_map 112 = .ok (.iload 5, 2) := by decide +kernel
theorem dX10_map_114 : decode cX10_map 114 = .ok (.iconst 0, 1) := by decide +kernel
theorem dX10_map_115 : decode cX10_map 115 = .ok (.invokevirtual 423, 3) := by decide +kernel
theorem dX10_map_118 : decode cX10_map 118 = .ok (.iastore, 1) := by decide +kernel
theorem dX10_map_119 : decode cX10_map 119 = .ok (.aload_n 0, 1) := by decide +kernel
theorem dX10_map_120 : decode cX10_map 120 = .ok (.getfield 138, 3) := by decide +kernel
theorem dX10_map_123 : decode cX10_map 123 = .ok (.iload_n 3, 1) := by decide +kernel
theorem dX10_map_124 : decode cX10_map 124 = .ok (.iaload, 1) := by decide +kernel
theorem dX10_map_125 : decode cX10_map 125 = .ok (.iconst (-1), 1) := by decide +kernel
theorem dX10_map_126 : decode cX10_map 126 = .ok (.if_icmp .ne 13, 3) := by decide +kernel
theorem dX10_map_129 : decode cX10_map 129 = .ok (.aload_n 0, 1) := by decide +kernel
theorem dX10_map_130 : decode cX10_map 130 = .ok (.aload_n 0, 1) := by decide +kernel
theorem dX10_map_131 : decode cX10_map 131 = .ok (.getfield 374, 3) := by decide +kernel
theorem dX10_map_134 : decode cX10_map 134 = .ok (.putfield 301, 3) := by decide +kernel
theorem dX10_map_137 : decode cX10_map 137 = .ok (.iconst 4, 1) := by decide +kernel
theorem dX10_map_138 : decode cX10_map 138 = .ok (.ireturn, 1) := by decide +kernel
theorem dX10_map_139 : decode cX10_map 139 = .ok (.iinc 3 1, 3) := by decide +kernel
theorem dX10_map_142 : decode cX10_map 142 = .ok (.aload_n 0, 1) := by decide +kernel
theorem dX10_map_143 : decode cX10_map 143 = .ok (.getfield 14, 3) := by decide +kernel
theorem dX10_map_146 : decode cX10_map 146 = .ok (.iload 4, 2) := by decide +kernel
theorem dX10_map_148 : decode cX10_map 148 = .ok (.iaload, 1) := by decide +kernel
theorem dX10_map_149 : decode cX10_map 149 = .ok (.istore 4, 2) := by decide +kernel
theorem dX10_map_151 : decode cX10_map 151 = .ok (.goto (-73), 3) := by decide +kernel
theorem dX10_map_154 : decode cX10_map 154 = .ok (.iconst 0, 1) := by decide +kernel
theorem dX10_map_155 : decode cX10_map 155 = .ok (.istore 4, 2) := by decide +kernel
theorem dX10_map_157 : decode cX10_map 157 = .ok (.iload_n 3, 1) := by decide +kernel
theorem dX10_map_158 : decode cX10_map 158 = .ok (.iconst 1, 1) := by decide +kernel
theorem dX10_map_159 : decode cX10_map 159 = .ok (.isub, 1) := by decide +kernel
theorem dX10_map_160 : decode cX10_map 160 = .ok (.istore 5, 2) := by decide +kernel
theorem dX10_map_162 : decode cX10_map 162 = .ok (.iload 5, 2) := by decide +kernel
theorem dX10_map_164 : decode cX10_map 164 = .ok (.ifCond .lt 24, 3) := by decide +kernel
theorem dX10_map_167 : decode cX10_map 167 = .ok (.aload_n 0, 1) := by decide +kernel
theorem dX10_map_168 : decode cX10_map 168 = .ok (.aload_n 0, 1) := by decide +kernel
theorem dX10_map_169 : decode cX10_map 169 = .ok (.getfield 138, 3) := by decide +kernel
theorem dX10_map_172 : decode cX10_map 172 = .ok (.iload 5, 2) := by decide +kernel
theorem dX10_map_174 : decode cX10_map 174 = .ok (.iaload, 1) := by decide +kernel
theorem dX10_map_175 : decode cX10_map 175 = .ok (.iload 4, 2) := by decide +kernel
theorem dX10_map_177 : decode cX10_map 177 = .ok (.invokevirtual 183, 3) := by decide +kernel
theorem dX10_map_180 : decode cX10_map 180 = .ok (.istore 4, 2) := by decide +kernel
theorem dX10_map_182 : decode cX10_map 182 = .ok (.iinc 5 (-1), 3) := by decide +kernel
theorem dX10_map_185 : decode cX10_map 185 = .ok (.goto (-23), 3) := by decide +kernel
theorem dX10_map_188 : decode cX10_map 188 = .ok (.aload_n 0, 1) := by decide +kernel
theorem dX10_map_189 : decode cX10_map 189 = .ok (.iload 4, 2) := by decide +kernel
theorem dX10_map_191 : decode cX10_map 191 = .ok (.invokevirtual 427, 3) := by decide +kernel
theorem dX10_map_194 : decode cX10_map 194 = .ok (.iconst 0, 1) := by decide +kernel
theorem dX10_map_195 : decode cX10_map 195 = .ok (.ireturn, 1) := by decide +kernel
theorem dX10_defun_0 : decode cX10_defun 0 = .ok (.aload_n 0, 1) := by decide +kernel
theorem dX10_defun_1 : decode cX10_defun 1 = .ok (.iload_n 1, 1) := by decide +kernel
theorem dX10_defun_2 : decode cX10_defun 2 = .ok (.invokevirtual 325, 3) := by decide +kernel
theorem dX10_defun_5 : decode cX10_defun 5 = .ok (.iconst 4, 1) := by decide +kernel
theorem dX10_defun_6 : decode cX10_defun 6 = .ok (.if_icmp .ne 31, 3) := by decide +kernel
theorem dX10_defun_9 : decode cX10_defun 9 = .ok (.aload_n 0, 1) := by decide +kernel
theorem dX10_defun_10 : decode cX10_defun 10 = .ok (.aload_n 0, 1) := by decide +kernel
theorem dX10_defun_11 : decode cX10_defun 11 = .ok (.iload_n 1, 1) := by decide +kernel
theorem dX10_defun_12 : decode cX10_defun 12 = .ok (.iconst 1, 1) := by decide +kernel
theorem dX10_defun_13 : decode cX10_defun 13 = .ok (.invokevirtual 292, 3) := by decide +kernel
theorem dX10_defun_16 : decode cX10_defun 16 = .ok (.invokevirtual 442, 3) := by decide +kernel
theorem dX10_defun_19 : decode cX10_defun 19 = .ok (.ifCond .eq 18, 3) := by decide +kernel
theorem dX10_defun_22 : decode cX10_defun 22 = .ok (.aload_n 0, 1) := by decide +kernel
theorem dX10_defun_23 : decode cX10_defun 23 = .ok (.aload_n 0, 1) := by decide +kernel
theorem dX10_defun_24 : decode cX10_defun 24 = .ok (.iload_n 1, 1) := by decide +kernel
theorem dX10_defun_25 : decode cX10_defun 25 = .ok (.iconst 2, 1) := by decide +kernel
theorem dX10_defun_26 : decode cX10_defun 26 = .ok (.invokevirtual 292, 3) := by decide +kernel
theorem dX10_defun_29 : decode cX10_defun 29 = .ok (.bipush 6, 2) := by decide +kernel
theorem dX10_defun_31 : decode cX10_defun 31 = .ok (.invokevirtual 448, 3) := by decide +kernel
theorem dX10_defun_34 : decode cX10_defun 34 = .ok (.ifCond .ne 5, 3) := by decide +kernel
theorem dX10_defun_37 : decode cX10_defun 37 = .ok (.iconst 2, 1) := by decide +kernel
theorem dX10_defun_38 : decode cX10_defun 38 = .ok (.ireturn, 1) := by decide +kernel
theorem dX10_defun_39 : decode cX10_defun 39 = .ok (.aload_n 0, 1) := by decide +kernel
theorem dX10_defun_40 : decode cX10_defun 40 = .ok (.iload_n 1, 1) := by decide +kernel
theorem dX10_defun_41 : decode cX10_defun 41 = .ok (.iconst 1, 1) := by decide +kernel
theorem dX10_defun_42 : decode cX10_defun 42 = .ok (.invokevirtual 292, 3) := by decide +kernel
theorem dX10_defun_45 : decode cX10_defun 45 = .ok (.istore_n 3, 1) := by decide +kernel
theorem dX10_defun_46 : decode cX10_defun 46 = .ok (.aload_n 0, 1) := by decide +kernel
theorem dX10_defun_47 : decode cX10_defun 47 = .ok (.iload_n 1, 1) := by decide +kernel
theorem dX10_defun_48 : decode cX10_defun 48 = .ok (.iconst 2, 1) := by decide +kernel
theorem dX10_defun_49 : decode cX10_defun 49 = .ok (.invokevirtual 292, 3) := by decide +kernel
theorem dX10_defun_52 : decode cX10_defun 52 = .ok (.istore 4, 2) := by decide +kernel
theorem dX10_defun_54 : decode cX10_defun 54 = .ok (.aload_n 0, 1) := by decide +kernel
theorem dX10_defun_55 : decode cX10_defun 55 = .ok (.iload_n 3, 1) := by decide +kernel
theorem dX10_defun_56 : decode cX10_defun 56 = .ok (.putfield 86, 3) := by decide +kernel
theorem dX10_defun_59 : decode cX10_defun 59 = .ok (.aload_n 0, 1) := by decide +kernel
theorem dX10_defun_60 : decode cX10_defun 60 = .ok (.aload_n 0, 1) := by decide +kernel
theorem dX10_defun_61 : decode cX10_defun 61 = .ok (.iload 4, 2) := by decide +kernel
theorem dX10_defun_63 : decode cX10_defun 63 = .ok (.invokevirtual 325, 3) := by decide +kernel
theorem dX10_defun_66 : decode cX10_defun 66 = .ok (.putfield 298, 3) := by decide +kernel
theorem dX10_defun_69 : decode cX10_defun 69 = .ok (.aload_n 0, 1) := by decide +kernel
theorem dX10_defun_70 : decode cX10_defun 70 = .ok (.aload_n 0, 1) := by decide +kernel
theorem dX10_defun_71 : decode cX10_defun 71 = .ok (.iload_n 1, 1) := by decide +kernel
theorem dX10_defun_72 : decode cX10_defun 72 = .ok (.iconst 3, 1) := by decide +kernel
theorem dX10_defun_73 : decode cX10_defun 73 = .ok (.invokevirtual 292, 3) := by decide +kernel
theorem dX10_defun_76 : decode cX10_defun 76 = .ok (.invokevirtual 430, 3) := by decide +kernel
theorem dX10_defun_79 : decode cX10_defun 79 = .ok (.istore 5, 2) := by decide +kernel
theorem dX10_defun_81 : decode cX10_defun 81 = .ok (.aload_n 0, 1) := by decide +kernel
theorem dX10_defun_82 : decode cX10_defun 82 = .ok (.iconst (-1), 1) := by decide +kernel
theorem dX10_defun_83 : decode cX10_defun 83 = .ok (.putfield 86, 3) := by decide +kernel
theorem dX10_defun_86 : decode cX10_defun 86 = .ok (.iload 5, 2) := by decide +kernel
theorem dX10_defun_88 : decode cX10_defun 88 = .ok (.iconst (-1), 1) := by decide +kernel
theorem dX10_defun_89 : decode cX10_defun 89 = .ok (.if_icmp .eq 14, 3) := by decide +kernel
theorem dX10_defun_92 : decode cX10_defun 92 = .ok (.aload_n 0, 1) := by decide +kernel
theorem dX10_defun_93 : decode cX10_defun 93 = .ok (.iload 5, 2) := by decide +kernel
theorem dX10_defun_95 : decode cX10_defun 95 = .ok (.iload 4, 2) := by decide +kernel
theorem dX10_defun_97 : decode cX10_defun 97 = .ok (.invokevirtual 433, 3) := by decide +kernel
theorem dX10_defun_100 : decode cX10_defun 100 = .ok (.ifCond .ne 5, 3) := by decide +kernel
theorem dX10_defun_103 : decode cX10_defun 103 = .ok (.iconst 2, 1) := by decide +kernel
theorem dX10_defun_104 : decode cX10_defun 104 = .ok (.ireturn, 1) := by decide +kernel
theorem dX10_defun_105 : decode cX10_defun 105 = .ok (.aload_n 0, 1) := by decide +kernel
theorem dX10_defun_106 : decode cX10_defun 106 = .ok (.iload_n 3, 1) := by decide +kernel
theorem dX10_defun_107 : decode cX10_defun 107 = .ok (.invokevirtual 445, 3) := by decide +kernel
theorem dX10_defun_110 : decode cX10_defun 110 = .ok (.istore 6, 2) := by decide +kernel
theorem dX10_defun_112 : decode cX10_defun 112 = .ok (.iload_n 2, 1) := by decide +kernel
theorem dX10_defun_113 : decode cX10_defun 113 = .ok (.ifCond .eq 27, 3) := by decide +kernel
theorem dX10_defun_116 : decode cX10_defun 116 = .ok (.iload 6, 2) := by decide +kernel
theorem dX10_defun_118 : decode cX10_defun 118 = .ok (.iconst (-1), 1) := by decide +kernel
theorem dX10_defun_119 : decode cX10_defun 119 = .ok (.if_icmp .eq 21, 3) := by decide +kernel
theorem dX10_defun_122 : decode cX10_defun 122 = .ok (.aload_n 0, 1) := by decide +kernel
theorem dX10_defun_123 : decode cX10_defun 123 = .ok (.getfield 77, 3) := by decide +kernel
theorem dX10_defun_126 : decode cX10_defun 126 = .ok (.iload 6, 2) := by decide +kernel
theorem dX10_defun_128 : decode cX10_defun 128 = .ok (.iaload, 1) := by decide +kernel
theorem dX10_defun_129 : decode cX10_defun 129 = .ok (.aload_n 0, 1) := by decide +kernel
theorem dX10_defun_130 : decode cX10_defun 130 = .ok (.iload 4, 2) := by decide +kernel
theorem dX10_defun_132 : decode cX10_defun 132 = .ok (.invokevirtual 325, 3) := by decide +kernel
theorem dX10_defun_135 : decode cX10_defun 135 = .ok (.if_icmp .eq 5, 3) := by decide +kernel
theorem dX10_defun_138 : decode cX10_defun 138 = .ok (.iconst 2, 1) := by decide +kernel
theorem dX10_defun_139 : decode cX10_defun 139 = .ok (.ireturn, 1) := by decide +kernel
theorem dX10_defun_140 : decode cX10_defun 140 = .ok (.iload_n 2, 1) := by decide +kernel
theorem dX10_defun_141 : decode cX10_defun 141 = .ok (.iload 6, 2) := by decide +kernel
theorem dX10_defun_143 : decode cX10_defun 143 = .ok (.iconst (-1), 1) := by decide +kernel
theorem dX10_defun_144 : decode cX10_defun 144 = .ok (.if_icmp .ne 7, 3) := by decide +kernel
theorem dX10_defun_147 : decode cX10_defun 147 = .ok (.iconst 1, 1) := by decide +kernel
theorem dX10_defun_148 : decode cX10_defun 148 = .ok (.goto 4, 3) := by decide +kernel
theorem dX10_defun_151 : decode cX10_defun 151 = .ok (.iconst 0, 1) := by decide +kernel
theorem dX10_defun_152 : decode cX10_defun 152 = .ok (.if_icmp .ne 5, 3) := by decide +kernel
theorem dX10_defun_155 : decode cX10_defun 155 = .ok (.iconst 3, 1) := by decide +kernel
theorem dX10_defun_156 : decode cX10_defun 156 = .ok (.ireturn, 1) := by decide +kernel
theorem dX10_defun_157 : decode cX10_defun 157 = .ok (.iload_n 2, 1) := by decide +kernel
theorem dX10_defun_158 : decode cX10_defun 158 = .ok (.ifCond .ne 15, 3) := by decide +kernel
theorem dX10_defun_161 : decode cX10_defun 161 = .ok (.aload_n 0, 1) := by decide +kernel
theorem dX10_defun_162 : decode cX10_defun 162 = .ok (.getfield 295, 3) := by decide +kernel
theorem dX10_defun_165 : decode cX10_defun 165 = .ok (.bipush 40, 2) := by decide +kernel
theorem dX10_defun_167 : decode cX10_defun 167 = .ok (.if_icmp .ne 6, 3) := by decide +kernel
theorem dX10_defun_170 : decode cX10_defun 170 = .ok (.bipush 8, 2) := by decide +kernel
theorem dX10_defun_172 : decode cX10_defun 172 = .ok (.ireturn, 1) := by decide +kernel
theorem dX10_defun_173 : decode cX10_defun 173 = .ok (.iload_n 2, 1) := by decide +kernel
theorem dX10_defun_174 : decode cX10_defun 174 = .ok (.ifCond .ne 27, 3) := by decide +kernel
theorem dX10_defun_177 : decode cX10_defun 177 = .ok (.aload_n 0, 1) := by decide +kernel
theorem dX10_defun_178 : decode cX10_defun 178 = .ok (.getfield 295, 3) := by decide +kernel
theorem dX10_defun_181 : decode cX10_defun 181 = .ok (.istore 6, 2) := by decide +kernel
theorem dX10_defun_183 : decode cX10_defun 183 = .ok (.aload_n 0, 1) := by decide +kernel
theorem dX10_defun_184 : decode cX10_defun 184 = .ok (.getfield 74, 3) := by decide +kernel
theorem dX10_defun_187 : decode cX10_defun 187 = .ok (.iload 6, 2) := by decide +kernel
theorem dX10_defun_189 : decode cX10_defun 189 = .ok (.iload_n 3, 1) := by decide +kernel
theorem dX10_defun_190 : decode cX10_defun 190 = .ok (.iastore, 1) := by decide +kernel
theorem dX10_defun_191 : decode cX10_defun 191 = .ok (.aload_n 0, 1) := by decide +kernel
theorem dX10_defun_192 : decode cX10_defun 192 = .ok (.dup, 1) := by decide +kernel
theorem dX10_defun_193 : decode cX10_defun 193 = .ok (.getfield 295, 3) := by decide +kernel
theorem dX10_defun_196 : decode cX10_defun 196 = .ok (.iconst 1, 1) := by decide +kernel
theorem dX10_defun_197 : decode cX10_defun 197 = .ok (.iadd, 1) := by decide +kernel
theorem dX10_defun_198 : decode cX10_defun 198 = .ok (.putfield 295, 3) := by decide +kernel
theorem dX10_defun_201 : decode cX10_defun 201 = .ok (.aload_n 0, 1) := by decide +kernel
theorem dX10_defun_202 : decode cX10_defun 202 = .ok (.getfield 77, 3) := by decide +kernel
theorem dX10_defun_205 : decode cX10_defun 205 = .ok (.iload 6, 2) := by decide +kernel
theorem dX10_defun_207 : decode cX10_defun 207 = .ok (.aload_n 0, 1) := by decide +kernel
theorem dX10_defun_208 : decode cX10_defun 208 = .ok (.iload 4, 2) := by decide +kernel
theorem dX10_defun_210 : decode cX10_defun 210 = .ok (.invokevirtual 325, 3) := by decide +kernel
theorem dX10_defun_213 : decode cX10_defun 213 = .ok (.iastore, 1) := by decide +kernel
theorem dX10_defun_214 : decode cX10_defun 214 = .ok (.iconst 0, 1) := by decide +kernel
theorem dX10_defun_215 : decode cX10_defun 215 = .ok (.istore 7, 2) := by decide +kernel
theorem dX10_defun_217 : decode cX10_defun 217 = .ok (.iload 7, 2) := by decide +kernel
theorem dX10_defun_219 : decode cX10_defun 219 = .ok (.aload_n 0, 1) := by decide +kernel
theorem dX10_defun_220 : decode cX10_defun 220 = .ok (.getfield 77, 3) := by decide +kernel
theorem dX10_defun_223 : decode cX10_defun 223 = .ok (.iload 6, 2) := by decide +kernel
theorem dX10_defun_225 : decode cX10_defun 225 = .ok (.iaload, 1) := by decide +kernel
theorem dX10_defun_226 : decode cX10_defun 226 = .ok (.if_icmp .ge 30, 3) := by decide +kernel
theorem dX10_defun_229 : decode cX10_defun 229 = .ok (.aload_n 0, 1) := by decide +kernel
theorem dX10_defun_230 : decode cX10_defun 230 = .ok (.getfield 80, 3) := by decide +kernel
theorem dX10_defun_233 : decode cX10_defun 233 = .ok (.bipush 6, 2) := by decide +kernel
theorem dX10_defun_235 : decode cX10_defun 235 = .ok (.iload 6, 2) := by decide +kernel
theorem dX10_defun_237 : decode cX10_defun 237 = .ok (.imul, 1) := by decide +kernel
theorem dX10_defun_238 : decode cX10_defun 238 = .ok (.iload 7, 2) := by decide +kernel
theorem dX10_defun_240 : decode cX10_defun 240 = .ok (.iadd, 1) := by decide +kernel
theorem dX10_defun_241 : decode cX10_defun 241 = .ok (.aload_n 0, 1) := by decide +kernel
theorem dX10_defun_242 : decode cX10_defun 242 = .ok (.iload 4, 2) := by decide +kernel
theorem dX10_defun_244 : decode cX10_defun 244 = .ok (.iload 7, 2) := by decide +kernel
theorem dX10_defun_246 : decode cX10_defun 246 = .ok (.invokevirtual 292, 3) := by decide +kernel
theorem dX10_defun_249 : decode cX10_defun 249 = .ok (.iastore, 1) := by decide +kernel
theorem dX10_defun_250 : decode cX10_defun 250 = .ok (.iinc 7 1, 3) := by decide +kernel
theorem dX10_defun_253 : decode cX10_defun 253 = .ok (.goto (-36), 3) := by decide +kernel
theorem dX10_defun_256 : decode cX10_defun 256 = .ok (.aload_n 0, 1) := by decide +kernel
theorem dX10_defun_257 : decode cX10_defun 257 = .ok (.getfield 83, 3) := by decide +kernel
theorem dX10_defun_260 : decode cX10_defun 260 = .ok (.iload 6, 2) := by decide +kernel
theorem dX10_defun_262 : decode cX10_defun 262 = .ok (.iload 5, 2) := by decide +kernel
theorem dX10_defun_264 : decode cX10_defun 264 = .ok (.iastore, 1) := by decide +kernel
theorem dX10_defun_265 : decode cX10_defun 265 = .ok (.aload_n 0, 1) := by decide +kernel
theorem dX10_defun_266 : decode cX10_defun 266 = .ok (.iconst 1, 1) := by decide +kernel
theorem dX10_defun_267 : decode cX10_defun 267 = .ok (.putfield 451, 3) := by decide +kernel
theorem dX10_defun_270 : decode cX10_defun 270 = .ok (.iconst 0, 1) := by decide +kernel
theorem dX10_defun_271 : decode cX10_defun 271 = .ok (.ireturn, 1) := by decide +kernel
theorem dX10_undo_0 : decode cX10_undo 0 = .ok (.aload_n 0, 1) := by decide +kernel
theorem dX10_undo_1 : decode cX10_undo 1 = .ok (.iload_n 1, 1) := by decide +kernel
theorem dX10_undo_2 : decode cX10_undo 2 = .ok (.invokevirtual 325, 3) := by decide +kernel
theorem dX10_undo_5 : decode cX10_undo 5 = .ok (.iconst 1, 1) := by decide +kernel
theorem dX10_undo_6 : decode cX10_undo 6 = .ok (.if_icmp .eq 5, 3) := by decide +kernel
theorem dX10_undo_9 : decode cX10_undo 9 = .ok (.iconst 2, 1) := by decide +kernel
theorem dX10_undo_10 : decode cX10_undo 10 = .ok (.ireturn, 1) := by decide +kernel
theorem dX10_undo_11 : decode cX10_undo 11 = .ok (.aload_n 0, 1) := by decide +kernel
theorem dX10_undo_12 : decode cX10_undo 12 = .ok (.getfield 295, 3) := by decide +kernel
theorem dX10_undo_15 : decode cX10_undo 15 = .ok (.ifCond .ne 5, 3) := by decide +kernel
theorem dX10_undo_18 : decode cX10_undo 18 = .ok (.iconst 3, 1) := by decide +kernel
theorem dX10_undo_19 : decode cX10_undo 19 = .ok (.ireturn, 1) := by decide +kernel
theorem dX10_undo_20 : decode cX10_undo 20 = .ok (.iconst 0, 1) := by decide +kernel
theorem dX10_undo_21 : decode cX10_undo 21 = .ok (.istore_n 2, 1) := by decide +kernel
theorem dX10_undo_22 : decode cX10_undo 22 = .ok (.iload_n 2, 1) := by decide +kernel
theorem dX10_undo_23 : decode cX10_undo 23 = .ok (.aload_n 0, 1) := by decide +kernel
theorem dX10_undo_24 : decode cX10_undo 24 = .ok (.getfield 295, 3) := by decide +kernel
theorem dX10_undo_27 : decode cX10_undo 27 = .ok (.iconst 1, 1) := by decide +kernel
theorem dX10_undo_28 : decode cX10_undo 28 = .ok (.isub, 1) := by decide +kernel
theorem dX10_undo_29 : decode cX10_undo 29 = .ok (.if_icmp .ge 35, 3) := by decide +kernel
theorem dX10_undo_32 : decode cX10_undo 32 = .ok (.aload_n 0, 1) := by decide +kernel
theorem dX10_undo_33 : decode cX10_undo 33 = .ok (.aload_n 0, 1) := by decide +kernel
theorem dX10_undo_34 : decode cX10_undo 34 = .ok (.getfield 83, 3) := by decide +kernel
theorem dX10_undo_37 : decode cX10_undo 37 = .ok (.iload_n 2, 1) := by decide +kernel
theorem dX10_undo_38 : decode cX10_undo 38 = .ok (.iaload, 1) := by decide +kernel
theorem dX10_undo_39 : decode cX10_undo 39 = .ok (.aload_n 0, 1) := by decide +kernel
theorem dX10_undo_40 : decode cX10_undo 40 = .ok (.getfield 74, 3) := by decide +kernel
theorem dX10_undo_43 : decode cX10_undo 43 = .ok (.aload_n 0, 1) := by decide +kernel
theorem dX10_undo_44 : decode cX10_undo 44 = .ok (.getfield 295, 3) := by decide +kernel
theorem dX10_undo_47 : decode cX10_undo 47 = .ok (.iconst 1, 1) := by decide +kernel
theorem dX10_undo_48 : decode cX10_undo 48 = .ok (.isub, 1) := by decide +kernel
theorem dX10_undo_49 : decode cX10_undo 49 = .ok (.iaload, 1) := by decide +kernel
theorem dX10_undo_50 : decode cX10_undo 50 = .ok (.invokevirtual 454, 3) := by decide +kernel
theorem dX10_undo_53 : decode cX10_undo 53 = .ok (.ifCond .eq 5, 3) := by decide +kernel
theorem dX10_undo_56 : decode cX10_undo 56 = .ok (.iconst 3, 1) := by decide +kernel
theorem dX10_undo_57 : decode cX10_undo 57 = .ok (.ireturn, 1) := by decide +kernel
theorem dX10_undo_58 : decode cX10_undo 58 = .ok (.iinc 2 1, 3) := by decide +kernel
theorem dX10_undo_61 : decode cX10_undo 61 = .ok (.goto (-39), 3) := by decide +kernel
theorem dX10_undo_64 : decode cX10_undo 64 = .ok (.aload_n 0, 1) := by decide +kernel
theorem dX10_undo_65 : decode cX10_undo 65 = .ok (.dup, 1) := by decide +kernel
theorem dX10_undo_66 : decode cX10_undo 66 = .ok (.getfield 295, 3) := by decide +kernel
theorem dX10_undo_69 : decode cX10_undo 69 = .ok (.iconst 1, 1) := by decide +kernel
theorem dX10_undo_70 : decode cX10_undo 70 = .ok (.isub, 1) := by decide +kernel
theorem dX10_undo_71 : decode cX10_undo 71 = .ok (.putfield 295, 3) := by decide +kernel
theorem dX10_undo_74 : decode cX10_undo 74 = .ok (.iconst 0, 1) := by decide +kernel
theorem dX10_undo_75 : decode cX10_undo 75 = .ok (.ireturn, 1) := by decide +kernel
theorem dX10_show_0 : decode cX10_show 0 = .ok (.aload_n 0, 1) := by decide +kernel
theorem dX10_show_1 : decode cX10_show 1 = .ok (.iload_n 1, 1) := by decide +kernel
theorem dX10_show_2 : decode cX10_show 2 = .ok (.invokevirtual 325, 3) := by decide +kernel
theorem dX10_show_5 : decode cX10_show 5 = .ok (.iconst 2, 1) := by decide +kernel
theorem dX10_show_6 : decode cX10_show 6 = .ok (.if_icmp .ne 16, 3) := by decide +kernel
theorem dX10_show_9 : decode cX10_show 9 = .ok (.aload_n 0, 1) := by decide +kernel
theorem dX10_show_10 : decode cX10_show 10 = .ok (.aload_n 0, 1) := by decide +kernel
theorem dX10_show_11 : decode cX10_show 11 = .ok (.iload_n 1, 1) := by decide +kernel
theorem dX10_show_12 : decode cX10_show 12 = .ok (.iconst 1, 1) := by decide +kernel
theorem dX10_show_13 : decode cX10_show 13 = .ok (.invokevirtual 292, 3) := by decide +kernel
theorem dX10_show_16 : decode cX10_show 16 = .ok (.invokevirtual 442, 3) := by decide +kernel
theorem dX10_show_19 : decode cX10_show 19 = .ok (.ifCond .ne 5, 3) := by decide +kernel
theorem dX10_show_22 : decode cX10_show 22 = .ok (.iconst 2, 1) := by decide +kernel
theorem dX10_show_23 : decode cX10_show 23 = .ok (.ireturn, 1) := by decide +kernel
theorem dX10_show_24 : decode cX10_show 24 = .ok (.aload_n 0, 1) := by decide +kernel
theorem dX10_show_25 : decode cX10_show 25 = .ok (.aload_n 0, 1) := by decide +kernel
theorem dX10_show_26 : decode cX10_show 26 = .ok (.iload_n 1, 1) := by decide +kernel
theorem dX10_show_27 : decode cX10_show 27 = .ok (.iconst 1, 1) := by decide +kernel
theorem dX10_show_28 : decode cX10_show 28 = .ok (.invokevirtual 292, 3) := by decide +kernel
theorem dX10_show_31 : decode cX10_show 31 = .ok (.invokevirtual 445, 3) := by decide +kernel
theorem dX10_show_34 : decode cX10_show 34 = .ok (.istore_n 2, 1) := by decide +kernel
theorem dX10_show_35 : decode cX10_show 35 = .ok (.iload_n 2, 1) := by decide +kernel
theorem dX10_show_36 : decode cX10_show 36 = .ok (.iconst (-1), 1) := by decide +kernel
theorem dX10_show_37 : decode cX10_show 37 = .ok (.if_icmp .ne 5, 3) := by decide +kernel
theorem dX10_show_40 : decode cX10_show 40 = .ok (.iconst 3, 1) := by decide +kernel
theorem dX10_show_41 : decode cX10_show 41 = .ok (.ireturn, 1) := by decide +kernel
theorem dX10_show_42 : decode cX10_show 42 = .ok (.iconst 0, 1) := by decide +kernel
theorem dX10_show_43 : decode cX10_show 43 = .ok (.istore_n 3, 1) := by decide +kernel
theorem dX10_show_44 : decode cX10_show 44 = .ok (.aload_n 0, 1) := by decide +kernel
theorem dX10_show_45 : decode cX10_show 45 = .ok (.getfield 77, 3) := by decide +kernel
theorem dX10_show_48 : decode cX10_show 48 = .ok (.iload_n 2, 1) := by decide +kernel
theorem dX10_show_49 : decode cX10_show 49 = .ok (.iaload, 1) := by decide +kernel
theorem dX10_show_50 : decode cX10_show 50 = .ok (.iconst 1, 1) := by decide +kernel
theorem dX10_show_51 : decode cX10_show 51 = .ok (.isub, 1) := by decide +kernel
theorem dX10_show_52 : decode cX10_show 52 = .ok (.istore 4, 2) := by decide +kernel
theorem dX10_show_54 : decode cX10_show 54 = .ok (.iload 4, 2) := by decide +kernel
theorem dX10_show_56 : decode cX10_show 56 = .ok (.ifCond .lt 27, 3) := by decide +kernel
theorem dX10_show_59 : decode cX10_show 59 = .ok (.aload_n 0, 1) := by decide +kernel
theorem dX10_show_60 : decode cX10_show 60 = .ok (.aload_n 0, 1) := by decide +kernel
theorem dX10_show_61 : decode cX10_show 61 = .ok (.getfield 80, 3) := by decide +kernel
theorem dX10_show_64 : decode cX10_show 64 = .ok (.bipush 6, 2) := by decide +kernel
theorem dX10_show_66 : decode cX10_show 66 = .ok (.iload_n 2, 1) := by decide +kernel
theorem dX10_show_67 : decode cX10_show 67 = .ok (.imul, 1) := by decide +kernel
theorem dX10_show_68 : decode cX10_show 68 = .ok (.iload 4, 2) := by decide +kernel
theorem dX10_show_70 : decode cX10_show 70 = .ok (.iadd, 1) := by decide +kernel
theorem dX10_show_71 : decode cX10_show 71 = .ok (.iaload, 1) := by decide +kernel
theorem dX10_show_72 : decode cX10_show 72 = .ok (.iload_n 3, 1) := by decide +kernel
theorem dX10_show_73 : decode cX10_show 73 = .ok (.invokevirtual 183, 3) := by decide +kernel
theorem dX10_show_76 : decode cX10_show 76 = .ok (.istore_n 3, 1) := by decide +kernel
theorem dX10_show_77 : decode cX10_show 77 = .ok (.iinc 4 (-1), 3) := by decide +kernel
theorem dX10_show_80 : decode cX10_show 80 = .ok (.goto (-26), 3) := by decide +kernel
theorem dX10_show_83 : decode cX10_show 83 = .ok (.aload_n 0, 1) := by decide +kernel
theorem dX10_show_84 : decode cX10_show 84 = .ok (.aload_n 0, 1) := by decide +kernel
theorem dX10_show_85 : decode cX10_show 85 = .ok (.bipush 17, 2) := by decide +kernel
theorem dX10_show_87 : decode cX10_show 87 = .ok (.aload_n 0, 1) := by decide +kernel
theorem dX10_show_88 : decode cX10_show 88 = .ok (.getfield 74, 3) := by decide +kernel
theorem dX10_show_91 : decode cX10_show 91 = .ok (.iload_n 2, 1) := by decide +kernel
theorem dX10_show_92 : decode cX10_show 92 = .ok (.iaload, 1) := by decide +kernel
theorem dX10_show_93 : decode cX10_show 93 = .ok (.iload_n 3, 1) := by decide +kernel
theorem dX10_show_94 : decode cX10_show 94 = .ok (.aload_n 0, 1) := by decide +kernel
theorem dX10_show_95 : decode cX10_show 95 = .ok (.getfield 83, 3) := by decide +kernel
theorem dX10_show_98 : decode cX10_show 98 = .ok (.iload_n 2, 1) := by decide +kernel
theorem dX10_show_99 : decode cX10_show 99 = .ok (.iaload, 1) := by decide +kernel
theorem dX10_show_100 : decode cX10_show 100 = .ok (.invokevirtual 457, 3) := by decide +kernel
theorem dX10_show_103 : decode cX10_show 103 = .ok (.invokevirtual 427, 3) := by decide +kernel
theorem dX10_show_106 : decode cX10_show 106 = .ok (.iconst 0, 1) := by decide +kernel
theorem dX10_show_107 : decode cX10_show 107 = .ok (.ireturn, 1) := by decide +kernel
theorem dX10_command_0 : decode cX10_command 0 = .ok (.aload_n 0, 1) := by decide +kernel
theorem dX10_command_1 : decode cX10_command 1 = .ok (.iload_n 1, 1) := by decide +kernel
theorem dX10_command_2 : decode cX10_command 2 = .ok (.invokevirtual 195, 3) := by decide +kernel
theorem dX10_command_5 : decode cX10_command 5 = .ok (.ifCond .ne 5, 3) := by decide +kernel
theorem dX10_command_8 : decode cX10_command 8 = .ok (.iconst 2, 1) := by decide +kernel
theorem dX10_command_9 : decode cX10_command 9 = .ok (.ireturn, 1) := by decide +kernel
theorem dX10_command_10 : decode cX10_command 10 = .ok (.aload_n 0, 1) := by decide +kernel
theorem dX10_command_11 : decode cX10_command 11 = .ok (.getfield 8, 3) := by decide +kernel
theorem dX10_command_14 : decode cX10_command 14 = .ok (.iload_n 1, 1) := by decide +kernel
theorem dX10_command_15 : decode cX10_command 15 = .ok (.iaload, 1) := by decide +kernel
theorem dX10_command_16 : decode cX10_command 16 = .ok (.tableswitch 88 17 23 #[62, 44, 50, 56, 69, 76, 82], 44) := by decide +kernel
theorem dX10_command_60 : decode cX10_command 60 = .ok (.aload_n 0, 1) := by decide +kernel
theorem dX10_command_61 : decode cX10_command 61 = .ok (.iload_n 1, 1) := by decide +kernel
theorem dX10_command_62 : decode cX10_command 62 = .ok (.invokevirtual 461, 3) := by decide +kernel
theorem dX10_command_65 : decode cX10_command 65 = .ok (.ireturn, 1) := by decide +kernel
theorem dX10_command_66 : decode cX10_command 66 = .ok (.aload_n 0, 1) := by decide +kernel
theorem dX10_command_67 : decode cX10_command 67 = .ok (.iload_n 1, 1) := by decide +kernel
theorem dX10_command_68 : decode cX10_command 68 = .ok (.invokevirtual 464, 3) := by decide +kernel
theorem dX10_command_71 : decode cX10_command 71 = .ok (.ireturn, 1) := by decide +kernel
theorem dX10_command_72 : decode cX10_command 72 = .ok (.aload_n 0, 1) := by decide +kernel
theorem dX10_command_73 : decode cX10_command 73 = .ok (.iload_n 1, 1) := by decide +kernel
theorem dX10_command_74 : decode cX10_command 74 = .ok (.invokevirtual 467, 3) := by decide +kernel
theorem dX10_command_77 : decode cX10_command 77 = .ok (.ireturn, 1) := by decide +kernel
theorem dX10_command_78 : decode cX10_command 78 = .ok (.aload_n 0, 1) := by decide +kernel
theorem dX10_command_79 : decode cX10_command 79 = .ok (.iload_n 1, 1) := by decide +kernel
theorem dX10_command_80 : decode cX10_command 80 = .ok (.iconst 0, 1) := by decide +kernel
theorem dX10_command_81 : decode cX10_command 81 = .ok (.invokevirtual 470, 3) := by decide +kernel
theorem dX10_command_84 : decode cX10_command 84 = .ok (.ireturn, 1) := by decide +kernel
theorem dX10_command_85 : decode cX10_command 85 = .ok (.aload_n 0, 1) := by decide +kernel
theorem dX10_command_86 : decode cX10_command 86 = .ok (.iload_n 1, 1) := by decide +kernel
theorem dX10_command_87 : decode cX10_command 87 = .ok (.iconst 1, 1) := by decide +kernel
theorem dX10_command_88 : decode cX10_command 88 = .ok (.invokevirtual 470, 3) := by decide +kernel
theorem dX10_command_91 : decode cX10_command 91 = .ok (.ireturn, 1) := by decide +kernel
theorem dX10_command_92 : decode cX10_command 92 = .ok (.aload_n 0, 1) := by decide +kernel
theorem dX10_command_93 : decode cX10_command 93 = .ok (.iload_n 1, 1) := by decide +kernel
theorem dX10_command_94 : decode cX10_command 94 = .ok (.invokevirtual 473, 3) := by decide +kernel
theorem dX10_command_97 : decode cX10_command 97 = .ok (.ireturn, 1) := by decide +kernel
theorem dX10_command_98 : decode cX10_command 98 = .ok (.aload_n 0, 1) := by decide +kernel
theorem dX10_command_99 : decode cX10_command 99 = .ok (.iload_n 1, 1) := by decide +kernel
theorem dX10_command_100 : decode cX10_command 100 = .ok (.invokevirtual 476, 3) := by decide +kernel
theorem dX10_command_103 : decode cX10_command 103 = .ok (.ireturn, 1) := by decide +kernel
theorem dX10_command_104 : decode cX10_command 104 = .ok (.iconst 2, 1) := by decide +kernel
theorem dX10_command_105 : decode cX10_command 105 = .ok (.ireturn, 1) := by decide +kernel
theorem dX10_feed_0 : decode cX10_feed 0 = .ok (.iconst 0, 1) := by decide +kernel
theorem dX10_feed_1 : decode cX10_feed 1 = .ok (.istore 6, 2) := by decide +kernel
theorem dX10_feed_3 : decode cX10_feed 3 = .ok (.iload 6, 2) := by decide +kernel
theorem dX10_feed_5 : decode cX10_feed 5 = .ok (.iconst 4, 1) := by decide +kernel
theorem dX10_feed_6 : decode cX10_feed 6 = .ok (.if_icmp .ge 127, 3) := by decide +kernel
theorem dX10_feed_9 : decode cX10_feed 9 = .ok (.aload_n 0, 1) := by decide +kernel
theorem dX10_feed_10 : decode cX10_feed 10 = .ok (.getfield 40, 3) := by decide +kernel
theorem dX10_feed_13 : decode cX10_feed 13 = .ok (.iload 6, 2) := by decide +kernel
theorem dX10_feed_15 : decode cX10_feed 15 = .ok (.iload_n 1, 1) := by decide +kernel
theorem dX10_feed_16 : decode cX10_feed 16 = .ok (.bipush 24, 2) := by decide +kernel
theorem dX10_feed_18 : decode cX10_feed 18 = .ok (.bipush 8, 2) := by decide +kernel
theorem dX10_feed_20 : decode cX10_feed 20 = .ok (.iload 6, 2) := by decide +kernel
theorem dX10_feed_22 : decode cX10_feed 22 = .ok (.imul, 1) := by decide +kernel
theorem dX10_feed_23 : decode cX10_feed 23 = .ok (.isub, 1) := by decide +kernel
theorem dX10_feed_24 : decode cX10_feed 24 = .ok (.ishr, 1) := by decide +kernel
theorem dX10_feed_25 : decode cX10_feed 25 = .ok (.sipush 255, 3) := by decide +kernel
theorem dX10_feed_28 : decode cX10_feed 28 = .ok (.iand, 1) := by decide +kernel
theorem dX10_feed_29 : decode cX10_feed 29 = .ok (.iastore, 1) := by decide +kernel
theorem dX10_feed_30 : decode cX10_feed 30 = .ok (.aload_n 0, 1) := by decide +kernel
theorem dX10_feed_31 : decode cX10_feed 31 = .ok (.getfield 40, 3) := by decide +kernel
theorem dX10_feed_34 : decode cX10_feed 34 = .ok (.iconst 4, 1) := by decide +kernel
theorem dX10_feed_35 : decode cX10_feed 35 = .ok (.iload 6, 2) := by decide +kernel
theorem dX10_feed_37 : decode cX10_feed 37 = .ok (.iadd, 1) := by decide +kernel
theorem dX10_feed_38 : decode cX10_feed 38 = .ok (.iload_n 2, 1) := by decide +kernel
theorem dX10_feed_39 : decode cX10_feed 39 = .ok (.bipush 24, 2) := by decide +kernel
theorem dX10_feed_41 : decode cX10_feed 41 = .ok (.bipush 8, 2) := by decide +kernel
theorem dX10_feed_43 : decode cX10_feed 43 = .ok (.iload 6, 2) := by decide +kernel
theorem dX10_feed_45 : decode cX10_feed 45 = .ok (.imul, 1) := by decide +kernel
theorem dX10_feed_46 : decode cX10_feed 46 = .ok (.isub, 1) := by decide +kernel
theorem dX10_feed_47 : decode cX10_feed 47 = .ok (.ishr, 1) := by decide +kernel
theorem dX10_feed_48 : decode cX10_feed 48 = .ok (.sipush 255, 3) := by decide +kernel
theorem dX10_feed_51 : decode cX10_feed 51 = .ok (.iand, 1) := by decide +kernel
theorem dX10_feed_52 : decode cX10_feed 52 = .ok (.iastore, 1) := by decide +kernel
theorem dX10_feed_53 : decode cX10_feed 53 = .ok (.aload_n 0, 1) := by decide +kernel
theorem dX10_feed_54 : decode cX10_feed 54 = .ok (.getfield 40, 3) := by decide +kernel
theorem dX10_feed_57 : decode cX10_feed 57 = .ok (.bipush 8, 2) := by decide +kernel
theorem dX10_feed_59 : decode cX10_feed 59 = .ok (.iload 6, 2) := by decide +kernel
theorem dX10_feed_61 : decode cX10_feed 61 = .ok (.iadd, 1) := by decide +kernel
theorem dX10_feed_62 : decode cX10_feed 62 = .ok (.iload_n 3, 1) := by decide +kernel
theorem dX10_feed_63 : decode cX10_feed 63 = .ok (.bipush 24, 2) := by decide +kernel
theorem dX10_feed_65 : decode cX10_feed 65 = .ok (.bipush 8, 2) := by decide +kernel
theorem dX10_feed_67 : decode cX10_feed 67 = .ok (.iload 6, 2) := by decide +kernel
theorem dX10_feed_69 : decode cX10_feed 69 = .ok (.imul, 1) := by decide +kernel
theorem dX10_feed_70 : decode cX10_feed 70 = .ok (.isub, 1) := by decide +kernel
theorem dX10_feed_71 : decode cX10_feed 71 = .ok (.ishr, 1) := by decide +kernel
theorem dX10_feed_72 : decode cX10_feed 72 = .ok (.sipush 255, 3) := by decide +kernel
theorem dX10_feed_75 : decode cX10_feed 75 = .ok (.iand, 1) := by decide +kernel
theorem dX10_feed_76 : decode cX10_feed 76 = .ok (.iastore, 1) := by decide +kernel
theorem dX10_feed_77 : decode cX10_feed 77 = .ok (.aload_n 0, 1) := by decide +kernel
theorem dX10_feed_78 : decode cX10_feed 78 = .ok (.getfield 40, 3) := by decide +kernel
theorem dX10_feed_81 : decode cX10_feed 81 = .ok (.bipush 12, 2) := by decide +kernel
theorem dX10_feed_83 : decode cX10_feed 83 = .ok (.iload 6, 2) := by decide +kernel
theorem dX10_feed_85 : decode cX10_feed 85 = .ok (.iadd, 1) := by decide +kernel
theorem dX10_feed_86 : decode cX10_feed 86 = .ok (.iload 4, 2) := by decide +kernel
theorem dX10_feed_88 : decode cX10_feed 88 = .ok (.bipush 24, 2) := by decide +kernel
theorem dX10_feed_90 : decode cX10_feed 90 = .ok (.bipush 8, 2) := by decide +kernel
theorem dX10_feed_92 : decode cX10_feed 92 = .ok (.iload 6, 2) := by decide +kernel
theorem dX10_feed_94 : decode cX10_feed 94 = .ok (.imul, 1) := by decide +kernel
theorem dX10_feed_95 : decode cX10_feed 95 = .ok (.isub, 1) := by decide +kernel
theorem dX10_feed_96 : decode cX10_feed 96 = .ok (.ishr, 1) := by decide +kernel
theorem dX10_feed_97 : decode cX10_feed 97 = .ok (.sipush 255, 3) := by decide +kernel
theorem dX10_feed_100 : decode cX10_feed 100 = .ok (.iand, 1) := by decide +kernel
theorem dX10_feed_101 : decode cX10_feed 101 = .ok (.iastore, 1) := by decide +kernel
theorem dX10_feed_102 : decode cX10_feed 102 = .ok (.aload_n 0, 1) := by decide +kernel
theorem dX10_feed_103 : decode cX10_feed 103 = .ok (.getfield 40, 3) := by decide +kernel
theorem dX10_feed_106 : decode cX10_feed 106 = .ok (.bipush 16, 2) := by decide +kernel
theorem dX10_feed_108 : decode cX10_feed 108 = .ok (.iload 6, 2) := by decide +kernel
theorem dX10_feed_110 : decode cX10_feed 110 = .ok (.iadd, 1) := by decide +kernel
theorem dX10_feed_111 : decode cX10_feed 111 = .ok (.iload 5, 2) := by decide +kernel
theorem dX10_feed_113 : decode cX10_feed 113 = .ok (.bipush 24, 2) := by decide +kernel
theorem dX10_feed_115 : decode cX10_feed 115 = .ok (.bipush 8, 2) := by decide +kernel
theorem dX10_feed_117 : decode cX10_feed 117 = .ok (.iload 6, 2) := by decide +kernel
theorem dX10_feed_119 : decode cX10_feed 119 = .ok (.imul, 1) := by decide +kernel
theorem dX10_feed_120 : decode cX10_feed 120 = .ok (.isub, 1) := by decide +kernel
theorem dX10_feed_121 : decode cX10_feed 121 = .ok (.ishr, 1) := by decide +kernel
theorem dX10_feed_122 : decode cX10_feed 122 = .ok (.sipush 255, 3) := by decide +kernel
theorem dX10_feed_125 : decode cX10_feed 125 = .ok (.iand, 1) := by decide +kernel
theorem dX10_feed_126 : decode cX10_feed 126 = .ok (.iastore, 1) := by decide +kernel
theorem dX10_feed_127 : decode cX10_feed 127 = .ok (.iinc 6 1, 3) := by decide +kernel
theorem dX10_feed_130 : decode cX10_feed 130 = .ok (.goto (-127), 3) := by decide +kernel
theorem dX10_feed_133 : decode cX10_feed 133 = .ok (.return_, 1) := by decide +kernel
theorem dX10_end_0 : decode cX10_end 0 = .ok (.iload_n 1, 1) := by decide +kernel
theorem dX10_end_1 : decode cX10_end 1 = .ok (.ifCond .lt 21, 3) := by decide +kernel
theorem dX10_end_4 : decode cX10_end 4 = .ok (.iload_n 1, 1) := by decide +kernel
theorem dX10_end_5 : decode cX10_end 5 = .ok (.bipush 20, 2) := by decide +kernel
theorem dX10_end_7 : decode cX10_end 7 = .ok (.if_icmp .gt 15, 3) := by decide +kernel
theorem dX10_end_10 : decode cX10_end 10 = .ok (.aload_n 0, 1) := by decide +kernel
theorem dX10_end_11 : decode cX10_end 11 = .ok (.getfield 204, 3) := by decide +kernel
theorem dX10_end_14 : decode cX10_end 14 = .ok (.iload_n 1, 1) := by decide +kernel
theorem dX10_end_15 : decode cX10_end 15 = .ok (.iadd, 1) := by decide +kernel
theorem dX10_end_16 : decode cX10_end 16 = .ok (.sipush 3000, 3) := by decide +kernel
theorem dX10_end_19 : decode cX10_end 19 = .ok (.if_icmp .le 5, 3) := by decide +kernel
theorem dX10_end_22 : decode cX10_end 22 = .ok (.iconst (-1), 1) := by decide +kernel
theorem dX10_end_23 : decode cX10_end 23 = .ok (.ireturn, 1) := by decide +kernel
theorem dX10_end_24 : decode cX10_end 24 = .ok (.iconst 0, 1) := by decide +kernel
theorem dX10_end_25 : decode cX10_end 25 = .ok (.istore_n 2, 1) := by decide +kernel
theorem dX10_end_26 : decode cX10_end 26 = .ok (.iload_n 2, 1) := by decide +kernel
theorem dX10_end_27 : decode cX10_end 27 = .ok (.iload_n 1, 1) := by decide +kernel
theorem dX10_end_28 : decode cX10_end 28 = .ok (.if_icmp .ge 26, 3) := by decide +kernel
theorem dX10_end_31 : decode cX10_end 31 = .ok (.aload_n 0, 1) := by decide +kernel
theorem dX10_end_32 : decode cX10_end 32 = .ok (.getfield 43, 3) := by decide +kernel
theorem dX10_end_35 : decode cX10_end 35 = .ok (.aload_n 0, 1) := by decide +kernel
theorem dX10_end_36 : decode cX10_end 36 = .ok (.getfield 204, 3) := by decide +kernel
theorem dX10_end_39 : decode cX10_end 39 = .ok (.iload_n 2, 1) := by decide +kernel
theorem dX10_end_40 : decode cX10_end 40 = .ok (.iadd, 1) := by decide +kernel
theorem dX10_end_41 : decode cX10_end 41 = .ok (.aload_n 0, 1) := by decide +kernel
theorem dX10_end_42 : decode cX10_end 42 = .ok (.getfield 40, 3) := by decide +kernel
theorem dX10_end_45 : decode cX10_end 45 = .ok (.iload_n 2, 1) := by decide +kernel
theorem dX10_end_46 : decode cX10_end 46 = .ok (.iaload, 1) := by decide +kernel
theorem dX10_end_47 : decode cX10_end 47 = .ok (.iastore, 1) := by decide +kernel
theorem dX10_end_48 : decode cX10_end 48 = .ok (.iinc 2 1, 3) := by decide +kernel
theorem dX10_end_51 : decode cX10_end 51 = .ok (.goto (-25), 3) := by decide +kernel
theorem dX10_end_54 : decode cX10_end 54 = .ok (.aload_n 0, 1) := by decide +kernel
theorem dX10_end_55 : decode cX10_end 55 = .ok (.dup, 1) := by decide +kernel
theorem dX10_end_56 : decode cX10_end 56 = .ok (.getfield 204, 3) := by decide +kernel
theorem dX10_end_59 : decode cX10_end 59 = .ok (.iload_n 1, 1) := by decide +kernel
theorem dX10_end_60 : decode cX10_end 60 = .ok (.iadd, 1) := by decide +kernel
theorem dX10_end_61 : decode cX10_end 61 = .ok (.putfield 204, 3) := by decide +kernel
theorem dX10_end_64 : decode cX10_end 64 = .ok (.iconst 0, 1) := by decide +kernel
theorem dX10_end_65 : decode cX10_end 65 = .ok (.istore_n 2, 1) := by decide +kernel
theorem dX10_end_66 : decode cX10_end 66 = .ok (.iload_n 2, 1) := by decide +kernel
theorem dX10_end_67 : decode cX10_end 67 = .ok (.bipush 20, 2) := by decide +kernel
theorem dX10_end_69 : decode cX10_end 69 = .ok (.if_icmp .ge 16, 3) := by decide +kernel
theorem dX10_end_72 : decode cX10_end 72 = .ok (.aload_n 0, 1) := by decide +kernel
theorem dX10_end_73 : decode cX10_end 73 = .ok (.getfield 40, 3) := by decide +kernel
theorem dX10_end_76 : decode cX10_end 76 = .ok (.iload_n 2, 1) := by decide +kernel
theorem dX10_end_77 : decode cX10_end 77 = .ok (.iconst 0, 1) := by decide +kernel
theorem dX10_end_78 : decode cX10_end 78 = .ok (.iastore, 1) := by decide +kernel
theorem dX10_end_79 : decode cX10_end 79 = .ok (.iinc 2 1, 3) := by decide +kernel
theorem dX10_end_82 : decode cX10_end 82 = .ok (.goto (-16), 3) := by decide +kernel
theorem dX10_end_85 : decode cX10_end 85 = .ok (.aload_n 0, 1) := by decide +kernel
theorem dX10_end_86 : decode cX10_end 86 = .ok (.getfield 204, 3) := by decide +kernel
theorem dX10_end_89 : decode cX10_end 89 = .ok (.ireturn, 1) := by decide +kernel
theorem dX10_fuel_0 : decode cX10_fuel 0 = .ok (.iload_n 1, 1) := by decide +kernel
theorem dX10_fuel_1 : decode cX10_fuel 1 = .ok (.iconst 1, 1) := by decide +kernel
theorem dX10_fuel_2 : decode cX10_fuel 2 = .ok (.if_icmp .lt 10, 3) := by decide +kernel
theorem dX10_fuel_5 : decode cX10_fuel 5 = .ok (.iload_n 1, 1) := by decide +kernel
theorem dX10_fuel_6 : decode cX10_fuel 6 = .ok (.sipush 1000, 3) := by decide +kernel
theorem dX10_fuel_9 : decode cX10_fuel 9 = .ok (.if_icmp .le 5, 3) := by decide +kernel
theorem dX10_fuel_12 : decode cX10_fuel 12 = .ok (.iconst (-1), 1) := by decide +kernel
theorem dX10_fuel_13 : decode cX10_fuel 13 = .ok (.ireturn, 1) := by decide +kernel
theorem dX10_fuel_14 : decode cX10_fuel 14 = .ok (.aload_n 0, 1) := by decide +kernel
theorem dX10_fuel_15 : decode cX10_fuel 15 = .ok (.getfield 89, 3) := by decide +kernel
theorem dX10_fuel_18 : decode cX10_fuel 18 = .ok (.istore_n 2, 1) := by decide +kernel
theorem dX10_fuel_19 : decode cX10_fuel 19 = .ok (.aload_n 0, 1) := by decide +kernel
theorem dX10_fuel_20 : decode cX10_fuel 20 = .ok (.iload_n 1, 1) := by decide +kernel
theorem dX10_fuel_21 : decode cX10_fuel 21 = .ok (.putfield 89, 3) := by decide +kernel
theorem dX10_fuel_24 : decode cX10_fuel 24 = .ok (.iload_n 2, 1) := by decide +kernel
theorem dX10_fuel_25 : decode cX10_fuel 25 = .ok (.ireturn, 1) := by decide +kernel
theorem dX10_run_0 : decode cX10_run 0 = .ok (.aload_n 0, 1) := by decide +kernel
theorem dX10_run_1 : decode cX10_run 1 = .ok (.iconst 0, 1) := by decide +kernel
theorem dX10_run_2 : decode cX10_run 2 = .ok (.putfield 380, 3) := by decide +kernel
theorem dX10_run_5 : decode cX10_run 5 = .ok (.aload_n 0, 1) := by decide +kernel
theorem dX10_run_6 : decode cX10_run 6 = .ok (.iconst 0, 1) := by decide +kernel
theorem dX10_run_7 : decode cX10_run 7 = .ok (.putfield 301, 3) := by decide +kernel
theorem dX10_run_10 : decode cX10_run 10 = .ok (.aload_n 0, 1) := by decide +kernel
theorem dX10_run_11 : decode cX10_run 11 = .ok (.iconst 0, 1) := by decide +kernel
theorem dX10_run_12 : decode cX10_run 12 = .ok (.putfield 265, 3) := by decide +kernel
theorem dX10_run_15 : decode cX10_run 15 = .ok (.aload_n 0, 1) := by decide +kernel
theorem dX10_run_16 : decode cX10_run 16 = .ok (.iconst 0, 1) := by decide +kernel
theorem dX10_run_17 : decode cX10_run 17 = .ok (.putfield 451, 3) := by decide +kernel
theorem dX10_run_20 : decode cX10_run 20 = .ok (.aload_n 0, 1) := by decide +kernel
theorem dX10_run_21 : decode cX10_run 21 = .ok (.getfield 165, 3) := by decide +kernel
theorem dX10_run_24 : decode cX10_run 24 = .ok (.istore_n 1, 1) := by decide +kernel
theorem dX10_run_25 : decode cX10_run 25 = .ok (.iconst 1, 1) := by decide +kernel
theorem dX10_run_26 : decode cX10_run 26 = .ok (.istore_n 2, 1) := by decide +kernel
theorem dX10_run_27 : decode cX10_run 27 = .ok (.aload_n 0, 1) := by decide +kernel
theorem dX10_run_28 : decode cX10_run 28 = .ok (.invokevirtual 479, 3) := by decide +kernel
theorem dX10_run_31 : decode cX10_run 31 = .ok (.ifCond .eq 12, 3) := by decide +kernel
theorem dX10_run_34 : decode cX10_run 34 = .ok (.aload_n 0, 1) := by decide +kernel
theorem dX10_run_35 : decode cX10_run 35 = .ok (.aload_n 0, 1) := by decide +kernel
theorem dX10_run_36 : decode cX10_run 36 = .ok (.getfield 220, 3) := by decide +kernel
theorem dX10_run_39 : decode cX10_run 39 = .ok (.invokevirtual 482, 3) := by decide +kernel
theorem dX10_run_42 : decode cX10_run 42 = .ok (.istore_n 2, 1) := by decide +kernel
theorem dX10_run_43 : decode cX10_run 43 = .ok (.aload_n 0, 1) := by decide +kernel
theorem dX10_run_44 : decode cX10_run 44 = .ok (.iconst (-1), 1) := by decide +kernel
theorem dX10_run_45 : decode cX10_run 45 = .ok (.putfield 86, 3) := by decide +kernel
theorem dX10_run_48 : decode cX10_run 48 = .ok (.aload_n 0, 1) := by decide +kernel
theorem dX10_run_49 : decode cX10_run 49 = .ok (.getfield 451, 3) := by decide +kernel
theorem dX10_run_52 : decode cX10_run 52 = .ok (.ifCond .ne 8, 3) := by decide +kernel
theorem dX10_run_55 : decode cX10_run 55 = .ok (.aload_n 0, 1) := by decide +kernel
theorem dX10_run_56 : decode cX10_run 56 = .ok (.iload_n 1, 1) := by decide +kernel
theorem dX10_run_57 : decode cX10_run 57 = .ok (.invokevirtual 485, 3) := by decide +kernel
theorem dX10_run_60 : decode cX10_run 60 = .ok (.iload_n 2, 1) := by decide +kernel
theorem dX10_run_61 : decode cX10_run 61 = .ok (.ireturn, 1) := by decide +kernel
theorem dX10_fault_0 : decode cX10_fault 0 = .ok (.iload_n 1, 1) := by decide +kernel
theorem dX10_fault_1 : decode cX10_fault 1 = .ok (.ifCond .ne 10, 3) := by decide +kernel
theorem dX10_fault_4 : decode cX10_fault 4 = .ok (.aload_n 0, 1) := by decide +kernel
theorem dX10_fault_5 : decode cX10_fault 5 = .ok (.getfield 207, 3) := by decide +kernel
theorem dX10_fault_8 : decode cX10_fault 8 = .ok (.goto 28, 3) := by decide +kernel
theorem dX10_fault_11 : decode cX10_fault 11 = .ok (.iload_n 1, 1) := by decide +kernel
theorem dX10_fault_12 : decode cX10_fault 12 = .ok (.iconst 1, 1) := by decide +kernel
theorem dX10_fault_13 : decode cX10_fault 13 = .ok (.if_icmp .ne 10, 3) := by decide +kernel
theorem dX10_fault_16 : decode cX10_fault 16 = .ok (.aload_n 0, 1) := by decide +kernel
theorem dX10_fault_17 : decode cX10_fault 17 = .ok (.getfield 55, 3) := by decide +kernel
theorem dX10_fault_20 : decode cX10_fault 20 = .ok (.goto 16, 3) := by decide +kernel
theorem dX10_fault_23 : decode cX10_fault 23 = .ok (.iload_n 1, 1) := by decide +kernel
theorem dX10_fault_24 : decode cX10_fault 24 = .ok (.iconst 2, 1) := by decide +kernel
theorem dX10_fault_25 : decode cX10_fault 25 = .ok (.if_icmp .ne 10, 3) := by decide +kernel
theorem dX10_fault_28 : decode cX10_fault 28 = .ok (.aload_n 0, 1) := by decide +kernel
theorem dX10_fault_29 : decode cX10_fault 29 = .ok (.getfield 301, 3) := by decide +kernel
theorem dX10_fault_32 : decode cX10_fault 32 = .ok (.goto 4, 3) := by decide +kernel
theorem dX10_fault_35 : decode cX10_fault 35 = .ok (.iconst (-1), 1) := by decide +kernel
theorem dX10_fault_36 : decode cX10_fault 36 = .ok (.ireturn, 1) := by decide +kernel
theorem dX10_steps_0 : decode cX10_steps 0 = .ok (.aload_n 0, 1) := by decide +kernel
theorem dX10_steps_1 : decode cX10_steps 1 = .ok (.getfield 380, 3) := by decide +kernel
theorem dX10_steps_4 : decode cX10_steps 4 = .ok (.ireturn, 1) := by decide +kernel
theorem dX10_functions_0 : decode cX10_functions 0 = .ok (.aload_n 0, 1) := by decide +kernel
theorem dX10_functions_1 : decode cX10_functions 1 = .ok (.getfield 295, 3) := by decide +kernel
theorem dX10_functions_4 : decode cX10_functions 4 = .ok (.ireturn, 1) := by decide +kernel
theorem dX10_size_0 : decode cX10_size 0 = .ok (.aload_n 0, 1) := by decide +kernel
theorem dX10_size_1 : decode cX10_size 1 = .ok (.getfield 265, 3) := by decide +kernel
theorem dX10_size_4 : decode cX10_size 4 = .ok (.ireturn, 1) := by decide +kernel
theorem dX10_letter_0 : decode cX10_letter 0 = .ok (.iload_n 1, 1) := by decide +kernel
theorem dX10_letter_1 : decode cX10_letter 1 = .ok (.ifCond .lt 20, 3) := by decide +kernel
theorem dX10_letter_4 : decode cX10_letter 4 = .ok (.iload_n 1, 1) := by decide +kernel
theorem dX10_letter_5 : decode cX10_letter 5 = .ok (.aload_n 0, 1) := by decide +kernel
theorem dX10_letter_6 : decode cX10_letter 6 = .ok (.getfield 265, 3) := by decide +kernel
theorem dX10_letter_9 : decode cX10_letter 9 = .ok (.if_icmp .ge 12, 3) := by decide +kernel
theorem dX10_letter_12 : decode cX10_letter 12 = .ok (.aload_n 0, 1) := by decide +kernel
theorem dX10_letter_13 : decode cX10_letter 13 = .ok (.getfield 46, 3) := by decide +kernel
theorem dX10_letter_16 : decode cX10_letter 16 = .ok (.iload_n 1, 1) := by decide +kernel
theorem dX10_letter_17 : decode cX10_letter 17 = .ok (.iaload, 1) := by decide +kernel
theorem dX10_letter_18 : decode cX10_letter 18 = .ok (.goto 4, 3) := by decide +kernel
theorem dX10_letter_21 : decode cX10_letter 21 = .ok (.iconst (-1), 1) := by decide +kernel
theorem dX10_letter_22 : decode cX10_letter 22 = .ok (.ireturn, 1) := by decide +kernel
