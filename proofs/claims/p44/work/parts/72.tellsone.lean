theorem dL_tellsOne_0 : decode cL_tellsOne 0 = .ok (.iload_n 1, 1) := by decide +kernel
theorem dL_tellsOne_1 : decode cL_tellsOne 1 = .ok (.bipush 6, 2) := by decide +kernel
theorem dL_tellsOne_3 : decode cL_tellsOne 3 = .ok (.irem, 1) := by decide +kernel
theorem dL_tellsOne_4 : decode cL_tellsOne 4 = .ok (.istore_n 2, 1) := by decide +kernel
theorem dL_tellsOne_5 : decode cL_tellsOne 5 = .ok (.iload_n 1, 1) := by decide +kernel
theorem dL_tellsOne_6 : decode cL_tellsOne 6 = .ok (.bipush 6, 2) := by decide +kernel
theorem dL_tellsOne_8 : decode cL_tellsOne 8 = .ok (.idiv, 1) := by decide +kernel
theorem dL_tellsOne_9 : decode cL_tellsOne 9 = .ok (.iconst 4, 1) := by decide +kernel
theorem dL_tellsOne_10 : decode cL_tellsOne 10 = .ok (.irem, 1) := by decide +kernel
theorem dL_tellsOne_11 : decode cL_tellsOne 11 = .ok (.istore_n 3, 1) := by decide +kernel
theorem dL_tellsOne_12 : decode cL_tellsOne 12 = .ok (.iload_n 1, 1) := by decide +kernel
theorem dL_tellsOne_13 : decode cL_tellsOne 13 = .ok (.bipush 24, 2) := by decide +kernel
theorem dL_tellsOne_15 : decode cL_tellsOne 15 = .ok (.idiv, 1) := by decide +kernel
theorem dL_tellsOne_16 : decode cL_tellsOne 16 = .ok (.iconst 5, 1) := by decide +kernel
theorem dL_tellsOne_17 : decode cL_tellsOne 17 = .ok (.irem, 1) := by decide +kernel
theorem dL_tellsOne_18 : decode cL_tellsOne 18 = .ok (.istore 4, 2) := by decide +kernel
theorem dL_tellsOne_20 : decode cL_tellsOne 20 = .ok (.iload_n 1, 1) := by decide +kernel
theorem dL_tellsOne_21 : decode cL_tellsOne 21 = .ok (.bipush 120, 2) := by decide +kernel
theorem dL_tellsOne_23 : decode cL_tellsOne 23 = .ok (.idiv, 1) := by decide +kernel
theorem dL_tellsOne_24 : decode cL_tellsOne 24 = .ok (.iconst 4, 1) := by decide +kernel
theorem dL_tellsOne_25 : decode cL_tellsOne 25 = .ok (.irem, 1) := by decide +kernel
theorem dL_tellsOne_26 : decode cL_tellsOne 26 = .ok (.istore 5, 2) := by decide +kernel
theorem dL_tellsOne_28 : decode cL_tellsOne 28 = .ok (.iload_n 1, 1) := by decide +kernel
theorem dL_tellsOne_29 : decode cL_tellsOne 29 = .ok (.sipush 480, 3) := by decide +kernel
theorem dL_tellsOne_32 : decode cL_tellsOne 32 = .ok (.idiv, 1) := by decide +kernel
theorem dL_tellsOne_33 : decode cL_tellsOne 33 = .ok (.iconst 4, 1) := by decide +kernel
theorem dL_tellsOne_34 : decode cL_tellsOne 34 = .ok (.irem, 1) := by decide +kernel
theorem dL_tellsOne_35 : decode cL_tellsOne 35 = .ok (.istore 6, 2) := by decide +kernel
theorem dL_tellsOne_37 : decode cL_tellsOne 37 = .ok (.iload_n 1, 1) := by decide +kernel
theorem dL_tellsOne_38 : decode cL_tellsOne 38 = .ok (.sipush 1920, 3) := by decide +kernel
theorem dL_tellsOne_41 : decode cL_tellsOne 41 = .ok (.idiv, 1) := by decide +kernel
theorem dL_tellsOne_42 : decode cL_tellsOne 42 = .ok (.bipush 12, 2) := by decide +kernel
theorem dL_tellsOne_44 : decode cL_tellsOne 44 = .ok (.irem, 1) := by decide +kernel
theorem dL_tellsOne_45 : decode cL_tellsOne 45 = .ok (.tableswitch 498 0 10 #[59, 96, 143, 189, 203, 250, 307, 325, 362, 412, 461], 59) := by decide +kernel
theorem dL_tellsOne_104 : decode cL_tellsOne 104 = .ok (.aload_n 0, 1) := by decide +kernel
theorem dL_tellsOne_105 : decode cL_tellsOne 105 = .ok (.iload_n 2, 1) := by decide +kernel
theorem dL_tellsOne_106 : decode cL_tellsOne 106 = .ok (.iload_n 3, 1) := by decide +kernel
theorem dL_tellsOne_107 : decode cL_tellsOne 107 = .ok (.iconst 0, 1) := by decide +kernel
theorem dL_tellsOne_108 : decode cL_tellsOne 108 = .ok (.iconst 0, 1) := by decide +kernel
theorem dL_tellsOne_109 : decode cL_tellsOne 109 = .ok (.new 186, 3) := by decide +kernel
theorem dL_tellsOne_112 : decode cL_tellsOne 112 = .ok (.dup, 1) := by decide +kernel
theorem dL_tellsOne_113 : decode cL_tellsOne 113 = .ok (.invokespecial 188, 3) := by decide +kernel
theorem dL_tellsOne_116 : decode cL_tellsOne 116 = .ok (.ldc 189, 2) := by decide +kernel
theorem dL_tellsOne_118 : decode cL_tellsOne 118 = .ok (.invokevirtual 191, 3) := by decide +kernel
theorem dL_tellsOne_121 : decode cL_tellsOne 121 = .ok (.iload 4, 2) := by decide +kernel
theorem dL_tellsOne_123 : decode cL_tellsOne 123 = .ok (.invokevirtual 195, 3) := by decide +kernel
theorem dL_tellsOne_126 : decode cL_tellsOne 126 = .ok (.ldc 198, 2) := by decide +kernel
theorem dL_tellsOne_128 : decode cL_tellsOne 128 = .ok (.invokevirtual 191, 3) := by decide +kernel
theorem dL_tellsOne_131 : decode cL_tellsOne 131 = .ok (.invokevirtual 200, 3) := by decide +kernel
theorem dL_tellsOne_134 : decode cL_tellsOne 134 = .ok (.invokestatic 204, 3) := by decide +kernel
theorem dL_tellsOne_137 : decode cL_tellsOne 137 = .ok (.pop2, 1) := by decide +kernel
theorem dL_tellsOne_138 : decode cL_tellsOne 138 = .ok (.goto 438, 3) := by decide +kernel
theorem dL_tellsOne_141 : decode cL_tellsOne 141 = .ok (.aload_n 0, 1) := by decide +kernel
theorem dL_tellsOne_142 : decode cL_tellsOne 142 = .ok (.iload_n 2, 1) := by decide +kernel
theorem dL_tellsOne_143 : decode cL_tellsOne 143 = .ok (.iload_n 3, 1) := by decide +kernel
theorem dL_tellsOne_144 : decode cL_tellsOne 144 = .ok (.iconst 0, 1) := by decide +kernel
theorem dL_tellsOne_145 : decode cL_tellsOne 145 = .ok (.iconst 0, 1) := by decide +kernel
theorem dL_tellsOne_146 : decode cL_tellsOne 146 = .ok (.new 186, 3) := by decide +kernel
theorem dL_tellsOne_149 : decode cL_tellsOne 149 = .ok (.dup, 1) := by decide +kernel
theorem dL_tellsOne_150 : decode cL_tellsOne 150 = .ok (.invokespecial 188, 3) := by decide +kernel
theorem dL_tellsOne_153 : decode cL_tellsOne 153 = .ok (.ldc 208, 2) := by decide +kernel
theorem dL_tellsOne_155 : decode cL_tellsOne 155 = .ok (.invokevirtual 191, 3) := by decide +kernel
theorem dL_tellsOne_158 : decode cL_tellsOne 158 = .ok (.iload 5, 2) := by decide +kernel
theorem dL_tellsOne_160 : decode cL_tellsOne 160 = .ok (.invokevirtual 195, 3) := by decide +kernel
theorem dL_tellsOne_163 : decode cL_tellsOne 163 = .ok (.ldc 210, 2) := by decide +kernel
theorem dL_tellsOne_165 : decode cL_tellsOne 165 = .ok (.invokevirtual 191, 3) := by decide +kernel
theorem dL_tellsOne_168 : decode cL_tellsOne 168 = .ok (.iload 4, 2) := by decide +kernel
theorem dL_tellsOne_170 : decode cL_tellsOne 170 = .ok (.invokevirtual 195, 3) := by decide +kernel
theorem dL_tellsOne_173 : decode cL_tellsOne 173 = .ok (.ldc 212, 2) := by decide +kernel
theorem dL_tellsOne_175 : decode cL_tellsOne 175 = .ok (.invokevirtual 191, 3) := by decide +kernel
theorem dL_tellsOne_178 : decode cL_tellsOne 178 = .ok (.invokevirtual 200, 3) := by decide +kernel
theorem dL_tellsOne_181 : decode cL_tellsOne 181 = .ok (.invokestatic 204, 3) := by decide +kernel
theorem dL_tellsOne_184 : decode cL_tellsOne 184 = .ok (.pop2, 1) := by decide +kernel
theorem dL_tellsOne_185 : decode cL_tellsOne 185 = .ok (.goto 391, 3) := by decide +kernel
theorem dL_tellsOne_188 : decode cL_tellsOne 188 = .ok (.aload_n 0, 1) := by decide +kernel
theorem dL_tellsOne_189 : decode cL_tellsOne 189 = .ok (.iload_n 2, 1) := by decide +kernel
theorem dL_tellsOne_190 : decode cL_tellsOne 190 = .ok (.iload_n 3, 1) := by decide +kernel
theorem dL_tellsOne_191 : decode cL_tellsOne 191 = .ok (.iconst 1, 1) := by decide +kernel
theorem dL_tellsOne_192 : decode cL_tellsOne 192 = .ok (.iconst 0, 1) := by decide +kernel
theorem dL_tellsOne_193 : decode cL_tellsOne 193 = .ok (.new 186, 3) := by decide +kernel
theorem dL_tellsOne_196 : decode cL_tellsOne 196 = .ok (.dup, 1) := by decide +kernel
theorem dL_tellsOne_197 : decode cL_tellsOne 197 = .ok (.invokespecial 188, 3) := by decide +kernel
theorem dL_tellsOne_200 : decode cL_tellsOne 200 = .ok (.ldc 214, 2) := by decide +kernel
theorem dL_tellsOne_202 : decode cL_tellsOne 202 = .ok (.invokevirtual 191, 3) := by decide +kernel
theorem dL_tellsOne_205 : decode cL_tellsOne 205 = .ok (.iload 4, 2) := by decide +kernel
theorem dL_tellsOne_207 : decode cL_tellsOne 207 = .ok (.invokevirtual 195, 3) := by decide +kernel
theorem dL_tellsOne_210 : decode cL_tellsOne 210 = .ok (.ldc 216, 2) := by decide +kernel
theorem dL_tellsOne_212 : decode cL_tellsOne 212 = .ok (.invokevirtual 191, 3) := by decide +kernel
theorem dL_tellsOne_215 : decode cL_tellsOne 215 = .ok (.iload_n 3, 1) := by decide +kernel
theorem dL_tellsOne_216 : decode cL_tellsOne 216 = .ok (.invokevirtual 195, 3) := by decide +kernel
theorem dL_tellsOne_219 : decode cL_tellsOne 219 = .ok (.ldc 218, 2) := by decide +kernel
theorem dL_tellsOne_221 : decode cL_tellsOne 221 = .ok (.invokevirtual 191, 3) := by decide +kernel
theorem dL_tellsOne_224 : decode cL_tellsOne 224 = .ok (.invokevirtual 200, 3) := by decide +kernel
theorem dL_tellsOne_227 : decode cL_tellsOne 227 = .ok (.invokestatic 204, 3) := by decide +kernel
theorem dL_tellsOne_230 : decode cL_tellsOne 230 = .ok (.pop2, 1) := by decide +kernel
theorem dL_tellsOne_231 : decode cL_tellsOne 231 = .ok (.goto 345, 3) := by decide +kernel
theorem dL_tellsOne_234 : decode cL_tellsOne 234 = .ok (.aload_n 0, 1) := by decide +kernel
theorem dL_tellsOne_235 : decode cL_tellsOne 235 = .ok (.iload_n 2, 1) := by decide +kernel
theorem dL_tellsOne_236 : decode cL_tellsOne 236 = .ok (.iload_n 3, 1) := by decide +kernel
theorem dL_tellsOne_237 : decode cL_tellsOne 237 = .ok (.iconst 1, 1) := by decide +kernel
theorem dL_tellsOne_238 : decode cL_tellsOne 238 = .ok (.iconst 1, 1) := by decide +kernel
theorem dL_tellsOne_239 : decode cL_tellsOne 239 = .ok (.ldc 220, 2) := by decide +kernel
theorem dL_tellsOne_241 : decode cL_tellsOne 241 = .ok (.invokestatic 204, 3) := by decide +kernel
theorem dL_tellsOne_244 : decode cL_tellsOne 244 = .ok (.pop2, 1) := by decide +kernel
theorem dL_tellsOne_245 : decode cL_tellsOne 245 = .ok (.goto 331, 3) := by decide +kernel
theorem dL_tellsOne_248 : decode cL_tellsOne 248 = .ok (.aload_n 0, 1) := by decide +kernel
theorem dL_tellsOne_249 : decode cL_tellsOne 249 = .ok (.iload_n 2, 1) := by decide +kernel
theorem dL_tellsOne_250 : decode cL_tellsOne 250 = .ok (.iload_n 3, 1) := by decide +kernel
theorem dL_tellsOne_251 : decode cL_tellsOne 251 = .ok (.iconst 0, 1) := by decide +kernel
theorem dL_tellsOne_252 : decode cL_tellsOne 252 = .ok (.iconst 1, 1) := by decide +kernel
theorem dL_tellsOne_253 : decode cL_tellsOne 253 = .ok (.new 186, 3) := by decide +kernel
theorem dL_tellsOne_256 : decode cL_tellsOne 256 = .ok (.dup, 1) := by decide +kernel
theorem dL_tellsOne_257 : decode cL_tellsOne 257 = .ok (.invokespecial 188, 3) := by decide +kernel
theorem dL_tellsOne_260 : decode cL_tellsOne 260 = .ok (.ldc 189, 2) := by decide +kernel
theorem dL_tellsOne_262 : decode cL_tellsOne 262 = .ok (.invokevirtual 191, 3) := by decide +kernel
theorem dL_tellsOne_265 : decode cL_tellsOne 265 = .ok (.iload 4, 2) := by decide +kernel
theorem dL_tellsOne_267 : decode cL_tellsOne 267 = .ok (.invokevirtual 195, 3) := by decide +kernel
theorem dL_tellsOne_270 : decode cL_tellsOne 270 = .ok (.ldc 222, 2) := by decide +kernel
theorem dL_tellsOne_272 : decode cL_tellsOne 272 = .ok (.invokevirtual 191, 3) := by decide +kernel
theorem dL_tellsOne_275 : decode cL_tellsOne 275 = .ok (.iload 6, 2) := by decide +kernel
theorem dL_tellsOne_277 : decode cL_tellsOne 277 = .ok (.invokevirtual 195, 3) := by decide +kernel
theorem dL_tellsOne_280 : decode cL_tellsOne 280 = .ok (.ldc 224, 2) := by decide +kernel
theorem dL_tellsOne_282 : decode cL_tellsOne 282 = .ok (.invokevirtual 191, 3) := by decide +kernel
theorem dL_tellsOne_285 : decode cL_tellsOne 285 = .ok (.invokevirtual 200, 3) := by decide +kernel
theorem dL_tellsOne_288 : decode cL_tellsOne 288 = .ok (.invokestatic 204, 3) := by decide +kernel
theorem dL_tellsOne_291 : decode cL_tellsOne 291 = .ok (.pop2, 1) := by decide +kernel
theorem dL_tellsOne_292 : decode cL_tellsOne 292 = .ok (.goto 284, 3) := by decide +kernel
theorem dL_tellsOne_295 : decode cL_tellsOne 295 = .ok (.aload_n 0, 1) := by decide +kernel
theorem dL_tellsOne_296 : decode cL_tellsOne 296 = .ok (.iload_n 2, 1) := by decide +kernel
theorem dL_tellsOne_297 : decode cL_tellsOne 297 = .ok (.iload_n 3, 1) := by decide +kernel
theorem dL_tellsOne_298 : decode cL_tellsOne 298 = .ok (.iconst 0, 1) := by decide +kernel
theorem dL_tellsOne_299 : decode cL_tellsOne 299 = .ok (.iconst 0, 1) := by decide +kernel
theorem dL_tellsOne_300 : decode cL_tellsOne 300 = .ok (.new 186, 3) := by decide +kernel
theorem dL_tellsOne_303 : decode cL_tellsOne 303 = .ok (.dup, 1) := by decide +kernel
theorem dL_tellsOne_304 : decode cL_tellsOne 304 = .ok (.invokespecial 188, 3) := by decide +kernel
theorem dL_tellsOne_307 : decode cL_tellsOne 307 = .ok (.ldc 226, 2) := by decide +kernel
theorem dL_tellsOne_309 : decode cL_tellsOne 309 = .ok (.invokevirtual 191, 3) := by decide +kernel
theorem dL_tellsOne_312 : decode cL_tellsOne 312 = .ok (.iload 6, 2) := by decide +kernel
theorem dL_tellsOne_314 : decode cL_tellsOne 314 = .ok (.invokevirtual 195, 3) := by decide +kernel
theorem dL_tellsOne_317 : decode cL_tellsOne 317 = .ok (.ldc 228, 2) := by decide +kernel
theorem dL_tellsOne_319 : decode cL_tellsOne 319 = .ok (.invokevirtual 191, 3) := by decide +kernel
theorem dL_tellsOne_322 : decode cL_tellsOne 322 = .ok (.iload 5, 2) := by decide +kernel
theorem dL_tellsOne_324 : decode cL_tellsOne 324 = .ok (.invokevirtual 195, 3) := by decide +kernel
theorem dL_tellsOne_327 : decode cL_tellsOne 327 = .ok (.ldc 230, 2) := by decide +kernel
theorem dL_tellsOne_329 : decode cL_tellsOne 329 = .ok (.invokevirtual 191, 3) := by decide +kernel
theorem dL_tellsOne_332 : decode cL_tellsOne 332 = .ok (.iload 6, 2) := by decide +kernel
theorem dL_tellsOne_334 : decode cL_tellsOne 334 = .ok (.invokevirtual 195, 3) := by decide +kernel
theorem dL_tellsOne_337 : decode cL_tellsOne 337 = .ok (.ldc 198, 2) := by decide +kernel
theorem dL_tellsOne_339 : decode cL_tellsOne 339 = .ok (.invokevirtual 191, 3) := by decide +kernel
theorem dL_tellsOne_342 : decode cL_tellsOne 342 = .ok (.invokevirtual 200, 3) := by decide +kernel
theorem dL_tellsOne_345 : decode cL_tellsOne 345 = .ok (.invokestatic 204, 3) := by decide +kernel
theorem dL_tellsOne_348 : decode cL_tellsOne 348 = .ok (.pop2, 1) := by decide +kernel
theorem dL_tellsOne_349 : decode cL_tellsOne 349 = .ok (.goto 227, 3) := by decide +kernel
theorem dL_tellsOne_352 : decode cL_tellsOne 352 = .ok (.aload_n 0, 1) := by decide +kernel
theorem dL_tellsOne_353 : decode cL_tellsOne 353 = .ok (.iconst 3, 1) := by decide +kernel
theorem dL_tellsOne_354 : decode cL_tellsOne 354 = .ok (.iload_n 2, 1) := by decide +kernel
theorem dL_tellsOne_355 : decode cL_tellsOne 355 = .ok (.iconst 3, 1) := by decide +kernel
theorem dL_tellsOne_356 : decode cL_tellsOne 356 = .ok (.irem, 1) := by decide +kernel
theorem dL_tellsOne_357 : decode cL_tellsOne 357 = .ok (.iadd, 1) := by decide +kernel
theorem dL_tellsOne_358 : decode cL_tellsOne 358 = .ok (.iload_n 3, 1) := by decide +kernel
theorem dL_tellsOne_359 : decode cL_tellsOne 359 = .ok (.iconst 0, 1) := by decide +kernel
theorem dL_tellsOne_360 : decode cL_tellsOne 360 = .ok (.iconst 0, 1) := by decide +kernel
theorem dL_tellsOne_361 : decode cL_tellsOne 361 = .ok (.ldc 232, 2) := by decide +kernel
theorem dL_tellsOne_363 : decode cL_tellsOne 363 = .ok (.invokestatic 204, 3) := by decide +kernel
theorem dL_tellsOne_366 : decode cL_tellsOne 366 = .ok (.pop2, 1) := by decide +kernel
theorem dL_tellsOne_367 : decode cL_tellsOne 367 = .ok (.goto 209, 3) := by decide +kernel
theorem dL_tellsOne_370 : decode cL_tellsOne 370 = .ok (.aload_n 0, 1) := by decide +kernel
theorem dL_tellsOne_371 : decode cL_tellsOne 371 = .ok (.iload_n 2, 1) := by decide +kernel
theorem dL_tellsOne_372 : decode cL_tellsOne 372 = .ok (.iload_n 3, 1) := by decide +kernel
theorem dL_tellsOne_373 : decode cL_tellsOne 373 = .ok (.iconst 1, 1) := by decide +kernel
theorem dL_tellsOne_374 : decode cL_tellsOne 374 = .ok (.iconst 0, 1) := by decide +kernel
theorem dL_tellsOne_375 : decode cL_tellsOne 375 = .ok (.new 186, 3) := by decide +kernel
theorem dL_tellsOne_378 : decode cL_tellsOne 378 = .ok (.dup, 1) := by decide +kernel
theorem dL_tellsOne_379 : decode cL_tellsOne 379 = .ok (.invokespecial 188, 3) := by decide +kernel
theorem dL_tellsOne_382 : decode cL_tellsOne 382 = .ok (.ldc 234, 2) := by decide +kernel
theorem dL_tellsOne_384 : decode cL_tellsOne 384 = .ok (.invokevirtual 191, 3) := by decide +kernel
theorem dL_tellsOne_387 : decode cL_tellsOne 387 = .ok (.iload 5, 2) := by decide +kernel
theorem dL_tellsOne_389 : decode cL_tellsOne 389 = .ok (.invokevirtual 195, 3) := by decide +kernel
theorem dL_tellsOne_392 : decode cL_tellsOne 392 = .ok (.ldc 236, 2) := by decide +kernel
theorem dL_tellsOne_394 : decode cL_tellsOne 394 = .ok (.invokevirtual 191, 3) := by decide +kernel
theorem dL_tellsOne_397 : decode cL_tellsOne 397 = .ok (.invokevirtual 200, 3) := by decide +kernel
theorem dL_tellsOne_400 : decode cL_tellsOne 400 = .ok (.invokestatic 204, 3) := by decide +kernel
theorem dL_tellsOne_403 : decode cL_tellsOne 403 = .ok (.pop2, 1) := by decide +kernel
theorem dL_tellsOne_404 : decode cL_tellsOne 404 = .ok (.goto 172, 3) := by decide +kernel
theorem dL_tellsOne_407 : decode cL_tellsOne 407 = .ok (.aload_n 0, 1) := by decide +kernel
theorem dL_tellsOne_408 : decode cL_tellsOne 408 = .ok (.iconst 4, 1) := by decide +kernel
theorem dL_tellsOne_409 : decode cL_tellsOne 409 = .ok (.iload_n 2, 1) := by decide +kernel
theorem dL_tellsOne_410 : decode cL_tellsOne 410 = .ok (.iconst 2, 1) := by decide +kernel
theorem dL_tellsOne_411 : decode cL_tellsOne 411 = .ok (.irem, 1) := by decide +kernel
theorem dL_tellsOne_412 : decode cL_tellsOne 412 = .ok (.iadd, 1) := by decide +kernel
theorem dL_tellsOne_413 : decode cL_tellsOne 413 = .ok (.iload_n 3, 1) := by decide +kernel
theorem dL_tellsOne_414 : decode cL_tellsOne 414 = .ok (.iconst 0, 1) := by decide +kernel
theorem dL_tellsOne_415 : decode cL_tellsOne 415 = .ok (.iconst 0, 1) := by decide +kernel
theorem dL_tellsOne_416 : decode cL_tellsOne 416 = .ok (.new 186, 3) := by decide +kernel
theorem dL_tellsOne_419 : decode cL_tellsOne 419 = .ok (.dup, 1) := by decide +kernel
theorem dL_tellsOne_420 : decode cL_tellsOne 420 = .ok (.invokespecial 188, 3) := by decide +kernel
theorem dL_tellsOne_423 : decode cL_tellsOne 423 = .ok (.ldc 238, 2) := by decide +kernel
theorem dL_tellsOne_425 : decode cL_tellsOne 425 = .ok (.invokevirtual 191, 3) := by decide +kernel
theorem dL_tellsOne_428 : decode cL_tellsOne 428 = .ok (.iload_n 3, 1) := by decide +kernel
theorem dL_tellsOne_429 : decode cL_tellsOne 429 = .ok (.invokevirtual 195, 3) := by decide +kernel
theorem dL_tellsOne_432 : decode cL_tellsOne 432 = .ok (.ldc 240, 2) := by decide +kernel
theorem dL_tellsOne_434 : decode cL_tellsOne 434 = .ok (.invokevirtual 191, 3) := by decide +kernel
theorem dL_tellsOne_437 : decode cL_tellsOne 437 = .ok (.iload 4, 2) := by decide +kernel
theorem dL_tellsOne_439 : decode cL_tellsOne 439 = .ok (.invokevirtual 195, 3) := by decide +kernel
theorem dL_tellsOne_442 : decode cL_tellsOne 442 = .ok (.ldc 212, 2) := by decide +kernel
theorem dL_tellsOne_444 : decode cL_tellsOne 444 = .ok (.invokevirtual 191, 3) := by decide +kernel
theorem dL_tellsOne_447 : decode cL_tellsOne 447 = .ok (.invokevirtual 200, 3) := by decide +kernel
theorem dL_tellsOne_450 : decode cL_tellsOne 450 = .ok (.invokestatic 204, 3) := by decide +kernel
theorem dL_tellsOne_453 : decode cL_tellsOne 453 = .ok (.pop2, 1) := by decide +kernel
theorem dL_tellsOne_454 : decode cL_tellsOne 454 = .ok (.goto 122, 3) := by decide +kernel
theorem dL_tellsOne_457 : decode cL_tellsOne 457 = .ok (.aload_n 0, 1) := by decide +kernel
theorem dL_tellsOne_458 : decode cL_tellsOne 458 = .ok (.iload_n 2, 1) := by decide +kernel
theorem dL_tellsOne_459 : decode cL_tellsOne 459 = .ok (.iload_n 3, 1) := by decide +kernel
theorem dL_tellsOne_460 : decode cL_tellsOne 460 = .ok (.iconst 0, 1) := by decide +kernel
theorem dL_tellsOne_461 : decode cL_tellsOne 461 = .ok (.iconst 2, 1) := by decide +kernel
theorem dL_tellsOne_462 : decode cL_tellsOne 462 = .ok (.new 186, 3) := by decide +kernel
theorem dL_tellsOne_465 : decode cL_tellsOne 465 = .ok (.dup, 1) := by decide +kernel
theorem dL_tellsOne_466 : decode cL_tellsOne 466 = .ok (.invokespecial 188, 3) := by decide +kernel
theorem dL_tellsOne_469 : decode cL_tellsOne 469 = .ok (.ldc 189, 2) := by decide +kernel
theorem dL_tellsOne_471 : decode cL_tellsOne 471 = .ok (.invokevirtual 191, 3) := by decide +kernel
theorem dL_tellsOne_474 : decode cL_tellsOne 474 = .ok (.iload 4, 2) := by decide +kernel
theorem dL_tellsOne_476 : decode cL_tellsOne 476 = .ok (.iconst 2, 1) := by decide +kernel
theorem dL_tellsOne_477 : decode cL_tellsOne 477 = .ok (.iadd, 1) := by decide +kernel
theorem dL_tellsOne_478 : decode cL_tellsOne 478 = .ok (.invokevirtual 195, 3) := by decide +kernel
theorem dL_tellsOne_481 : decode cL_tellsOne 481 = .ok (.ldc 242, 2) := by decide +kernel
theorem dL_tellsOne_483 : decode cL_tellsOne 483 = .ok (.invokevirtual 191, 3) := by decide +kernel
theorem dL_tellsOne_486 : decode cL_tellsOne 486 = .ok (.iload 5, 2) := by decide +kernel
theorem dL_tellsOne_488 : decode cL_tellsOne 488 = .ok (.invokevirtual 195, 3) := by decide +kernel
theorem dL_tellsOne_491 : decode cL_tellsOne 491 = .ok (.ldc 244, 2) := by decide +kernel
theorem dL_tellsOne_493 : decode cL_tellsOne 493 = .ok (.invokevirtual 191, 3) := by decide +kernel
theorem dL_tellsOne_496 : decode cL_tellsOne 496 = .ok (.invokevirtual 200, 3) := by decide +kernel
theorem dL_tellsOne_499 : decode cL_tellsOne 499 = .ok (.invokestatic 204, 3) := by decide +kernel
theorem dL_tellsOne_502 : decode cL_tellsOne 502 = .ok (.pop2, 1) := by decide +kernel
theorem dL_tellsOne_503 : decode cL_tellsOne 503 = .ok (.goto 73, 3) := by decide +kernel
theorem dL_tellsOne_506 : decode cL_tellsOne 506 = .ok (.aload_n 0, 1) := by decide +kernel
theorem dL_tellsOne_507 : decode cL_tellsOne 507 = .ok (.iload_n 2, 1) := by decide +kernel
theorem dL_tellsOne_508 : decode cL_tellsOne 508 = .ok (.iload_n 3, 1) := by decide +kernel
theorem dL_tellsOne_509 : decode cL_tellsOne 509 = .ok (.iconst 0, 1) := by decide +kernel
theorem dL_tellsOne_510 : decode cL_tellsOne 510 = .ok (.iconst 0, 1) := by decide +kernel
theorem dL_tellsOne_511 : decode cL_tellsOne 511 = .ok (.new 186, 3) := by decide +kernel
theorem dL_tellsOne_514 : decode cL_tellsOne 514 = .ok (.dup, 1) := by decide +kernel
theorem dL_tellsOne_515 : decode cL_tellsOne 515 = .ok (.invokespecial 188, 3) := by decide +kernel
theorem dL_tellsOne_518 : decode cL_tellsOne 518 = .ok (.ldc 246, 2) := by decide +kernel
theorem dL_tellsOne_520 : decode cL_tellsOne 520 = .ok (.invokevirtual 191, 3) := by decide +kernel
theorem dL_tellsOne_523 : decode cL_tellsOne 523 = .ok (.iload 4, 2) := by decide +kernel
theorem dL_tellsOne_525 : decode cL_tellsOne 525 = .ok (.invokevirtual 195, 3) := by decide +kernel
theorem dL_tellsOne_528 : decode cL_tellsOne 528 = .ok (.ldc 248, 2) := by decide +kernel
theorem dL_tellsOne_530 : decode cL_tellsOne 530 = .ok (.invokevirtual 191, 3) := by decide +kernel
theorem dL_tellsOne_533 : decode cL_tellsOne 533 = .ok (.invokevirtual 200, 3) := by decide +kernel
theorem dL_tellsOne_536 : decode cL_tellsOne 536 = .ok (.invokestatic 204, 3) := by decide +kernel
theorem dL_tellsOne_539 : decode cL_tellsOne 539 = .ok (.pop2, 1) := by decide +kernel
theorem dL_tellsOne_540 : decode cL_tellsOne 540 = .ok (.goto 36, 3) := by decide +kernel
theorem dL_tellsOne_543 : decode cL_tellsOne 543 = .ok (.aload_n 0, 1) := by decide +kernel
theorem dL_tellsOne_544 : decode cL_tellsOne 544 = .ok (.iconst 1, 1) := by decide +kernel
theorem dL_tellsOne_545 : decode cL_tellsOne 545 = .ok (.iload_n 3, 1) := by decide +kernel
theorem dL_tellsOne_546 : decode cL_tellsOne 546 = .ok (.iconst 0, 1) := by decide +kernel
theorem dL_tellsOne_547 : decode cL_tellsOne 547 = .ok (.iconst 0, 1) := by decide +kernel
theorem dL_tellsOne_548 : decode cL_tellsOne 548 = .ok (.new 186, 3) := by decide +kernel
theorem dL_tellsOne_551 : decode cL_tellsOne 551 = .ok (.dup, 1) := by decide +kernel
theorem dL_tellsOne_552 : decode cL_tellsOne 552 = .ok (.invokespecial 188, 3) := by decide +kernel
theorem dL_tellsOne_555 : decode cL_tellsOne 555 = .ok (.ldc 250, 2) := by decide +kernel
theorem dL_tellsOne_557 : decode cL_tellsOne 557 = .ok (.invokevirtual 191, 3) := by decide +kernel
theorem dL_tellsOne_560 : decode cL_tellsOne 560 = .ok (.iload_n 3, 1) := by decide +kernel
theorem dL_tellsOne_561 : decode cL_tellsOne 561 = .ok (.invokevirtual 195, 3) := by decide +kernel
theorem dL_tellsOne_564 : decode cL_tellsOne 564 = .ok (.ldc 252, 2) := by decide +kernel
theorem dL_tellsOne_566 : decode cL_tellsOne 566 = .ok (.invokevirtual 191, 3) := by decide +kernel
theorem dL_tellsOne_569 : decode cL_tellsOne 569 = .ok (.invokevirtual 200, 3) := by decide +kernel
theorem dL_tellsOne_572 : decode cL_tellsOne 572 = .ok (.invokestatic 204, 3) := by decide +kernel
theorem dL_tellsOne_575 : decode cL_tellsOne 575 = .ok (.pop2, 1) := by decide +kernel
theorem dL_tellsOne_576 : decode cL_tellsOne 576 = .ok (.return_, 1) := by decide +kernel
section SITES
variable {p : Program} {l : Launch} {e : Env} {R : Room} {s : State} {m : MethodId} {args : Array Value} {below : List Frame} {meth : Method} {c : Code} {H : Heap} {locs : List Loc} {cells slots : Nat} {Q : State → Prop}
variable {pc : Nat} {ls : Array Slot} {rest : List Value} {D : va_G} {ar : Nat → ClassId} {κ : Nat → Nat} {A : Nat → Prop} {a : Nat} {H0 : Heap} {G : gW} {nz nL : Nat} {cc : ByteArray}
theorem m_4_150 : (Cond.classLink RL 186 RJ4) ∈ lwA := lwA_mk (ck_4 _ (List.mem_of_getElem? (i := 150) rfl)) rfl
theorem m_4_151 : (Cond.instantiable RJ4 4) ∈ lwA := lwA_mk (ck_4 _ (List.mem_of_getElem? (i := 151) rfl)) rfl
theorem nw_RL_186 {A9 : Nat → Prop} {H9 : Heap} (S : CallFix p m c cc nL s args lwA RL) (hE : g_E D vwCl (gT ar) (EX1 κ) A9 s H9) (w : g_S D vwCl A H0 G H locs nz) (hcells : cells + 1 ≤ R.cells) (hslots : slots + 4 ≤ R.slots) (hdg : decode cc pc = .ok (.new 186, 3)) (kk : ∀ (H1 : Heap), g_S D vwCl A H0 (g_up G nz (.inr (1, [.null, .int 0, .int 0, .int 0]))) H1 locs (nz + 1) → W p l e R s m args below meth c H1 locs (cells + 1) (slots + 4) Q (F0 m (pc + 3) ls (.ref nz :: rest))) : W p l e R s m args below meth c H locs cells slots Q (F0 m pc ls rest) :=
  g_new (ci := 1) (fs := [.null, .int 0, .int 0, .int 0]) (C := RJ4) (T := TJ4) (N := 4) S.1 S.2.1 S.2.2.2.2 inA_RJ4 tyJ4 tyJ4_ok S.2.2.2.1 (S.2.2.2.2 _ m_4_150) (S.2.2.2.2 _ m_4_151) (S.2.2.2.2 _ m_1_21) hE.1 w rfl (fun j hj => by rcases (show j = 0 ∨ j = 1 ∨ j = 2 ∨ j = 3 by omega) with rfl | rfl | rfl | rfl <;> rfl) hcells hslots hdg kk
theorem m_4_154 : (Cond.code yJ4_init_da8c8 cJ4_init_da8c8 1 none) ∈ lwA := lwA_mk (ck_4 _ (List.mem_of_getElem? (i := 154) rfl)) rfl
theorem m_4_152 : (Cond.methodLink RL 188 yJ4_init_da8c8) ∈ lwA := lwA_mk (ck_4 _ (List.mem_of_getElem? (i := 152) rfl)) rfl
theorem m_4_153 : (Cond.instanceMethod yJ4_init_da8c8) ∈ lwA := lwA_mk (ck_4 _ (List.mem_of_getElem? (i := 153) rfl)) rfl
theorem k_RL_188 {args : Array Value} {s : State} {R rm : Room} (hts : ∀ w ∈ lwA, w.before args s = true) (hR : rm.frames + 1 ≤ R.frames ∧ 8 + (1 + 11) + rm.locals ≤ R.locals) : CallB R s args RL 188 yJ4_init_da8c8 cJ4_init_da8c8 1 none (lwC yJ4_init_da8c8 cJ4_init_da8c8 1 none) rm rm.cells rm.slots 0 ∧ yJ4_init_da8c8.name = "<init>" ∧ (Cond.instanceMethod yJ4_init_da8c8).before args s = true := cwI 0 hts (gd m_4_154) rfl rfl rfl (hts _ m_1_21) (hts _ m_4_152) (hts _ m_4_153) rfl (by decide +kernel) hR
def lwT_0 : String × Nat × String × Nat × List Int32 := ("SendhouseLaw", 189, "n", 20, [110])
theorem lwT_m0 : lwT_0 ∈ lwT := List.mem_of_getElem? (i := 0) rfl
theorem m_4_185 : (Cond.code yJ4_append_15ec4 cJ4_append_15ec4 2 (some (.object "java/lang/StringBuilder"))) ∈ lwA := lwA_mk (ck_4 _ (List.mem_of_getElem? (i := 185) rfl)) rfl
theorem m_4_182 : (Cond.methodLink RL 191 yJ4_append_15ec4) ∈ lwA := lwA_mk (ck_4 _ (List.mem_of_getElem? (i := 182) rfl)) rfl
theorem m_4_183 : (Cond.instanceMethod yJ4_append_15ec4) ∈ lwA := lwA_mk (ck_4 _ (List.mem_of_getElem? (i := 183) rfl)) rfl
theorem m_4_184 : (Cond.selects RJ4 yJ4_append_15ec4 yJ4_append_15ec4) ∈ lwA := lwA_mk (ck_4 _ (List.mem_of_getElem? (i := 184) rfl)) rfl
theorem k_RL_191 {args : Array Value} {s : State} {R rm : Room} (hts : ∀ w ∈ lwA, w.before args s = true) (hR : rm.frames + 1 ≤ R.frames ∧ 8 + (2 + 11) + rm.locals ≤ R.locals) : CallW R s args RL RJ4 191 yJ4_append_15ec4 cJ4_append_15ec4 2 (some (.object "java/lang/StringBuilder")) (lwC yJ4_append_15ec4 cJ4_append_15ec4 2 (some (.object "java/lang/StringBuilder"))) rm rm.cells rm.slots 1 := cwV 1 hts (gdV m_4_182 m_4_183 m_4_184 m_1_21 m_4_185) rfl rfl rfl (by decide +kernel) hR
theorem m_5_50 : (Cond.code yJ4_append_bf812 cJ4_append_bf812 2 (some (.object "java/lang/StringBuilder"))) ∈ lwA := lwA_mk (ck_5 _ (List.mem_of_getElem? (i := 50) rfl)) rfl
theorem m_5_47 : (Cond.methodLink RL 195 yJ4_append_bf812) ∈ lwA := lwA_mk (ck_5 _ (List.mem_of_getElem? (i := 47) rfl)) rfl
theorem m_5_48 : (Cond.instanceMethod yJ4_append_bf812) ∈ lwA := lwA_mk (ck_5 _ (List.mem_of_getElem? (i := 48) rfl)) rfl
theorem m_5_49 : (Cond.selects RJ4 yJ4_append_bf812 yJ4_append_bf812) ∈ lwA := lwA_mk (ck_5 _ (List.mem_of_getElem? (i := 49) rfl)) rfl
theorem k_RL_195 {args : Array Value} {s : State} {R rm : Room} (hts : ∀ w ∈ lwA, w.before args s = true) (hR : rm.frames + 1 ≤ R.frames ∧ 8 + (2 + 11) + rm.locals ≤ R.locals) : CallW R s args RL RJ4 195 yJ4_append_bf812 cJ4_append_bf812 2 (some (.object "java/lang/StringBuilder")) (lwC yJ4_append_bf812 cJ4_append_bf812 2 (some (.object "java/lang/StringBuilder"))) rm rm.cells rm.slots 1 := cwV 1 hts (gdV m_5_47 m_5_48 m_5_49 m_1_21 m_5_50) rfl rfl rfl (by decide +kernel) hR
def lwT_1 : String × Nat × String × Nat × List Int32 := ("SendhouseLaw", 198, " \x72", 22, [32, 114])
theorem lwT_m1 : lwT_1 ∈ lwT := List.mem_of_getElem? (i := 1) rfl
theorem m_5_76 : (Cond.code yJ4_toString_0e30d cJ4_toString_0e30d 1 (some (.object "java/lang/String"))) ∈ lwA := lwA_mk (ck_5 _ (List.mem_of_getElem? (i := 76) rfl)) rfl
theorem m_5_73 : (Cond.methodLink RL 200 yJ4_toString_0e30d) ∈ lwA := lwA_mk (ck_5 _ (List.mem_of_getElem? (i := 73) rfl)) rfl
theorem m_5_74 : (Cond.instanceMethod yJ4_toString_0e30d) ∈ lwA := lwA_mk (ck_5 _ (List.mem_of_getElem? (i := 74) rfl)) rfl
theorem m_5_75 : (Cond.selects RJ4 yJ4_toString_0e30d yJ4_toString_0e30d) ∈ lwA := lwA_mk (ck_5 _ (List.mem_of_getElem? (i := 75) rfl)) rfl
theorem k_RL_200 {args : Array Value} {s : State} {R rm : Room} (hts : ∀ w ∈ lwA, w.before args s = true) (hR : rm.frames + 1 ≤ R.frames ∧ 8 + (1 + 11) + rm.locals ≤ R.locals) : CallW R s args RL RJ4 200 yJ4_toString_0e30d cJ4_toString_0e30d 1 (some (.object "java/lang/String")) (lwC yJ4_toString_0e30d cJ4_toString_0e30d 1 (some (.object "java/lang/String"))) rm rm.cells rm.slots 0 := cwV 0 hts (gdV m_5_73 m_5_74 m_5_75 m_1_21 m_5_76) rfl rfl rfl (by decide +kernel) hR
theorem m_5_138 : (Cond.code yL_tells cL_tells 6 (some .long)) ∈ lwA := lwA_mk (ck_5 _ (List.mem_of_getElem? (i := 138) rfl)) rfl
theorem m_5_136 : (Cond.methodLink RL 204 yL_tells) ∈ lwA := lwA_mk (ck_5 _ (List.mem_of_getElem? (i := 136) rfl)) rfl
theorem m_5_137 : (Cond.static yL_tells) ∈ lwA := lwA_mk (ck_5 _ (List.mem_of_getElem? (i := 137) rfl)) rfl
theorem k_RL_204 {args : Array Value} {s : State} {R rm : Room} (hts : ∀ w ∈ lwA, w.before args s = true) (hR : rm.frames + 1 ≤ R.frames ∧ 8 + (6 + 11) + rm.locals ≤ R.locals) : CallB R s args RL 204 yL_tells cL_tells 6 (some .long) (lwC yL_tells cL_tells 6 (some .long)) rm rm.cells rm.slots 6 ∧ (Cond.static yL_tells).before args s = true := cwS 6 hts (gdS m_5_136 m_5_137 m_1_0 m_5_138) rfl rfl rfl (by decide +kernel) hR
def lwT_5 : String × Nat × String × Nat × List Int32 := ("SendhouseLaw", 208, "s m", 30, [115, 32, 109])
theorem lwT_m5 : lwT_5 ∈ lwT := List.mem_of_getElem? (i := 5) rfl
def lwT_6 : String × Nat × String × Nat × List Int32 := ("SendhouseLaw", 210, ",0 n", 32, [44, 48, 32, 110])
theorem lwT_m6 : lwT_6 ∈ lwT := List.mem_of_getElem? (i := 6) rfl
def lwT_7 : String × Nat × String × Nat × List Int32 := ("SendhouseLaw", 212, " + \x72", 34, [32, 43, 32, 114])
theorem lwT_m7 : lwT_7 ∈ lwT := List.mem_of_getElem? (i := 7) rfl
def lwT_8 : String × Nat × String × Nat × List Int32 := ("SendhouseLaw", 214, "a0 y4 n", 36, [97, 48, 32, 121, 52, 32, 110])
theorem lwT_m8 : lwT_8 ∈ lwT := List.mem_of_getElem? (i := 8) rfl
def lwT_9 : String × Nat × String × Nat × List Int32 := ("SendhouseLaw", 216, " r s a0 n1 - m", 38, [32, 114, 32, 115, 32, 97, 48, 32, 110, 49, 32, 45, 32, 109])
theorem lwT_m9 : lwT_9 ∈ lwT := List.mem_of_getElem? (i := 9) rfl
def lwT_10 : String × Nat × String × Nat × List Int32 := ("SendhouseLaw", 218, ",1 a0 + \x72", 40, [44, 49, 32, 97, 48, 32, 43, 32, 114])
theorem lwT_m10 : lwT_10 ∈ lwT := List.mem_of_getElem? (i := 10) rfl
def lwT_11 : String × Nat × String × Nat × List Int32 := ("SendhouseLaw", 220, "n0 T0 a0 n2 < y11 t0 a0 + T0 j12 r t0 \x72", 42, [110, 48, 32, 84, 48, 32, 97, 48, 32, 110, 50, 32, 60, 32, 121, 49, 49, 32, 116, 48, 32, 97, 48, 32, 43, 32, 84, 48, 32, 106, 49, 50, 32, 114, 32, 116, 48, 32, 114])
theorem lwT_m11 : lwT_11 ∈ lwT := List.mem_of_getElem? (i := 11) rfl
def lwT_12 : String × Nat × String × Nat × List Int32 := ("SendhouseLaw", 222, " T0 g", 44, [32, 84, 48, 32, 103])
theorem lwT_m12 : lwT_12 ∈ lwT := List.mem_of_getElem? (i := 12) rfl
def lwT_13 : String × Nat × String × Nat × List Int32 := ("SendhouseLaw", 224, " w t0 n1 - d T0 y2 t0 \x72", 46, [32, 119, 32, 116, 48, 32, 110, 49, 32, 45, 32, 100, 32, 84, 48, 32, 121, 50, 32, 116, 48, 32, 114])
theorem lwT_m13 : lwT_13 ∈ lwT := List.mem_of_getElem? (i := 13) rfl
def lwT_14 : String × Nat × String × Nat × List Int32 := ("SendhouseLaw", 226, "c3 d G", 48, [99, 51, 32, 100, 32, 71])
theorem lwT_m14 : lwT_14 ∈ lwT := List.mem_of_getElem? (i := 14) rfl
def lwT_15 : String × Nat × String × Nat × List Int32 := ("SendhouseLaw", 228, " m", 50, [32, 109])
theorem lwT_m15 : lwT_15 ∈ lwT := List.mem_of_getElem? (i := 15) rfl
def lwT_16 : String × Nat × String × Nat × List Int32 := ("SendhouseLaw", 230, ",0 w g", 52, [44, 48, 32, 119, 32, 103])
theorem lwT_m16 : lwT_16 ∈ lwT := List.mem_of_getElem? (i := 16) rfl
def lwT_17 : String × Nat × String × Nat × List Int32 := ("SendhouseLaw", 232, "f0 w s F0 c4 F1 f1 \x72", 54, [102, 48, 32, 119, 32, 115, 32, 70, 48, 32, 99, 52, 32, 70, 49, 32, 102, 49, 32, 114])
theorem lwT_m17 : lwT_17 ∈ lwT := List.mem_of_getElem? (i := 17) rfl
def lwT_18 : String × Nat × String × Nat × List Int32 := ("SendhouseLaw", 234, "a0 a0 = y6 u r s m", 56, [97, 48, 32, 97, 48, 32, 61, 32, 121, 54, 32, 117, 32, 114, 32, 115, 32, 109])
theorem lwT_m18 : lwT_18 ∈ lwT := List.mem_of_getElem? (i := 18) rfl
def lwT_19 : String × Nat × String × Nat × List Int32 := ("SendhouseLaw", 236, ",0 \x72", 58, [44, 48, 32, 114])
theorem lwT_m19 : lwT_19 ∈ lwT := List.mem_of_getElem? (i := 19) rfl
def lwT_20 : String × Nat × String × Nat × List Int32 := ("SendhouseLaw", 238, "s M", 60, [115, 32, 77])
theorem lwT_m20 : lwT_20 ∈ lwT := List.mem_of_getElem? (i := 20) rfl
def lwT_21 : String × Nat × String × Nat × List Int32 := ("SendhouseLaw", 240, ",0 d w n", 62, [44, 48, 32, 100, 32, 119, 32, 110])
theorem lwT_m21 : lwT_21 ∈ lwT := List.mem_of_getElem? (i := 21) rfl
def lwT_22 : String × Nat × String × Nat × List Int32 := ("SendhouseLaw", 242, " T1 s m", 64, [32, 84, 49, 32, 115, 32, 109])
theorem lwT_m22 : lwT_22 ∈ lwT := List.mem_of_getElem? (i := 22) rfl
def lwT_23 : String × Nat × String × Nat × List Int32 := ("SendhouseLaw", 244, ",0 T0 t1 n1 - d T1 y2 t0 \x72", 66, [44, 48, 32, 84, 48, 32, 116, 49, 32, 110, 49, 32, 45, 32, 100, 32, 84, 49, 32, 121, 50, 32, 116, 48, 32, 114])
theorem lwT_m23 : lwT_23 ∈ lwT := List.mem_of_getElem? (i := 23) rfl
def lwT_24 : String × Nat × String × Nat × List Int32 := ("SendhouseLaw", 246, "s k w n", 68, [115, 32, 107, 32, 119, 32, 110])
theorem lwT_m24 : lwT_24 ∈ lwT := List.mem_of_getElem? (i := 24) rfl
def lwT_25 : String × Nat × String × Nat × List Int32 := ("SendhouseLaw", 248, " n0 / \x72", 70, [32, 110, 48, 32, 47, 32, 114])
theorem lwT_m25 : lwT_25 ∈ lwT := List.mem_of_getElem? (i := 25) rfl
def lwT_26 : String × Nat × String × Nat × List Int32 := ("SendhouseLaw", 250, "s n2 < y11 s s n1 - m", 72, [115, 32, 110, 50, 32, 60, 32, 121, 49, 49, 32, 115, 32, 115, 32, 110, 49, 32, 45, 32, 109])
theorem lwT_m26 : lwT_26 ∈ lwT := List.mem_of_getElem? (i := 26) rfl
def lwT_27 : String × Nat × String × Nat × List Int32 := ("SendhouseLaw", 252, ",0 * r n1 \x72", 74, [44, 48, 32, 42, 32, 114, 32, 110, 49, 32, 114])
theorem lwT_m27 : lwT_27 ∈ lwT := List.mem_of_getElem? (i := 27) rfl
end SITES
/-- what a cell tells: where, and its rows -/
def tlT (j : Nat) : (Int32 × Int32 × Int32 × Int32) × List Tk :=
  match j / 1920 % 12 with
  | 0 => ((nI (j % 6), nI (j / 6 % 4), 0, 0), [(nI 110, [nI (48 + (j / 24 % 5))], none), (nI 114, [], none)])
  | 1 => ((nI (j % 6), nI (j / 6 % 4), 0, 0), [(nI 115, [], none), (nI 109, [nI (48 + (j / 120 % 4))], some [nI (48 + 0)]), (nI 110, [nI (48 + (j / 24 % 5))], none), (nI 43, [], none), (nI 114, [], none)])
  | 2 => ((nI (j % 6), nI (j / 6 % 4), 1, 0), [(nI 97, [nI (48 + 0)], none), (nI 121, [nI (48 + 4)], none), (nI 110, [nI (48 + (j / 24 % 5))], none), (nI 114, [], none), (nI 115, [], none), (nI 97, [nI (48 + 0)], none), (nI 110, [nI (48 + 1)], none), (nI 45, [], none), (nI 109, [nI (48 + (j / 6 % 4))], some [nI (48 + 1)]), (nI 97, [nI (48 + 0)], none), (nI 43, [], none), (nI 114, [], none)])
  | 3 => ((nI (j % 6), nI (j / 6 % 4), 1, 1), [(nI 110, [nI (48 + 0)], none), (nI 84, [nI (48 + 0)], none), (nI 97, [nI (48 + 0)], none), (nI 110, [nI (48 + 2)], none), (nI 60, [], none), (nI 121, [nI (48 + 1), nI (48 + 1)], none), (nI 116, [nI (48 + 0)], none), (nI 97, [nI (48 + 0)], none), (nI 43, [], none), (nI 84, [nI (48 + 0)], none), (nI 106, [nI (48 + 1), nI (48 + 2)], none), (nI 114, [], none), (nI 116, [nI (48 + 0)], none), (nI 114, [], none)])
  | 4 => ((nI (j % 6), nI (j / 6 % 4), 0, 1), [(nI 110, [nI (48 + (j / 24 % 5))], none), (nI 84, [nI (48 + 0)], none), (nI 103, [nI (48 + (j / 480 % 4))], none), (nI 119, [], none), (nI 116, [nI (48 + 0)], none), (nI 110, [nI (48 + 1)], none), (nI 45, [], none), (nI 100, [], none), (nI 84, [nI (48 + 0)], none), (nI 121, [nI (48 + 2)], none), (nI 116, [nI (48 + 0)], none), (nI 114, [], none)])
  | 5 => ((nI (j % 6), nI (j / 6 % 4), 0, 0), [(nI 99, [nI (48 + 3)], none), (nI 100, [], none), (nI 71, [nI (48 + (j / 480 % 4))], none), (nI 109, [nI (48 + (j / 120 % 4))], some [nI (48 + 0)]), (nI 119, [], none), (nI 103, [nI (48 + (j / 480 % 4))], none), (nI 114, [], none)])
  | 6 => ((nI (3 + j % 6 % 3), nI (j / 6 % 4), 0, 0), [(nI 102, [nI (48 + 0)], none), (nI 119, [], none), (nI 115, [], none), (nI 70, [nI (48 + 0)], none), (nI 99, [nI (48 + 4)], none), (nI 70, [nI (48 + 1)], none), (nI 102, [nI (48 + 1)], none), (nI 114, [], none)])
  | 7 => ((nI (j % 6), nI (j / 6 % 4), 1, 0), [(nI 97, [nI (48 + 0)], none), (nI 97, [nI (48 + 0)], none), (nI 61, [], none), (nI 121, [nI (48 + 6)], none), (nI 117, [], none), (nI 114, [], none), (nI 115, [], none), (nI 109, [nI (48 + (j / 120 % 4))], some [nI (48 + 0)]), (nI 114, [], none)])
  | 8 => ((nI (4 + j % 6 % 2), nI (j / 6 % 4), 0, 0), [(nI 115, [], none), (nI 77, [nI (48 + (j / 6 % 4))], some [nI (48 + 0)]), (nI 100, [], none), (nI 119, [], none), (nI 110, [nI (48 + (j / 24 % 5))], none), (nI 43, [], none), (nI 114, [], none)])
  | 9 => ((nI (j % 6), nI (j / 6 % 4), 0, 2), [(nI 110, [nI (48 + (j / 24 % 5 + 2))], none), (nI 84, [nI (48 + 1)], none), (nI 115, [], none), (nI 109, [nI (48 + (j / 120 % 4))], some [nI (48 + 0)]), (nI 84, [nI (48 + 0)], none), (nI 116, [nI (48 + 1)], none), (nI 110, [nI (48 + 1)], none), (nI 45, [], none), (nI 100, [], none), (nI 84, [nI (48 + 1)], none), (nI 121, [nI (48 + 2)], none), (nI 116, [nI (48 + 0)], none), (nI 114, [], none)])
  | 10 => ((nI (j % 6), nI (j / 6 % 4), 0, 0), [(nI 115, [], none), (nI 107, [], none), (nI 119, [], none), (nI 110, [nI (48 + (j / 24 % 5))], none), (nI 110, [nI (48 + 0)], none), (nI 47, [], none), (nI 114, [], none)])
  | _ => ((nI 1, nI (j / 6 % 4), 0, 0), [(nI 115, [], none), (nI 110, [nI (48 + 2)], none), (nI 60, [], none), (nI 121, [nI (48 + 1), nI (48 + 1)], none), (nI 115, [], none), (nI 115, [], none), (nI 110, [nI (48 + 1)], none), (nI 45, [], none), (nI 109, [nI (48 + (j / 6 % 4))], some [nI (48 + 0)]), (nI 42, [], none), (nI 114, [], none), (nI 110, [nI (48 + 1)], none), (nI 114, [], none)])
def tlS (Z : Ho) (j : Nat) : Ho := (sL_method (tyS Z (tlT j).2) (tlT j).1.1 (tlT j).1.2.1 (tlT j).1.2.2.1 (tlT j).1.2.2.2).2
set_option maxHeartbeats 4000000 in
set_option maxRecDepth 100000 in
theorem hL_tellsOne (l : Launch) (D : va_G) (ar : Nat → ClassId) (κ : Nat → Nat) (G : gW) (x : Xo) (Z : Ho) (sz : Nat) (j : Nat) (hk : OK x Z) (hlt : l.stackTraces = false) (hj : j < 10000000) : Met l yL_tellsOne (lwC yL_tellsOne cL_tellsOne 7 none) (rD 16 160 6600) (g_Pc D vwCl (gT ar) (EX1 κ) (ov κ ar x Z G) sz [.ref (x.f .ho), .int (nI j)]) (g_Qv D vwCl (g_A (ov κ ar x Z G) sz) (fun u => ∃ (y9 : Xo) (T9 : Ho) (G9 : gW), tlS Z j = T9 ∧ u.1 = ov κ ar y9 T9 G9 ∧ OK y9 T9 ∧ BY x y9 sz ∧ gLv x G G9)) 160 6600 (g_A (ov κ ar x Z G) sz) := by
  refine g_ofW (by decide +kernel) (Nat.le_of_ble_eq_true rfl) ?_
  intro p e s m below meth c ls S hr hlk hin hE w hl
  have hx := S.1
  have hb := S.2.1
  have hl : lv_has ls 7 [(0, .ref (x.f .ho)), (1, .int (nI j))] := hl
  have hfr : ∀ q, sz ≤ q → ov κ ar x Z G q = none := fun q z => g_free w z
  refine lv_iload_n hx hb dL_tellsOne_0 rfl (lv_at hl 1 rfl) ?_
  refine lv_bipush (v := 6) hx hb dL_tellsOne_1 (by decide) ?_
  refine lv_irem hx hb dL_tellsOne_3 (by decide) ?_
  rw [show ((nI j) - (nI j) / 6 * 6 : Int32) = nI (j % 6) from nI_rem (m := 6) (by omega) (by decide) (by decide)]
  refine lv_istore_n (lv' := [(2, .int (nI (j % 6))), (0, .ref (x.f .ho)), (1, .int (nI j))]) hx hb dL_tellsOne_4 rfl hl (by decide) rfl (fun ls hl => ?_)
  refine lv_iload_n hx hb dL_tellsOne_5 rfl (lv_at hl 2 rfl) ?_
  refine lv_bipush (v := 6) hx hb dL_tellsOne_6 (by decide) ?_
  refine lv_idiv hx hb dL_tellsOne_8 (by decide) ?_
  rw [show ((nI j) / 6 : Int32) = nI (j / 6) from nI_div (m := 6) (by omega) (by decide) (by decide)]
  refine lv_iconst (v := 4) hx hb dL_tellsOne_9 (by decide) ?_
  refine lv_irem hx hb dL_tellsOne_10 (by decide) ?_
  rw [show ((nI (j / 6)) - (nI (j / 6)) / 4 * 4 : Int32) = nI (j / 6 % 4) from nI_rem (m := 4) (by omega) (by decide) (by decide)]
  refine lv_istore_n (lv' := [(3, .int (nI (j / 6 % 4))), (2, .int (nI (j % 6))), (0, .ref (x.f .ho)), (1, .int (nI j))]) hx hb dL_tellsOne_11 rfl hl (by decide) rfl (fun ls hl => ?_)
  refine lv_iload_n hx hb dL_tellsOne_12 rfl (lv_at hl 3 rfl) ?_
  refine lv_bipush (v := 24) hx hb dL_tellsOne_13 (by decide) ?_
  refine lv_idiv hx hb dL_tellsOne_15 (by decide) ?_
  rw [show ((nI j) / 24 : Int32) = nI (j / 24) from nI_div (m := 24) (by omega) (by decide) (by decide)]
  refine lv_iconst (v := 5) hx hb dL_tellsOne_16 (by decide) ?_
  refine lv_irem hx hb dL_tellsOne_17 (by decide) ?_
  rw [show ((nI (j / 24)) - (nI (j / 24)) / 5 * 5 : Int32) = nI (j / 24 % 5) from nI_rem (m := 5) (by omega) (by decide) (by decide)]
  refine lv_istore (lv' := [(4, .int (nI (j / 24 % 5))), (3, .int (nI (j / 6 % 4))), (2, .int (nI (j % 6))), (0, .ref (x.f .ho)), (1, .int (nI j))]) hx hb dL_tellsOne_18 hl (by decide) rfl (fun ls hl => ?_)
  refine lv_iload_n hx hb dL_tellsOne_20 rfl (lv_at hl 4 rfl) ?_
  refine lv_bipush (v := 120) hx hb dL_tellsOne_21 (by decide) ?_
  refine lv_idiv hx hb dL_tellsOne_23 (by decide) ?_
  rw [show ((nI j) / 120 : Int32) = nI (j / 120) from nI_div (m := 120) (by omega) (by decide) (by decide)]
  refine lv_iconst (v := 4) hx hb dL_tellsOne_24 (by decide) ?_
  refine lv_irem hx hb dL_tellsOne_25 (by decide) ?_
  rw [show ((nI (j / 120)) - (nI (j / 120)) / 4 * 4 : Int32) = nI (j / 120 % 4) from nI_rem (m := 4) (by omega) (by decide) (by decide)]
  refine lv_istore (lv' := [(5, .int (nI (j / 120 % 4))), (4, .int (nI (j / 24 % 5))), (3, .int (nI (j / 6 % 4))), (2, .int (nI (j % 6))), (0, .ref (x.f .ho)), (1, .int (nI j))]) hx hb dL_tellsOne_26 hl (by decide) rfl (fun ls hl => ?_)
  refine lv_iload_n hx hb dL_tellsOne_28 rfl (lv_at hl 5 rfl) ?_
  refine lv_sipush (v := 480) hx hb dL_tellsOne_29 (by decide) ?_
  refine lv_idiv hx hb dL_tellsOne_32 (by decide) ?_
  rw [show ((nI j) / 480 : Int32) = nI (j / 480) from nI_div (m := 480) (by omega) (by decide) (by decide)]
  refine lv_iconst (v := 4) hx hb dL_tellsOne_33 (by decide) ?_
  refine lv_irem hx hb dL_tellsOne_34 (by decide) ?_
  rw [show ((nI (j / 480)) - (nI (j / 480)) / 4 * 4 : Int32) = nI (j / 480 % 4) from nI_rem (m := 4) (by omega) (by decide) (by decide)]
  refine lv_istore (lv' := [(6, .int (nI (j / 480 % 4))), (5, .int (nI (j / 120 % 4))), (4, .int (nI (j / 24 % 5))), (3, .int (nI (j / 6 % 4))), (2, .int (nI (j % 6))), (0, .ref (x.f .ho)), (1, .int (nI j))]) hx hb dL_tellsOne_35 hl (by decide) rfl (fun ls hl => ?_)
  refine lv_iload_n hx hb dL_tellsOne_37 rfl (lv_at hl 6 rfl) ?_
  refine lv_sipush (v := 1920) hx hb dL_tellsOne_38 (by decide) ?_
  refine lv_idiv hx hb dL_tellsOne_41 (by decide) ?_
  rw [show ((nI j) / 1920 : Int32) = nI (j / 1920) from nI_div (m := 1920) (by omega) (by decide) (by decide)]
  refine lv_bipush (v := 12) hx hb dL_tellsOne_42 (by decide) ?_
  refine lv_irem hx hb dL_tellsOne_44 (by decide) ?_
  rw [show ((nI (j / 1920)) - (nI (j / 1920)) / 12 * 12 : Int32) = nI (j / 1920 % 12) from nI_rem (m := 12) (by omega) (by decide) (by decide)]
  obtain ⟨w9, hw9⟩ : ∃ w9, w9 = j / 1920 % 12 := ⟨_, rfl⟩
  rw [← hw9]
  have hw12 : w9 < 12 := by omega
  rcases (show w9 = 0 ∨ w9 = 1 ∨ w9 = 2 ∨ w9 = 3 ∨ w9 = 4 ∨ w9 = 5 ∨ w9 = 6 ∨ w9 = 7 ∨ w9 = 8 ∨ w9 = 9 ∨ w9 = 10 ∨ w9 = 11 by omega) with rfl | rfl | rfl | rfl | rfl | rfl | rfl | rfl | rfl | rfl | rfl | rfl
  · refine lv_tableIn (off := 59) (tgt := 104) hx hb dL_tellsOne_45 (by decide) (by decide) (by decide) (by decide) ?_
    refine lv_aload_n hx hb dL_tellsOne_104 rfl (lv_at hl 5 rfl) ?_
    refine lv_iload_n hx hb dL_tellsOne_105 rfl (lv_at hl 4 rfl) ?_
    refine lv_iload_n hx hb dL_tellsOne_106 rfl (lv_at hl 3 rfl) ?_
    refine lv_iconst (v := 0) hx hb dL_tellsOne_107 (by decide) ?_
    refine lv_iconst (v := 0) hx hb dL_tellsOne_108 (by decide) ?_
    refine nw_RL_186 S hE w (Nat.le_of_ble_eq_true rfl) (Nat.le_of_ble_eq_true rfl) dL_tellsOne_109 (fun H w => ?_)
    refine lv_dup hx hb dL_tellsOne_112 rfl ?_
    refine g_callv w (g_runI (As := []) (rest := [.ref sz, .int 0, .int 0, .int (nI (j / 6 % 4)), .int (nI (j % 6)), .ref (x.f .ho)]) S hE w hl (j_SBinit l D ar κ (g_up (ov κ ar x Z G) sz (.inr (1, [.null, .int 0, .int 0, .int 0]))) (sz + 1) sz g_up_s) (k_RL_188 S.2.2.2.2 ⟨Nat.le_of_ble_eq_true rfl, Nat.le_of_ble_eq_true rfl⟩) rfl rfl (Nat.le_of_ble_eq_true rfl) dL_tellsOne_113 ⟨Nat.le_of_ble_eq_true rfl, Nat.le_of_ble_eq_true rfl⟩) (fun u H locs hp hnz w => ?_)
    obtain rfl := hp
    try dsimp only at w
    have w := g_eqw w (g_inn g_over (by omega))
    obtain ⟨U1, hUU1⟩ : ∃ U1 : gW × Nat, U1 = ((g_up (g_up (ov κ ar x Z G) sz (.inr (1, [.ref (sz + 1), .int 0, .int 0, .int 0]))) (sz + 1) (.inl (ar 4, 16, .inl (fun _ => 0)))), sz + 2) := ⟨_, rfl⟩
    have hSU1 : SbT ar κ (ov κ ar x Z G) U1.1 sz [] := by rw [hUU1]; exact SbT.new (hfr _ (Nat.le_refl _)) (hfr _ (Nat.le_succ _))
    have hnU1 : sz ≤ U1.2 := by rw [hUU1]; exact Nat.le_add_right _ _
    have w := g_eqw2 w hUU1.symm
    obtain ⟨vU1, mlU1, nU1, hoU1⟩ := hSU1.o
    have hq0 := (hE.2.2.2.2.2.2.1 lwT_0 lwT_m0).1
    refine va_ldcS hx hb (own := RL) S.2.2.2.1 hq0 dL_tellsOne_116 ?_
    show W p l e _ s m _ below meth c _ _ _ _ _ (F0 m 118 ls [.ref (κ 20), .ref sz, .int 0, .int 0, .int (nI (j / 6 % 4)), .int (nI (j % 6)), .ref (x.f .ho)])
    refine g_callq w (g_runV (As := [.ref (κ 20)]) (rest := [.int 0, .int 0, .int (nI (j / 6 % 4)), .int (nI (j % 6)), .ref (x.f .ho)]) S hE w hl (b_app l D ar κ U1.1 U1.2 sz (κ 20) (κ 21) lwT_0.2.2.2.2 (ov κ ar x Z G) ([] : List Int32) hSU1 (fun _ => TX.lit lwT_m0) (lwT_asc lwT_m0) (Nat.le_of_ble_eq_true rfl)) (k_RL_191 S.2.2.2.2 ⟨Nat.le_of_ble_eq_true rfl, Nat.le_of_ble_eq_true rfl⟩) hoU1 rfl rfl rfl rfl (Nat.le_of_ble_eq_true rfl) dL_tellsOne_118 ⟨Nat.le_of_ble_eq_true rfl, Nat.le_of_ble_eq_true rfl⟩) (fun r u H locs hp hnz w => ?_)
    obtain ⟨rfl, hSU2⟩ := hp
    obtain ⟨U2, hUU2⟩ : ∃ U2, U2 = u := ⟨_, rfl⟩
    rw [← hUU2] at w hnz hSU2
    try dsimp only at w
    have hnU2 : sz ≤ U2.2 := Nat.le_trans hnU1 hnz
    obtain ⟨vU2, mlU2, nU2, hoU2⟩ := hSU2.o
    refine lv_iload hx hb dL_tellsOne_121 (lv_at hl 2 rfl) ?_
    refine g_callq w (g_runV (As := [.int (nI (j / 24 % 5))]) (rest := [.int 0, .int 0, .int (nI (j / 6 % 4)), .int (nI (j % 6)), .ref (x.f .ho)]) S hE w hl (b_appI l D ar κ U2.1 U2.2 sz (j / 24 % 5) (ov κ ar x Z G) (([] : List Int32) ++ lwT_0.2.2.2.2) hSU2 (by omega) (Nat.le_of_ble_eq_true rfl)) (k_RL_195 S.2.2.2.2 ⟨Nat.le_of_ble_eq_true rfl, Nat.le_of_ble_eq_true rfl⟩) hoU2 rfl rfl rfl rfl (Nat.le_of_ble_eq_true rfl) dL_tellsOne_123 ⟨Nat.le_of_ble_eq_true rfl, Nat.le_of_ble_eq_true rfl⟩) (fun r u H locs hp hnz w => ?_)
    obtain ⟨rfl, hSU3⟩ := hp
    obtain ⟨U3, hUU3⟩ : ∃ U3, U3 = u := ⟨_, rfl⟩
    rw [← hUU3] at w hnz hSU3
    try dsimp only at w
    have hnU3 : sz ≤ U3.2 := Nat.le_trans hnU2 hnz
    obtain ⟨vU3, mlU3, nU3, hoU3⟩ := hSU3.o
    have hq1 := (hE.2.2.2.2.2.2.1 lwT_1 lwT_m1).1
    refine va_ldcS hx hb (own := RL) S.2.2.2.1 hq1 dL_tellsOne_126 ?_
    show W p l e _ s m _ below meth c _ _ _ _ _ (F0 m 128 ls [.ref (κ 22), .ref sz, .int 0, .int 0, .int (nI (j / 6 % 4)), .int (nI (j % 6)), .ref (x.f .ho)])
    refine g_callq w (g_runV (As := [.ref (κ 22)]) (rest := [.int 0, .int 0, .int (nI (j / 6 % 4)), .int (nI (j % 6)), .ref (x.f .ho)]) S hE w hl (b_app l D ar κ U3.1 U3.2 sz (κ 22) (κ 23) lwT_1.2.2.2.2 (ov κ ar x Z G) ((([] : List Int32) ++ lwT_0.2.2.2.2) ++ [nI (48 + (j / 24 % 5))]) hSU3 (fun _ => TX.lit lwT_m1) (lwT_asc lwT_m1) (Nat.le_of_ble_eq_true rfl)) (k_RL_191 S.2.2.2.2 ⟨Nat.le_of_ble_eq_true rfl, Nat.le_of_ble_eq_true rfl⟩) hoU3 rfl rfl rfl rfl (Nat.le_of_ble_eq_true rfl) dL_tellsOne_128 ⟨Nat.le_of_ble_eq_true rfl, Nat.le_of_ble_eq_true rfl⟩) (fun r u H locs hp hnz w => ?_)
    obtain ⟨rfl, hSU4⟩ := hp
    obtain ⟨U4, hUU4⟩ : ∃ U4, U4 = u := ⟨_, rfl⟩
    rw [← hUU4] at w hnz hSU4
    try dsimp only at w
    have hnU4 : sz ≤ U4.2 := Nat.le_trans hnU3 hnz
    obtain ⟨vU4, mlU4, nU4, hoU4⟩ := hSU4.o
    refine g_callq w (g_runV (As := []) (rest := [.int 0, .int 0, .int (nI (j / 6 % 4)), .int (nI (j % 6)), .ref (x.f .ho)]) S hE w hl (b_str l D ar κ U4.1 U4.2 sz (ov κ ar x Z G) (((([] : List Int32) ++ lwT_0.2.2.2.2) ++ [nI (48 + (j / 24 % 5))]) ++ lwT_1.2.2.2.2) hSU4) (k_RL_200 S.2.2.2.2 ⟨Nat.le_of_ble_eq_true rfl, Nat.le_of_ble_eq_true rfl⟩) hoU4 rfl rfl rfl rfl (Nat.le_of_ble_eq_true rfl) dL_tellsOne_131 ⟨Nat.le_of_ble_eq_true rfl, Nat.le_of_ble_eq_true rfl⟩) (fun r u H locs hp hnz w => ?_)
    obtain ⟨a9, v9, rfl, htx, hg9⟩ := hp
    obtain ⟨U5, hUU5⟩ : ∃ U5, U5 = u := ⟨_, rfl⟩
    rw [← hUU5] at w hnz htx hg9
    try dsimp only at w
    have hnU5 : sz ≤ U5.2 := Nat.le_trans hnU4 hnz
    have w := g_eqw w (ov_ge hg9)
    have ht9 := tx_eq (ov_ge hg9) htx
    refine g_calll w (g_runS (As := [.ref (x.f .ho), .int (nI (j % 6)), .int (nI (j / 6 % 4)), .int 0, .int 0, .ref a9]) (rest := []) S hE w hl (hL_tells l D ar κ U5.1 x Z U5.2 (nI (j % 6)) (nI (j / 6 % 4)) 0 0 a9 v9 (((([] : List Int32) ++ lwT_0.2.2.2.2) ++ [nI (48 + (j / 24 % 5))]) ++ lwT_1.2.2.2.2) [(nI 110, [nI (48 + (j / 24 % 5))], none), (nI 114, [], none)] hk hlt ht9 (by rfl) (Nat.le_of_ble_eq_true rfl) (Nat.le_of_ble_eq_true rfl) (tgC (tg1 110 (j / 24 % 5) (by decide) (by omega)) (tgC (tg0 114 (by decide)) tgN)) (Nat.le_of_ble_eq_true rfl)) (k_RL_204 S.2.2.2.2 ⟨Nat.le_of_ble_eq_true rfl, Nat.le_of_ble_eq_true rfl⟩) rfl rfl (Nat.le_of_ble_eq_true rfl) dL_tellsOne_134 ⟨Nat.le_of_ble_eq_true rfl, Nat.le_of_ble_eq_true rfl⟩) (fun r u H locs hp hnz w => ?_)
    obtain ⟨y9, T9, G9, e9, hu9, hk9, by9, gl9⟩ := hp
    obtain ⟨v9, m9⟩ := u
    dsimp only at hu9 w hnz
    subst hu9
    refine lv_pop2_2 hx hb dL_tellsOne_137 rfl ?_
    refine lv_goto (tgt := 576) hx hb dL_tellsOne_138 (by decide) ?_
    exact g_vret hx hb hr hlk w (Nat.le_of_ble_eq_true rfl) (Nat.le_of_ble_eq_true rfl) dL_tellsOne_576 ⟨y9, T9, G9, (by unfold tlS tlT; rw [← hw9]; exact congrArg Prod.snd e9), rfl, hk9, BY.tr BY.r by9 hnU5, (gLv.o hg9).t gl9⟩
  · refine lv_tableIn (off := 96) (tgt := 141) hx hb dL_tellsOne_45 (by decide) (by decide) (by decide) (by decide) ?_
    refine lv_aload_n hx hb dL_tellsOne_141 rfl (lv_at hl 5 rfl) ?_
    refine lv_iload_n hx hb dL_tellsOne_142 rfl (lv_at hl 4 rfl) ?_
    refine lv_iload_n hx hb dL_tellsOne_143 rfl (lv_at hl 3 rfl) ?_
    refine lv_iconst (v := 0) hx hb dL_tellsOne_144 (by decide) ?_
    refine lv_iconst (v := 0) hx hb dL_tellsOne_145 (by decide) ?_
    refine nw_RL_186 S hE w (Nat.le_of_ble_eq_true rfl) (Nat.le_of_ble_eq_true rfl) dL_tellsOne_146 (fun H w => ?_)
    refine lv_dup hx hb dL_tellsOne_149 rfl ?_
    refine g_callv w (g_runI (As := []) (rest := [.ref sz, .int 0, .int 0, .int (nI (j / 6 % 4)), .int (nI (j % 6)), .ref (x.f .ho)]) S hE w hl (j_SBinit l D ar κ (g_up (ov κ ar x Z G) sz (.inr (1, [.null, .int 0, .int 0, .int 0]))) (sz + 1) sz g_up_s) (k_RL_188 S.2.2.2.2 ⟨Nat.le_of_ble_eq_true rfl, Nat.le_of_ble_eq_true rfl⟩) rfl rfl (Nat.le_of_ble_eq_true rfl) dL_tellsOne_150 ⟨Nat.le_of_ble_eq_true rfl, Nat.le_of_ble_eq_true rfl⟩) (fun u H locs hp hnz w => ?_)
    obtain rfl := hp
    try dsimp only at w
    have w := g_eqw w (g_inn g_over (by omega))
    obtain ⟨U6, hUU6⟩ : ∃ U6 : gW × Nat, U6 = ((g_up (g_up (ov κ ar x Z G) sz (.inr (1, [.ref (sz + 1), .int 0, .int 0, .int 0]))) (sz + 1) (.inl (ar 4, 16, .inl (fun _ => 0)))), sz + 2) := ⟨_, rfl⟩
    have hSU6 : SbT ar κ (ov κ ar x Z G) U6.1 sz [] := by rw [hUU6]; exact SbT.new (hfr _ (Nat.le_refl _)) (hfr _ (Nat.le_succ _))
    have hnU6 : sz ≤ U6.2 := by rw [hUU6]; exact Nat.le_add_right _ _
    have w := g_eqw2 w hUU6.symm
    obtain ⟨vU6, mlU6, nU6, hoU6⟩ := hSU6.o
    have hq5 := (hE.2.2.2.2.2.2.1 lwT_5 lwT_m5).1
    refine va_ldcS hx hb (own := RL) S.2.2.2.1 hq5 dL_tellsOne_153 ?_
    show W p l e _ s m _ below meth c _ _ _ _ _ (F0 m 155 ls [.ref (κ 30), .ref sz, .int 0, .int 0, .int (nI (j / 6 % 4)), .int (nI (j % 6)), .ref (x.f .ho)])
    refine g_callq w (g_runV (As := [.ref (κ 30)]) (rest := [.int 0, .int 0, .int (nI (j / 6 % 4)), .int (nI (j % 6)), .ref (x.f .ho)]) S hE w hl (b_app l D ar κ U6.1 U6.2 sz (κ 30) (κ 31) lwT_5.2.2.2.2 (ov κ ar x Z G) ([] : List Int32) hSU6 (fun _ => TX.lit lwT_m5) (lwT_asc lwT_m5) (Nat.le_of_ble_eq_true rfl)) (k_RL_191 S.2.2.2.2 ⟨Nat.le_of_ble_eq_true rfl, Nat.le_of_ble_eq_true rfl⟩) hoU6 rfl rfl rfl rfl (Nat.le_of_ble_eq_true rfl) dL_tellsOne_155 ⟨Nat.le_of_ble_eq_true rfl, Nat.le_of_ble_eq_true rfl⟩) (fun r u H locs hp hnz w => ?_)
    obtain ⟨rfl, hSU7⟩ := hp
    obtain ⟨U7, hUU7⟩ : ∃ U7, U7 = u := ⟨_, rfl⟩
    rw [← hUU7] at w hnz hSU7
    try dsimp only at w
    have hnU7 : sz ≤ U7.2 := Nat.le_trans hnU6 hnz
    obtain ⟨vU7, mlU7, nU7, hoU7⟩ := hSU7.o
    refine lv_iload hx hb dL_tellsOne_158 (lv_at hl 1 rfl) ?_
    refine g_callq w (g_runV (As := [.int (nI (j / 120 % 4))]) (rest := [.int 0, .int 0, .int (nI (j / 6 % 4)), .int (nI (j % 6)), .ref (x.f .ho)]) S hE w hl (b_appI l D ar κ U7.1 U7.2 sz (j / 120 % 4) (ov κ ar x Z G) (([] : List Int32) ++ lwT_5.2.2.2.2) hSU7 (by omega) (Nat.le_of_ble_eq_true rfl)) (k_RL_195 S.2.2.2.2 ⟨Nat.le_of_ble_eq_true rfl, Nat.le_of_ble_eq_true rfl⟩) hoU7 rfl rfl rfl rfl (Nat.le_of_ble_eq_true rfl) dL_tellsOne_160 ⟨Nat.le_of_ble_eq_true rfl, Nat.le_of_ble_eq_true rfl⟩) (fun r u H locs hp hnz w => ?_)
    obtain ⟨rfl, hSU8⟩ := hp
    obtain ⟨U8, hUU8⟩ : ∃ U8, U8 = u := ⟨_, rfl⟩
    rw [← hUU8] at w hnz hSU8
    try dsimp only at w
    have hnU8 : sz ≤ U8.2 := Nat.le_trans hnU7 hnz
    obtain ⟨vU8, mlU8, nU8, hoU8⟩ := hSU8.o
    have hq6 := (hE.2.2.2.2.2.2.1 lwT_6 lwT_m6).1
    refine va_ldcS hx hb (own := RL) S.2.2.2.1 hq6 dL_tellsOne_163 ?_
    show W p l e _ s m _ below meth c _ _ _ _ _ (F0 m 165 ls [.ref (κ 32), .ref sz, .int 0, .int 0, .int (nI (j / 6 % 4)), .int (nI (j % 6)), .ref (x.f .ho)])
    refine g_callq w (g_runV (As := [.ref (κ 32)]) (rest := [.int 0, .int 0, .int (nI (j / 6 % 4)), .int (nI (j % 6)), .ref (x.f .ho)]) S hE w hl (b_app l D ar κ U8.1 U8.2 sz (κ 32) (κ 33) lwT_6.2.2.2.2 (ov κ ar x Z G) ((([] : List Int32) ++ lwT_5.2.2.2.2) ++ [nI (48 + (j / 120 % 4))]) hSU8 (fun _ => TX.lit lwT_m6) (lwT_asc lwT_m6) (Nat.le_of_ble_eq_true rfl)) (k_RL_191 S.2.2.2.2 ⟨Nat.le_of_ble_eq_true rfl, Nat.le_of_ble_eq_true rfl⟩) hoU8 rfl rfl rfl rfl (Nat.le_of_ble_eq_true rfl) dL_tellsOne_165 ⟨Nat.le_of_ble_eq_true rfl, Nat.le_of_ble_eq_true rfl⟩) (fun r u H locs hp hnz w => ?_)
    obtain ⟨rfl, hSU9⟩ := hp
    obtain ⟨U9, hUU9⟩ : ∃ U9, U9 = u := ⟨_, rfl⟩
    rw [← hUU9] at w hnz hSU9
    try dsimp only at w
    have hnU9 : sz ≤ U9.2 := Nat.le_trans hnU8 hnz
    obtain ⟨vU9, mlU9, nU9, hoU9⟩ := hSU9.o
    refine lv_iload hx hb dL_tellsOne_168 (lv_at hl 2 rfl) ?_
    refine g_callq w (g_runV (As := [.int (nI (j / 24 % 5))]) (rest := [.int 0, .int 0, .int (nI (j / 6 % 4)), .int (nI (j % 6)), .ref (x.f .ho)]) S hE w hl (b_appI l D ar κ U9.1 U9.2 sz (j / 24 % 5) (ov κ ar x Z G) (((([] : List Int32) ++ lwT_5.2.2.2.2) ++ [nI (48 + (j / 120 % 4))]) ++ lwT_6.2.2.2.2) hSU9 (by omega) (Nat.le_of_ble_eq_true rfl)) (k_RL_195 S.2.2.2.2 ⟨Nat.le_of_ble_eq_true rfl, Nat.le_of_ble_eq_true rfl⟩) hoU9 rfl rfl rfl rfl (Nat.le_of_ble_eq_true rfl) dL_tellsOne_170 ⟨Nat.le_of_ble_eq_true rfl, Nat.le_of_ble_eq_true rfl⟩) (fun r u H locs hp hnz w => ?_)
    obtain ⟨rfl, hSU10⟩ := hp
    obtain ⟨U10, hUU10⟩ : ∃ U10, U10 = u := ⟨_, rfl⟩
    rw [← hUU10] at w hnz hSU10
    try dsimp only at w
    have hnU10 : sz ≤ U10.2 := Nat.le_trans hnU9 hnz
    obtain ⟨vU10, mlU10, nU10, hoU10⟩ := hSU10.o
    have hq7 := (hE.2.2.2.2.2.2.1 lwT_7 lwT_m7).1
    refine va_ldcS hx hb (own := RL) S.2.2.2.1 hq7 dL_tellsOne_173 ?_
    show W p l e _ s m _ below meth c _ _ _ _ _ (F0 m 175 ls [.ref (κ 34), .ref sz, .int 0, .int 0, .int (nI (j / 6 % 4)), .int (nI (j % 6)), .ref (x.f .ho)])
    refine g_callq w (g_runV (As := [.ref (κ 34)]) (rest := [.int 0, .int 0, .int (nI (j / 6 % 4)), .int (nI (j % 6)), .ref (x.f .ho)]) S hE w hl (b_app l D ar κ U10.1 U10.2 sz (κ 34) (κ 35) lwT_7.2.2.2.2 (ov κ ar x Z G) ((((([] : List Int32) ++ lwT_5.2.2.2.2) ++ [nI (48 + (j / 120 % 4))]) ++ lwT_6.2.2.2.2) ++ [nI (48 + (j / 24 % 5))]) hSU10 (fun _ => TX.lit lwT_m7) (lwT_asc lwT_m7) (Nat.le_of_ble_eq_true rfl)) (k_RL_191 S.2.2.2.2 ⟨Nat.le_of_ble_eq_true rfl, Nat.le_of_ble_eq_true rfl⟩) hoU10 rfl rfl rfl rfl (Nat.le_of_ble_eq_true rfl) dL_tellsOne_175 ⟨Nat.le_of_ble_eq_true rfl, Nat.le_of_ble_eq_true rfl⟩) (fun r u H locs hp hnz w => ?_)
    obtain ⟨rfl, hSU11⟩ := hp
    obtain ⟨U11, hUU11⟩ : ∃ U11, U11 = u := ⟨_, rfl⟩
    rw [← hUU11] at w hnz hSU11
    try dsimp only at w
    have hnU11 : sz ≤ U11.2 := Nat.le_trans hnU10 hnz
    obtain ⟨vU11, mlU11, nU11, hoU11⟩ := hSU11.o
    refine g_callq w (g_runV (As := []) (rest := [.int 0, .int 0, .int (nI (j / 6 % 4)), .int (nI (j % 6)), .ref (x.f .ho)]) S hE w hl (b_str l D ar κ U11.1 U11.2 sz (ov κ ar x Z G) (((((([] : List Int32) ++ lwT_5.2.2.2.2) ++ [nI (48 + (j / 120 % 4))]) ++ lwT_6.2.2.2.2) ++ [nI (48 + (j / 24 % 5))]) ++ lwT_7.2.2.2.2) hSU11) (k_RL_200 S.2.2.2.2 ⟨Nat.le_of_ble_eq_true rfl, Nat.le_of_ble_eq_true rfl⟩) hoU11 rfl rfl rfl rfl (Nat.le_of_ble_eq_true rfl) dL_tellsOne_178 ⟨Nat.le_of_ble_eq_true rfl, Nat.le_of_ble_eq_true rfl⟩) (fun r u H locs hp hnz w => ?_)
    obtain ⟨a9, v9, rfl, htx, hg9⟩ := hp
    obtain ⟨U12, hUU12⟩ : ∃ U12, U12 = u := ⟨_, rfl⟩
    rw [← hUU12] at w hnz htx hg9
    try dsimp only at w
    have hnU12 : sz ≤ U12.2 := Nat.le_trans hnU11 hnz
    have w := g_eqw w (ov_ge hg9)
    have ht9 := tx_eq (ov_ge hg9) htx
    refine g_calll w (g_runS (As := [.ref (x.f .ho), .int (nI (j % 6)), .int (nI (j / 6 % 4)), .int 0, .int 0, .ref a9]) (rest := []) S hE w hl (hL_tells l D ar κ U12.1 x Z U12.2 (nI (j % 6)) (nI (j / 6 % 4)) 0 0 a9 v9 (((((([] : List Int32) ++ lwT_5.2.2.2.2) ++ [nI (48 + (j / 120 % 4))]) ++ lwT_6.2.2.2.2) ++ [nI (48 + (j / 24 % 5))]) ++ lwT_7.2.2.2.2) [(nI 115, [], none), (nI 109, [nI (48 + (j / 120 % 4))], some [nI (48 + 0)]), (nI 110, [nI (48 + (j / 24 % 5))], none), (nI 43, [], none), (nI 114, [], none)] hk hlt ht9 (by rfl) (Nat.le_of_ble_eq_true rfl) (Nat.le_of_ble_eq_true rfl) (tgC (tg0 115 (by decide)) (tgC (tg3 109 (j / 120 % 4) 0 (by decide) (by omega) (by decide)) (tgC (tg1 110 (j / 24 % 5) (by decide) (by omega)) (tgC (tg0 43 (by decide)) (tgC (tg0 114 (by decide)) tgN))))) (Nat.le_of_ble_eq_true rfl)) (k_RL_204 S.2.2.2.2 ⟨Nat.le_of_ble_eq_true rfl, Nat.le_of_ble_eq_true rfl⟩) rfl rfl (Nat.le_of_ble_eq_true rfl) dL_tellsOne_181 ⟨Nat.le_of_ble_eq_true rfl, Nat.le_of_ble_eq_true rfl⟩) (fun r u H locs hp hnz w => ?_)
    obtain ⟨y9, T9, G9, e9, hu9, hk9, by9, gl9⟩ := hp
    obtain ⟨v9, m9⟩ := u
    dsimp only at hu9 w hnz
    subst hu9
    refine lv_pop2_2 hx hb dL_tellsOne_184 rfl ?_
    refine lv_goto (tgt := 576) hx hb dL_tellsOne_185 (by decide) ?_
    exact g_vret hx hb hr hlk w (Nat.le_of_ble_eq_true rfl) (Nat.le_of_ble_eq_true rfl) dL_tellsOne_576 ⟨y9, T9, G9, (by unfold tlS tlT; rw [← hw9]; exact congrArg Prod.snd e9), rfl, hk9, BY.tr BY.r by9 hnU12, (gLv.o hg9).t gl9⟩
  · refine lv_tableIn (off := 143) (tgt := 188) hx hb dL_tellsOne_45 (by decide) (by decide) (by decide) (by decide) ?_
    refine lv_aload_n hx hb dL_tellsOne_188 rfl (lv_at hl 5 rfl) ?_
    refine lv_iload_n hx hb dL_tellsOne_189 rfl (lv_at hl 4 rfl) ?_
    refine lv_iload_n hx hb dL_tellsOne_190 rfl (lv_at hl 3 rfl) ?_
    refine lv_iconst (v := 1) hx hb dL_tellsOne_191 (by decide) ?_
    refine lv_iconst (v := 0) hx hb dL_tellsOne_192 (by decide) ?_
    refine nw_RL_186 S hE w (Nat.le_of_ble_eq_true rfl) (Nat.le_of_ble_eq_true rfl) dL_tellsOne_193 (fun H w => ?_)
    refine lv_dup hx hb dL_tellsOne_196 rfl ?_
    refine g_callv w (g_runI (As := []) (rest := [.ref sz, .int 0, .int 1, .int (nI (j / 6 % 4)), .int (nI (j % 6)), .ref (x.f .ho)]) S hE w hl (j_SBinit l D ar κ (g_up (ov κ ar x Z G) sz (.inr (1, [.null, .int 0, .int 0, .int 0]))) (sz + 1) sz g_up_s) (k_RL_188 S.2.2.2.2 ⟨Nat.le_of_ble_eq_true rfl, Nat.le_of_ble_eq_true rfl⟩) rfl rfl (Nat.le_of_ble_eq_true rfl) dL_tellsOne_197 ⟨Nat.le_of_ble_eq_true rfl, Nat.le_of_ble_eq_true rfl⟩) (fun u H locs hp hnz w => ?_)
    obtain rfl := hp
    try dsimp only at w
    have w := g_eqw w (g_inn g_over (by omega))
    obtain ⟨U13, hUU13⟩ : ∃ U13 : gW × Nat, U13 = ((g_up (g_up (ov κ ar x Z G) sz (.inr (1, [.ref (sz + 1), .int 0, .int 0, .int 0]))) (sz + 1) (.inl (ar 4, 16, .inl (fun _ => 0)))), sz + 2) := ⟨_, rfl⟩
    have hSU13 : SbT ar κ (ov κ ar x Z G) U13.1 sz [] := by rw [hUU13]; exact SbT.new (hfr _ (Nat.le_refl _)) (hfr _ (Nat.le_succ _))
    have hnU13 : sz ≤ U13.2 := by rw [hUU13]; exact Nat.le_add_right _ _
    have w := g_eqw2 w hUU13.symm
    obtain ⟨vU13, mlU13, nU13, hoU13⟩ := hSU13.o
    have hq8 := (hE.2.2.2.2.2.2.1 lwT_8 lwT_m8).1
    refine va_ldcS hx hb (own := RL) S.2.2.2.1 hq8 dL_tellsOne_200 ?_
    show W p l e _ s m _ below meth c _ _ _ _ _ (F0 m 202 ls [.ref (κ 36), .ref sz, .int 0, .int 1, .int (nI (j / 6 % 4)), .int (nI (j % 6)), .ref (x.f .ho)])
    refine g_callq w (g_runV (As := [.ref (κ 36)]) (rest := [.int 0, .int 1, .int (nI (j / 6 % 4)), .int (nI (j % 6)), .ref (x.f .ho)]) S hE w hl (b_app l D ar κ U13.1 U13.2 sz (κ 36) (κ 37) lwT_8.2.2.2.2 (ov κ ar x Z G) ([] : List Int32) hSU13 (fun _ => TX.lit lwT_m8) (lwT_asc lwT_m8) (Nat.le_of_ble_eq_true rfl)) (k_RL_191 S.2.2.2.2 ⟨Nat.le_of_ble_eq_true rfl, Nat.le_of_ble_eq_true rfl⟩) hoU13 rfl rfl rfl rfl (Nat.le_of_ble_eq_true rfl) dL_tellsOne_202 ⟨Nat.le_of_ble_eq_true rfl, Nat.le_of_ble_eq_true rfl⟩) (fun r u H locs hp hnz w => ?_)
    obtain ⟨rfl, hSU14⟩ := hp
    obtain ⟨U14, hUU14⟩ : ∃ U14, U14 = u := ⟨_, rfl⟩
    rw [← hUU14] at w hnz hSU14
    try dsimp only at w
    have hnU14 : sz ≤ U14.2 := Nat.le_trans hnU13 hnz
    obtain ⟨vU14, mlU14, nU14, hoU14⟩ := hSU14.o
    refine lv_iload hx hb dL_tellsOne_205 (lv_at hl 2 rfl) ?_
    refine g_callq w (g_runV (As := [.int (nI (j / 24 % 5))]) (rest := [.int 0, .int 1, .int (nI (j / 6 % 4)), .int (nI (j % 6)), .ref (x.f .ho)]) S hE w hl (b_appI l D ar κ U14.1 U14.2 sz (j / 24 % 5) (ov κ ar x Z G) (([] : List Int32) ++ lwT_8.2.2.2.2) hSU14 (by omega) (Nat.le_of_ble_eq_true rfl)) (k_RL_195 S.2.2.2.2 ⟨Nat.le_of_ble_eq_true rfl, Nat.le_of_ble_eq_true rfl⟩) hoU14 rfl rfl rfl rfl (Nat.le_of_ble_eq_true rfl) dL_tellsOne_207 ⟨Nat.le_of_ble_eq_true rfl, Nat.le_of_ble_eq_true rfl⟩) (fun r u H locs hp hnz w => ?_)
    obtain ⟨rfl, hSU15⟩ := hp
    obtain ⟨U15, hUU15⟩ : ∃ U15, U15 = u := ⟨_, rfl⟩
    rw [← hUU15] at w hnz hSU15
    try dsimp only at w
    have hnU15 : sz ≤ U15.2 := Nat.le_trans hnU14 hnz
    obtain ⟨vU15, mlU15, nU15, hoU15⟩ := hSU15.o
    have hq9 := (hE.2.2.2.2.2.2.1 lwT_9 lwT_m9).1
    refine va_ldcS hx hb (own := RL) S.2.2.2.1 hq9 dL_tellsOne_210 ?_
    show W p l e _ s m _ below meth c _ _ _ _ _ (F0 m 212 ls [.ref (κ 38), .ref sz, .int 0, .int 1, .int (nI (j / 6 % 4)), .int (nI (j % 6)), .ref (x.f .ho)])
    refine g_callq w (g_runV (As := [.ref (κ 38)]) (rest := [.int 0, .int 1, .int (nI (j / 6 % 4)), .int (nI (j % 6)), .ref (x.f .ho)]) S hE w hl (b_app l D ar κ U15.1 U15.2 sz (κ 38) (κ 39) lwT_9.2.2.2.2 (ov κ ar x Z G) ((([] : List Int32) ++ lwT_8.2.2.2.2) ++ [nI (48 + (j / 24 % 5))]) hSU15 (fun _ => TX.lit lwT_m9) (lwT_asc lwT_m9) (Nat.le_of_ble_eq_true rfl)) (k_RL_191 S.2.2.2.2 ⟨Nat.le_of_ble_eq_true rfl, Nat.le_of_ble_eq_true rfl⟩) hoU15 rfl rfl rfl rfl (Nat.le_of_ble_eq_true rfl) dL_tellsOne_212 ⟨Nat.le_of_ble_eq_true rfl, Nat.le_of_ble_eq_true rfl⟩) (fun r u H locs hp hnz w => ?_)
    obtain ⟨rfl, hSU16⟩ := hp
    obtain ⟨U16, hUU16⟩ : ∃ U16, U16 = u := ⟨_, rfl⟩
    rw [← hUU16] at w hnz hSU16
    try dsimp only at w
    have hnU16 : sz ≤ U16.2 := Nat.le_trans hnU15 hnz
    obtain ⟨vU16, mlU16, nU16, hoU16⟩ := hSU16.o
    refine lv_iload_n hx hb dL_tellsOne_215 rfl (lv_at hl 3 rfl) ?_
    refine g_callq w (g_runV (As := [.int (nI (j / 6 % 4))]) (rest := [.int 0, .int 1, .int (nI (j / 6 % 4)), .int (nI (j % 6)), .ref (x.f .ho)]) S hE w hl (b_appI l D ar κ U16.1 U16.2 sz (j / 6 % 4) (ov κ ar x Z G) (((([] : List Int32) ++ lwT_8.2.2.2.2) ++ [nI (48 + (j / 24 % 5))]) ++ lwT_9.2.2.2.2) hSU16 (by omega) (Nat.le_of_ble_eq_true rfl)) (k_RL_195 S.2.2.2.2 ⟨Nat.le_of_ble_eq_true rfl, Nat.le_of_ble_eq_true rfl⟩) hoU16 rfl rfl rfl rfl (Nat.le_of_ble_eq_true rfl) dL_tellsOne_216 ⟨Nat.le_of_ble_eq_true rfl, Nat.le_of_ble_eq_true rfl⟩) (fun r u H locs hp hnz w => ?_)
    obtain ⟨rfl, hSU17⟩ := hp
    obtain ⟨U17, hUU17⟩ : ∃ U17, U17 = u := ⟨_, rfl⟩
    rw [← hUU17] at w hnz hSU17
    try dsimp only at w
    have hnU17 : sz ≤ U17.2 := Nat.le_trans hnU16 hnz
    obtain ⟨vU17, mlU17, nU17, hoU17⟩ := hSU17.o
    have hq10 := (hE.2.2.2.2.2.2.1 lwT_10 lwT_m10).1
    refine va_ldcS hx hb (own := RL) S.2.2.2.1 hq10 dL_tellsOne_219 ?_
    show W p l e _ s m _ below meth c _ _ _ _ _ (F0 m 221 ls [.ref (κ 40), .ref sz, .int 0, .int 1, .int (nI (j / 6 % 4)), .int (nI (j % 6)), .ref (x.f .ho)])
    refine g_callq w (g_runV (As := [.ref (κ 40)]) (rest := [.int 0, .int 1, .int (nI (j / 6 % 4)), .int (nI (j % 6)), .ref (x.f .ho)]) S hE w hl (b_app l D ar κ U17.1 U17.2 sz (κ 40) (κ 41) lwT_10.2.2.2.2 (ov κ ar x Z G) ((((([] : List Int32) ++ lwT_8.2.2.2.2) ++ [nI (48 + (j / 24 % 5))]) ++ lwT_9.2.2.2.2) ++ [nI (48 + (j / 6 % 4))]) hSU17 (fun _ => TX.lit lwT_m10) (lwT_asc lwT_m10) (Nat.le_of_ble_eq_true rfl)) (k_RL_191 S.2.2.2.2 ⟨Nat.le_of_ble_eq_true rfl, Nat.le_of_ble_eq_true rfl⟩) hoU17 rfl rfl rfl rfl (Nat.le_of_ble_eq_true rfl) dL_tellsOne_221 ⟨Nat.le_of_ble_eq_true rfl, Nat.le_of_ble_eq_true rfl⟩) (fun r u H locs hp hnz w => ?_)
    obtain ⟨rfl, hSU18⟩ := hp
    obtain ⟨U18, hUU18⟩ : ∃ U18, U18 = u := ⟨_, rfl⟩
    rw [← hUU18] at w hnz hSU18
    try dsimp only at w
    have hnU18 : sz ≤ U18.2 := Nat.le_trans hnU17 hnz
    obtain ⟨vU18, mlU18, nU18, hoU18⟩ := hSU18.o
    refine g_callq w (g_runV (As := []) (rest := [.int 0, .int 1, .int (nI (j / 6 % 4)), .int (nI (j % 6)), .ref (x.f .ho)]) S hE w hl (b_str l D ar κ U18.1 U18.2 sz (ov κ ar x Z G) (((((([] : List Int32) ++ lwT_8.2.2.2.2) ++ [nI (48 + (j / 24 % 5))]) ++ lwT_9.2.2.2.2) ++ [nI (48 + (j / 6 % 4))]) ++ lwT_10.2.2.2.2) hSU18) (k_RL_200 S.2.2.2.2 ⟨Nat.le_of_ble_eq_true rfl, Nat.le_of_ble_eq_true rfl⟩) hoU18 rfl rfl rfl rfl (Nat.le_of_ble_eq_true rfl) dL_tellsOne_224 ⟨Nat.le_of_ble_eq_true rfl, Nat.le_of_ble_eq_true rfl⟩) (fun r u H locs hp hnz w => ?_)
    obtain ⟨a9, v9, rfl, htx, hg9⟩ := hp
    obtain ⟨U19, hUU19⟩ : ∃ U19, U19 = u := ⟨_, rfl⟩
    rw [← hUU19] at w hnz htx hg9
    try dsimp only at w
    have hnU19 : sz ≤ U19.2 := Nat.le_trans hnU18 hnz
    have w := g_eqw w (ov_ge hg9)
    have ht9 := tx_eq (ov_ge hg9) htx
    refine g_calll w (g_runS (As := [.ref (x.f .ho), .int (nI (j % 6)), .int (nI (j / 6 % 4)), .int 1, .int 0, .ref a9]) (rest := []) S hE w hl (hL_tells l D ar κ U19.1 x Z U19.2 (nI (j % 6)) (nI (j / 6 % 4)) 1 0 a9 v9 (((((([] : List Int32) ++ lwT_8.2.2.2.2) ++ [nI (48 + (j / 24 % 5))]) ++ lwT_9.2.2.2.2) ++ [nI (48 + (j / 6 % 4))]) ++ lwT_10.2.2.2.2) [(nI 97, [nI (48 + 0)], none), (nI 121, [nI (48 + 4)], none), (nI 110, [nI (48 + (j / 24 % 5))], none), (nI 114, [], none), (nI 115, [], none), (nI 97, [nI (48 + 0)], none), (nI 110, [nI (48 + 1)], none), (nI 45, [], none), (nI 109, [nI (48 + (j / 6 % 4))], some [nI (48 + 1)]), (nI 97, [nI (48 + 0)], none), (nI 43, [], none), (nI 114, [], none)] hk hlt ht9 (by rfl) (Nat.le_of_ble_eq_true rfl) (Nat.le_of_ble_eq_true rfl) (tgC (tg1 97 0 (by decide) (by decide)) (tgC (tg1 121 4 (by decide) (by decide)) (tgC (tg1 110 (j / 24 % 5) (by decide) (by omega)) (tgC (tg0 114 (by decide)) (tgC (tg0 115 (by decide)) (tgC (tg1 97 0 (by decide) (by decide)) (tgC (tg1 110 1 (by decide) (by decide)) (tgC (tg0 45 (by decide)) (tgC (tg3 109 (j / 6 % 4) 1 (by decide) (by omega) (by decide)) (tgC (tg1 97 0 (by decide) (by decide)) (tgC (tg0 43 (by decide)) (tgC (tg0 114 (by decide)) tgN)))))))))))) (Nat.le_of_ble_eq_true rfl)) (k_RL_204 S.2.2.2.2 ⟨Nat.le_of_ble_eq_true rfl, Nat.le_of_ble_eq_true rfl⟩) rfl rfl (Nat.le_of_ble_eq_true rfl) dL_tellsOne_227 ⟨Nat.le_of_ble_eq_true rfl, Nat.le_of_ble_eq_true rfl⟩) (fun r u H locs hp hnz w => ?_)
    obtain ⟨y9, T9, G9, e9, hu9, hk9, by9, gl9⟩ := hp
    obtain ⟨v9, m9⟩ := u
    dsimp only at hu9 w hnz
    subst hu9
    refine lv_pop2_2 hx hb dL_tellsOne_230 rfl ?_
    refine lv_goto (tgt := 576) hx hb dL_tellsOne_231 (by decide) ?_
    exact g_vret hx hb hr hlk w (Nat.le_of_ble_eq_true rfl) (Nat.le_of_ble_eq_true rfl) dL_tellsOne_576 ⟨y9, T9, G9, (by unfold tlS tlT; rw [← hw9]; exact congrArg Prod.snd e9), rfl, hk9, BY.tr BY.r by9 hnU19, (gLv.o hg9).t gl9⟩
  · refine lv_tableIn (off := 189) (tgt := 234) hx hb dL_tellsOne_45 (by decide) (by decide) (by decide) (by decide) ?_
    refine lv_aload_n hx hb dL_tellsOne_234 rfl (lv_at hl 5 rfl) ?_
    refine lv_iload_n hx hb dL_tellsOne_235 rfl (lv_at hl 4 rfl) ?_
    refine lv_iload_n hx hb dL_tellsOne_236 rfl (lv_at hl 3 rfl) ?_
    refine lv_iconst (v := 1) hx hb dL_tellsOne_237 (by decide) ?_
    refine lv_iconst (v := 1) hx hb dL_tellsOne_238 (by decide) ?_
    have hq11 := (hE.2.2.2.2.2.2.1 lwT_11 lwT_m11).1
    refine va_ldcS hx hb (own := RL) S.2.2.2.1 hq11 dL_tellsOne_239 ?_
    show W p l e _ s m _ below meth c _ _ _ _ _ (F0 m 241 ls [.ref (κ 42), .int 1, .int 1, .int (nI (j / 6 % 4)), .int (nI (j % 6)), .ref (x.f .ho)])
    refine g_calll w (g_runS (As := [.ref (x.f .ho), .int (nI (j % 6)), .int (nI (j / 6 % 4)), .int 1, .int 1, .ref (κ 42)]) (rest := []) S hE w hl (hL_tells l D ar κ G x Z sz (nI (j % 6)) (nI (j / 6 % 4)) 1 1 (κ 42) (κ 43) lwT_11.2.2.2.2 [(nI 110, [nI (48 + 0)], none), (nI 84, [nI (48 + 0)], none), (nI 97, [nI (48 + 0)], none), (nI 110, [nI (48 + 2)], none), (nI 60, [], none), (nI 121, [nI (48 + 1), nI (48 + 1)], none), (nI 116, [nI (48 + 0)], none), (nI 97, [nI (48 + 0)], none), (nI 43, [], none), (nI 84, [nI (48 + 0)], none), (nI 106, [nI (48 + 1), nI (48 + 2)], none), (nI 114, [], none), (nI 116, [nI (48 + 0)], none), (nI 114, [], none)] hk hlt (TX.lit lwT_m11) (by rfl) (Nat.le_of_ble_eq_true rfl) (Nat.le_of_ble_eq_true rfl) (tgC (tg1 110 0 (by decide) (by decide)) (tgC (tg1 84 0 (by decide) (by decide)) (tgC (tg1 97 0 (by decide) (by decide)) (tgC (tg1 110 2 (by decide) (by decide)) (tgC (tg0 60 (by decide)) (tgC (tg2 121 1 1 (by decide) (by decide) (by decide)) (tgC (tg1 116 0 (by decide) (by decide)) (tgC (tg1 97 0 (by decide) (by decide)) (tgC (tg0 43 (by decide)) (tgC (tg1 84 0 (by decide) (by decide)) (tgC (tg2 106 1 2 (by decide) (by decide) (by decide)) (tgC (tg0 114 (by decide)) (tgC (tg1 116 0 (by decide) (by decide)) (tgC (tg0 114 (by decide)) tgN)))))))))))))) (Nat.le_of_ble_eq_true rfl)) (k_RL_204 S.2.2.2.2 ⟨Nat.le_of_ble_eq_true rfl, Nat.le_of_ble_eq_true rfl⟩) rfl rfl (Nat.le_of_ble_eq_true rfl) dL_tellsOne_241 ⟨Nat.le_of_ble_eq_true rfl, Nat.le_of_ble_eq_true rfl⟩) (fun r u H locs hp hnz w => ?_)
    obtain ⟨y9, T9, G9, e9, hu9, hk9, by9, gl9⟩ := hp
    obtain ⟨v9, m9⟩ := u
    dsimp only at hu9 w hnz
    subst hu9
    refine lv_pop2_2 hx hb dL_tellsOne_244 rfl ?_
    refine lv_goto (tgt := 576) hx hb dL_tellsOne_245 (by decide) ?_
    exact g_vret hx hb hr hlk w (Nat.le_of_ble_eq_true rfl) (Nat.le_of_ble_eq_true rfl) dL_tellsOne_576 ⟨y9, T9, G9, (by unfold tlS tlT; rw [← hw9]; exact congrArg Prod.snd e9), rfl, hk9, by9, gl9⟩
  · refine lv_tableIn (off := 203) (tgt := 248) hx hb dL_tellsOne_45 (by decide) (by decide) (by decide) (by decide) ?_
    refine lv_aload_n hx hb dL_tellsOne_248 rfl (lv_at hl 5 rfl) ?_
    refine lv_iload_n hx hb dL_tellsOne_249 rfl (lv_at hl 4 rfl) ?_
    refine lv_iload_n hx hb dL_tellsOne_250 rfl (lv_at hl 3 rfl) ?_
    refine lv_iconst (v := 0) hx hb dL_tellsOne_251 (by decide) ?_
    refine lv_iconst (v := 1) hx hb dL_tellsOne_252 (by decide) ?_
    refine nw_RL_186 S hE w (Nat.le_of_ble_eq_true rfl) (Nat.le_of_ble_eq_true rfl) dL_tellsOne_253 (fun H w => ?_)
    refine lv_dup hx hb dL_tellsOne_256 rfl ?_
    refine g_callv w (g_runI (As := []) (rest := [.ref sz, .int 1, .int 0, .int (nI (j / 6 % 4)), .int (nI (j % 6)), .ref (x.f .ho)]) S hE w hl (j_SBinit l D ar κ (g_up (ov κ ar x Z G) sz (.inr (1, [.null, .int 0, .int 0, .int 0]))) (sz + 1) sz g_up_s) (k_RL_188 S.2.2.2.2 ⟨Nat.le_of_ble_eq_true rfl, Nat.le_of_ble_eq_true rfl⟩) rfl rfl (Nat.le_of_ble_eq_true rfl) dL_tellsOne_257 ⟨Nat.le_of_ble_eq_true rfl, Nat.le_of_ble_eq_true rfl⟩) (fun u H locs hp hnz w => ?_)
    obtain rfl := hp
    try dsimp only at w
    have w := g_eqw w (g_inn g_over (by omega))
    obtain ⟨U20, hUU20⟩ : ∃ U20 : gW × Nat, U20 = ((g_up (g_up (ov κ ar x Z G) sz (.inr (1, [.ref (sz + 1), .int 0, .int 0, .int 0]))) (sz + 1) (.inl (ar 4, 16, .inl (fun _ => 0)))), sz + 2) := ⟨_, rfl⟩
    have hSU20 : SbT ar κ (ov κ ar x Z G) U20.1 sz [] := by rw [hUU20]; exact SbT.new (hfr _ (Nat.le_refl _)) (hfr _ (Nat.le_succ _))
    have hnU20 : sz ≤ U20.2 := by rw [hUU20]; exact Nat.le_add_right _ _
    have w := g_eqw2 w hUU20.symm
    obtain ⟨vU20, mlU20, nU20, hoU20⟩ := hSU20.o
    have hq0 := (hE.2.2.2.2.2.2.1 lwT_0 lwT_m0).1
    refine va_ldcS hx hb (own := RL) S.2.2.2.1 hq0 dL_tellsOne_260 ?_
    show W p l e _ s m _ below meth c _ _ _ _ _ (F0 m 262 ls [.ref (κ 20), .ref sz, .int 1, .int 0, .int (nI (j / 6 % 4)), .int (nI (j % 6)), .ref (x.f .ho)])
    refine g_callq w (g_runV (As := [.ref (κ 20)]) (rest := [.int 1, .int 0, .int (nI (j / 6 % 4)), .int (nI (j % 6)), .ref (x.f .ho)]) S hE w hl (b_app l D ar κ U20.1 U20.2 sz (κ 20) (κ 21) lwT_0.2.2.2.2 (ov κ ar x Z G) ([] : List Int32) hSU20 (fun _ => TX.lit lwT_m0) (lwT_asc lwT_m0) (Nat.le_of_ble_eq_true rfl)) (k_RL_191 S.2.2.2.2 ⟨Nat.le_of_ble_eq_true rfl, Nat.le_of_ble_eq_true rfl⟩) hoU20 rfl rfl rfl rfl (Nat.le_of_ble_eq_true rfl) dL_tellsOne_262 ⟨Nat.le_of_ble_eq_true rfl, Nat.le_of_ble_eq_true rfl⟩) (fun r u H locs hp hnz w => ?_)
    obtain ⟨rfl, hSU21⟩ := hp
    obtain ⟨U21, hUU21⟩ : ∃ U21, U21 = u := ⟨_, rfl⟩
    rw [← hUU21] at w hnz hSU21
    try dsimp only at w
    have hnU21 : sz ≤ U21.2 := Nat.le_trans hnU20 hnz
    obtain ⟨vU21, mlU21, nU21, hoU21⟩ := hSU21.o
    refine lv_iload hx hb dL_tellsOne_265 (lv_at hl 2 rfl) ?_
    refine g_callq w (g_runV (As := [.int (nI (j / 24 % 5))]) (rest := [.int 1, .int 0, .int (nI (j / 6 % 4)), .int (nI (j % 6)), .ref (x.f .ho)]) S hE w hl (b_appI l D ar κ U21.1 U21.2 sz (j / 24 % 5) (ov κ ar x Z G) (([] : List Int32) ++ lwT_0.2.2.2.2) hSU21 (by omega) (Nat.le_of_ble_eq_true rfl)) (k_RL_195 S.2.2.2.2 ⟨Nat.le_of_ble_eq_true rfl, Nat.le_of_ble_eq_true rfl⟩) hoU21 rfl rfl rfl rfl (Nat.le_of_ble_eq_true rfl) dL_tellsOne_267 ⟨Nat.le_of_ble_eq_true rfl, Nat.le_of_ble_eq_true rfl⟩) (fun r u H locs hp hnz w => ?_)
    obtain ⟨rfl, hSU22⟩ := hp
    obtain ⟨U22, hUU22⟩ : ∃ U22, U22 = u := ⟨_, rfl⟩
    rw [← hUU22] at w hnz hSU22
    try dsimp only at w
    have hnU22 : sz ≤ U22.2 := Nat.le_trans hnU21 hnz
    obtain ⟨vU22, mlU22, nU22, hoU22⟩ := hSU22.o
    have hq12 := (hE.2.2.2.2.2.2.1 lwT_12 lwT_m12).1
    refine va_ldcS hx hb (own := RL) S.2.2.2.1 hq12 dL_tellsOne_270 ?_
    show W p l e _ s m _ below meth c _ _ _ _ _ (F0 m 272 ls [.ref (κ 44), .ref sz, .int 1, .int 0, .int (nI (j / 6 % 4)), .int (nI (j % 6)), .ref (x.f .ho)])
    refine g_callq w (g_runV (As := [.ref (κ 44)]) (rest := [.int 1, .int 0, .int (nI (j / 6 % 4)), .int (nI (j % 6)), .ref (x.f .ho)]) S hE w hl (b_app l D ar κ U22.1 U22.2 sz (κ 44) (κ 45) lwT_12.2.2.2.2 (ov κ ar x Z G) ((([] : List Int32) ++ lwT_0.2.2.2.2) ++ [nI (48 + (j / 24 % 5))]) hSU22 (fun _ => TX.lit lwT_m12) (lwT_asc lwT_m12) (Nat.le_of_ble_eq_true rfl)) (k_RL_191 S.2.2.2.2 ⟨Nat.le_of_ble_eq_true rfl, Nat.le_of_ble_eq_true rfl⟩) hoU22 rfl rfl rfl rfl (Nat.le_of_ble_eq_true rfl) dL_tellsOne_272 ⟨Nat.le_of_ble_eq_true rfl, Nat.le_of_ble_eq_true rfl⟩) (fun r u H locs hp hnz w => ?_)
    obtain ⟨rfl, hSU23⟩ := hp
    obtain ⟨U23, hUU23⟩ : ∃ U23, U23 = u := ⟨_, rfl⟩
    rw [← hUU23] at w hnz hSU23
    try dsimp only at w
    have hnU23 : sz ≤ U23.2 := Nat.le_trans hnU22 hnz
    obtain ⟨vU23, mlU23, nU23, hoU23⟩ := hSU23.o
    refine lv_iload hx hb dL_tellsOne_275 (lv_at hl 0 rfl) ?_
    refine g_callq w (g_runV (As := [.int (nI (j / 480 % 4))]) (rest := [.int 1, .int 0, .int (nI (j / 6 % 4)), .int (nI (j % 6)), .ref (x.f .ho)]) S hE w hl (b_appI l D ar κ U23.1 U23.2 sz (j / 480 % 4) (ov κ ar x Z G) (((([] : List Int32) ++ lwT_0.2.2.2.2) ++ [nI (48 + (j / 24 % 5))]) ++ lwT_12.2.2.2.2) hSU23 (by omega) (Nat.le_of_ble_eq_true rfl)) (k_RL_195 S.2.2.2.2 ⟨Nat.le_of_ble_eq_true rfl, Nat.le_of_ble_eq_true rfl⟩) hoU23 rfl rfl rfl rfl (Nat.le_of_ble_eq_true rfl) dL_tellsOne_277 ⟨Nat.le_of_ble_eq_true rfl, Nat.le_of_ble_eq_true rfl⟩) (fun r u H locs hp hnz w => ?_)
    obtain ⟨rfl, hSU24⟩ := hp
    obtain ⟨U24, hUU24⟩ : ∃ U24, U24 = u := ⟨_, rfl⟩
    rw [← hUU24] at w hnz hSU24
    try dsimp only at w
    have hnU24 : sz ≤ U24.2 := Nat.le_trans hnU23 hnz
    obtain ⟨vU24, mlU24, nU24, hoU24⟩ := hSU24.o
    have hq13 := (hE.2.2.2.2.2.2.1 lwT_13 lwT_m13).1
    refine va_ldcS hx hb (own := RL) S.2.2.2.1 hq13 dL_tellsOne_280 ?_
    show W p l e _ s m _ below meth c _ _ _ _ _ (F0 m 282 ls [.ref (κ 46), .ref sz, .int 1, .int 0, .int (nI (j / 6 % 4)), .int (nI (j % 6)), .ref (x.f .ho)])
    refine g_callq w (g_runV (As := [.ref (κ 46)]) (rest := [.int 1, .int 0, .int (nI (j / 6 % 4)), .int (nI (j % 6)), .ref (x.f .ho)]) S hE w hl (b_app l D ar κ U24.1 U24.2 sz (κ 46) (κ 47) lwT_13.2.2.2.2 (ov κ ar x Z G) ((((([] : List Int32) ++ lwT_0.2.2.2.2) ++ [nI (48 + (j / 24 % 5))]) ++ lwT_12.2.2.2.2) ++ [nI (48 + (j / 480 % 4))]) hSU24 (fun _ => TX.lit lwT_m13) (lwT_asc lwT_m13) (Nat.le_of_ble_eq_true rfl)) (k_RL_191 S.2.2.2.2 ⟨Nat.le_of_ble_eq_true rfl, Nat.le_of_ble_eq_true rfl⟩) hoU24 rfl rfl rfl rfl (Nat.le_of_ble_eq_true rfl) dL_tellsOne_282 ⟨Nat.le_of_ble_eq_true rfl, Nat.le_of_ble_eq_true rfl⟩) (fun r u H locs hp hnz w => ?_)
    obtain ⟨rfl, hSU25⟩ := hp
    obtain ⟨U25, hUU25⟩ : ∃ U25, U25 = u := ⟨_, rfl⟩
    rw [← hUU25] at w hnz hSU25
    try dsimp only at w
    have hnU25 : sz ≤ U25.2 := Nat.le_trans hnU24 hnz
    obtain ⟨vU25, mlU25, nU25, hoU25⟩ := hSU25.o
    refine g_callq w (g_runV (As := []) (rest := [.int 1, .int 0, .int (nI (j / 6 % 4)), .int (nI (j % 6)), .ref (x.f .ho)]) S hE w hl (b_str l D ar κ U25.1 U25.2 sz (ov κ ar x Z G) (((((([] : List Int32) ++ lwT_0.2.2.2.2) ++ [nI (48 + (j / 24 % 5))]) ++ lwT_12.2.2.2.2) ++ [nI (48 + (j / 480 % 4))]) ++ lwT_13.2.2.2.2) hSU25) (k_RL_200 S.2.2.2.2 ⟨Nat.le_of_ble_eq_true rfl, Nat.le_of_ble_eq_true rfl⟩) hoU25 rfl rfl rfl rfl (Nat.le_of_ble_eq_true rfl) dL_tellsOne_285 ⟨Nat.le_of_ble_eq_true rfl, Nat.le_of_ble_eq_true rfl⟩) (fun r u H locs hp hnz w => ?_)
    obtain ⟨a9, v9, rfl, htx, hg9⟩ := hp
    obtain ⟨U26, hUU26⟩ : ∃ U26, U26 = u := ⟨_, rfl⟩
    rw [← hUU26] at w hnz htx hg9
    try dsimp only at w
    have hnU26 : sz ≤ U26.2 := Nat.le_trans hnU25 hnz
    have w := g_eqw w (ov_ge hg9)
    have ht9 := tx_eq (ov_ge hg9) htx
    refine g_calll w (g_runS (As := [.ref (x.f .ho), .int (nI (j % 6)), .int (nI (j / 6 % 4)), .int 0, .int 1, .ref a9]) (rest := []) S hE w hl (hL_tells l D ar κ U26.1 x Z U26.2 (nI (j % 6)) (nI (j / 6 % 4)) 0 1 a9 v9 (((((([] : List Int32) ++ lwT_0.2.2.2.2) ++ [nI (48 + (j / 24 % 5))]) ++ lwT_12.2.2.2.2) ++ [nI (48 + (j / 480 % 4))]) ++ lwT_13.2.2.2.2) [(nI 110, [nI (48 + (j / 24 % 5))], none), (nI 84, [nI (48 + 0)], none), (nI 103, [nI (48 + (j / 480 % 4))], none), (nI 119, [], none), (nI 116, [nI (48 + 0)], none), (nI 110, [nI (48 + 1)], none), (nI 45, [], none), (nI 100, [], none), (nI 84, [nI (48 + 0)], none), (nI 121, [nI (48 + 2)], none), (nI 116, [nI (48 + 0)], none), (nI 114, [], none)] hk hlt ht9 (by rfl) (Nat.le_of_ble_eq_true rfl) (Nat.le_of_ble_eq_true rfl) (tgC (tg1 110 (j / 24 % 5) (by decide) (by omega)) (tgC (tg1 84 0 (by decide) (by decide)) (tgC (tg1 103 (j / 480 % 4) (by decide) (by omega)) (tgC (tg0 119 (by decide)) (tgC (tg1 116 0 (by decide) (by decide)) (tgC (tg1 110 1 (by decide) (by decide)) (tgC (tg0 45 (by decide)) (tgC (tg0 100 (by decide)) (tgC (tg1 84 0 (by decide) (by decide)) (tgC (tg1 121 2 (by decide) (by decide)) (tgC (tg1 116 0 (by decide) (by decide)) (tgC (tg0 114 (by decide)) tgN)))))))))))) (Nat.le_of_ble_eq_true rfl)) (k_RL_204 S.2.2.2.2 ⟨Nat.le_of_ble_eq_true rfl, Nat.le_of_ble_eq_true rfl⟩) rfl rfl (Nat.le_of_ble_eq_true rfl) dL_tellsOne_288 ⟨Nat.le_of_ble_eq_true rfl, Nat.le_of_ble_eq_true rfl⟩) (fun r u H locs hp hnz w => ?_)
    obtain ⟨y9, T9, G9, e9, hu9, hk9, by9, gl9⟩ := hp
    obtain ⟨v9, m9⟩ := u
    dsimp only at hu9 w hnz
    subst hu9
    refine lv_pop2_2 hx hb dL_tellsOne_291 rfl ?_
    refine lv_goto (tgt := 576) hx hb dL_tellsOne_292 (by decide) ?_
    exact g_vret hx hb hr hlk w (Nat.le_of_ble_eq_true rfl) (Nat.le_of_ble_eq_true rfl) dL_tellsOne_576 ⟨y9, T9, G9, (by unfold tlS tlT; rw [← hw9]; exact congrArg Prod.snd e9), rfl, hk9, BY.tr BY.r by9 hnU26, (gLv.o hg9).t gl9⟩
  · refine lv_tableIn (off := 250) (tgt := 295) hx hb dL_tellsOne_45 (by decide) (by decide) (by decide) (by decide) ?_
    refine lv_aload_n hx hb dL_tellsOne_295 rfl (lv_at hl 5 rfl) ?_
    refine lv_iload_n hx hb dL_tellsOne_296 rfl (lv_at hl 4 rfl) ?_
    refine lv_iload_n hx hb dL_tellsOne_297 rfl (lv_at hl 3 rfl) ?_
    refine lv_iconst (v := 0) hx hb dL_tellsOne_298 (by decide) ?_
    refine lv_iconst (v := 0) hx hb dL_tellsOne_299 (by decide) ?_
    refine nw_RL_186 S hE w (Nat.le_of_ble_eq_true rfl) (Nat.le_of_ble_eq_true rfl) dL_tellsOne_300 (fun H w => ?_)
    refine lv_dup hx hb dL_tellsOne_303 rfl ?_
    refine g_callv w (g_runI (As := []) (rest := [.ref sz, .int 0, .int 0, .int (nI (j / 6 % 4)), .int (nI (j % 6)), .ref (x.f .ho)]) S hE w hl (j_SBinit l D ar κ (g_up (ov κ ar x Z G) sz (.inr (1, [.null, .int 0, .int 0, .int 0]))) (sz + 1) sz g_up_s) (k_RL_188 S.2.2.2.2 ⟨Nat.le_of_ble_eq_true rfl, Nat.le_of_ble_eq_true rfl⟩) rfl rfl (Nat.le_of_ble_eq_true rfl) dL_tellsOne_304 ⟨Nat.le_of_ble_eq_true rfl, Nat.le_of_ble_eq_true rfl⟩) (fun u H locs hp hnz w => ?_)
    obtain rfl := hp
    try dsimp only at w
    have w := g_eqw w (g_inn g_over (by omega))
    obtain ⟨U27, hUU27⟩ : ∃ U27 : gW × Nat, U27 = ((g_up (g_up (ov κ ar x Z G) sz (.inr (1, [.ref (sz + 1), .int 0, .int 0, .int 0]))) (sz + 1) (.inl (ar 4, 16, .inl (fun _ => 0)))), sz + 2) := ⟨_, rfl⟩
    have hSU27 : SbT ar κ (ov κ ar x Z G) U27.1 sz [] := by rw [hUU27]; exact SbT.new (hfr _ (Nat.le_refl _)) (hfr _ (Nat.le_succ _))
    have hnU27 : sz ≤ U27.2 := by rw [hUU27]; exact Nat.le_add_right _ _
    have w := g_eqw2 w hUU27.symm
    obtain ⟨vU27, mlU27, nU27, hoU27⟩ := hSU27.o
    have hq14 := (hE.2.2.2.2.2.2.1 lwT_14 lwT_m14).1
    refine va_ldcS hx hb (own := RL) S.2.2.2.1 hq14 dL_tellsOne_307 ?_
    show W p l e _ s m _ below meth c _ _ _ _ _ (F0 m 309 ls [.ref (κ 48), .ref sz, .int 0, .int 0, .int (nI (j / 6 % 4)), .int (nI (j % 6)), .ref (x.f .ho)])
    refine g_callq w (g_runV (As := [.ref (κ 48)]) (rest := [.int 0, .int 0, .int (nI (j / 6 % 4)), .int (nI (j % 6)), .ref (x.f .ho)]) S hE w hl (b_app l D ar κ U27.1 U27.2 sz (κ 48) (κ 49) lwT_14.2.2.2.2 (ov κ ar x Z G) ([] : List Int32) hSU27 (fun _ => TX.lit lwT_m14) (lwT_asc lwT_m14) (Nat.le_of_ble_eq_true rfl)) (k_RL_191 S.2.2.2.2 ⟨Nat.le_of_ble_eq_true rfl, Nat.le_of_ble_eq_true rfl⟩) hoU27 rfl rfl rfl rfl (Nat.le_of_ble_eq_true rfl) dL_tellsOne_309 ⟨Nat.le_of_ble_eq_true rfl, Nat.le_of_ble_eq_true rfl⟩) (fun r u H locs hp hnz w => ?_)
    obtain ⟨rfl, hSU28⟩ := hp
    obtain ⟨U28, hUU28⟩ : ∃ U28, U28 = u := ⟨_, rfl⟩
    rw [← hUU28] at w hnz hSU28
    try dsimp only at w
    have hnU28 : sz ≤ U28.2 := Nat.le_trans hnU27 hnz
    obtain ⟨vU28, mlU28, nU28, hoU28⟩ := hSU28.o
    refine lv_iload hx hb dL_tellsOne_312 (lv_at hl 0 rfl) ?_
    refine g_callq w (g_runV (As := [.int (nI (j / 480 % 4))]) (rest := [.int 0, .int 0, .int (nI (j / 6 % 4)), .int (nI (j % 6)), .ref (x.f .ho)]) S hE w hl (b_appI l D ar κ U28.1 U28.2 sz (j / 480 % 4) (ov κ ar x Z G) (([] : List Int32) ++ lwT_14.2.2.2.2) hSU28 (by omega) (Nat.le_of_ble_eq_true rfl)) (k_RL_195 S.2.2.2.2 ⟨Nat.le_of_ble_eq_true rfl, Nat.le_of_ble_eq_true rfl⟩) hoU28 rfl rfl rfl rfl (Nat.le_of_ble_eq_true rfl) dL_tellsOne_314 ⟨Nat.le_of_ble_eq_true rfl, Nat.le_of_ble_eq_true rfl⟩) (fun r u H locs hp hnz w => ?_)
    obtain ⟨rfl, hSU29⟩ := hp
    obtain ⟨U29, hUU29⟩ : ∃ U29, U29 = u := ⟨_, rfl⟩
    rw [← hUU29] at w hnz hSU29
    try dsimp only at w
    have hnU29 : sz ≤ U29.2 := Nat.le_trans hnU28 hnz
    obtain ⟨vU29, mlU29, nU29, hoU29⟩ := hSU29.o
    have hq15 := (hE.2.2.2.2.2.2.1 lwT_15 lwT_m15).1
    refine va_ldcS hx hb (own := RL) S.2.2.2.1 hq15 dL_tellsOne_317 ?_
    show W p l e _ s m _ below meth c _ _ _ _ _ (F0 m 319 ls [.ref (κ 50), .ref sz, .int 0, .int 0, .int (nI (j / 6 % 4)), .int (nI (j % 6)), .ref (x.f .ho)])
    refine g_callq w (g_runV (As := [.ref (κ 50)]) (rest := [.int 0, .int 0, .int (nI (j / 6 % 4)), .int (nI (j % 6)), .ref (x.f .ho)]) S hE w hl (b_app l D ar κ U29.1 U29.2 sz (κ 50) (κ 51) lwT_15.2.2.2.2 (ov κ ar x Z G) ((([] : List Int32) ++ lwT_14.2.2.2.2) ++ [nI (48 + (j / 480 % 4))]) hSU29 (fun _ => TX.lit lwT_m15) (lwT_asc lwT_m15) (Nat.le_of_ble_eq_true rfl)) (k_RL_191 S.2.2.2.2 ⟨Nat.le_of_ble_eq_true rfl, Nat.le_of_ble_eq_true rfl⟩) hoU29 rfl rfl rfl rfl (Nat.le_of_ble_eq_true rfl) dL_tellsOne_319 ⟨Nat.le_of_ble_eq_true rfl, Nat.le_of_ble_eq_true rfl⟩) (fun r u H locs hp hnz w => ?_)
    obtain ⟨rfl, hSU30⟩ := hp
    obtain ⟨U30, hUU30⟩ : ∃ U30, U30 = u := ⟨_, rfl⟩
    rw [← hUU30] at w hnz hSU30
    try dsimp only at w
    have hnU30 : sz ≤ U30.2 := Nat.le_trans hnU29 hnz
    obtain ⟨vU30, mlU30, nU30, hoU30⟩ := hSU30.o
    refine lv_iload hx hb dL_tellsOne_322 (lv_at hl 1 rfl) ?_
    refine g_callq w (g_runV (As := [.int (nI (j / 120 % 4))]) (rest := [.int 0, .int 0, .int (nI (j / 6 % 4)), .int (nI (j % 6)), .ref (x.f .ho)]) S hE w hl (b_appI l D ar κ U30.1 U30.2 sz (j / 120 % 4) (ov κ ar x Z G) (((([] : List Int32) ++ lwT_14.2.2.2.2) ++ [nI (48 + (j / 480 % 4))]) ++ lwT_15.2.2.2.2) hSU30 (by omega) (Nat.le_of_ble_eq_true rfl)) (k_RL_195 S.2.2.2.2 ⟨Nat.le_of_ble_eq_true rfl, Nat.le_of_ble_eq_true rfl⟩) hoU30 rfl rfl rfl rfl (Nat.le_of_ble_eq_true rfl) dL_tellsOne_324 ⟨Nat.le_of_ble_eq_true rfl, Nat.le_of_ble_eq_true rfl⟩) (fun r u H locs hp hnz w => ?_)
    obtain ⟨rfl, hSU31⟩ := hp
    obtain ⟨U31, hUU31⟩ : ∃ U31, U31 = u := ⟨_, rfl⟩
    rw [← hUU31] at w hnz hSU31
    try dsimp only at w
    have hnU31 : sz ≤ U31.2 := Nat.le_trans hnU30 hnz
    obtain ⟨vU31, mlU31, nU31, hoU31⟩ := hSU31.o
    have hq16 := (hE.2.2.2.2.2.2.1 lwT_16 lwT_m16).1
    refine va_ldcS hx hb (own := RL) S.2.2.2.1 hq16 dL_tellsOne_327 ?_
    show W p l e _ s m _ below meth c _ _ _ _ _ (F0 m 329 ls [.ref (κ 52), .ref sz, .int 0, .int 0, .int (nI (j / 6 % 4)), .int (nI (j % 6)), .ref (x.f .ho)])
    refine g_callq w (g_runV (As := [.ref (κ 52)]) (rest := [.int 0, .int 0, .int (nI (j / 6 % 4)), .int (nI (j % 6)), .ref (x.f .ho)]) S hE w hl (b_app l D ar κ U31.1 U31.2 sz (κ 52) (κ 53) lwT_16.2.2.2.2 (ov κ ar x Z G) ((((([] : List Int32) ++ lwT_14.2.2.2.2) ++ [nI (48 + (j / 480 % 4))]) ++ lwT_15.2.2.2.2) ++ [nI (48 + (j / 120 % 4))]) hSU31 (fun _ => TX.lit lwT_m16) (lwT_asc lwT_m16) (Nat.le_of_ble_eq_true rfl)) (k_RL_191 S.2.2.2.2 ⟨Nat.le_of_ble_eq_true rfl, Nat.le_of_ble_eq_true rfl⟩) hoU31 rfl rfl rfl rfl (Nat.le_of_ble_eq_true rfl) dL_tellsOne_329 ⟨Nat.le_of_ble_eq_true rfl, Nat.le_of_ble_eq_true rfl⟩) (fun r u H locs hp hnz w => ?_)
    obtain ⟨rfl, hSU32⟩ := hp
    obtain ⟨U32, hUU32⟩ : ∃ U32, U32 = u := ⟨_, rfl⟩
    rw [← hUU32] at w hnz hSU32
    try dsimp only at w
    have hnU32 : sz ≤ U32.2 := Nat.le_trans hnU31 hnz
    obtain ⟨vU32, mlU32, nU32, hoU32⟩ := hSU32.o
    refine lv_iload hx hb dL_tellsOne_332 (lv_at hl 0 rfl) ?_
    refine g_callq w (g_runV (As := [.int (nI (j / 480 % 4))]) (rest := [.int 0, .int 0, .int (nI (j / 6 % 4)), .int (nI (j % 6)), .ref (x.f .ho)]) S hE w hl (b_appI l D ar κ U32.1 U32.2 sz (j / 480 % 4) (ov κ ar x Z G) (((((([] : List Int32) ++ lwT_14.2.2.2.2) ++ [nI (48 + (j / 480 % 4))]) ++ lwT_15.2.2.2.2) ++ [nI (48 + (j / 120 % 4))]) ++ lwT_16.2.2.2.2) hSU32 (by omega) (Nat.le_of_ble_eq_true rfl)) (k_RL_195 S.2.2.2.2 ⟨Nat.le_of_ble_eq_true rfl, Nat.le_of_ble_eq_true rfl⟩) hoU32 rfl rfl rfl rfl (Nat.le_of_ble_eq_true rfl) dL_tellsOne_334 ⟨Nat.le_of_ble_eq_true rfl, Nat.le_of_ble_eq_true rfl⟩) (fun r u H locs hp hnz w => ?_)
    obtain ⟨rfl, hSU33⟩ := hp
    obtain ⟨U33, hUU33⟩ : ∃ U33, U33 = u := ⟨_, rfl⟩
    rw [← hUU33] at w hnz hSU33
    try dsimp only at w
    have hnU33 : sz ≤ U33.2 := Nat.le_trans hnU32 hnz
    obtain ⟨vU33, mlU33, nU33, hoU33⟩ := hSU33.o
    have hq1 := (hE.2.2.2.2.2.2.1 lwT_1 lwT_m1).1
    refine va_ldcS hx hb (own := RL) S.2.2.2.1 hq1 dL_tellsOne_337 ?_
    show W p l e _ s m _ below meth c _ _ _ _ _ (F0 m 339 ls [.ref (κ 22), .ref sz, .int 0, .int 0, .int (nI (j / 6 % 4)), .int (nI (j % 6)), .ref (x.f .ho)])
    refine g_callq w (g_runV (As := [.ref (κ 22)]) (rest := [.int 0, .int 0, .int (nI (j / 6 % 4)), .int (nI (j % 6)), .ref (x.f .ho)]) S hE w hl (b_app l D ar κ U33.1 U33.2 sz (κ 22) (κ 23) lwT_1.2.2.2.2 (ov κ ar x Z G) ((((((([] : List Int32) ++ lwT_14.2.2.2.2) ++ [nI (48 + (j / 480 % 4))]) ++ lwT_15.2.2.2.2) ++ [nI (48 + (j / 120 % 4))]) ++ lwT_16.2.2.2.2) ++ [nI (48 + (j / 480 % 4))]) hSU33 (fun _ => TX.lit lwT_m1) (lwT_asc lwT_m1) (Nat.le_of_ble_eq_true rfl)) (k_RL_191 S.2.2.2.2 ⟨Nat.le_of_ble_eq_true rfl, Nat.le_of_ble_eq_true rfl⟩) hoU33 rfl rfl rfl rfl (Nat.le_of_ble_eq_true rfl) dL_tellsOne_339 ⟨Nat.le_of_ble_eq_true rfl, Nat.le_of_ble_eq_true rfl⟩) (fun r u H locs hp hnz w => ?_)
    obtain ⟨rfl, hSU34⟩ := hp
    obtain ⟨U34, hUU34⟩ : ∃ U34, U34 = u := ⟨_, rfl⟩
    rw [← hUU34] at w hnz hSU34
    try dsimp only at w
    have hnU34 : sz ≤ U34.2 := Nat.le_trans hnU33 hnz
    obtain ⟨vU34, mlU34, nU34, hoU34⟩ := hSU34.o
    refine g_callq w (g_runV (As := []) (rest := [.int 0, .int 0, .int (nI (j / 6 % 4)), .int (nI (j % 6)), .ref (x.f .ho)]) S hE w hl (b_str l D ar κ U34.1 U34.2 sz (ov κ ar x Z G) (((((((([] : List Int32) ++ lwT_14.2.2.2.2) ++ [nI (48 + (j / 480 % 4))]) ++ lwT_15.2.2.2.2) ++ [nI (48 + (j / 120 % 4))]) ++ lwT_16.2.2.2.2) ++ [nI (48 + (j / 480 % 4))]) ++ lwT_1.2.2.2.2) hSU34) (k_RL_200 S.2.2.2.2 ⟨Nat.le_of_ble_eq_true rfl, Nat.le_of_ble_eq_true rfl⟩) hoU34 rfl rfl rfl rfl (Nat.le_of_ble_eq_true rfl) dL_tellsOne_342 ⟨Nat.le_of_ble_eq_true rfl, Nat.le_of_ble_eq_true rfl⟩) (fun r u H locs hp hnz w => ?_)
    obtain ⟨a9, v9, rfl, htx, hg9⟩ := hp
    obtain ⟨U35, hUU35⟩ : ∃ U35, U35 = u := ⟨_, rfl⟩
    rw [← hUU35] at w hnz htx hg9
    try dsimp only at w
    have hnU35 : sz ≤ U35.2 := Nat.le_trans hnU34 hnz
    have w := g_eqw w (ov_ge hg9)
    have ht9 := tx_eq (ov_ge hg9) htx
    refine g_calll w (g_runS (As := [.ref (x.f .ho), .int (nI (j % 6)), .int (nI (j / 6 % 4)), .int 0, .int 0, .ref a9]) (rest := []) S hE w hl (hL_tells l D ar κ U35.1 x Z U35.2 (nI (j % 6)) (nI (j / 6 % 4)) 0 0 a9 v9 (((((((([] : List Int32) ++ lwT_14.2.2.2.2) ++ [nI (48 + (j / 480 % 4))]) ++ lwT_15.2.2.2.2) ++ [nI (48 + (j / 120 % 4))]) ++ lwT_16.2.2.2.2) ++ [nI (48 + (j / 480 % 4))]) ++ lwT_1.2.2.2.2) [(nI 99, [nI (48 + 3)], none), (nI 100, [], none), (nI 71, [nI (48 + (j / 480 % 4))], none), (nI 109, [nI (48 + (j / 120 % 4))], some [nI (48 + 0)]), (nI 119, [], none), (nI 103, [nI (48 + (j / 480 % 4))], none), (nI 114, [], none)] hk hlt ht9 (by rfl) (Nat.le_of_ble_eq_true rfl) (Nat.le_of_ble_eq_true rfl) (tgC (tg1 99 3 (by decide) (by decide)) (tgC (tg0 100 (by decide)) (tgC (tg1 71 (j / 480 % 4) (by decide) (by omega)) (tgC (tg3 109 (j / 120 % 4) 0 (by decide) (by omega) (by decide)) (tgC (tg0 119 (by decide)) (tgC (tg1 103 (j / 480 % 4) (by decide) (by omega)) (tgC (tg0 114 (by decide)) tgN))))))) (Nat.le_of_ble_eq_true rfl)) (k_RL_204 S.2.2.2.2 ⟨Nat.le_of_ble_eq_true rfl, Nat.le_of_ble_eq_true rfl⟩) rfl rfl (Nat.le_of_ble_eq_true rfl) dL_tellsOne_345 ⟨Nat.le_of_ble_eq_true rfl, Nat.le_of_ble_eq_true rfl⟩) (fun r u H locs hp hnz w => ?_)
    obtain ⟨y9, T9, G9, e9, hu9, hk9, by9, gl9⟩ := hp
    obtain ⟨v9, m9⟩ := u
    dsimp only at hu9 w hnz
    subst hu9
    refine lv_pop2_2 hx hb dL_tellsOne_348 rfl ?_
    refine lv_goto (tgt := 576) hx hb dL_tellsOne_349 (by decide) ?_
    exact g_vret hx hb hr hlk w (Nat.le_of_ble_eq_true rfl) (Nat.le_of_ble_eq_true rfl) dL_tellsOne_576 ⟨y9, T9, G9, (by unfold tlS tlT; rw [← hw9]; exact congrArg Prod.snd e9), rfl, hk9, BY.tr BY.r by9 hnU35, (gLv.o hg9).t gl9⟩
  · refine lv_tableIn (off := 307) (tgt := 352) hx hb dL_tellsOne_45 (by decide) (by decide) (by decide) (by decide) ?_
    refine lv_aload_n hx hb dL_tellsOne_352 rfl (lv_at hl 5 rfl) ?_
    refine lv_iconst (v := 3) hx hb dL_tellsOne_353 (by decide) ?_
    refine lv_iload_n hx hb dL_tellsOne_354 rfl (lv_at hl 4 rfl) ?_
    refine lv_iconst (v := 3) hx hb dL_tellsOne_355 (by decide) ?_
    refine lv_irem hx hb dL_tellsOne_356 (by decide) ?_
    rw [show ((nI (j % 6)) - (nI (j % 6)) / 3 * 3 : Int32) = nI (j % 6 % 3) from nI_rem (m := 3) (by omega) (by decide) (by decide)]
    refine lv_iadd hx hb dL_tellsOne_357 ?_
    rw [show (3 + (nI (j % 6 % 3)) : Int32) = nI (3 + j % 6 % 3) from nI_add 3 _]
    refine lv_iload_n hx hb dL_tellsOne_358 rfl (lv_at hl 3 rfl) ?_
    refine lv_iconst (v := 0) hx hb dL_tellsOne_359 (by decide) ?_
    refine lv_iconst (v := 0) hx hb dL_tellsOne_360 (by decide) ?_
    have hq17 := (hE.2.2.2.2.2.2.1 lwT_17 lwT_m17).1
    refine va_ldcS hx hb (own := RL) S.2.2.2.1 hq17 dL_tellsOne_361 ?_
    show W p l e _ s m _ below meth c _ _ _ _ _ (F0 m 363 ls [.ref (κ 54), .int 0, .int 0, .int (nI (j / 6 % 4)), .int (nI (3 + j % 6 % 3)), .ref (x.f .ho)])
    refine g_calll w (g_runS (As := [.ref (x.f .ho), .int (nI (3 + j % 6 % 3)), .int (nI (j / 6 % 4)), .int 0, .int 0, .ref (κ 54)]) (rest := []) S hE w hl (hL_tells l D ar κ G x Z sz (nI (3 + j % 6 % 3)) (nI (j / 6 % 4)) 0 0 (κ 54) (κ 55) lwT_17.2.2.2.2 [(nI 102, [nI (48 + 0)], none), (nI 119, [], none), (nI 115, [], none), (nI 70, [nI (48 + 0)], none), (nI 99, [nI (48 + 4)], none), (nI 70, [nI (48 + 1)], none), (nI 102, [nI (48 + 1)], none), (nI 114, [], none)] hk hlt (TX.lit lwT_m17) (by rfl) (Nat.le_of_ble_eq_true rfl) (Nat.le_of_ble_eq_true rfl) (tgC (tg1 102 0 (by decide) (by decide)) (tgC (tg0 119 (by decide)) (tgC (tg0 115 (by decide)) (tgC (tg1 70 0 (by decide) (by decide)) (tgC (tg1 99 4 (by decide) (by decide)) (tgC (tg1 70 1 (by decide) (by decide)) (tgC (tg1 102 1 (by decide) (by decide)) (tgC (tg0 114 (by decide)) tgN)))))))) (Nat.le_of_ble_eq_true rfl)) (k_RL_204 S.2.2.2.2 ⟨Nat.le_of_ble_eq_true rfl, Nat.le_of_ble_eq_true rfl⟩) rfl rfl (Nat.le_of_ble_eq_true rfl) dL_tellsOne_363 ⟨Nat.le_of_ble_eq_true rfl, Nat.le_of_ble_eq_true rfl⟩) (fun r u H locs hp hnz w => ?_)
    obtain ⟨y9, T9, G9, e9, hu9, hk9, by9, gl9⟩ := hp
    obtain ⟨v9, m9⟩ := u
    dsimp only at hu9 w hnz
    subst hu9
    refine lv_pop2_2 hx hb dL_tellsOne_366 rfl ?_
    refine lv_goto (tgt := 576) hx hb dL_tellsOne_367 (by decide) ?_
    exact g_vret hx hb hr hlk w (Nat.le_of_ble_eq_true rfl) (Nat.le_of_ble_eq_true rfl) dL_tellsOne_576 ⟨y9, T9, G9, (by unfold tlS tlT; rw [← hw9]; exact congrArg Prod.snd e9), rfl, hk9, by9, gl9⟩
  · refine lv_tableIn (off := 325) (tgt := 370) hx hb dL_tellsOne_45 (by decide) (by decide) (by decide) (by decide) ?_
    refine lv_aload_n hx hb dL_tellsOne_370 rfl (lv_at hl 5 rfl) ?_
    refine lv_iload_n hx hb dL_tellsOne_371 rfl (lv_at hl 4 rfl) ?_
    refine lv_iload_n hx hb dL_tellsOne_372 rfl (lv_at hl 3 rfl) ?_
    refine lv_iconst (v := 1) hx hb dL_tellsOne_373 (by decide) ?_
    refine lv_iconst (v := 0) hx hb dL_tellsOne_374 (by decide) ?_
    refine nw_RL_186 S hE w (Nat.le_of_ble_eq_true rfl) (Nat.le_of_ble_eq_true rfl) dL_tellsOne_375 (fun H w => ?_)
    refine lv_dup hx hb dL_tellsOne_378 rfl ?_
    refine g_callv w (g_runI (As := []) (rest := [.ref sz, .int 0, .int 1, .int (nI (j / 6 % 4)), .int (nI (j % 6)), .ref (x.f .ho)]) S hE w hl (j_SBinit l D ar κ (g_up (ov κ ar x Z G) sz (.inr (1, [.null, .int 0, .int 0, .int 0]))) (sz + 1) sz g_up_s) (k_RL_188 S.2.2.2.2 ⟨Nat.le_of_ble_eq_true rfl, Nat.le_of_ble_eq_true rfl⟩) rfl rfl (Nat.le_of_ble_eq_true rfl) dL_tellsOne_379 ⟨Nat.le_of_ble_eq_true rfl, Nat.le_of_ble_eq_true rfl⟩) (fun u H locs hp hnz w => ?_)
    obtain rfl := hp
    try dsimp only at w
    have w := g_eqw w (g_inn g_over (by omega))
    obtain ⟨U36, hUU36⟩ : ∃ U36 : gW × Nat, U36 = ((g_up (g_up (ov κ ar x Z G) sz (.inr (1, [.ref (sz + 1), .int 0, .int 0, .int 0]))) (sz + 1) (.inl (ar 4, 16, .inl (fun _ => 0)))), sz + 2) := ⟨_, rfl⟩
    have hSU36 : SbT ar κ (ov κ ar x Z G) U36.1 sz [] := by rw [hUU36]; exact SbT.new (hfr _ (Nat.le_refl _)) (hfr _ (Nat.le_succ _))
    have hnU36 : sz ≤ U36.2 := by rw [hUU36]; exact Nat.le_add_right _ _
    have w := g_eqw2 w hUU36.symm
    obtain ⟨vU36, mlU36, nU36, hoU36⟩ := hSU36.o
    have hq18 := (hE.2.2.2.2.2.2.1 lwT_18 lwT_m18).1
    refine va_ldcS hx hb (own := RL) S.2.2.2.1 hq18 dL_tellsOne_382 ?_
    show W p l e _ s m _ below meth c _ _ _ _ _ (F0 m 384 ls [.ref (κ 56), .ref sz, .int 0, .int 1, .int (nI (j / 6 % 4)), .int (nI (j % 6)), .ref (x.f .ho)])
    refine g_callq w (g_runV (As := [.ref (κ 56)]) (rest := [.int 0, .int 1, .int (nI (j / 6 % 4)), .int (nI (j % 6)), .ref (x.f .ho)]) S hE w hl (b_app l D ar κ U36.1 U36.2 sz (κ 56) (κ 57) lwT_18.2.2.2.2 (ov κ ar x Z G) ([] : List Int32) hSU36 (fun _ => TX.lit lwT_m18) (lwT_asc lwT_m18) (Nat.le_of_ble_eq_true rfl)) (k_RL_191 S.2.2.2.2 ⟨Nat.le_of_ble_eq_true rfl, Nat.le_of_ble_eq_true rfl⟩) hoU36 rfl rfl rfl rfl (Nat.le_of_ble_eq_true rfl) dL_tellsOne_384 ⟨Nat.le_of_ble_eq_true rfl, Nat.le_of_ble_eq_true rfl⟩) (fun r u H locs hp hnz w => ?_)
    obtain ⟨rfl, hSU37⟩ := hp
    obtain ⟨U37, hUU37⟩ : ∃ U37, U37 = u := ⟨_, rfl⟩
    rw [← hUU37] at w hnz hSU37
    try dsimp only at w
    have hnU37 : sz ≤ U37.2 := Nat.le_trans hnU36 hnz
    obtain ⟨vU37, mlU37, nU37, hoU37⟩ := hSU37.o
    refine lv_iload hx hb dL_tellsOne_387 (lv_at hl 1 rfl) ?_
    refine g_callq w (g_runV (As := [.int (nI (j / 120 % 4))]) (rest := [.int 0, .int 1, .int (nI (j / 6 % 4)), .int (nI (j % 6)), .ref (x.f .ho)]) S hE w hl (b_appI l D ar κ U37.1 U37.2 sz (j / 120 % 4) (ov κ ar x Z G) (([] : List Int32) ++ lwT_18.2.2.2.2) hSU37 (by omega) (Nat.le_of_ble_eq_true rfl)) (k_RL_195 S.2.2.2.2 ⟨Nat.le_of_ble_eq_true rfl, Nat.le_of_ble_eq_true rfl⟩) hoU37 rfl rfl rfl rfl (Nat.le_of_ble_eq_true rfl) dL_tellsOne_389 ⟨Nat.le_of_ble_eq_true rfl, Nat.le_of_ble_eq_true rfl⟩) (fun r u H locs hp hnz w => ?_)
    obtain ⟨rfl, hSU38⟩ := hp
    obtain ⟨U38, hUU38⟩ : ∃ U38, U38 = u := ⟨_, rfl⟩
    rw [← hUU38] at w hnz hSU38
    try dsimp only at w
    have hnU38 : sz ≤ U38.2 := Nat.le_trans hnU37 hnz
    obtain ⟨vU38, mlU38, nU38, hoU38⟩ := hSU38.o
    have hq19 := (hE.2.2.2.2.2.2.1 lwT_19 lwT_m19).1
    refine va_ldcS hx hb (own := RL) S.2.2.2.1 hq19 dL_tellsOne_392 ?_
    show W p l e _ s m _ below meth c _ _ _ _ _ (F0 m 394 ls [.ref (κ 58), .ref sz, .int 0, .int 1, .int (nI (j / 6 % 4)), .int (nI (j % 6)), .ref (x.f .ho)])
    refine g_callq w (g_runV (As := [.ref (κ 58)]) (rest := [.int 0, .int 1, .int (nI (j / 6 % 4)), .int (nI (j % 6)), .ref (x.f .ho)]) S hE w hl (b_app l D ar κ U38.1 U38.2 sz (κ 58) (κ 59) lwT_19.2.2.2.2 (ov κ ar x Z G) ((([] : List Int32) ++ lwT_18.2.2.2.2) ++ [nI (48 + (j / 120 % 4))]) hSU38 (fun _ => TX.lit lwT_m19) (lwT_asc lwT_m19) (Nat.le_of_ble_eq_true rfl)) (k_RL_191 S.2.2.2.2 ⟨Nat.le_of_ble_eq_true rfl, Nat.le_of_ble_eq_true rfl⟩) hoU38 rfl rfl rfl rfl (Nat.le_of_ble_eq_true rfl) dL_tellsOne_394 ⟨Nat.le_of_ble_eq_true rfl, Nat.le_of_ble_eq_true rfl⟩) (fun r u H locs hp hnz w => ?_)
    obtain ⟨rfl, hSU39⟩ := hp
    obtain ⟨U39, hUU39⟩ : ∃ U39, U39 = u := ⟨_, rfl⟩
    rw [← hUU39] at w hnz hSU39
    try dsimp only at w
    have hnU39 : sz ≤ U39.2 := Nat.le_trans hnU38 hnz
    obtain ⟨vU39, mlU39, nU39, hoU39⟩ := hSU39.o
    refine g_callq w (g_runV (As := []) (rest := [.int 0, .int 1, .int (nI (j / 6 % 4)), .int (nI (j % 6)), .ref (x.f .ho)]) S hE w hl (b_str l D ar κ U39.1 U39.2 sz (ov κ ar x Z G) (((([] : List Int32) ++ lwT_18.2.2.2.2) ++ [nI (48 + (j / 120 % 4))]) ++ lwT_19.2.2.2.2) hSU39) (k_RL_200 S.2.2.2.2 ⟨Nat.le_of_ble_eq_true rfl, Nat.le_of_ble_eq_true rfl⟩) hoU39 rfl rfl rfl rfl (Nat.le_of_ble_eq_true rfl) dL_tellsOne_397 ⟨Nat.le_of_ble_eq_true rfl, Nat.le_of_ble_eq_true rfl⟩) (fun r u H locs hp hnz w => ?_)
    obtain ⟨a9, v9, rfl, htx, hg9⟩ := hp
    obtain ⟨U40, hUU40⟩ : ∃ U40, U40 = u := ⟨_, rfl⟩
    rw [← hUU40] at w hnz htx hg9
    try dsimp only at w
    have hnU40 : sz ≤ U40.2 := Nat.le_trans hnU39 hnz
    have w := g_eqw w (ov_ge hg9)
    have ht9 := tx_eq (ov_ge hg9) htx
    refine g_calll w (g_runS (As := [.ref (x.f .ho), .int (nI (j % 6)), .int (nI (j / 6 % 4)), .int 1, .int 0, .ref a9]) (rest := []) S hE w hl (hL_tells l D ar κ U40.1 x Z U40.2 (nI (j % 6)) (nI (j / 6 % 4)) 1 0 a9 v9 (((([] : List Int32) ++ lwT_18.2.2.2.2) ++ [nI (48 + (j / 120 % 4))]) ++ lwT_19.2.2.2.2) [(nI 97, [nI (48 + 0)], none), (nI 97, [nI (48 + 0)], none), (nI 61, [], none), (nI 121, [nI (48 + 6)], none), (nI 117, [], none), (nI 114, [], none), (nI 115, [], none), (nI 109, [nI (48 + (j / 120 % 4))], some [nI (48 + 0)]), (nI 114, [], none)] hk hlt ht9 (by rfl) (Nat.le_of_ble_eq_true rfl) (Nat.le_of_ble_eq_true rfl) (tgC (tg1 97 0 (by decide) (by decide)) (tgC (tg1 97 0 (by decide) (by decide)) (tgC (tg0 61 (by decide)) (tgC (tg1 121 6 (by decide) (by decide)) (tgC (tg0 117 (by decide)) (tgC (tg0 114 (by decide)) (tgC (tg0 115 (by decide)) (tgC (tg3 109 (j / 120 % 4) 0 (by decide) (by omega) (by decide)) (tgC (tg0 114 (by decide)) tgN))))))))) (Nat.le_of_ble_eq_true rfl)) (k_RL_204 S.2.2.2.2 ⟨Nat.le_of_ble_eq_true rfl, Nat.le_of_ble_eq_true rfl⟩) rfl rfl (Nat.le_of_ble_eq_true rfl) dL_tellsOne_400 ⟨Nat.le_of_ble_eq_true rfl, Nat.le_of_ble_eq_true rfl⟩) (fun r u H locs hp hnz w => ?_)
    obtain ⟨y9, T9, G9, e9, hu9, hk9, by9, gl9⟩ := hp
    obtain ⟨v9, m9⟩ := u
    dsimp only at hu9 w hnz
    subst hu9
    refine lv_pop2_2 hx hb dL_tellsOne_403 rfl ?_
    refine lv_goto (tgt := 576) hx hb dL_tellsOne_404 (by decide) ?_
    exact g_vret hx hb hr hlk w (Nat.le_of_ble_eq_true rfl) (Nat.le_of_ble_eq_true rfl) dL_tellsOne_576 ⟨y9, T9, G9, (by unfold tlS tlT; rw [← hw9]; exact congrArg Prod.snd e9), rfl, hk9, BY.tr BY.r by9 hnU40, (gLv.o hg9).t gl9⟩
  · refine lv_tableIn (off := 362) (tgt := 407) hx hb dL_tellsOne_45 (by decide) (by decide) (by decide) (by decide) ?_
    refine lv_aload_n hx hb dL_tellsOne_407 rfl (lv_at hl 5 rfl) ?_
    refine lv_iconst (v := 4) hx hb dL_tellsOne_408 (by decide) ?_
    refine lv_iload_n hx hb dL_tellsOne_409 rfl (lv_at hl 4 rfl) ?_
    refine lv_iconst (v := 2) hx hb dL_tellsOne_410 (by decide) ?_
    refine lv_irem hx hb dL_tellsOne_411 (by decide) ?_
    rw [show ((nI (j % 6)) - (nI (j % 6)) / 2 * 2 : Int32) = nI (j % 6 % 2) from nI_rem (m := 2) (by omega) (by decide) (by decide)]
    refine lv_iadd hx hb dL_tellsOne_412 ?_
    rw [show (4 + (nI (j % 6 % 2)) : Int32) = nI (4 + j % 6 % 2) from nI_add 4 _]
    refine lv_iload_n hx hb dL_tellsOne_413 rfl (lv_at hl 3 rfl) ?_
    refine lv_iconst (v := 0) hx hb dL_tellsOne_414 (by decide) ?_
    refine lv_iconst (v := 0) hx hb dL_tellsOne_415 (by decide) ?_
    refine nw_RL_186 S hE w (Nat.le_of_ble_eq_true rfl) (Nat.le_of_ble_eq_true rfl) dL_tellsOne_416 (fun H w => ?_)
    refine lv_dup hx hb dL_tellsOne_419 rfl ?_
    refine g_callv w (g_runI (As := []) (rest := [.ref sz, .int 0, .int 0, .int (nI (j / 6 % 4)), .int (nI (4 + j % 6 % 2)), .ref (x.f .ho)]) S hE w hl (j_SBinit l D ar κ (g_up (ov κ ar x Z G) sz (.inr (1, [.null, .int 0, .int 0, .int 0]))) (sz + 1) sz g_up_s) (k_RL_188 S.2.2.2.2 ⟨Nat.le_of_ble_eq_true rfl, Nat.le_of_ble_eq_true rfl⟩) rfl rfl (Nat.le_of_ble_eq_true rfl) dL_tellsOne_420 ⟨Nat.le_of_ble_eq_true rfl, Nat.le_of_ble_eq_true rfl⟩) (fun u H locs hp hnz w => ?_)
    obtain rfl := hp
    try dsimp only at w
    have w := g_eqw w (g_inn g_over (by omega))
    obtain ⟨U41, hUU41⟩ : ∃ U41 : gW × Nat, U41 = ((g_up (g_up (ov κ ar x Z G) sz (.inr (1, [.ref (sz + 1), .int 0, .int 0, .int 0]))) (sz + 1) (.inl (ar 4, 16, .inl (fun _ => 0)))), sz + 2) := ⟨_, rfl⟩
    have hSU41 : SbT ar κ (ov κ ar x Z G) U41.1 sz [] := by rw [hUU41]; exact SbT.new (hfr _ (Nat.le_refl _)) (hfr _ (Nat.le_succ _))
    have hnU41 : sz ≤ U41.2 := by rw [hUU41]; exact Nat.le_add_right _ _
    have w := g_eqw2 w hUU41.symm
    obtain ⟨vU41, mlU41, nU41, hoU41⟩ := hSU41.o
    have hq20 := (hE.2.2.2.2.2.2.1 lwT_20 lwT_m20).1
    refine va_ldcS hx hb (own := RL) S.2.2.2.1 hq20 dL_tellsOne_423 ?_
    show W p l e _ s m _ below meth c _ _ _ _ _ (F0 m 425 ls [.ref (κ 60), .ref sz, .int 0, .int 0, .int (nI (j / 6 % 4)), .int (nI (4 + j % 6 % 2)), .ref (x.f .ho)])
    refine g_callq w (g_runV (As := [.ref (κ 60)]) (rest := [.int 0, .int 0, .int (nI (j / 6 % 4)), .int (nI (4 + j % 6 % 2)), .ref (x.f .ho)]) S hE w hl (b_app l D ar κ U41.1 U41.2 sz (κ 60) (κ 61) lwT_20.2.2.2.2 (ov κ ar x Z G) ([] : List Int32) hSU41 (fun _ => TX.lit lwT_m20) (lwT_asc lwT_m20) (Nat.le_of_ble_eq_true rfl)) (k_RL_191 S.2.2.2.2 ⟨Nat.le_of_ble_eq_true rfl, Nat.le_of_ble_eq_true rfl⟩) hoU41 rfl rfl rfl rfl (Nat.le_of_ble_eq_true rfl) dL_tellsOne_425 ⟨Nat.le_of_ble_eq_true rfl, Nat.le_of_ble_eq_true rfl⟩) (fun r u H locs hp hnz w => ?_)
    obtain ⟨rfl, hSU42⟩ := hp
    obtain ⟨U42, hUU42⟩ : ∃ U42, U42 = u := ⟨_, rfl⟩
    rw [← hUU42] at w hnz hSU42
    try dsimp only at w
    have hnU42 : sz ≤ U42.2 := Nat.le_trans hnU41 hnz
    obtain ⟨vU42, mlU42, nU42, hoU42⟩ := hSU42.o
    refine lv_iload_n hx hb dL_tellsOne_428 rfl (lv_at hl 3 rfl) ?_
    refine g_callq w (g_runV (As := [.int (nI (j / 6 % 4))]) (rest := [.int 0, .int 0, .int (nI (j / 6 % 4)), .int (nI (4 + j % 6 % 2)), .ref (x.f .ho)]) S hE w hl (b_appI l D ar κ U42.1 U42.2 sz (j / 6 % 4) (ov κ ar x Z G) (([] : List Int32) ++ lwT_20.2.2.2.2) hSU42 (by omega) (Nat.le_of_ble_eq_true rfl)) (k_RL_195 S.2.2.2.2 ⟨Nat.le_of_ble_eq_true rfl, Nat.le_of_ble_eq_true rfl⟩) hoU42 rfl rfl rfl rfl (Nat.le_of_ble_eq_true rfl) dL_tellsOne_429 ⟨Nat.le_of_ble_eq_true rfl, Nat.le_of_ble_eq_true rfl⟩) (fun r u H locs hp hnz w => ?_)
    obtain ⟨rfl, hSU43⟩ := hp
    obtain ⟨U43, hUU43⟩ : ∃ U43, U43 = u := ⟨_, rfl⟩
    rw [← hUU43] at w hnz hSU43
    try dsimp only at w
    have hnU43 : sz ≤ U43.2 := Nat.le_trans hnU42 hnz
    obtain ⟨vU43, mlU43, nU43, hoU43⟩ := hSU43.o
    have hq21 := (hE.2.2.2.2.2.2.1 lwT_21 lwT_m21).1
    refine va_ldcS hx hb (own := RL) S.2.2.2.1 hq21 dL_tellsOne_432 ?_
    show W p l e _ s m _ below meth c _ _ _ _ _ (F0 m 434 ls [.ref (κ 62), .ref sz, .int 0, .int 0, .int (nI (j / 6 % 4)), .int (nI (4 + j % 6 % 2)), .ref (x.f .ho)])
    refine g_callq w (g_runV (As := [.ref (κ 62)]) (rest := [.int 0, .int 0, .int (nI (j / 6 % 4)), .int (nI (4 + j % 6 % 2)), .ref (x.f .ho)]) S hE w hl (b_app l D ar κ U43.1 U43.2 sz (κ 62) (κ 63) lwT_21.2.2.2.2 (ov κ ar x Z G) ((([] : List Int32) ++ lwT_20.2.2.2.2) ++ [nI (48 + (j / 6 % 4))]) hSU43 (fun _ => TX.lit lwT_m21) (lwT_asc lwT_m21) (Nat.le_of_ble_eq_true rfl)) (k_RL_191 S.2.2.2.2 ⟨Nat.le_of_ble_eq_true rfl, Nat.le_of_ble_eq_true rfl⟩) hoU43 rfl rfl rfl rfl (Nat.le_of_ble_eq_true rfl) dL_tellsOne_434 ⟨Nat.le_of_ble_eq_true rfl, Nat.le_of_ble_eq_true rfl⟩) (fun r u H locs hp hnz w => ?_)
    obtain ⟨rfl, hSU44⟩ := hp
    obtain ⟨U44, hUU44⟩ : ∃ U44, U44 = u := ⟨_, rfl⟩
    rw [← hUU44] at w hnz hSU44
    try dsimp only at w
    have hnU44 : sz ≤ U44.2 := Nat.le_trans hnU43 hnz
    obtain ⟨vU44, mlU44, nU44, hoU44⟩ := hSU44.o
    refine lv_iload hx hb dL_tellsOne_437 (lv_at hl 2 rfl) ?_
    refine g_callq w (g_runV (As := [.int (nI (j / 24 % 5))]) (rest := [.int 0, .int 0, .int (nI (j / 6 % 4)), .int (nI (4 + j % 6 % 2)), .ref (x.f .ho)]) S hE w hl (b_appI l D ar κ U44.1 U44.2 sz (j / 24 % 5) (ov κ ar x Z G) (((([] : List Int32) ++ lwT_20.2.2.2.2) ++ [nI (48 + (j / 6 % 4))]) ++ lwT_21.2.2.2.2) hSU44 (by omega) (Nat.le_of_ble_eq_true rfl)) (k_RL_195 S.2.2.2.2 ⟨Nat.le_of_ble_eq_true rfl, Nat.le_of_ble_eq_true rfl⟩) hoU44 rfl rfl rfl rfl (Nat.le_of_ble_eq_true rfl) dL_tellsOne_439 ⟨Nat.le_of_ble_eq_true rfl, Nat.le_of_ble_eq_true rfl⟩) (fun r u H locs hp hnz w => ?_)
    obtain ⟨rfl, hSU45⟩ := hp
    obtain ⟨U45, hUU45⟩ : ∃ U45, U45 = u := ⟨_, rfl⟩
    rw [← hUU45] at w hnz hSU45
    try dsimp only at w
    have hnU45 : sz ≤ U45.2 := Nat.le_trans hnU44 hnz
    obtain ⟨vU45, mlU45, nU45, hoU45⟩ := hSU45.o
    have hq7 := (hE.2.2.2.2.2.2.1 lwT_7 lwT_m7).1
    refine va_ldcS hx hb (own := RL) S.2.2.2.1 hq7 dL_tellsOne_442 ?_
    show W p l e _ s m _ below meth c _ _ _ _ _ (F0 m 444 ls [.ref (κ 34), .ref sz, .int 0, .int 0, .int (nI (j / 6 % 4)), .int (nI (4 + j % 6 % 2)), .ref (x.f .ho)])
    refine g_callq w (g_runV (As := [.ref (κ 34)]) (rest := [.int 0, .int 0, .int (nI (j / 6 % 4)), .int (nI (4 + j % 6 % 2)), .ref (x.f .ho)]) S hE w hl (b_app l D ar κ U45.1 U45.2 sz (κ 34) (κ 35) lwT_7.2.2.2.2 (ov κ ar x Z G) ((((([] : List Int32) ++ lwT_20.2.2.2.2) ++ [nI (48 + (j / 6 % 4))]) ++ lwT_21.2.2.2.2) ++ [nI (48 + (j / 24 % 5))]) hSU45 (fun _ => TX.lit lwT_m7) (lwT_asc lwT_m7) (Nat.le_of_ble_eq_true rfl)) (k_RL_191 S.2.2.2.2 ⟨Nat.le_of_ble_eq_true rfl, Nat.le_of_ble_eq_true rfl⟩) hoU45 rfl rfl rfl rfl (Nat.le_of_ble_eq_true rfl) dL_tellsOne_444 ⟨Nat.le_of_ble_eq_true rfl, Nat.le_of_ble_eq_true rfl⟩) (fun r u H locs hp hnz w => ?_)
    obtain ⟨rfl, hSU46⟩ := hp
    obtain ⟨U46, hUU46⟩ : ∃ U46, U46 = u := ⟨_, rfl⟩
    rw [← hUU46] at w hnz hSU46
    try dsimp only at w
    have hnU46 : sz ≤ U46.2 := Nat.le_trans hnU45 hnz
    obtain ⟨vU46, mlU46, nU46, hoU46⟩ := hSU46.o
    refine g_callq w (g_runV (As := []) (rest := [.int 0, .int 0, .int (nI (j / 6 % 4)), .int (nI (4 + j % 6 % 2)), .ref (x.f .ho)]) S hE w hl (b_str l D ar κ U46.1 U46.2 sz (ov κ ar x Z G) (((((([] : List Int32) ++ lwT_20.2.2.2.2) ++ [nI (48 + (j / 6 % 4))]) ++ lwT_21.2.2.2.2) ++ [nI (48 + (j / 24 % 5))]) ++ lwT_7.2.2.2.2) hSU46) (k_RL_200 S.2.2.2.2 ⟨Nat.le_of_ble_eq_true rfl, Nat.le_of_ble_eq_true rfl⟩) hoU46 rfl rfl rfl rfl (Nat.le_of_ble_eq_true rfl) dL_tellsOne_447 ⟨Nat.le_of_ble_eq_true rfl, Nat.le_of_ble_eq_true rfl⟩) (fun r u H locs hp hnz w => ?_)
    obtain ⟨a9, v9, rfl, htx, hg9⟩ := hp
    obtain ⟨U47, hUU47⟩ : ∃ U47, U47 = u := ⟨_, rfl⟩
    rw [← hUU47] at w hnz htx hg9
    try dsimp only at w
    have hnU47 : sz ≤ U47.2 := Nat.le_trans hnU46 hnz
    have w := g_eqw w (ov_ge hg9)
    have ht9 := tx_eq (ov_ge hg9) htx
    refine g_calll w (g_runS (As := [.ref (x.f .ho), .int (nI (4 + j % 6 % 2)), .int (nI (j / 6 % 4)), .int 0, .int 0, .ref a9]) (rest := []) S hE w hl (hL_tells l D ar κ U47.1 x Z U47.2 (nI (4 + j % 6 % 2)) (nI (j / 6 % 4)) 0 0 a9 v9 (((((([] : List Int32) ++ lwT_20.2.2.2.2) ++ [nI (48 + (j / 6 % 4))]) ++ lwT_21.2.2.2.2) ++ [nI (48 + (j / 24 % 5))]) ++ lwT_7.2.2.2.2) [(nI 115, [], none), (nI 77, [nI (48 + (j / 6 % 4))], some [nI (48 + 0)]), (nI 100, [], none), (nI 119, [], none), (nI 110, [nI (48 + (j / 24 % 5))], none), (nI 43, [], none), (nI 114, [], none)] hk hlt ht9 (by rfl) (Nat.le_of_ble_eq_true rfl) (Nat.le_of_ble_eq_true rfl) (tgC (tg0 115 (by decide)) (tgC (tg3 77 (j / 6 % 4) 0 (by decide) (by omega) (by decide)) (tgC (tg0 100 (by decide)) (tgC (tg0 119 (by decide)) (tgC (tg1 110 (j / 24 % 5) (by decide) (by omega)) (tgC (tg0 43 (by decide)) (tgC (tg0 114 (by decide)) tgN))))))) (Nat.le_of_ble_eq_true rfl)) (k_RL_204 S.2.2.2.2 ⟨Nat.le_of_ble_eq_true rfl, Nat.le_of_ble_eq_true rfl⟩) rfl rfl (Nat.le_of_ble_eq_true rfl) dL_tellsOne_450 ⟨Nat.le_of_ble_eq_true rfl, Nat.le_of_ble_eq_true rfl⟩) (fun r u H locs hp hnz w => ?_)
    obtain ⟨y9, T9, G9, e9, hu9, hk9, by9, gl9⟩ := hp
    obtain ⟨v9, m9⟩ := u
    dsimp only at hu9 w hnz
    subst hu9
    refine lv_pop2_2 hx hb dL_tellsOne_453 rfl ?_
    refine lv_goto (tgt := 576) hx hb dL_tellsOne_454 (by decide) ?_
    exact g_vret hx hb hr hlk w (Nat.le_of_ble_eq_true rfl) (Nat.le_of_ble_eq_true rfl) dL_tellsOne_576 ⟨y9, T9, G9, (by unfold tlS tlT; rw [← hw9]; exact congrArg Prod.snd e9), rfl, hk9, BY.tr BY.r by9 hnU47, (gLv.o hg9).t gl9⟩
  · refine lv_tableIn (off := 412) (tgt := 457) hx hb dL_tellsOne_45 (by decide) (by decide) (by decide) (by decide) ?_
    refine lv_aload_n hx hb dL_tellsOne_457 rfl (lv_at hl 5 rfl) ?_
    refine lv_iload_n hx hb dL_tellsOne_458 rfl (lv_at hl 4 rfl) ?_
    refine lv_iload_n hx hb dL_tellsOne_459 rfl (lv_at hl 3 rfl) ?_
    refine lv_iconst (v := 0) hx hb dL_tellsOne_460 (by decide) ?_
    refine lv_iconst (v := 2) hx hb dL_tellsOne_461 (by decide) ?_
    refine nw_RL_186 S hE w (Nat.le_of_ble_eq_true rfl) (Nat.le_of_ble_eq_true rfl) dL_tellsOne_462 (fun H w => ?_)
    refine lv_dup hx hb dL_tellsOne_465 rfl ?_
    refine g_callv w (g_runI (As := []) (rest := [.ref sz, .int 2, .int 0, .int (nI (j / 6 % 4)), .int (nI (j % 6)), .ref (x.f .ho)]) S hE w hl (j_SBinit l D ar κ (g_up (ov κ ar x Z G) sz (.inr (1, [.null, .int 0, .int 0, .int 0]))) (sz + 1) sz g_up_s) (k_RL_188 S.2.2.2.2 ⟨Nat.le_of_ble_eq_true rfl, Nat.le_of_ble_eq_true rfl⟩) rfl rfl (Nat.le_of_ble_eq_true rfl) dL_tellsOne_466 ⟨Nat.le_of_ble_eq_true rfl, Nat.le_of_ble_eq_true rfl⟩) (fun u H locs hp hnz w => ?_)
    obtain rfl := hp
    try dsimp only at w
    have w := g_eqw w (g_inn g_over (by omega))
    obtain ⟨U48, hUU48⟩ : ∃ U48 : gW × Nat, U48 = ((g_up (g_up (ov κ ar x Z G) sz (.inr (1, [.ref (sz + 1), .int 0, .int 0, .int 0]))) (sz + 1) (.inl (ar 4, 16, .inl (fun _ => 0)))), sz + 2) := ⟨_, rfl⟩
    have hSU48 : SbT ar κ (ov κ ar x Z G) U48.1 sz [] := by rw [hUU48]; exact SbT.new (hfr _ (Nat.le_refl _)) (hfr _ (Nat.le_succ _))
    have hnU48 : sz ≤ U48.2 := by rw [hUU48]; exact Nat.le_add_right _ _
    have w := g_eqw2 w hUU48.symm
    obtain ⟨vU48, mlU48, nU48, hoU48⟩ := hSU48.o
    have hq0 := (hE.2.2.2.2.2.2.1 lwT_0 lwT_m0).1
    refine va_ldcS hx hb (own := RL) S.2.2.2.1 hq0 dL_tellsOne_469 ?_
    show W p l e _ s m _ below meth c _ _ _ _ _ (F0 m 471 ls [.ref (κ 20), .ref sz, .int 2, .int 0, .int (nI (j / 6 % 4)), .int (nI (j % 6)), .ref (x.f .ho)])
    refine g_callq w (g_runV (As := [.ref (κ 20)]) (rest := [.int 2, .int 0, .int (nI (j / 6 % 4)), .int (nI (j % 6)), .ref (x.f .ho)]) S hE w hl (b_app l D ar κ U48.1 U48.2 sz (κ 20) (κ 21) lwT_0.2.2.2.2 (ov κ ar x Z G) ([] : List Int32) hSU48 (fun _ => TX.lit lwT_m0) (lwT_asc lwT_m0) (Nat.le_of_ble_eq_true rfl)) (k_RL_191 S.2.2.2.2 ⟨Nat.le_of_ble_eq_true rfl, Nat.le_of_ble_eq_true rfl⟩) hoU48 rfl rfl rfl rfl (Nat.le_of_ble_eq_true rfl) dL_tellsOne_471 ⟨Nat.le_of_ble_eq_true rfl, Nat.le_of_ble_eq_true rfl⟩) (fun r u H locs hp hnz w => ?_)
    obtain ⟨rfl, hSU49⟩ := hp
    obtain ⟨U49, hUU49⟩ : ∃ U49, U49 = u := ⟨_, rfl⟩
    rw [← hUU49] at w hnz hSU49
    try dsimp only at w
    have hnU49 : sz ≤ U49.2 := Nat.le_trans hnU48 hnz
    obtain ⟨vU49, mlU49, nU49, hoU49⟩ := hSU49.o
    refine lv_iload hx hb dL_tellsOne_474 (lv_at hl 2 rfl) ?_
    refine lv_iconst (v := 2) hx hb dL_tellsOne_476 (by decide) ?_
    refine lv_iadd hx hb dL_tellsOne_477 ?_
    rw [show ((nI (j / 24 % 5)) + 2 : Int32) = nI (j / 24 % 5 + 2) from nI_add _ 2]
    refine g_callq w (g_runV (As := [.int (nI (j / 24 % 5 + 2))]) (rest := [.int 2, .int 0, .int (nI (j / 6 % 4)), .int (nI (j % 6)), .ref (x.f .ho)]) S hE w hl (b_appI l D ar κ U49.1 U49.2 sz (j / 24 % 5 + 2) (ov κ ar x Z G) (([] : List Int32) ++ lwT_0.2.2.2.2) hSU49 (by omega) (Nat.le_of_ble_eq_true rfl)) (k_RL_195 S.2.2.2.2 ⟨Nat.le_of_ble_eq_true rfl, Nat.le_of_ble_eq_true rfl⟩) hoU49 rfl rfl rfl rfl (Nat.le_of_ble_eq_true rfl) dL_tellsOne_478 ⟨Nat.le_of_ble_eq_true rfl, Nat.le_of_ble_eq_true rfl⟩) (fun r u H locs hp hnz w => ?_)
    obtain ⟨rfl, hSU50⟩ := hp
    obtain ⟨U50, hUU50⟩ : ∃ U50, U50 = u := ⟨_, rfl⟩
    rw [← hUU50] at w hnz hSU50
    try dsimp only at w
    have hnU50 : sz ≤ U50.2 := Nat.le_trans hnU49 hnz
    obtain ⟨vU50, mlU50, nU50, hoU50⟩ := hSU50.o
    have hq22 := (hE.2.2.2.2.2.2.1 lwT_22 lwT_m22).1
    refine va_ldcS hx hb (own := RL) S.2.2.2.1 hq22 dL_tellsOne_481 ?_
    show W p l e _ s m _ below meth c _ _ _ _ _ (F0 m 483 ls [.ref (κ 64), .ref sz, .int 2, .int 0, .int (nI (j / 6 % 4)), .int (nI (j % 6)), .ref (x.f .ho)])
    refine g_callq w (g_runV (As := [.ref (κ 64)]) (rest := [.int 2, .int 0, .int (nI (j / 6 % 4)), .int (nI (j % 6)), .ref (x.f .ho)]) S hE w hl (b_app l D ar κ U50.1 U50.2 sz (κ 64) (κ 65) lwT_22.2.2.2.2 (ov κ ar x Z G) ((([] : List Int32) ++ lwT_0.2.2.2.2) ++ [nI (48 + (j / 24 % 5 + 2))]) hSU50 (fun _ => TX.lit lwT_m22) (lwT_asc lwT_m22) (Nat.le_of_ble_eq_true rfl)) (k_RL_191 S.2.2.2.2 ⟨Nat.le_of_ble_eq_true rfl, Nat.le_of_ble_eq_true rfl⟩) hoU50 rfl rfl rfl rfl (Nat.le_of_ble_eq_true rfl) dL_tellsOne_483 ⟨Nat.le_of_ble_eq_true rfl, Nat.le_of_ble_eq_true rfl⟩) (fun r u H locs hp hnz w => ?_)
    obtain ⟨rfl, hSU51⟩ := hp
    obtain ⟨U51, hUU51⟩ : ∃ U51, U51 = u := ⟨_, rfl⟩
    rw [← hUU51] at w hnz hSU51
    try dsimp only at w
    have hnU51 : sz ≤ U51.2 := Nat.le_trans hnU50 hnz
    obtain ⟨vU51, mlU51, nU51, hoU51⟩ := hSU51.o
    refine lv_iload hx hb dL_tellsOne_486 (lv_at hl 1 rfl) ?_
    refine g_callq w (g_runV (As := [.int (nI (j / 120 % 4))]) (rest := [.int 2, .int 0, .int (nI (j / 6 % 4)), .int (nI (j % 6)), .ref (x.f .ho)]) S hE w hl (b_appI l D ar κ U51.1 U51.2 sz (j / 120 % 4) (ov κ ar x Z G) (((([] : List Int32) ++ lwT_0.2.2.2.2) ++ [nI (48 + (j / 24 % 5 + 2))]) ++ lwT_22.2.2.2.2) hSU51 (by omega) (Nat.le_of_ble_eq_true rfl)) (k_RL_195 S.2.2.2.2 ⟨Nat.le_of_ble_eq_true rfl, Nat.le_of_ble_eq_true rfl⟩) hoU51 rfl rfl rfl rfl (Nat.le_of_ble_eq_true rfl) dL_tellsOne_488 ⟨Nat.le_of_ble_eq_true rfl, Nat.le_of_ble_eq_true rfl⟩) (fun r u H locs hp hnz w => ?_)
    obtain ⟨rfl, hSU52⟩ := hp
    obtain ⟨U52, hUU52⟩ : ∃ U52, U52 = u := ⟨_, rfl⟩
    rw [← hUU52] at w hnz hSU52
    try dsimp only at w
    have hnU52 : sz ≤ U52.2 := Nat.le_trans hnU51 hnz
    obtain ⟨vU52, mlU52, nU52, hoU52⟩ := hSU52.o
    have hq23 := (hE.2.2.2.2.2.2.1 lwT_23 lwT_m23).1
    refine va_ldcS hx hb (own := RL) S.2.2.2.1 hq23 dL_tellsOne_491 ?_
    show W p l e _ s m _ below meth c _ _ _ _ _ (F0 m 493 ls [.ref (κ 66), .ref sz, .int 2, .int 0, .int (nI (j / 6 % 4)), .int (nI (j % 6)), .ref (x.f .ho)])
    refine g_callq w (g_runV (As := [.ref (κ 66)]) (rest := [.int 2, .int 0, .int (nI (j / 6 % 4)), .int (nI (j % 6)), .ref (x.f .ho)]) S hE w hl (b_app l D ar κ U52.1 U52.2 sz (κ 66) (κ 67) lwT_23.2.2.2.2 (ov κ ar x Z G) ((((([] : List Int32) ++ lwT_0.2.2.2.2) ++ [nI (48 + (j / 24 % 5 + 2))]) ++ lwT_22.2.2.2.2) ++ [nI (48 + (j / 120 % 4))]) hSU52 (fun _ => TX.lit lwT_m23) (lwT_asc lwT_m23) (Nat.le_of_ble_eq_true rfl)) (k_RL_191 S.2.2.2.2 ⟨Nat.le_of_ble_eq_true rfl, Nat.le_of_ble_eq_true rfl⟩) hoU52 rfl rfl rfl rfl (Nat.le_of_ble_eq_true rfl) dL_tellsOne_493 ⟨Nat.le_of_ble_eq_true rfl, Nat.le_of_ble_eq_true rfl⟩) (fun r u H locs hp hnz w => ?_)
    obtain ⟨rfl, hSU53⟩ := hp
    obtain ⟨U53, hUU53⟩ : ∃ U53, U53 = u := ⟨_, rfl⟩
    rw [← hUU53] at w hnz hSU53
    try dsimp only at w
    have hnU53 : sz ≤ U53.2 := Nat.le_trans hnU52 hnz
    obtain ⟨vU53, mlU53, nU53, hoU53⟩ := hSU53.o
    refine g_callq w (g_runV (As := []) (rest := [.int 2, .int 0, .int (nI (j / 6 % 4)), .int (nI (j % 6)), .ref (x.f .ho)]) S hE w hl (b_str l D ar κ U53.1 U53.2 sz (ov κ ar x Z G) (((((([] : List Int32) ++ lwT_0.2.2.2.2) ++ [nI (48 + (j / 24 % 5 + 2))]) ++ lwT_22.2.2.2.2) ++ [nI (48 + (j / 120 % 4))]) ++ lwT_23.2.2.2.2) hSU53) (k_RL_200 S.2.2.2.2 ⟨Nat.le_of_ble_eq_true rfl, Nat.le_of_ble_eq_true rfl⟩) hoU53 rfl rfl rfl rfl (Nat.le_of_ble_eq_true rfl) dL_tellsOne_496 ⟨Nat.le_of_ble_eq_true rfl, Nat.le_of_ble_eq_true rfl⟩) (fun r u H locs hp hnz w => ?_)
    obtain ⟨a9, v9, rfl, htx, hg9⟩ := hp
    obtain ⟨U54, hUU54⟩ : ∃ U54, U54 = u := ⟨_, rfl⟩
    rw [← hUU54] at w hnz htx hg9
    try dsimp only at w
    have hnU54 : sz ≤ U54.2 := Nat.le_trans hnU53 hnz
    have w := g_eqw w (ov_ge hg9)
    have ht9 := tx_eq (ov_ge hg9) htx
    refine g_calll w (g_runS (As := [.ref (x.f .ho), .int (nI (j % 6)), .int (nI (j / 6 % 4)), .int 0, .int 2, .ref a9]) (rest := []) S hE w hl (hL_tells l D ar κ U54.1 x Z U54.2 (nI (j % 6)) (nI (j / 6 % 4)) 0 2 a9 v9 (((((([] : List Int32) ++ lwT_0.2.2.2.2) ++ [nI (48 + (j / 24 % 5 + 2))]) ++ lwT_22.2.2.2.2) ++ [nI (48 + (j / 120 % 4))]) ++ lwT_23.2.2.2.2) [(nI 110, [nI (48 + (j / 24 % 5 + 2))], none), (nI 84, [nI (48 + 1)], none), (nI 115, [], none), (nI 109, [nI (48 + (j / 120 % 4))], some [nI (48 + 0)]), (nI 84, [nI (48 + 0)], none), (nI 116, [nI (48 + 1)], none), (nI 110, [nI (48 + 1)], none), (nI 45, [], none), (nI 100, [], none), (nI 84, [nI (48 + 1)], none), (nI 121, [nI (48 + 2)], none), (nI 116, [nI (48 + 0)], none), (nI 114, [], none)] hk hlt ht9 (by rfl) (Nat.le_of_ble_eq_true rfl) (Nat.le_of_ble_eq_true rfl) (tgC (tg1 110 (j / 24 % 5 + 2) (by decide) (by omega)) (tgC (tg1 84 1 (by decide) (by decide)) (tgC (tg0 115 (by decide)) (tgC (tg3 109 (j / 120 % 4) 0 (by decide) (by omega) (by decide)) (tgC (tg1 84 0 (by decide) (by decide)) (tgC (tg1 116 1 (by decide) (by decide)) (tgC (tg1 110 1 (by decide) (by decide)) (tgC (tg0 45 (by decide)) (tgC (tg0 100 (by decide)) (tgC (tg1 84 1 (by decide) (by decide)) (tgC (tg1 121 2 (by decide) (by decide)) (tgC (tg1 116 0 (by decide) (by decide)) (tgC (tg0 114 (by decide)) tgN))))))))))))) (Nat.le_of_ble_eq_true rfl)) (k_RL_204 S.2.2.2.2 ⟨Nat.le_of_ble_eq_true rfl, Nat.le_of_ble_eq_true rfl⟩) rfl rfl (Nat.le_of_ble_eq_true rfl) dL_tellsOne_499 ⟨Nat.le_of_ble_eq_true rfl, Nat.le_of_ble_eq_true rfl⟩) (fun r u H locs hp hnz w => ?_)
    obtain ⟨y9, T9, G9, e9, hu9, hk9, by9, gl9⟩ := hp
    obtain ⟨v9, m9⟩ := u
    dsimp only at hu9 w hnz
    subst hu9
    refine lv_pop2_2 hx hb dL_tellsOne_502 rfl ?_
    refine lv_goto (tgt := 576) hx hb dL_tellsOne_503 (by decide) ?_
    exact g_vret hx hb hr hlk w (Nat.le_of_ble_eq_true rfl) (Nat.le_of_ble_eq_true rfl) dL_tellsOne_576 ⟨y9, T9, G9, (by unfold tlS tlT; rw [← hw9]; exact congrArg Prod.snd e9), rfl, hk9, BY.tr BY.r by9 hnU54, (gLv.o hg9).t gl9⟩
  · refine lv_tableIn (off := 461) (tgt := 506) hx hb dL_tellsOne_45 (by decide) (by decide) (by decide) (by decide) ?_
    refine lv_aload_n hx hb dL_tellsOne_506 rfl (lv_at hl 5 rfl) ?_
    refine lv_iload_n hx hb dL_tellsOne_507 rfl (lv_at hl 4 rfl) ?_
    refine lv_iload_n hx hb dL_tellsOne_508 rfl (lv_at hl 3 rfl) ?_
    refine lv_iconst (v := 0) hx hb dL_tellsOne_509 (by decide) ?_
    refine lv_iconst (v := 0) hx hb dL_tellsOne_510 (by decide) ?_
    refine nw_RL_186 S hE w (Nat.le_of_ble_eq_true rfl) (Nat.le_of_ble_eq_true rfl) dL_tellsOne_511 (fun H w => ?_)
    refine lv_dup hx hb dL_tellsOne_514 rfl ?_
    refine g_callv w (g_runI (As := []) (rest := [.ref sz, .int 0, .int 0, .int (nI (j / 6 % 4)), .int (nI (j % 6)), .ref (x.f .ho)]) S hE w hl (j_SBinit l D ar κ (g_up (ov κ ar x Z G) sz (.inr (1, [.null, .int 0, .int 0, .int 0]))) (sz + 1) sz g_up_s) (k_RL_188 S.2.2.2.2 ⟨Nat.le_of_ble_eq_true rfl, Nat.le_of_ble_eq_true rfl⟩) rfl rfl (Nat.le_of_ble_eq_true rfl) dL_tellsOne_515 ⟨Nat.le_of_ble_eq_true rfl, Nat.le_of_ble_eq_true rfl⟩) (fun u H locs hp hnz w => ?_)
    obtain rfl := hp
    try dsimp only at w
    have w := g_eqw w (g_inn g_over (by omega))
    obtain ⟨U55, hUU55⟩ : ∃ U55 : gW × Nat, U55 = ((g_up (g_up (ov κ ar x Z G) sz (.inr (1, [.ref (sz + 1), .int 0, .int 0, .int 0]))) (sz + 1) (.inl (ar 4, 16, .inl (fun _ => 0)))), sz + 2) := ⟨_, rfl⟩
    have hSU55 : SbT ar κ (ov κ ar x Z G) U55.1 sz [] := by rw [hUU55]; exact SbT.new (hfr _ (Nat.le_refl _)) (hfr _ (Nat.le_succ _))
    have hnU55 : sz ≤ U55.2 := by rw [hUU55]; exact Nat.le_add_right _ _
    have w := g_eqw2 w hUU55.symm
    obtain ⟨vU55, mlU55, nU55, hoU55⟩ := hSU55.o
    have hq24 := (hE.2.2.2.2.2.2.1 lwT_24 lwT_m24).1
    refine va_ldcS hx hb (own := RL) S.2.2.2.1 hq24 dL_tellsOne_518 ?_
    show W p l e _ s m _ below meth c _ _ _ _ _ (F0 m 520 ls [.ref (κ 68), .ref sz, .int 0, .int 0, .int (nI (j / 6 % 4)), .int (nI (j % 6)), .ref (x.f .ho)])
    refine g_callq w (g_runV (As := [.ref (κ 68)]) (rest := [.int 0, .int 0, .int (nI (j / 6 % 4)), .int (nI (j % 6)), .ref (x.f .ho)]) S hE w hl (b_app l D ar κ U55.1 U55.2 sz (κ 68) (κ 69) lwT_24.2.2.2.2 (ov κ ar x Z G) ([] : List Int32) hSU55 (fun _ => TX.lit lwT_m24) (lwT_asc lwT_m24) (Nat.le_of_ble_eq_true rfl)) (k_RL_191 S.2.2.2.2 ⟨Nat.le_of_ble_eq_true rfl, Nat.le_of_ble_eq_true rfl⟩) hoU55 rfl rfl rfl rfl (Nat.le_of_ble_eq_true rfl) dL_tellsOne_520 ⟨Nat.le_of_ble_eq_true rfl, Nat.le_of_ble_eq_true rfl⟩) (fun r u H locs hp hnz w => ?_)
    obtain ⟨rfl, hSU56⟩ := hp
    obtain ⟨U56, hUU56⟩ : ∃ U56, U56 = u := ⟨_, rfl⟩
    rw [← hUU56] at w hnz hSU56
    try dsimp only at w
    have hnU56 : sz ≤ U56.2 := Nat.le_trans hnU55 hnz
    obtain ⟨vU56, mlU56, nU56, hoU56⟩ := hSU56.o
    refine lv_iload hx hb dL_tellsOne_523 (lv_at hl 2 rfl) ?_
    refine g_callq w (g_runV (As := [.int (nI (j / 24 % 5))]) (rest := [.int 0, .int 0, .int (nI (j / 6 % 4)), .int (nI (j % 6)), .ref (x.f .ho)]) S hE w hl (b_appI l D ar κ U56.1 U56.2 sz (j / 24 % 5) (ov κ ar x Z G) (([] : List Int32) ++ lwT_24.2.2.2.2) hSU56 (by omega) (Nat.le_of_ble_eq_true rfl)) (k_RL_195 S.2.2.2.2 ⟨Nat.le_of_ble_eq_true rfl, Nat.le_of_ble_eq_true rfl⟩) hoU56 rfl rfl rfl rfl (Nat.le_of_ble_eq_true rfl) dL_tellsOne_525 ⟨Nat.le_of_ble_eq_true rfl, Nat.le_of_ble_eq_true rfl⟩) (fun r u H locs hp hnz w => ?_)
    obtain ⟨rfl, hSU57⟩ := hp
    obtain ⟨U57, hUU57⟩ : ∃ U57, U57 = u := ⟨_, rfl⟩
    rw [← hUU57] at w hnz hSU57
    try dsimp only at w
    have hnU57 : sz ≤ U57.2 := Nat.le_trans hnU56 hnz
    obtain ⟨vU57, mlU57, nU57, hoU57⟩ := hSU57.o
    have hq25 := (hE.2.2.2.2.2.2.1 lwT_25 lwT_m25).1
    refine va_ldcS hx hb (own := RL) S.2.2.2.1 hq25 dL_tellsOne_528 ?_
    show W p l e _ s m _ below meth c _ _ _ _ _ (F0 m 530 ls [.ref (κ 70), .ref sz, .int 0, .int 0, .int (nI (j / 6 % 4)), .int (nI (j % 6)), .ref (x.f .ho)])
    refine g_callq w (g_runV (As := [.ref (κ 70)]) (rest := [.int 0, .int 0, .int (nI (j / 6 % 4)), .int (nI (j % 6)), .ref (x.f .ho)]) S hE w hl (b_app l D ar κ U57.1 U57.2 sz (κ 70) (κ 71) lwT_25.2.2.2.2 (ov κ ar x Z G) ((([] : List Int32) ++ lwT_24.2.2.2.2) ++ [nI (48 + (j / 24 % 5))]) hSU57 (fun _ => TX.lit lwT_m25) (lwT_asc lwT_m25) (Nat.le_of_ble_eq_true rfl)) (k_RL_191 S.2.2.2.2 ⟨Nat.le_of_ble_eq_true rfl, Nat.le_of_ble_eq_true rfl⟩) hoU57 rfl rfl rfl rfl (Nat.le_of_ble_eq_true rfl) dL_tellsOne_530 ⟨Nat.le_of_ble_eq_true rfl, Nat.le_of_ble_eq_true rfl⟩) (fun r u H locs hp hnz w => ?_)
    obtain ⟨rfl, hSU58⟩ := hp
    obtain ⟨U58, hUU58⟩ : ∃ U58, U58 = u := ⟨_, rfl⟩
    rw [← hUU58] at w hnz hSU58
    try dsimp only at w
    have hnU58 : sz ≤ U58.2 := Nat.le_trans hnU57 hnz
    obtain ⟨vU58, mlU58, nU58, hoU58⟩ := hSU58.o
    refine g_callq w (g_runV (As := []) (rest := [.int 0, .int 0, .int (nI (j / 6 % 4)), .int (nI (j % 6)), .ref (x.f .ho)]) S hE w hl (b_str l D ar κ U58.1 U58.2 sz (ov κ ar x Z G) (((([] : List Int32) ++ lwT_24.2.2.2.2) ++ [nI (48 + (j / 24 % 5))]) ++ lwT_25.2.2.2.2) hSU58) (k_RL_200 S.2.2.2.2 ⟨Nat.le_of_ble_eq_true rfl, Nat.le_of_ble_eq_true rfl⟩) hoU58 rfl rfl rfl rfl (Nat.le_of_ble_eq_true rfl) dL_tellsOne_533 ⟨Nat.le_of_ble_eq_true rfl, Nat.le_of_ble_eq_true rfl⟩) (fun r u H locs hp hnz w => ?_)
    obtain ⟨a9, v9, rfl, htx, hg9⟩ := hp
    obtain ⟨U59, hUU59⟩ : ∃ U59, U59 = u := ⟨_, rfl⟩
    rw [← hUU59] at w hnz htx hg9
    try dsimp only at w
    have hnU59 : sz ≤ U59.2 := Nat.le_trans hnU58 hnz
    have w := g_eqw w (ov_ge hg9)
    have ht9 := tx_eq (ov_ge hg9) htx
    refine g_calll w (g_runS (As := [.ref (x.f .ho), .int (nI (j % 6)), .int (nI (j / 6 % 4)), .int 0, .int 0, .ref a9]) (rest := []) S hE w hl (hL_tells l D ar κ U59.1 x Z U59.2 (nI (j % 6)) (nI (j / 6 % 4)) 0 0 a9 v9 (((([] : List Int32) ++ lwT_24.2.2.2.2) ++ [nI (48 + (j / 24 % 5))]) ++ lwT_25.2.2.2.2) [(nI 115, [], none), (nI 107, [], none), (nI 119, [], none), (nI 110, [nI (48 + (j / 24 % 5))], none), (nI 110, [nI (48 + 0)], none), (nI 47, [], none), (nI 114, [], none)] hk hlt ht9 (by rfl) (Nat.le_of_ble_eq_true rfl) (Nat.le_of_ble_eq_true rfl) (tgC (tg0 115 (by decide)) (tgC (tg0 107 (by decide)) (tgC (tg0 119 (by decide)) (tgC (tg1 110 (j / 24 % 5) (by decide) (by omega)) (tgC (tg1 110 0 (by decide) (by decide)) (tgC (tg0 47 (by decide)) (tgC (tg0 114 (by decide)) tgN))))))) (Nat.le_of_ble_eq_true rfl)) (k_RL_204 S.2.2.2.2 ⟨Nat.le_of_ble_eq_true rfl, Nat.le_of_ble_eq_true rfl⟩) rfl rfl (Nat.le_of_ble_eq_true rfl) dL_tellsOne_536 ⟨Nat.le_of_ble_eq_true rfl, Nat.le_of_ble_eq_true rfl⟩) (fun r u H locs hp hnz w => ?_)
    obtain ⟨y9, T9, G9, e9, hu9, hk9, by9, gl9⟩ := hp
    obtain ⟨v9, m9⟩ := u
    dsimp only at hu9 w hnz
    subst hu9
    refine lv_pop2_2 hx hb dL_tellsOne_539 rfl ?_
    refine lv_goto (tgt := 576) hx hb dL_tellsOne_540 (by decide) ?_
    exact g_vret hx hb hr hlk w (Nat.le_of_ble_eq_true rfl) (Nat.le_of_ble_eq_true rfl) dL_tellsOne_576 ⟨y9, T9, G9, (by unfold tlS tlT; rw [← hw9]; exact congrArg Prod.snd e9), rfl, hk9, BY.tr BY.r by9 hnU59, (gLv.o hg9).t gl9⟩
  · refine lv_tableOut (tgt := 543) hx hb dL_tellsOne_45 (by decide) (by decide) ?_
    refine lv_aload_n hx hb dL_tellsOne_543 rfl (lv_at hl 5 rfl) ?_
    refine lv_iconst (v := 1) hx hb dL_tellsOne_544 (by decide) ?_
    refine lv_iload_n hx hb dL_tellsOne_545 rfl (lv_at hl 3 rfl) ?_
    refine lv_iconst (v := 0) hx hb dL_tellsOne_546 (by decide) ?_
    refine lv_iconst (v := 0) hx hb dL_tellsOne_547 (by decide) ?_
    refine nw_RL_186 S hE w (Nat.le_of_ble_eq_true rfl) (Nat.le_of_ble_eq_true rfl) dL_tellsOne_548 (fun H w => ?_)
    refine lv_dup hx hb dL_tellsOne_551 rfl ?_
    refine g_callv w (g_runI (As := []) (rest := [.ref sz, .int 0, .int 0, .int (nI (j / 6 % 4)), .int 1, .ref (x.f .ho)]) S hE w hl (j_SBinit l D ar κ (g_up (ov κ ar x Z G) sz (.inr (1, [.null, .int 0, .int 0, .int 0]))) (sz + 1) sz g_up_s) (k_RL_188 S.2.2.2.2 ⟨Nat.le_of_ble_eq_true rfl, Nat.le_of_ble_eq_true rfl⟩) rfl rfl (Nat.le_of_ble_eq_true rfl) dL_tellsOne_552 ⟨Nat.le_of_ble_eq_true rfl, Nat.le_of_ble_eq_true rfl⟩) (fun u H locs hp hnz w => ?_)
    obtain rfl := hp
    try dsimp only at w
    have w := g_eqw w (g_inn g_over (by omega))
    obtain ⟨U60, hUU60⟩ : ∃ U60 : gW × Nat, U60 = ((g_up (g_up (ov κ ar x Z G) sz (.inr (1, [.ref (sz + 1), .int 0, .int 0, .int 0]))) (sz + 1) (.inl (ar 4, 16, .inl (fun _ => 0)))), sz + 2) := ⟨_, rfl⟩
    have hSU60 : SbT ar κ (ov κ ar x Z G) U60.1 sz [] := by rw [hUU60]; exact SbT.new (hfr _ (Nat.le_refl _)) (hfr _ (Nat.le_succ _))
    have hnU60 : sz ≤ U60.2 := by rw [hUU60]; exact Nat.le_add_right _ _
    have w := g_eqw2 w hUU60.symm
    obtain ⟨vU60, mlU60, nU60, hoU60⟩ := hSU60.o
    have hq26 := (hE.2.2.2.2.2.2.1 lwT_26 lwT_m26).1
    refine va_ldcS hx hb (own := RL) S.2.2.2.1 hq26 dL_tellsOne_555 ?_
    show W p l e _ s m _ below meth c _ _ _ _ _ (F0 m 557 ls [.ref (κ 72), .ref sz, .int 0, .int 0, .int (nI (j / 6 % 4)), .int 1, .ref (x.f .ho)])
    refine g_callq w (g_runV (As := [.ref (κ 72)]) (rest := [.int 0, .int 0, .int (nI (j / 6 % 4)), .int 1, .ref (x.f .ho)]) S hE w hl (b_app l D ar κ U60.1 U60.2 sz (κ 72) (κ 73) lwT_26.2.2.2.2 (ov κ ar x Z G) ([] : List Int32) hSU60 (fun _ => TX.lit lwT_m26) (lwT_asc lwT_m26) (Nat.le_of_ble_eq_true rfl)) (k_RL_191 S.2.2.2.2 ⟨Nat.le_of_ble_eq_true rfl, Nat.le_of_ble_eq_true rfl⟩) hoU60 rfl rfl rfl rfl (Nat.le_of_ble_eq_true rfl) dL_tellsOne_557 ⟨Nat.le_of_ble_eq_true rfl, Nat.le_of_ble_eq_true rfl⟩) (fun r u H locs hp hnz w => ?_)
    obtain ⟨rfl, hSU61⟩ := hp
    obtain ⟨U61, hUU61⟩ : ∃ U61, U61 = u := ⟨_, rfl⟩
    rw [← hUU61] at w hnz hSU61
    try dsimp only at w
    have hnU61 : sz ≤ U61.2 := Nat.le_trans hnU60 hnz
    obtain ⟨vU61, mlU61, nU61, hoU61⟩ := hSU61.o
    refine lv_iload_n hx hb dL_tellsOne_560 rfl (lv_at hl 3 rfl) ?_
    refine g_callq w (g_runV (As := [.int (nI (j / 6 % 4))]) (rest := [.int 0, .int 0, .int (nI (j / 6 % 4)), .int 1, .ref (x.f .ho)]) S hE w hl (b_appI l D ar κ U61.1 U61.2 sz (j / 6 % 4) (ov κ ar x Z G) (([] : List Int32) ++ lwT_26.2.2.2.2) hSU61 (by omega) (Nat.le_of_ble_eq_true rfl)) (k_RL_195 S.2.2.2.2 ⟨Nat.le_of_ble_eq_true rfl, Nat.le_of_ble_eq_true rfl⟩) hoU61 rfl rfl rfl rfl (Nat.le_of_ble_eq_true rfl) dL_tellsOne_561 ⟨Nat.le_of_ble_eq_true rfl, Nat.le_of_ble_eq_true rfl⟩) (fun r u H locs hp hnz w => ?_)
    obtain ⟨rfl, hSU62⟩ := hp
    obtain ⟨U62, hUU62⟩ : ∃ U62, U62 = u := ⟨_, rfl⟩
    rw [← hUU62] at w hnz hSU62
    try dsimp only at w
    have hnU62 : sz ≤ U62.2 := Nat.le_trans hnU61 hnz
    obtain ⟨vU62, mlU62, nU62, hoU62⟩ := hSU62.o
    have hq27 := (hE.2.2.2.2.2.2.1 lwT_27 lwT_m27).1
    refine va_ldcS hx hb (own := RL) S.2.2.2.1 hq27 dL_tellsOne_564 ?_
    show W p l e _ s m _ below meth c _ _ _ _ _ (F0 m 566 ls [.ref (κ 74), .ref sz, .int 0, .int 0, .int (nI (j / 6 % 4)), .int 1, .ref (x.f .ho)])
    refine g_callq w (g_runV (As := [.ref (κ 74)]) (rest := [.int 0, .int 0, .int (nI (j / 6 % 4)), .int 1, .ref (x.f .ho)]) S hE w hl (b_app l D ar κ U62.1 U62.2 sz (κ 74) (κ 75) lwT_27.2.2.2.2 (ov κ ar x Z G) ((([] : List Int32) ++ lwT_26.2.2.2.2) ++ [nI (48 + (j / 6 % 4))]) hSU62 (fun _ => TX.lit lwT_m27) (lwT_asc lwT_m27) (Nat.le_of_ble_eq_true rfl)) (k_RL_191 S.2.2.2.2 ⟨Nat.le_of_ble_eq_true rfl, Nat.le_of_ble_eq_true rfl⟩) hoU62 rfl rfl rfl rfl (Nat.le_of_ble_eq_true rfl) dL_tellsOne_566 ⟨Nat.le_of_ble_eq_true rfl, Nat.le_of_ble_eq_true rfl⟩) (fun r u H locs hp hnz w => ?_)
    obtain ⟨rfl, hSU63⟩ := hp
    obtain ⟨U63, hUU63⟩ : ∃ U63, U63 = u := ⟨_, rfl⟩
    rw [← hUU63] at w hnz hSU63
    try dsimp only at w
    have hnU63 : sz ≤ U63.2 := Nat.le_trans hnU62 hnz
    obtain ⟨vU63, mlU63, nU63, hoU63⟩ := hSU63.o
    refine g_callq w (g_runV (As := []) (rest := [.int 0, .int 0, .int (nI (j / 6 % 4)), .int 1, .ref (x.f .ho)]) S hE w hl (b_str l D ar κ U63.1 U63.2 sz (ov κ ar x Z G) (((([] : List Int32) ++ lwT_26.2.2.2.2) ++ [nI (48 + (j / 6 % 4))]) ++ lwT_27.2.2.2.2) hSU63) (k_RL_200 S.2.2.2.2 ⟨Nat.le_of_ble_eq_true rfl, Nat.le_of_ble_eq_true rfl⟩) hoU63 rfl rfl rfl rfl (Nat.le_of_ble_eq_true rfl) dL_tellsOne_569 ⟨Nat.le_of_ble_eq_true rfl, Nat.le_of_ble_eq_true rfl⟩) (fun r u H locs hp hnz w => ?_)
    obtain ⟨a9, v9, rfl, htx, hg9⟩ := hp
    obtain ⟨U64, hUU64⟩ : ∃ U64, U64 = u := ⟨_, rfl⟩
    rw [← hUU64] at w hnz htx hg9
    try dsimp only at w
    have hnU64 : sz ≤ U64.2 := Nat.le_trans hnU63 hnz
    have w := g_eqw w (ov_ge hg9)
    have ht9 := tx_eq (ov_ge hg9) htx
    refine g_calll w (g_runS (As := [.ref (x.f .ho), .int 1, .int (nI (j / 6 % 4)), .int 0, .int 0, .ref a9]) (rest := []) S hE w hl (hL_tells l D ar κ U64.1 x Z U64.2 1 (nI (j / 6 % 4)) 0 0 a9 v9 (((([] : List Int32) ++ lwT_26.2.2.2.2) ++ [nI (48 + (j / 6 % 4))]) ++ lwT_27.2.2.2.2) [(nI 115, [], none), (nI 110, [nI (48 + 2)], none), (nI 60, [], none), (nI 121, [nI (48 + 1), nI (48 + 1)], none), (nI 115, [], none), (nI 115, [], none), (nI 110, [nI (48 + 1)], none), (nI 45, [], none), (nI 109, [nI (48 + (j / 6 % 4))], some [nI (48 + 0)]), (nI 42, [], none), (nI 114, [], none), (nI 110, [nI (48 + 1)], none), (nI 114, [], none)] hk hlt ht9 (by rfl) (Nat.le_of_ble_eq_true rfl) (Nat.le_of_ble_eq_true rfl) (tgC (tg0 115 (by decide)) (tgC (tg1 110 2 (by decide) (by decide)) (tgC (tg0 60 (by decide)) (tgC (tg2 121 1 1 (by decide) (by decide) (by decide)) (tgC (tg0 115 (by decide)) (tgC (tg0 115 (by decide)) (tgC (tg1 110 1 (by decide) (by decide)) (tgC (tg0 45 (by decide)) (tgC (tg3 109 (j / 6 % 4) 0 (by decide) (by omega) (by decide)) (tgC (tg0 42 (by decide)) (tgC (tg0 114 (by decide)) (tgC (tg1 110 1 (by decide) (by decide)) (tgC (tg0 114 (by decide)) tgN))))))))))))) (Nat.le_of_ble_eq_true rfl)) (k_RL_204 S.2.2.2.2 ⟨Nat.le_of_ble_eq_true rfl, Nat.le_of_ble_eq_true rfl⟩) rfl rfl (Nat.le_of_ble_eq_true rfl) dL_tellsOne_572 ⟨Nat.le_of_ble_eq_true rfl, Nat.le_of_ble_eq_true rfl⟩) (fun r u H locs hp hnz w => ?_)
    obtain ⟨y9, T9, G9, e9, hu9, hk9, by9, gl9⟩ := hp
    obtain ⟨v9, m9⟩ := u
    dsimp only at hu9 w hnz
    subst hu9
    refine lv_pop2_2 hx hb dL_tellsOne_575 rfl ?_
    exact g_vret hx hb hr hlk w (Nat.le_of_ble_eq_true rfl) (Nat.le_of_ble_eq_true rfl) dL_tellsOne_576 ⟨y9, T9, G9, (by unfold tlS tlT; rw [← hw9]; exact congrArg Prod.snd e9), rfl, hk9, BY.tr BY.r by9 hnU64, (gLv.o hg9).t gl9⟩
