theorem dL_law_0 : decode cL_law 0 = .ok (.new 12, 3) := by decide +kernel
theorem dL_law_3 : decode cL_law 3 = .ok (.dup, 1) := by decide +kernel
theorem dL_law_4 : decode cL_law 4 = .ok (.invokespecial 299, 3) := by decide +kernel
theorem dL_law_7 : decode cL_law 7 = .ok (.astore_n 1, 1) := by decide +kernel
theorem dL_law_8 : decode cL_law 8 = .ok (.new 12, 3) := by decide +kernel
theorem dL_law_11 : decode cL_law 11 = .ok (.dup, 1) := by decide +kernel
theorem dL_law_12 : decode cL_law 12 = .ok (.invokespecial 299, 3) := by decide +kernel
theorem dL_law_15 : decode cL_law 15 = .ok (.astore_n 2, 1) := by decide +kernel
theorem dL_law_16 : decode cL_law 16 = .ok (.aload_n 1, 1) := by decide +kernel
theorem dL_law_17 : decode cL_law 17 = .ok (.invokestatic 300, 3) := by decide +kernel
theorem dL_law_20 : decode cL_law 20 = .ok (.aload_n 2, 1) := by decide +kernel
theorem dL_law_21 : decode cL_law 21 = .ok (.invokestatic 300, 3) := by decide +kernel
theorem dL_law_24 : decode cL_law 24 = .ok (.iconst 0, 1) := by decide +kernel
theorem dL_law_25 : decode cL_law 25 = .ok (.istore_n 3, 1) := by decide +kernel
theorem dL_law_26 : decode cL_law 26 = .ok (.iload_n 3, 1) := by decide +kernel
theorem dL_law_27 : decode cL_law 27 = .ok (.bipush 16, 2) := by decide +kernel
theorem dL_law_29 : decode cL_law 29 = .ok (.if_icmp .ge 67, 3) := by decide +kernel
theorem dL_law_32 : decode cL_law 32 = .ok (.aload_n 0, 1) := by decide +kernel
theorem dL_law_33 : decode cL_law 33 = .ok (.iload_n 3, 1) := by decide +kernel
theorem dL_law_34 : decode cL_law 34 = .ok (.invokestatic 304, 3) := by decide +kernel
theorem dL_law_37 : decode cL_law 37 = .ok (.sipush 7919, 3) := by decide +kernel
theorem dL_law_40 : decode cL_law 40 = .ok (.iload_n 3, 1) := by decide +kernel
theorem dL_law_41 : decode cL_law 41 = .ok (.imul, 1) := by decide +kernel
theorem dL_law_42 : decode cL_law 42 = .ok (.iadd, 1) := by decide +kernel
theorem dL_law_43 : decode cL_law 43 = .ok (.ldc_w 308, 3) := by decide +kernel
theorem dL_law_46 : decode cL_law 46 = .ok (.invokestatic 309, 3) := by decide +kernel
theorem dL_law_49 : decode cL_law 49 = .ok (.istore 4, 2) := by decide +kernel
theorem dL_law_51 : decode cL_law 51 = .ok (.aload_n 1, 1) := by decide +kernel
theorem dL_law_52 : decode cL_law 52 = .ok (.iload 4, 2) := by decide +kernel
theorem dL_law_54 : decode cL_law 54 = .ok (.invokestatic 312, 3) := by decide +kernel
theorem dL_law_57 : decode cL_law 57 = .ok (.aload_n 2, 1) := by decide +kernel
theorem dL_law_58 : decode cL_law 58 = .ok (.iload 4, 2) := by decide +kernel
theorem dL_law_60 : decode cL_law 60 = .ok (.invokestatic 312, 3) := by decide +kernel
theorem dL_law_63 : decode cL_law 63 = .ok (.aload_n 1, 1) := by decide +kernel
theorem dL_law_64 : decode cL_law 64 = .ok (.iload 4, 2) := by decide +kernel
theorem dL_law_66 : decode cL_law 66 = .ok (.bipush 7, 2) := by decide +kernel
theorem dL_law_68 : decode cL_law 68 = .ok (.idiv, 1) := by decide +kernel
theorem dL_law_69 : decode cL_law 69 = .ok (.invokestatic 316, 3) := by decide +kernel
theorem dL_law_72 : decode cL_law 72 = .ok (.aload_n 2, 1) := by decide +kernel
theorem dL_law_73 : decode cL_law 73 = .ok (.iload 4, 2) := by decide +kernel
theorem dL_law_75 : decode cL_law 75 = .ok (.bipush 7, 2) := by decide +kernel
theorem dL_law_77 : decode cL_law 77 = .ok (.idiv, 1) := by decide +kernel
theorem dL_law_78 : decode cL_law 78 = .ok (.invokestatic 316, 3) := by decide +kernel
theorem dL_law_81 : decode cL_law 81 = .ok (.aload_n 1, 1) := by decide +kernel
theorem dL_law_82 : decode cL_law 82 = .ok (.iload 4, 2) := by decide +kernel
theorem dL_law_84 : decode cL_law 84 = .ok (.bipush 11, 2) := by decide +kernel
theorem dL_law_86 : decode cL_law 86 = .ok (.idiv, 1) := by decide +kernel
theorem dL_law_87 : decode cL_law 87 = .ok (.invokestatic 319, 3) := by decide +kernel
theorem dL_law_90 : decode cL_law 90 = .ok (.iinc 3 1, 3) := by decide +kernel
theorem dL_law_93 : decode cL_law 93 = .ok (.goto (-67), 3) := by decide +kernel
theorem dL_law_96 : decode cL_law 96 = .ok (.iconst 0, 1) := by decide +kernel
theorem dL_law_97 : decode cL_law 97 = .ok (.istore_n 3, 1) := by decide +kernel
theorem dL_law_98 : decode cL_law 98 = .ok (.iload_n 3, 1) := by decide +kernel
theorem dL_law_99 : decode cL_law 99 = .ok (.bipush 30, 2) := by decide +kernel
theorem dL_law_101 : decode cL_law 101 = .ok (.if_icmp .ge 363, 3) := by decide +kernel
theorem dL_law_104 : decode cL_law 104 = .ok (.aload_n 0, 1) := by decide +kernel
theorem dL_law_105 : decode cL_law 105 = .ok (.bipush 20, 2) := by decide +kernel
theorem dL_law_107 : decode cL_law 107 = .ok (.iload_n 3, 1) := by decide +kernel
theorem dL_law_108 : decode cL_law 108 = .ok (.iadd, 1) := by decide +kernel
theorem dL_law_109 : decode cL_law 109 = .ok (.invokestatic 304, 3) := by decide +kernel
theorem dL_law_112 : decode cL_law 112 = .ok (.ldc_w 322, 3) := by decide +kernel
theorem dL_law_115 : decode cL_law 115 = .ok (.iload_n 3, 1) := by decide +kernel
theorem dL_law_116 : decode cL_law 116 = .ok (.imul, 1) := by decide +kernel
theorem dL_law_117 : decode cL_law 117 = .ok (.iadd, 1) := by decide +kernel
theorem dL_law_118 : decode cL_law 118 = .ok (.ldc_w 308, 3) := by decide +kernel
theorem dL_law_121 : decode cL_law 121 = .ok (.invokestatic 309, 3) := by decide +kernel
theorem dL_law_124 : decode cL_law 124 = .ok (.istore 4, 2) := by decide +kernel
theorem dL_law_126 : decode cL_law 126 = .ok (.aload_n 1, 1) := by decide +kernel
theorem dL_law_127 : decode cL_law 127 = .ok (.iload 4, 2) := by decide +kernel
theorem dL_law_129 : decode cL_law 129 = .ok (.bipush 13, 2) := by decide +kernel
theorem dL_law_131 : decode cL_law 131 = .ok (.idiv, 1) := by decide +kernel
theorem dL_law_132 : decode cL_law 132 = .ok (.invokestatic 319, 3) := by decide +kernel
theorem dL_law_135 : decode cL_law 135 = .ok (.iload 4, 2) := by decide +kernel
theorem dL_law_137 : decode cL_law 137 = .ok (.bipush 8, 2) := by decide +kernel
theorem dL_law_139 : decode cL_law 139 = .ok (.irem, 1) := by decide +kernel
theorem dL_law_140 : decode cL_law 140 = .ok (.tableswitch 174 0 6 #[44, 44, 44, 119, 119, 119, 153], 44) := by decide +kernel
theorem dL_law_184 : decode cL_law 184 = .ok (.iload 4, 2) := by decide +kernel
theorem dL_law_186 : decode cL_law 186 = .ok (.bipush 32, 2) := by decide +kernel
theorem dL_law_188 : decode cL_law 188 = .ok (.idiv, 1) := by decide +kernel
theorem dL_law_189 : decode cL_law 189 = .ok (.iconst 2, 1) := by decide +kernel
theorem dL_law_190 : decode cL_law 190 = .ok (.irem, 1) := by decide +kernel
theorem dL_law_191 : decode cL_law 191 = .ok (.istore 5, 2) := by decide +kernel
theorem dL_law_193 : decode cL_law 193 = .ok (.aload_n 1, 1) := by decide +kernel
theorem dL_law_194 : decode cL_law 194 = .ok (.iload 4, 2) := by decide +kernel
theorem dL_law_196 : decode cL_law 196 = .ok (.bipush 8, 2) := by decide +kernel
theorem dL_law_198 : decode cL_law 198 = .ok (.idiv, 1) := by decide +kernel
theorem dL_law_199 : decode cL_law 199 = .ok (.iconst 4, 1) := by decide +kernel
theorem dL_law_200 : decode cL_law 200 = .ok (.irem, 1) := by decide +kernel
theorem dL_law_201 : decode cL_law 201 = .ok (.iload 4, 2) := by decide +kernel
theorem dL_law_203 : decode cL_law 203 = .ok (.bipush 64, 2) := by decide +kernel
theorem dL_law_205 : decode cL_law 205 = .ok (.idiv, 1) := by decide +kernel
theorem dL_law_206 : decode cL_law 206 = .ok (.iconst 4, 1) := by decide +kernel
theorem dL_law_207 : decode cL_law 207 = .ok (.irem, 1) := by decide +kernel
theorem dL_law_208 : decode cL_law 208 = .ok (.iload 5, 2) := by decide +kernel
theorem dL_law_210 : decode cL_law 210 = .ok (.iload 4, 2) := by decide +kernel
theorem dL_law_212 : decode cL_law 212 = .ok (.sipush 256, 3) := by decide +kernel
theorem dL_law_215 : decode cL_law 215 = .ok (.idiv, 1) := by decide +kernel
theorem dL_law_216 : decode cL_law 216 = .ok (.bipush 6, 2) := by decide +kernel
theorem dL_law_218 : decode cL_law 218 = .ok (.irem, 1) := by decide +kernel
theorem dL_law_219 : decode cL_law 219 = .ok (.iconst 1, 1) := by decide +kernel
theorem dL_law_220 : decode cL_law 220 = .ok (.invokestatic 323, 3) := by decide +kernel
theorem dL_law_223 : decode cL_law 223 = .ok (.aload_n 2, 1) := by decide +kernel
theorem dL_law_224 : decode cL_law 224 = .ok (.iload 4, 2) := by decide +kernel
theorem dL_law_226 : decode cL_law 226 = .ok (.bipush 8, 2) := by decide +kernel
theorem dL_law_228 : decode cL_law 228 = .ok (.idiv, 1) := by decide +kernel
theorem dL_law_229 : decode cL_law 229 = .ok (.iconst 4, 1) := by decide +kernel
theorem dL_law_230 : decode cL_law 230 = .ok (.irem, 1) := by decide +kernel
theorem dL_law_231 : decode cL_law 231 = .ok (.iload 4, 2) := by decide +kernel
theorem dL_law_233 : decode cL_law 233 = .ok (.bipush 64, 2) := by decide +kernel
theorem dL_law_235 : decode cL_law 235 = .ok (.idiv, 1) := by decide +kernel
theorem dL_law_236 : decode cL_law 236 = .ok (.iconst 4, 1) := by decide +kernel
theorem dL_law_237 : decode cL_law 237 = .ok (.irem, 1) := by decide +kernel
theorem dL_law_238 : decode cL_law 238 = .ok (.iload 5, 2) := by decide +kernel
theorem dL_law_240 : decode cL_law 240 = .ok (.iload 4, 2) := by decide +kernel
theorem dL_law_242 : decode cL_law 242 = .ok (.sipush 256, 3) := by decide +kernel
theorem dL_law_245 : decode cL_law 245 = .ok (.idiv, 1) := by decide +kernel
theorem dL_law_246 : decode cL_law 246 = .ok (.bipush 6, 2) := by decide +kernel
theorem dL_law_248 : decode cL_law 248 = .ok (.irem, 1) := by decide +kernel
theorem dL_law_249 : decode cL_law 249 = .ok (.iconst 1, 1) := by decide +kernel
theorem dL_law_250 : decode cL_law 250 = .ok (.invokestatic 323, 3) := by decide +kernel
theorem dL_law_253 : decode cL_law 253 = .ok (.lcmp, 1) := by decide +kernel
theorem dL_law_254 : decode cL_law 254 = .ok (.ifCond .eq 194, 3) := by decide +kernel
theorem dL_law_257 : decode cL_law 257 = .ok (.iconst 0, 1) := by decide +kernel
theorem dL_law_258 : decode cL_law 258 = .ok (.ireturn, 1) := by decide +kernel
theorem dL_law_259 : decode cL_law 259 = .ok (.aload_n 1, 1) := by decide +kernel
theorem dL_law_260 : decode cL_law 260 = .ok (.iconst 1, 1) := by decide +kernel
theorem dL_law_261 : decode cL_law 261 = .ok (.iload 4, 2) := by decide +kernel
theorem dL_law_263 : decode cL_law 263 = .ok (.bipush 8, 2) := by decide +kernel
theorem dL_law_265 : decode cL_law 265 = .ok (.idiv, 1) := by decide +kernel
theorem dL_law_266 : decode cL_law 266 = .ok (.bipush 9, 2) := by decide +kernel
theorem dL_law_268 : decode cL_law 268 = .ok (.irem, 1) := by decide +kernel
theorem dL_law_269 : decode cL_law 269 = .ok (.iadd, 1) := by decide +kernel
theorem dL_law_270 : decode cL_law 270 = .ok (.invokestatic 326, 3) := by decide +kernel
theorem dL_law_273 : decode cL_law 273 = .ok (.aload_n 2, 1) := by decide +kernel
theorem dL_law_274 : decode cL_law 274 = .ok (.iconst 1, 1) := by decide +kernel
theorem dL_law_275 : decode cL_law 275 = .ok (.iload 4, 2) := by decide +kernel
theorem dL_law_277 : decode cL_law 277 = .ok (.bipush 8, 2) := by decide +kernel
theorem dL_law_279 : decode cL_law 279 = .ok (.idiv, 1) := by decide +kernel
theorem dL_law_280 : decode cL_law 280 = .ok (.bipush 9, 2) := by decide +kernel
theorem dL_law_282 : decode cL_law 282 = .ok (.irem, 1) := by decide +kernel
theorem dL_law_283 : decode cL_law 283 = .ok (.iadd, 1) := by decide +kernel
theorem dL_law_284 : decode cL_law 284 = .ok (.invokestatic 326, 3) := by decide +kernel
theorem dL_law_287 : decode cL_law 287 = .ok (.lcmp, 1) := by decide +kernel
theorem dL_law_288 : decode cL_law 288 = .ok (.ifCond .eq 160, 3) := by decide +kernel
theorem dL_law_291 : decode cL_law 291 = .ok (.iconst 0, 1) := by decide +kernel
theorem dL_law_292 : decode cL_law 292 = .ok (.ireturn, 1) := by decide +kernel
theorem dL_law_293 : decode cL_law 293 = .ok (.aload_n 1, 1) := by decide +kernel
theorem dL_law_294 : decode cL_law 294 = .ok (.iload 4, 2) := by decide +kernel
theorem dL_law_296 : decode cL_law 296 = .ok (.bipush 8, 2) := by decide +kernel
theorem dL_law_298 : decode cL_law 298 = .ok (.idiv, 1) := by decide +kernel
theorem dL_law_299 : decode cL_law 299 = .ok (.invokestatic 312, 3) := by decide +kernel
theorem dL_law_302 : decode cL_law 302 = .ok (.aload_n 2, 1) := by decide +kernel
theorem dL_law_303 : decode cL_law 303 = .ok (.iload 4, 2) := by decide +kernel
theorem dL_law_305 : decode cL_law 305 = .ok (.bipush 8, 2) := by decide +kernel
theorem dL_law_307 : decode cL_law 307 = .ok (.idiv, 1) := by decide +kernel
theorem dL_law_308 : decode cL_law 308 = .ok (.invokestatic 312, 3) := by decide +kernel
theorem dL_law_311 : decode cL_law 311 = .ok (.goto 137, 3) := by decide +kernel
theorem dL_law_314 : decode cL_law 314 = .ok (.iload 4, 2) := by decide +kernel
theorem dL_law_316 : decode cL_law 316 = .ok (.bipush 8, 2) := by decide +kernel
theorem dL_law_318 : decode cL_law 318 = .ok (.idiv, 1) := by decide +kernel
theorem dL_law_319 : decode cL_law 319 = .ok (.iconst 3, 1) := by decide +kernel
theorem dL_law_320 : decode cL_law 320 = .ok (.irem, 1) := by decide +kernel
theorem dL_law_321 : decode cL_law 321 = .ok (.ifCond .ne 17, 3) := by decide +kernel
theorem dL_law_324 : decode cL_law 324 = .ok (.aload_n 1, 1) := by decide +kernel
theorem dL_law_325 : decode cL_law 325 = .ok (.invokestatic 328, 3) := by decide +kernel
theorem dL_law_328 : decode cL_law 328 = .ok (.aload_n 2, 1) := by decide +kernel
theorem dL_law_329 : decode cL_law 329 = .ok (.invokestatic 328, 3) := by decide +kernel
theorem dL_law_332 : decode cL_law 332 = .ok (.lcmp, 1) := by decide +kernel
theorem dL_law_333 : decode cL_law 333 = .ok (.ifCond .eq 115, 3) := by decide +kernel
theorem dL_law_336 : decode cL_law 336 = .ok (.iconst 0, 1) := by decide +kernel
theorem dL_law_337 : decode cL_law 337 = .ok (.ireturn, 1) := by decide +kernel
theorem dL_law_338 : decode cL_law 338 = .ok (.iload 4, 2) := by decide +kernel
theorem dL_law_340 : decode cL_law 340 = .ok (.bipush 8, 2) := by decide +kernel
theorem dL_law_342 : decode cL_law 342 = .ok (.idiv, 1) := by decide +kernel
theorem dL_law_343 : decode cL_law 343 = .ok (.iconst 3, 1) := by decide +kernel
theorem dL_law_344 : decode cL_law 344 = .ok (.irem, 1) := by decide +kernel
theorem dL_law_345 : decode cL_law 345 = .ok (.iconst 1, 1) := by decide +kernel
theorem dL_law_346 : decode cL_law 346 = .ok (.if_icmp .ne 56, 3) := by decide +kernel
theorem dL_law_349 : decode cL_law 349 = .ok (.aload_n 1, 1) := by decide +kernel
theorem dL_law_350 : decode cL_law 350 = .ok (.invokestatic 330, 3) := by decide +kernel
theorem dL_law_353 : decode cL_law 353 = .ok (.lstore 6, 2) := by decide +kernel
theorem dL_law_355 : decode cL_law 355 = .ok (.aload_n 1, 1) := by decide +kernel
theorem dL_law_356 : decode cL_law 356 = .ok (.invokestatic 295, 3) := by decide +kernel
theorem dL_law_359 : decode cL_law 359 = .ok (.lstore 8, 2) := by decide +kernel
theorem dL_law_361 : decode cL_law 361 = .ok (.aload_n 1, 1) := by decide +kernel
theorem dL_law_362 : decode cL_law 362 = .ok (.invokestatic 333, 3) := by decide +kernel
theorem dL_law_365 : decode cL_law 365 = .ok (.lload 8, 2) := by decide +kernel
theorem dL_law_367 : decode cL_law 367 = .ok (.lload 6, 2) := by decide +kernel
theorem dL_law_369 : decode cL_law 369 = .ok (.lsub, 1) := by decide +kernel
theorem dL_law_370 : decode cL_law 370 = .ok (.lcmp, 1) := by decide +kernel
theorem dL_law_371 : decode cL_law 371 = .ok (.ifCond .ne 26, 3) := by decide +kernel
theorem dL_law_374 : decode cL_law 374 = .ok (.aload_n 1, 1) := by decide +kernel
theorem dL_law_375 : decode cL_law 375 = .ok (.invokestatic 295, 3) := by decide +kernel
theorem dL_law_378 : decode cL_law 378 = .ok (.lload 6, 2) := by decide +kernel
theorem dL_law_380 : decode cL_law 380 = .ok (.lcmp, 1) := by decide +kernel
theorem dL_law_381 : decode cL_law 381 = .ok (.ifCond .ne 16, 3) := by decide +kernel
theorem dL_law_384 : decode cL_law 384 = .ok (.aload_n 2, 1) := by decide +kernel
theorem dL_law_385 : decode cL_law 385 = .ok (.invokestatic 333, 3) := by decide +kernel
theorem dL_law_388 : decode cL_law 388 = .ok (.lload 8, 2) := by decide +kernel
theorem dL_law_390 : decode cL_law 390 = .ok (.lload 6, 2) := by decide +kernel
theorem dL_law_392 : decode cL_law 392 = .ok (.lsub, 1) := by decide +kernel
theorem dL_law_393 : decode cL_law 393 = .ok (.lcmp, 1) := by decide +kernel
theorem dL_law_394 : decode cL_law 394 = .ok (.ifCond .eq 5, 3) := by decide +kernel
theorem dL_law_397 : decode cL_law 397 = .ok (.iconst 0, 1) := by decide +kernel
theorem dL_law_398 : decode cL_law 398 = .ok (.ireturn, 1) := by decide +kernel
theorem dL_law_399 : decode cL_law 399 = .ok (.goto 49, 3) := by decide +kernel
theorem dL_law_402 : decode cL_law 402 = .ok (.aload_n 1, 1) := by decide +kernel
theorem dL_law_403 : decode cL_law 403 = .ok (.iload 4, 2) := by decide +kernel
theorem dL_law_405 : decode cL_law 405 = .ok (.bipush 24, 2) := by decide +kernel
theorem dL_law_407 : decode cL_law 407 = .ok (.idiv, 1) := by decide +kernel
theorem dL_law_408 : decode cL_law 408 = .ok (.bipush 6, 2) := by decide +kernel
theorem dL_law_410 : decode cL_law 410 = .ok (.irem, 1) := by decide +kernel
theorem dL_law_411 : decode cL_law 411 = .ok (.iload 4, 2) := by decide +kernel
theorem dL_law_413 : decode cL_law 413 = .ok (.sipush 144, 3) := by decide +kernel
theorem dL_law_416 : decode cL_law 416 = .ok (.idiv, 1) := by decide +kernel
theorem dL_law_417 : decode cL_law 417 = .ok (.iconst 4, 1) := by decide +kernel
theorem dL_law_418 : decode cL_law 418 = .ok (.irem, 1) := by decide +kernel
theorem dL_law_419 : decode cL_law 419 = .ok (.invokestatic 335, 3) := by decide +kernel
theorem dL_law_422 : decode cL_law 422 = .ok (.aload_n 2, 1) := by decide +kernel
theorem dL_law_423 : decode cL_law 423 = .ok (.iload 4, 2) := by decide +kernel
theorem dL_law_425 : decode cL_law 425 = .ok (.bipush 24, 2) := by decide +kernel
theorem dL_law_427 : decode cL_law 427 = .ok (.idiv, 1) := by decide +kernel
theorem dL_law_428 : decode cL_law 428 = .ok (.bipush 6, 2) := by decide +kernel
theorem dL_law_430 : decode cL_law 430 = .ok (.irem, 1) := by decide +kernel
theorem dL_law_431 : decode cL_law 431 = .ok (.iload 4, 2) := by decide +kernel
theorem dL_law_433 : decode cL_law 433 = .ok (.sipush 144, 3) := by decide +kernel
theorem dL_law_436 : decode cL_law 436 = .ok (.idiv, 1) := by decide +kernel
theorem dL_law_437 : decode cL_law 437 = .ok (.iconst 4, 1) := by decide +kernel
theorem dL_law_438 : decode cL_law 438 = .ok (.irem, 1) := by decide +kernel
theorem dL_law_439 : decode cL_law 439 = .ok (.invokestatic 335, 3) := by decide +kernel
theorem dL_law_442 : decode cL_law 442 = .ok (.lcmp, 1) := by decide +kernel
theorem dL_law_443 : decode cL_law 443 = .ok (.ifCond .eq 5, 3) := by decide +kernel
theorem dL_law_446 : decode cL_law 446 = .ok (.iconst 0, 1) := by decide +kernel
theorem dL_law_447 : decode cL_law 447 = .ok (.ireturn, 1) := by decide +kernel
theorem dL_law_448 : decode cL_law 448 = .ok (.aload_n 1, 1) := by decide +kernel
theorem dL_law_449 : decode cL_law 449 = .ok (.aload_n 2, 1) := by decide +kernel
theorem dL_law_450 : decode cL_law 450 = .ok (.invokestatic 337, 3) := by decide +kernel
theorem dL_law_453 : decode cL_law 453 = .ok (.ifCond .ne 5, 3) := by decide +kernel
theorem dL_law_456 : decode cL_law 456 = .ok (.iconst 0, 1) := by decide +kernel
theorem dL_law_457 : decode cL_law 457 = .ok (.ireturn, 1) := by decide +kernel
theorem dL_law_458 : decode cL_law 458 = .ok (.iinc 3 1, 3) := by decide +kernel
theorem dL_law_461 : decode cL_law 461 = .ok (.goto (-363), 3) := by decide +kernel
theorem dL_law_464 : decode cL_law 464 = .ok (.iconst 1, 1) := by decide +kernel
theorem dL_law_465 : decode cL_law 465 = .ok (.ireturn, 1) := by decide +kernel
section SITES
variable {p : Program} {l : Launch} {e : Env} {R : Room} {s : State} {m : MethodId} {args : Array Value} {below : List Frame} {meth : Method} {c : Code} {H : Heap} {locs : List Loc} {cells slots : Nat} {Q : State → Prop}
variable {pc : Nat} {ls : Array Slot} {rest : List Value} {D : va_G} {ar : Nat → ClassId} {κ : Nat → Nat} {A : Nat → Prop} {a : Nat} {H0 : Heap} {G : gW} {nz nL : Nat} {cc : ByteArray}
theorem m_8_2 : (Cond.code yL_areAlike cL_areAlike 2 (some .boolean)) ∈ lwA := lwA_mk (ck_8 _ (List.mem_of_getElem? (i := 2) rfl)) rfl
theorem m_8_0 : (Cond.methodLink RL 337 yL_areAlike) ∈ lwA := lwA_mk (ck_8 _ (List.mem_of_getElem? (i := 0) rfl)) rfl
theorem m_8_1 : (Cond.static yL_areAlike) ∈ lwA := lwA_mk (ck_8 _ (List.mem_of_getElem? (i := 1) rfl)) rfl
theorem k_RL_337 {args : Array Value} {s : State} {R rm : Room} (hts : ∀ w ∈ lwA, w.before args s = true) (hR : rm.frames + 1 ≤ R.frames ∧ 8 + (2 + 11) + rm.locals ≤ R.locals) : CallB R s args RL 337 yL_areAlike cL_areAlike 2 (some .boolean) (lwC yL_areAlike cL_areAlike 2 (some .boolean)) rm rm.cells rm.slots 2 ∧ (Cond.static yL_areAlike).before args s = true := cwS 2 hts (gdS m_8_0 m_8_1 m_1_0 m_8_2) rfl rfl rfl (by decide +kernel) hR
theorem m_2_47 : (Cond.code yL_cell cL_cell 7 (some .int)) ∈ lwA := lwA_mk (ck_2 _ (List.mem_of_getElem? (i := 47) rfl)) rfl
theorem m_2_45 : (Cond.methodLink RL 304 yL_cell) ∈ lwA := lwA_mk (ck_2 _ (List.mem_of_getElem? (i := 45) rfl)) rfl
theorem m_2_46 : (Cond.static yL_cell) ∈ lwA := lwA_mk (ck_2 _ (List.mem_of_getElem? (i := 46) rfl)) rfl
theorem k_RL_304 {args : Array Value} {s : State} {R rm : Room} (hts : ∀ w ∈ lwA, w.before args s = true) (hR : rm.frames + 1 ≤ R.frames ∧ 8 + (7 + 11) + rm.locals ≤ R.locals) : CallB R s args RL 304 yL_cell cL_cell 7 (some .int) (lwC yL_cell cL_cell 7 (some .int)) rm rm.cells rm.slots 2 ∧ (Cond.static yL_cell).before args s = true := cwS 2 hts (gdS m_2_45 m_2_46 m_1_0 m_2_47) rfl rfl rfl (by decide +kernel) hR
theorem m_8_84 : (Cond.constant RL 322 (104729)) ∈ lwA := lwA_mk (ck_8 _ (List.mem_of_getElem? (i := 84) rfl)) rfl
theorem m_8_83 : (Cond.constant RL 308 (10000000)) ∈ lwA := lwA_mk (ck_8 _ (List.mem_of_getElem? (i := 83) rfl)) rfl
theorem m_2_53 : (Cond.code yL_chosen cL_chosen 2 (some .int)) ∈ lwA := lwA_mk (ck_2 _ (List.mem_of_getElem? (i := 53) rfl)) rfl
theorem m_2_51 : (Cond.methodLink RL 309 yL_chosen) ∈ lwA := lwA_mk (ck_2 _ (List.mem_of_getElem? (i := 51) rfl)) rfl
theorem m_2_52 : (Cond.static yL_chosen) ∈ lwA := lwA_mk (ck_2 _ (List.mem_of_getElem? (i := 52) rfl)) rfl
theorem k_RL_309 {args : Array Value} {s : State} {R rm : Room} (hts : ∀ w ∈ lwA, w.before args s = true) (hR : rm.frames + 1 ≤ R.frames ∧ 8 + (2 + 11) + rm.locals ≤ R.locals) : CallB R s args RL 309 yL_chosen cL_chosen 2 (some .int) (lwC yL_chosen cL_chosen 2 (some .int)) rm rm.cells rm.slots 2 ∧ (Cond.static yL_chosen).before args s = true := cwS 2 hts (gdS m_2_51 m_2_52 m_1_0 m_2_53) rfl rfl rfl (by decide +kernel) hR
theorem m_7_130 : (Cond.code yL_compiles cL_compiles 2 none) ∈ lwA := lwA_mk (ck_7 _ (List.mem_of_getElem? (i := 130) rfl)) rfl
theorem m_7_128 : (Cond.methodLink RL 319 yL_compiles) ∈ lwA := lwA_mk (ck_7 _ (List.mem_of_getElem? (i := 128) rfl)) rfl
theorem m_7_129 : (Cond.static yL_compiles) ∈ lwA := lwA_mk (ck_7 _ (List.mem_of_getElem? (i := 129) rfl)) rfl
theorem k_RL_319 {args : Array Value} {s : State} {R rm : Room} (hts : ∀ w ∈ lwA, w.before args s = true) (hR : rm.frames + 1 ≤ R.frames ∧ 8 + (2 + 11) + rm.locals ≤ R.locals) : CallB R s args RL 319 yL_compiles cL_compiles 2 none (lwC yL_compiles cL_compiles 2 none) rm rm.cells rm.slots 2 ∧ (Cond.static yL_compiles).before args s = true := cwS 2 hts (gdS m_7_128 m_7_129 m_1_0 m_7_130) rfl rfl rfl (by decide +kernel) hR
theorem m_3_33 : (Cond.codeWith yL_begin cL_begin 7 (some .long) [(0, 12, 13, 17), (0, 12, 19, 23), (0, 12, 25, 27), (0, 12, 31, 47)]) ∈ lwA := lwA_mk (ck_3 _ (List.mem_of_getElem? (i := 33) rfl)) rfl
theorem m_3_31 : (Cond.methodLink RL 323 yL_begin) ∈ lwA := lwA_mk (ck_3 _ (List.mem_of_getElem? (i := 31) rfl)) rfl
theorem m_3_32 : (Cond.static yL_begin) ∈ lwA := lwA_mk (ck_3 _ (List.mem_of_getElem? (i := 32) rfl)) rfl
theorem kW_323 {args : Array Value} {s : State} {R rm : Room} (hts : ∀ w ∈ lwA, w.before args s = true) (hR : rm.frames + 1 ≤ R.frames ∧ 8 + (7 + 11) + rm.locals ≤ R.locals) : vx_CSW R s args RL 323 yL_begin cL_begin 7 (some .long) [(0, 12, 13, 17), (0, 12, 19, 23), (0, 12, 25, 27), (0, 12, 31, 47)] (lwCW yL_begin cL_begin 7 (some .long) [(0, 12, 13, 17), (0, 12, 19, 23), (0, 12, 25, 27), (0, 12, 31, 47)]) rm rm.cells rm.slots 6 := vx_cwSW 6 hts (gdT m_3_31 m_3_32 m_1_0 m_3_33) rfl rfl rfl (by decide +kernel) hR
theorem m_3_131 : (Cond.codeWith yL_go cL_go 3 (some .long) [(0, 6, 7, 23), (0, 6, 12, 27)]) ∈ lwA := lwA_mk (ck_3 _ (List.mem_of_getElem? (i := 131) rfl)) rfl
theorem m_3_129 : (Cond.methodLink RL 326 yL_go) ∈ lwA := lwA_mk (ck_3 _ (List.mem_of_getElem? (i := 129) rfl)) rfl
theorem m_3_130 : (Cond.static yL_go) ∈ lwA := lwA_mk (ck_3 _ (List.mem_of_getElem? (i := 130) rfl)) rfl
theorem kW_326 {args : Array Value} {s : State} {R rm : Room} (hts : ∀ w ∈ lwA, w.before args s = true) (hR : rm.frames + 1 ≤ R.frames ∧ 8 + (3 + 11) + rm.locals ≤ R.locals) : vx_CSW R s args RL 326 yL_go cL_go 3 (some .long) [(0, 6, 7, 23), (0, 6, 12, 27)] (lwCW yL_go cL_go 3 (some .long) [(0, 6, 7, 23), (0, 6, 12, 27)]) rm rm.cells rm.slots 2 := vx_cwSW 2 hts (gdT m_3_129 m_3_130 m_1_0 m_3_131) rfl rfl rfl (by decide +kernel) hR
theorem m_4_149 : (Cond.code yL_tellsOne cL_tellsOne 7 none) ∈ lwA := lwA_mk (ck_4 _ (List.mem_of_getElem? (i := 149) rfl)) rfl
theorem m_4_147 : (Cond.methodLink RL 312 yL_tellsOne) ∈ lwA := lwA_mk (ck_4 _ (List.mem_of_getElem? (i := 147) rfl)) rfl
theorem m_4_148 : (Cond.static yL_tellsOne) ∈ lwA := lwA_mk (ck_4 _ (List.mem_of_getElem? (i := 148) rfl)) rfl
theorem k_RL_312 {args : Array Value} {s : State} {R rm : Room} (hts : ∀ w ∈ lwA, w.before args s = true) (hR : rm.frames + 1 ≤ R.frames ∧ 8 + (7 + 11) + rm.locals ≤ R.locals) : CallB R s args RL 312 yL_tellsOne cL_tellsOne 7 none (lwC yL_tellsOne cL_tellsOne 7 none) rm rm.cells rm.slots 2 ∧ (Cond.static yL_tellsOne).before args s = true := cwS 2 hts (gdS m_4_147 m_4_148 m_1_0 m_4_149) rfl rfl rfl (by decide +kernel) hR
theorem m_2_57 : (Cond.codeWith yL_remove cL_remove 4 (some .long) [(0, 7, 8, 17), (0, 7, 13, 52)]) ∈ lwA := lwA_mk (ck_2 _ (List.mem_of_getElem? (i := 57) rfl)) rfl
theorem m_2_55 : (Cond.methodLink RL 335 yL_remove) ∈ lwA := lwA_mk (ck_2 _ (List.mem_of_getElem? (i := 55) rfl)) rfl
theorem m_2_56 : (Cond.static yL_remove) ∈ lwA := lwA_mk (ck_2 _ (List.mem_of_getElem? (i := 56) rfl)) rfl
theorem kW_335 {args : Array Value} {s : State} {R rm : Room} (hts : ∀ w ∈ lwA, w.before args s = true) (hR : rm.frames + 1 ≤ R.frames ∧ 8 + (4 + 11) + rm.locals ≤ R.locals) : vx_CSW R s args RL 335 yL_remove cL_remove 4 (some .long) [(0, 7, 8, 17), (0, 7, 13, 52)] (lwCW yL_remove cL_remove 4 (some .long) [(0, 7, 8, 17), (0, 7, 13, 52)]) rm rm.cells rm.slots 3 := vx_cwSW 3 hts (gdT m_2_55 m_2_56 m_1_0 m_2_57) rfl rfl rfl (by decide +kernel) hR
theorem m_7_151 : (Cond.code yL_reached cL_reached 9 (some .long)) ∈ lwA := lwA_mk (ck_7 _ (List.mem_of_getElem? (i := 151) rfl)) rfl
theorem m_7_149 : (Cond.methodLink RL 330 yL_reached) ∈ lwA := lwA_mk (ck_7 _ (List.mem_of_getElem? (i := 149) rfl)) rfl
theorem m_7_150 : (Cond.static yL_reached) ∈ lwA := lwA_mk (ck_7 _ (List.mem_of_getElem? (i := 150) rfl)) rfl
theorem k_RL_330 {args : Array Value} {s : State} {R rm : Room} (hts : ∀ w ∈ lwA, w.before args s = true) (hR : rm.frames + 1 ≤ R.frames ∧ 8 + (9 + 11) + rm.locals ≤ R.locals) : CallB R s args RL 330 yL_reached cL_reached 9 (some .long) (lwC yL_reached cL_reached 9 (some .long)) rm rm.cells rm.slots 1 ∧ (Cond.static yL_reached).before args s = true := cwS 1 hts (gdS m_7_149 m_7_150 m_1_0 m_7_151) rfl rfl rfl (by decide +kernel) hR
theorem m_2_207 : (Cond.code yL_collect cL_collect 1 (some .long)) ∈ lwA := lwA_mk (ck_2 _ (List.mem_of_getElem? (i := 207) rfl)) rfl
theorem m_2_205 : (Cond.methodLink RL 333 yL_collect) ∈ lwA := lwA_mk (ck_2 _ (List.mem_of_getElem? (i := 205) rfl)) rfl
theorem m_2_206 : (Cond.static yL_collect) ∈ lwA := lwA_mk (ck_2 _ (List.mem_of_getElem? (i := 206) rfl)) rfl
theorem k_RL_333 {args : Array Value} {s : State} {R rm : Room} (hts : ∀ w ∈ lwA, w.before args s = true) (hR : rm.frames + 1 ≤ R.frames ∧ 8 + (1 + 11) + rm.locals ≤ R.locals) : CallB R s args RL 333 yL_collect cL_collect 1 (some .long) (lwC yL_collect cL_collect 1 (some .long)) rm rm.cells rm.slots 1 ∧ (Cond.static yL_collect).before args s = true := cwS 1 hts (gdS m_2_205 m_2_206 m_1_0 m_2_207) rfl rfl rfl (by decide +kernel) hR
theorem m_4_141 : (Cond.codeWith yL_end cL_end 2 (some .long) [(0, 5, 6, 27)]) ∈ lwA := lwA_mk (ck_4 _ (List.mem_of_getElem? (i := 141) rfl)) rfl
theorem m_4_139 : (Cond.methodLink RL 328 yL_end) ∈ lwA := lwA_mk (ck_4 _ (List.mem_of_getElem? (i := 139) rfl)) rfl
theorem m_4_140 : (Cond.static yL_end) ∈ lwA := lwA_mk (ck_4 _ (List.mem_of_getElem? (i := 140) rfl)) rfl
theorem kW_328 {args : Array Value} {s : State} {R rm : Room} (hts : ∀ w ∈ lwA, w.before args s = true) (hR : rm.frames + 1 ≤ R.frames ∧ 8 + (2 + 11) + rm.locals ≤ R.locals) : vx_CSW R s args RL 328 yL_end cL_end 2 (some .long) [(0, 5, 6, 27)] (lwCW yL_end cL_end 2 (some .long) [(0, 5, 6, 27)]) rm rm.cells rm.slots 1 := vx_cwSW 1 hts (gdT m_4_139 m_4_140 m_1_0 m_4_141) rfl rfl rfl (by decide +kernel) hR
end SITES
set_option maxHeartbeats 8000000 in
set_option maxRecDepth 100000 in
theorem law_2 {p : Program} {e : Env} {s : State} {m : MethodId} {below : List Frame} {meth : Method} {c : Code} (l : Launch) (hlt : l.stackTraces = false) (D : va_G) (ar : Nat → ClassId) (κ : Nat → Nat) (b L : Nat) (xs : Nat → Int32) (hL : L ≤ 260) (a1 a2 : Nat) (S : CallFix p m c cL_law 10 s #[.ref b] lwA RL) (hr : meth.sig.returnType = ret) (hlk : meth.locks = false) (hE : g_E D vwCl (gT ar) (EX1 κ) (fun q => s.heap.size ≤ q) s s.heap) (hEs : g_E D vwCl (gT ar) (EXs κ b L xs) (fun q => s.heap.size ≤ q) s s.heap) :
    ∀ (n9 k : Nat), k ≤ 30 → 31 ≤ k + n9 → ∀ (x1 x2 : Xo) (Z : Ho) (G : gW) (n1 : Nat) (H : Heap) (locs : List Loc) (ls : Array Slot), x1.f .ho = a1 → x2.f .ho = a2 → OK x1 Z → OK x2 Z → DJ x1 x2 → LI Z (60 * k) (225 * k) → g_S D vwCl (fun q => s.heap.size ≤ q) s.heap (ov κ ar x1 Z (ov κ ar x2 Z G)) H locs n1 → lv_has ls 10 [(3, .int (nI k)), (2, .ref a2), (1, .ref a1), (0, .ref b)] → W p l e room_1 s m #[Value.ref b] below meth c H locs (6000 + 16450 * k) (220000 + 104200 * k) (lw_Z below #[Value.ref b] s) (F0 m 98 ls []) := by
  have hx := S.1
  have hb := S.2.1
  intro n9
  induction n9 with
  | zero => intro k h1 h2; omega
  | succ n9 ih =>
    intro k hk30 hk31
    have M : ∀ (x1 x2 : Xo) (Z : Ho) (G : gW) (n1 : Nat) (H : Heap) (locs : List Loc) (ls : Array Slot), x1.f .ho = a1 → x2.f .ho = a2 → OK x1 Z → OK x2 Z → DJ x1 x2 → LI Z (60 * (k + 1)) (225 * (k + 1)) → g_S D vwCl (fun q => s.heap.size ≤ q) s.heap (ov κ ar x1 Z (ov κ ar x2 Z G)) H locs n1 → k < 30 → lv_has ls 10 [(3, .int (nI k)), (2, .ref a2), (1, .ref a1), (0, .ref b)] → W p l e room_1 s m #[Value.ref b] below meth c H locs (6000 + 16450 * k + 16440) (220000 + 104200 * k + 104150) (lw_Z below #[Value.ref b] s) (F0 m 448 ls []) := by
      intro x1 x2 Z G n1 H locs ls hf1 hf2 hk1 hk2 hdj hLI w hkk hl
      refine lv_aload_n hx hb dL_law_448 rfl (lv_at hl 2 rfl) ?_
      refine lv_aload_n hx hb dL_law_449 rfl (lv_at hl 1 rfl) ?_
      rw [← hf1]
      rw [← hf2]
      refine g_calli w (g_runS (As := [.ref (x1.f .ho), .ref (x2.f .ho)]) (rest := []) S hE w hl (hL_areAlike l D ar κ G x1 x2 Z n1 hk1 hk2 hdj (li_sound hLI) hlt) (k_RL_337 S.2.2.2.2 ⟨Nat.le_of_ble_eq_true rfl, Nat.le_of_ble_eq_true rfl⟩) rfl rfl (Nat.le_of_ble_eq_true rfl) dL_law_450 ⟨(by (try dsimp only [room_1]); omega), (by (try dsimp only [room_1]); omega)⟩) (fun r1 u H locs hp hnz w => ?_)
      obtain ⟨rfl, hu1⟩ := hp
      obtain ⟨v1, m1⟩ := u
      dsimp only at hu1 w hnz
      subst hu1
      refine lv_if_ne (tgt := 458) hx hb dL_law_453 (by decide) (fun _ => ?_) (fun c => absurd c (by decide))
      refine lv_iinc (v := (nI k) + 1) (lv' := [(3, .int ((nI k) + 1)), (2, .ref a2), (1, .ref a1), (0, .ref b)]) hx hb dL_law_458 hl (k := 0) rfl rfl (by decide) rfl (fun ls hl => ?_)
      rw [nI_1 k] at hl
      refine lv_goto (tgt := 98) hx hb dL_law_461 (by decide) ?_
      refine W.widen (k := 6000 + 16450 * (k + 1)) (n := 220000 + 104200 * (k + 1)) (by omega) (by omega) ?_
      exact ih (k + 1) (by omega) (by omega) x1 x2 Z G _ _ _ _ hf1 hf2 hk1 hk2 hdj hLI w (lv_sub hl [0, 1, 2, 3] rfl)
    intro x1 x2 Z G n1 H locs ls hf1 hf2 hk1 hk2 hdj hLI w hl
    refine lv_iload_n hx hb dL_law_98 rfl (lv_at hl 0 rfl) ?_
    refine lv_bipush (v := 30) hx hb dL_law_99 (by decide) ?_
    refine lv_icmp_ge (tgt := 464) hx hb dL_law_101 (by decide) (fun c_101 => ?_) (fun c_101 => ?_)
    · refine lv_iconst (v := 1) hx hb dL_law_464 (by decide) ?_
      exact lw_end S hr hlk w (by omega) (by omega) dL_law_465
    · have hkk : k < 30 := nI_nle9 (a := 30) c_101 (by omega)
      refine lv_aload_n hx hb dL_law_104 rfl (lv_at hl 3 rfl) ?_
      refine lv_bipush (v := 20) hx hb dL_law_105 (by decide) ?_
      refine lv_iload_n hx hb dL_law_107 rfl (lv_at hl 0 rfl) ?_
      refine lv_iadd hx hb dL_law_108 ?_
      rw [show (20 + (nI k) : Int32) = nI (20 + k) from nI_add 20 _]
      refine g_calli w (g_runSE (As := [.ref b, .int (nI (20 + k))]) (rest := []) (EXs_cl κ b L xs) S hEs w hl (hL_cell l D ar κ (ov κ ar x1 Z (ov κ ar x2 Z G)) n1 b L xs (20 + k) hL (by omega)) (k_RL_304 S.2.2.2.2 ⟨Nat.le_of_ble_eq_true rfl, Nat.le_of_ble_eq_true rfl⟩) rfl rfl (Nat.le_of_ble_eq_true rfl) dL_law_109 ⟨(by (try dsimp only [room_1]); omega), (by (try dsimp only [room_1]); omega)⟩) (fun r2 u H locs hp hnz w => ?_)
      obtain rfl := hp
      try dsimp only at w
      refine lv_ldcw hx hb S.2.2.2.1 (S.2.2.2.2 _ m_8_84) dL_law_112 ?_
      refine lv_iload_n hx hb dL_law_115 rfl (lv_at hl 0 rfl) ?_
      refine lv_imul hx hb dL_law_116 ?_
      generalize (104729 * (nI k) : Int32) = v1
      refine lv_iadd hx hb dL_law_117 ?_
      generalize (r2 + v1 : Int32) = v2
      refine lv_ldcw hx hb S.2.2.2.1 (S.2.2.2.2 _ m_8_83) dL_law_118 ?_
      refine g_calli w (g_runS (As := [.int v2, .int 10000000]) (rest := []) S hE w hl (hL_chosen l D ar κ (ov κ ar x1 Z (ov κ ar x2 Z G)) n1 v2) (k_RL_309 S.2.2.2.2 ⟨Nat.le_of_ble_eq_true rfl, Nat.le_of_ble_eq_true rfl⟩) rfl rfl (Nat.le_of_ble_eq_true rfl) dL_law_121 ⟨(by (try dsimp only [room_1]); omega), (by (try dsimp only [room_1]); omega)⟩) (fun r3 u H locs hp hnz w => ?_)
      obtain ⟨⟨j, hj, rfl⟩, rfl⟩ := hp
      try dsimp only at w
      refine lv_istore (lv' := [(4, .int (nI j)), (3, .int (nI k)), (2, .ref a2), (1, .ref a1), (0, .ref b)]) hx hb dL_law_124 hl (by decide) rfl (fun ls hl => ?_)
      refine lv_aload_n hx hb dL_law_126 rfl (lv_at hl 3 rfl) ?_
      refine lv_iload hx hb dL_law_127 (lv_at hl 0 rfl) ?_
      refine lv_bipush (v := 13) hx hb dL_law_129 (by decide) ?_
      refine lv_idiv hx hb dL_law_131 (by decide) ?_
      rw [show ((nI j) / 13 : Int32) = nI (j / 13) from nI_div (m := 13) (by omega) (by decide) (by decide)]
      rw [← hf1]
      have hw4 : ∀ q, n1 ≤ q → (ov κ ar x1 Z (ov κ ar x2 Z G)) q = none := fun q z => g_free w z
      refine g_callv w (g_runS (As := [.ref (x1.f .ho), .int (nI (j / 13))]) (rest := []) S hE w hl (hL_compiles l D ar κ (ov κ ar x2 Z G) x1 Z n1 (j / 13) hk1 hlt (by omega)) (k_RL_319 S.2.2.2.2 ⟨Nat.le_of_ble_eq_true rfl, Nat.le_of_ble_eq_true rfl⟩) rfl rfl (Nat.le_of_ble_eq_true rfl) dL_law_132 ⟨(by (try dsimp only [room_1]); omega), (by (try dsimp only [room_1]); omega)⟩) (fun u H locs hp hnz w => ?_)
      obtain ⟨y4, hu4, hk4, by4⟩ := hp
      obtain ⟨v4, m4⟩ := u
      dsimp only at hu4 w hnz
      subst hu4
      have hf4 : y4.f .ho = a1 := by4.1.trans hf1
      have hdj4 : DJ y4 x2 := dj_step hdj by4 hw4
      refine lv_iload hx hb dL_law_135 (lv_at hl 0 rfl) ?_
      refine lv_bipush (v := 8) hx hb dL_law_137 (by decide) ?_
      refine lv_irem hx hb dL_law_139 (by decide) ?_
      rw [show ((nI j) - (nI j) / 8 * 8 : Int32) = nI (j % 8) from nI_rem (m := 8) (by omega) (by decide) (by decide)]
      obtain ⟨w9, hw9⟩ : ∃ w9, w9 = j % 8 := ⟨_, rfl⟩
      rw [← hw9]
      have hw8 : w9 < 8 := by omega
      rcases (show (w9 = 0 ∨ w9 = 1 ∨ w9 = 2) ∨ (w9 = 3 ∨ w9 = 4 ∨ w9 = 5) ∨ w9 = 6 ∨ w9 = 7 by omega) with h8 | h8 | h8 | h8
      · refine lv_tableIn (off := 44) (tgt := 184) hx hb dL_law_140 (by rcases h8 with rfl | rfl | rfl <;> decide) (by rcases h8 with rfl | rfl | rfl <;> decide) (by rcases h8 with rfl | rfl | rfl <;> decide) (by decide) ?_
        refine lv_iload hx hb dL_law_184 (lv_at hl 0 rfl) ?_
        refine lv_bipush (v := 32) hx hb dL_law_186 (by decide) ?_
        refine lv_idiv hx hb dL_law_188 (by decide) ?_
        rw [show ((nI j) / 32 : Int32) = nI (j / 32) from nI_div (m := 32) (by omega) (by decide) (by decide)]
        refine lv_iconst (v := 2) hx hb dL_law_189 (by decide) ?_
        refine lv_irem hx hb dL_law_190 (by decide) ?_
        rw [show ((nI (j / 32)) - (nI (j / 32)) / 2 * 2 : Int32) = nI (j / 32 % 2) from nI_rem (m := 2) (by omega) (by decide) (by decide)]
        refine lv_istore (lv' := [(5, .int (nI (j / 32 % 2))), (4, .int (nI j)), (3, .int (nI k)), (2, .ref a2), (1, .ref a1), (0, .ref b)]) hx hb dL_law_191 hl (by decide) rfl (fun ls hl => ?_)
        refine lv_aload_n hx hb dL_law_193 rfl (lv_at hl 4 rfl) ?_
        refine lv_iload hx hb dL_law_194 (lv_at hl 1 rfl) ?_
        refine lv_bipush (v := 8) hx hb dL_law_196 (by decide) ?_
        refine lv_idiv hx hb dL_law_198 (by decide) ?_
        rw [show ((nI j) / 8 : Int32) = nI (j / 8) from nI_div (m := 8) (by omega) (by decide) (by decide)]
        refine lv_iconst (v := 4) hx hb dL_law_199 (by decide) ?_
        refine lv_irem hx hb dL_law_200 (by decide) ?_
        rw [show ((nI (j / 8)) - (nI (j / 8)) / 4 * 4 : Int32) = nI (j / 8 % 4) from nI_rem (m := 4) (by omega) (by decide) (by decide)]
        refine lv_iload hx hb dL_law_201 (lv_at hl 1 rfl) ?_
        refine lv_bipush (v := 64) hx hb dL_law_203 (by decide) ?_
        refine lv_idiv hx hb dL_law_205 (by decide) ?_
        rw [show ((nI j) / 64 : Int32) = nI (j / 64) from nI_div (m := 64) (by omega) (by decide) (by decide)]
        refine lv_iconst (v := 4) hx hb dL_law_206 (by decide) ?_
        refine lv_irem hx hb dL_law_207 (by decide) ?_
        rw [show ((nI (j / 64)) - (nI (j / 64)) / 4 * 4 : Int32) = nI (j / 64 % 4) from nI_rem (m := 4) (by omega) (by decide) (by decide)]
        refine lv_iload hx hb dL_law_208 (lv_at hl 0 rfl) ?_
        refine lv_iload hx hb dL_law_210 (lv_at hl 1 rfl) ?_
        refine lv_sipush (v := 256) hx hb dL_law_212 (by decide) ?_
        refine lv_idiv hx hb dL_law_215 (by decide) ?_
        rw [show ((nI j) / 256 : Int32) = nI (j / 256) from nI_div (m := 256) (by omega) (by decide) (by decide)]
        refine lv_bipush (v := 6) hx hb dL_law_216 (by decide) ?_
        refine lv_irem hx hb dL_law_218 (by decide) ?_
        rw [show ((nI (j / 256)) - (nI (j / 256)) / 6 * 6 : Int32) = nI (j / 256 % 6) from nI_rem (m := 6) (by omega) (by decide) (by decide)]
        refine lv_iconst (v := 1) hx hb dL_law_219 (by decide) ?_
        rw [← hf4]
        have hw5 : ∀ q, m4 ≤ q → (ov κ ar y4 Z (ov κ ar x2 Z G)) q = none := fun q z => g_free w z
        refine g_calll w (g_runSW (As := [.ref (y4.f .ho), .int (nI (j / 8 % 4)), .int (nI (j / 64 % 4)), .int (nI (j / 32 % 2)), .int (nI (j / 256 % 6)), .int 1]) (rest := []) S hE w hl (hL_begin l D ar κ (ov κ ar x2 Z G) y4 Z m4 (nI (j / 8 % 4)) (nI (j / 64 % 4)) (nI (j / 32 % 2)) (nI (j / 256 % 6)) 1 hk4 hlt) (kW_323 S.2.2.2.2 ⟨Nat.le_of_ble_eq_true rfl, Nat.le_of_ble_eq_true rfl⟩) rfl rfl (Nat.le_of_ble_eq_true rfl) dL_law_220 ⟨(by (try dsimp only [room_1]); omega), (by (try dsimp only [room_1]); omega)⟩) (fun r5 u H locs hp hnz w => ?_)
        obtain ⟨z5, T5, e5, hu5, hk5, bx5, sq5⟩ := hp
        obtain ⟨v5, m5⟩ := u
        dsimp only at hu5 w hnz
        subst hu5
        have by5 := bx5.y
        have hf5 : (y4.pgs z5).f .ho = a1 := by5.1.trans hf4
        have hdj5 : DJ (y4.pgs z5) x2 := dj_step hdj4 by5 hw5
        refine lv_aload_n hx hb dL_law_223 rfl (lv_at hl 3 rfl) ?_
        refine lv_iload hx hb dL_law_224 (lv_at hl 1 rfl) ?_
        refine lv_bipush (v := 8) hx hb dL_law_226 (by decide) ?_
        refine lv_idiv hx hb dL_law_228 (by decide) ?_
        rw [show ((nI j) / 8 : Int32) = nI (j / 8) from nI_div (m := 8) (by omega) (by decide) (by decide)]
        refine lv_iconst (v := 4) hx hb dL_law_229 (by decide) ?_
        refine lv_irem hx hb dL_law_230 (by decide) ?_
        rw [show ((nI (j / 8)) - (nI (j / 8)) / 4 * 4 : Int32) = nI (j / 8 % 4) from nI_rem (m := 4) (by omega) (by decide) (by decide)]
        refine lv_iload hx hb dL_law_231 (lv_at hl 1 rfl) ?_
        refine lv_bipush (v := 64) hx hb dL_law_233 (by decide) ?_
        refine lv_idiv hx hb dL_law_235 (by decide) ?_
        rw [show ((nI j) / 64 : Int32) = nI (j / 64) from nI_div (m := 64) (by omega) (by decide) (by decide)]
        refine lv_iconst (v := 4) hx hb dL_law_236 (by decide) ?_
        refine lv_irem hx hb dL_law_237 (by decide) ?_
        rw [show ((nI (j / 64)) - (nI (j / 64)) / 4 * 4 : Int32) = nI (j / 64 % 4) from nI_rem (m := 4) (by omega) (by decide) (by decide)]
        refine lv_iload hx hb dL_law_238 (lv_at hl 0 rfl) ?_
        refine lv_iload hx hb dL_law_240 (lv_at hl 1 rfl) ?_
        refine lv_sipush (v := 256) hx hb dL_law_242 (by decide) ?_
        refine lv_idiv hx hb dL_law_245 (by decide) ?_
        rw [show ((nI j) / 256 : Int32) = nI (j / 256) from nI_div (m := 256) (by omega) (by decide) (by decide)]
        refine lv_bipush (v := 6) hx hb dL_law_246 (by decide) ?_
        refine lv_irem hx hb dL_law_248 (by decide) ?_
        rw [show ((nI (j / 256)) - (nI (j / 256)) / 6 * 6 : Int32) = nI (j / 256 % 6) from nI_rem (m := 6) (by omega) (by decide) (by decide)]
        refine lv_iconst (v := 1) hx hb dL_law_249 (by decide) ?_
        have w := g_eqw w (ov_swap hdj5)
        rw [← hf2]
        have hw6 : ∀ q, m5 ≤ q → (ov κ ar x2 Z (ov κ ar (y4.pgs z5) T5 G)) q = none := fun q z => g_free w z
        refine g_calll w (g_runSW (As := [.ref (x2.f .ho), .int (nI (j / 8 % 4)), .int (nI (j / 64 % 4)), .int (nI (j / 32 % 2)), .int (nI (j / 256 % 6)), .int 1]) (rest := [.long r5]) S hE w hl (hL_begin l D ar κ (ov κ ar (y4.pgs z5) T5 G) x2 Z m5 (nI (j / 8 % 4)) (nI (j / 64 % 4)) (nI (j / 32 % 2)) (nI (j / 256 % 6)) 1 hk2 hlt) (kW_323 S.2.2.2.2 ⟨Nat.le_of_ble_eq_true rfl, Nat.le_of_ble_eq_true rfl⟩) rfl rfl (Nat.le_of_ble_eq_true rfl) dL_law_250 ⟨(by (try dsimp only [room_1]); omega), (by (try dsimp only [room_1]); omega)⟩) (fun r6 u H locs hp hnz w => ?_)
        obtain ⟨z6, T6, e6, hu6, hk6, bx6, sq6⟩ := hp
        obtain ⟨v6, m6⟩ := u
        dsimp only at hu6 w hnz
        subst hu6
        have by6 := bx6.y
        have hf6 : (x2.pgs z6).f .ho = a2 := by6.1.trans hf2
        have hdj6 : DJ (y4.pgs z5) (x2.pgs z6) := (dj_step (hdj5).s by6 hw6).s
        have hT6 : T6 = T5 := (Prod.mk.inj (e6.symm.trans e5)).2
        have hr6 : r5 = r6 := (Prod.mk.inj (e6.symm.trans e5)).1.symm
        rw [hT6] at w hk6
        have hLI := li_e (li_begin hLI) e5
        refine W.lcmp hx hb dL_law_253 ?_
        rw [show lg_cmp r5 r6 = 0 from lc_eq hr6]
        refine lv_if_eq (tgt := 448) hx hb dL_law_254 (by decide) (fun _ => ?_) (fun c => absurd (by decide) c)
        have w := g_eqw w (ov_swap (hdj6).s)
        refine W.widen (k := 6000 + 16450 * k + 16440) (n := 220000 + 104200 * k + 104150) (by omega) (by omega) ?_
        exact M (y4.pgs z5) (x2.pgs z6) T5 G _ _ _ _ hf5 hf6 hk5 hk6 hdj6 (hLI.up (by omega) (by omega)) w hkk (lv_sub hl [2, 3, 4, 5] rfl)
      · refine lv_tableIn (off := 119) (tgt := 259) hx hb dL_law_140 (by rcases h8 with rfl | rfl | rfl <;> decide) (by rcases h8 with rfl | rfl | rfl <;> decide) (by rcases h8 with rfl | rfl | rfl <;> decide) (by decide) ?_
        refine lv_aload_n hx hb dL_law_259 rfl (lv_at hl 3 rfl) ?_
        refine lv_iconst (v := 1) hx hb dL_law_260 (by decide) ?_
        refine lv_iload hx hb dL_law_261 (lv_at hl 0 rfl) ?_
        refine lv_bipush (v := 8) hx hb dL_law_263 (by decide) ?_
        refine lv_idiv hx hb dL_law_265 (by decide) ?_
        rw [show ((nI j) / 8 : Int32) = nI (j / 8) from nI_div (m := 8) (by omega) (by decide) (by decide)]
        refine lv_bipush (v := 9) hx hb dL_law_266 (by decide) ?_
        refine lv_irem hx hb dL_law_268 (by decide) ?_
        rw [show ((nI (j / 8)) - (nI (j / 8)) / 9 * 9 : Int32) = nI (j / 8 % 9) from nI_rem (m := 9) (by omega) (by decide) (by decide)]
        refine lv_iadd hx hb dL_law_269 ?_
        rw [show (1 + (nI (j / 8 % 9)) : Int32) = nI (1 + j / 8 % 9) from nI_add 1 _]
        rw [← hf4]
        have hw7 : ∀ q, m4 ≤ q → (ov κ ar y4 Z (ov κ ar x2 Z G)) q = none := fun q z => g_free w z
        obtain ⟨t9, md9, f9, n9, hI9, hmd9, hB9⟩ := id hLI
        have ht9 := hI9.tb.l
        have hq9 : 2 * n9 + psum Z.fr f9 + 25 * (1 + j / 8 % 9) < 10240 := by omega
        have hm9 : md9 < 2 ^ 20 := by omega
        refine g_calll w (g_runSW (As := [.ref (y4.f .ho), .int (nI (1 + j / 8 % 9))]) (rest := []) S hE w hl (hL_go l D ar κ (ov κ ar x2 Z G) y4 Z m4 (nI (1 + j / 8 % 9)) hk4 (Jn Z t9 md9 f9 n9 (1 + j / 8 % 9)) ⟨0, t9, md9, f9, n9, rfl, Nat.zero_le _, hI9, rfl, by omega⟩ (fun d S h => Jn.wk hq9 h) (fun d S k _ h1 h2 h3 => Jn.r hq9 hm9 h1 h2 h3) (fun d S k _ h1 h2 h3 h4 => Jn.s hq9 (by omega) hm9 rfl h1 h2 h3 h4) (fun E T e => xi_go hI9 hq9 (by omega) (by omega) hm9 e) hlt) (kW_326 S.2.2.2.2 ⟨Nat.le_of_ble_eq_true rfl, Nat.le_of_ble_eq_true rfl⟩) rfl rfl (Nat.le_of_ble_eq_true rfl) dL_law_270 ⟨(by (try dsimp only [room_1]); omega), (by (try dsimp only [room_1]); omega)⟩) (fun r7 u H locs hp hnz w => ?_)
        obtain ⟨z7, T7, e7, hu7, hk7, bx7, sq7⟩ := hp
        obtain ⟨v7, m7⟩ := u
        dsimp only at hu7 w hnz
        subst hu7
        have by7 := bx7.y
        have hf7 : (y4.pgs z7).f .ho = a1 := by7.1.trans hf4
        have hdj7 : DJ (y4.pgs z7) x2 := dj_step hdj4 by7 hw7
        refine lv_aload_n hx hb dL_law_273 rfl (lv_at hl 2 rfl) ?_
        refine lv_iconst (v := 1) hx hb dL_law_274 (by decide) ?_
        refine lv_iload hx hb dL_law_275 (lv_at hl 0 rfl) ?_
        refine lv_bipush (v := 8) hx hb dL_law_277 (by decide) ?_
        refine lv_idiv hx hb dL_law_279 (by decide) ?_
        rw [show ((nI j) / 8 : Int32) = nI (j / 8) from nI_div (m := 8) (by omega) (by decide) (by decide)]
        refine lv_bipush (v := 9) hx hb dL_law_280 (by decide) ?_
        refine lv_irem hx hb dL_law_282 (by decide) ?_
        rw [show ((nI (j / 8)) - (nI (j / 8)) / 9 * 9 : Int32) = nI (j / 8 % 9) from nI_rem (m := 9) (by omega) (by decide) (by decide)]
        refine lv_iadd hx hb dL_law_283 ?_
        rw [show (1 + (nI (j / 8 % 9)) : Int32) = nI (1 + j / 8 % 9) from nI_add 1 _]
        have w := g_eqw w (ov_swap hdj7)
        rw [← hf2]
        have hw8 : ∀ q, m7 ≤ q → (ov κ ar x2 Z (ov κ ar (y4.pgs z7) T7 G)) q = none := fun q z => g_free w z
        refine g_calll w (g_runSW (As := [.ref (x2.f .ho), .int (nI (1 + j / 8 % 9))]) (rest := [.long r7]) S hE w hl (hL_go l D ar κ (ov κ ar (y4.pgs z7) T7 G) x2 Z m7 (nI (1 + j / 8 % 9)) hk2 (Jn Z t9 md9 f9 n9 (1 + j / 8 % 9)) ⟨0, t9, md9, f9, n9, rfl, Nat.zero_le _, hI9, rfl, by omega⟩ (fun d S h => Jn.wk hq9 h) (fun d S k _ h1 h2 h3 => Jn.r hq9 hm9 h1 h2 h3) (fun d S k _ h1 h2 h3 h4 => Jn.s hq9 (by omega) hm9 rfl h1 h2 h3 h4) (fun E T e => xi_go hI9 hq9 (by omega) (by omega) hm9 e) hlt) (kW_326 S.2.2.2.2 ⟨Nat.le_of_ble_eq_true rfl, Nat.le_of_ble_eq_true rfl⟩) rfl rfl (Nat.le_of_ble_eq_true rfl) dL_law_284 ⟨(by (try dsimp only [room_1]); omega), (by (try dsimp only [room_1]); omega)⟩) (fun r8 u H locs hp hnz w => ?_)
        obtain ⟨z8, T8, e8, hu8, hk8, bx8, sq8⟩ := hp
        obtain ⟨v8, m8⟩ := u
        dsimp only at hu8 w hnz
        subst hu8
        have by8 := bx8.y
        have hf8 : (x2.pgs z8).f .ho = a2 := by8.1.trans hf2
        have hdj8 : DJ (y4.pgs z7) (x2.pgs z8) := (dj_step (hdj7).s by8 hw8).s
        have hT8 : T8 = T7 := (Prod.mk.inj (e8.symm.trans e7)).2
        have hr8 : r7 = r8 := (Prod.mk.inj (e8.symm.trans e7)).1.symm
        rw [hT8] at w hk8
        have hLI := li_e (li_go hLI (by omega) (by omega) (by omega) (by omega)) e7
        refine W.lcmp hx hb dL_law_287 ?_
        rw [show lg_cmp r7 r8 = 0 from lc_eq hr8]
        refine lv_if_eq (tgt := 448) hx hb dL_law_288 (by decide) (fun _ => ?_) (fun c => absurd (by decide) c)
        have w := g_eqw w (ov_swap (hdj8).s)
        refine W.widen (k := 6000 + 16450 * k + 16440) (n := 220000 + 104200 * k + 104150) (by omega) (by omega) ?_
        exact M (y4.pgs z7) (x2.pgs z8) T7 G _ _ _ _ hf7 hf8 hk7 hk8 hdj8 (hLI.up (by omega) (by omega)) w hkk (lv_sub hl [1, 2, 3, 4] rfl)
      · refine lv_tableIn (off := 153) (tgt := 293) hx hb dL_law_140 (by rw [h8]; decide) (by rw [h8]; decide) (by rw [h8]; decide) (by decide) ?_
        refine lv_aload_n hx hb dL_law_293 rfl (lv_at hl 3 rfl) ?_
        refine lv_iload hx hb dL_law_294 (lv_at hl 0 rfl) ?_
        refine lv_bipush (v := 8) hx hb dL_law_296 (by decide) ?_
        refine lv_idiv hx hb dL_law_298 (by decide) ?_
        rw [show ((nI j) / 8 : Int32) = nI (j / 8) from nI_div (m := 8) (by omega) (by decide) (by decide)]
        rw [← hf4]
        have hw9 : ∀ q, m4 ≤ q → (ov κ ar y4 Z (ov κ ar x2 Z G)) q = none := fun q z => g_free w z
        refine g_callv w (g_runS (As := [.ref (y4.f .ho), .int (nI (j / 8))]) (rest := []) S hE w hl (hL_tellsOne l D ar κ (ov κ ar x2 Z G) y4 Z m4 (j / 8) hk4 hlt (by omega)) (k_RL_312 S.2.2.2.2 ⟨Nat.le_of_ble_eq_true rfl, Nat.le_of_ble_eq_true rfl⟩) rfl rfl (Nat.le_of_ble_eq_true rfl) dL_law_299 ⟨(by (try dsimp only [room_1]); omega), (by (try dsimp only [room_1]); omega)⟩) (fun u H locs hp hnz w => ?_)
        obtain ⟨y9, T9, G9, e9, hu9, hk9, by9, gl9⟩ := hp
        obtain ⟨v9, m9⟩ := u
        dsimp only at hu9 w hnz
        subst hu9
        have hG9 := ov_gv hdj4 gl9
        have w := g_eqw w (congrArg (fun z => ov κ ar y9 T9 z) hG9)
        try dsimp only at w
        have hf9 : y9.f .ho = a1 := by9.1.trans hf4
        have hdj9 : DJ y9 x2 := dj_step hdj4 by9 hw9
        refine lv_aload_n hx hb dL_law_302 rfl (lv_at hl 2 rfl) ?_
        refine lv_iload hx hb dL_law_303 (lv_at hl 0 rfl) ?_
        refine lv_bipush (v := 8) hx hb dL_law_305 (by decide) ?_
        refine lv_idiv hx hb dL_law_307 (by decide) ?_
        rw [show ((nI j) / 8 : Int32) = nI (j / 8) from nI_div (m := 8) (by omega) (by decide) (by decide)]
        have w := g_eqw w (ov_swap hdj9)
        rw [← hf2]
        have hw10 : ∀ q, m9 ≤ q → (ov κ ar x2 Z (ov κ ar y9 T9 G9)) q = none := fun q z => g_free w z
        refine g_callv w (g_runS (As := [.ref (x2.f .ho), .int (nI (j / 8))]) (rest := []) S hE w hl (hL_tellsOne l D ar κ (ov κ ar y9 T9 G9) x2 Z m9 (j / 8) hk2 hlt (by omega)) (k_RL_312 S.2.2.2.2 ⟨Nat.le_of_ble_eq_true rfl, Nat.le_of_ble_eq_true rfl⟩) rfl rfl (Nat.le_of_ble_eq_true rfl) dL_law_308 ⟨(by (try dsimp only [room_1]); omega), (by (try dsimp only [room_1]); omega)⟩) (fun u H locs hp hnz w => ?_)
        obtain ⟨y10, T10, G10, e10, hu10, hk10, by10, gl10⟩ := hp
        obtain ⟨v10, m10⟩ := u
        dsimp only at hu10 w hnz
        subst hu10
        have hG10 := ov_gv (hdj9).s gl10
        have w := g_eqw w (congrArg (fun z => ov κ ar y10 T10 z) hG10)
        try dsimp only at w
        have hf10 : y10.f .ho = a2 := by10.1.trans hf2
        have hdj10 : DJ y9 y10 := (dj_step (hdj9).s by10 hw10).s
        have hT10 : T10 = T9 := e10.symm.trans e9
        rw [hT10] at w hk10
        have hLI := li_v (li_tlS hLI) e9
        refine lv_goto (tgt := 448) hx hb dL_law_311 (by decide) ?_
        have w := g_eqw w (ov_swap (hdj10).s)
        refine W.widen (k := 6000 + 16450 * k + 16440) (n := 220000 + 104200 * k + 104150) (by omega) (by omega) ?_
        exact M y9 y10 T9 G10 _ _ _ _ hf9 hf10 hk9 hk10 hdj10 (hLI.up (by omega) (by omega)) w hkk (lv_sub hl [1, 2, 3, 4] rfl)
      · refine lv_tableOut (tgt := 314) hx hb dL_law_140 (by rw [h8]; decide) (by decide) ?_
        refine lv_iload hx hb dL_law_314 (lv_at hl 0 rfl) ?_
        refine lv_bipush (v := 8) hx hb dL_law_316 (by decide) ?_
        refine lv_idiv hx hb dL_law_318 (by decide) ?_
        rw [show ((nI j) / 8 : Int32) = nI (j / 8) from nI_div (m := 8) (by omega) (by decide) (by decide)]
        refine lv_iconst (v := 3) hx hb dL_law_319 (by decide) ?_
        refine lv_irem hx hb dL_law_320 (by decide) ?_
        rw [show ((nI (j / 8)) - (nI (j / 8)) / 3 * 3 : Int32) = nI (j / 8 % 3) from nI_rem (m := 3) (by omega) (by decide) (by decide)]
        refine lv_if_ne (tgt := 338) hx hb dL_law_321 (by decide) (fun c_321 => ?_) (fun c_321 => ?_)
        · refine lv_iload hx hb dL_law_338 (lv_at hl 0 rfl) ?_
          refine lv_bipush (v := 8) hx hb dL_law_340 (by decide) ?_
          refine lv_idiv hx hb dL_law_342 (by decide) ?_
          rw [show ((nI j) / 8 : Int32) = nI (j / 8) from nI_div (m := 8) (by omega) (by decide) (by decide)]
          refine lv_iconst (v := 3) hx hb dL_law_343 (by decide) ?_
          refine lv_irem hx hb dL_law_344 (by decide) ?_
          rw [show ((nI (j / 8)) - (nI (j / 8)) / 3 * 3 : Int32) = nI (j / 8 % 3) from nI_rem (m := 3) (by omega) (by decide) (by decide)]
          refine lv_iconst (v := 1) hx hb dL_law_345 (by decide) ?_
          refine lv_icmp_ne (tgt := 402) hx hb dL_law_346 (by decide) (fun c_346 => ?_) (fun c_346 => ?_)
          · refine lv_aload_n hx hb dL_law_402 rfl (lv_at hl 3 rfl) ?_
            refine lv_iload hx hb dL_law_403 (lv_at hl 0 rfl) ?_
            refine lv_bipush (v := 24) hx hb dL_law_405 (by decide) ?_
            refine lv_idiv hx hb dL_law_407 (by decide) ?_
            rw [show ((nI j) / 24 : Int32) = nI (j / 24) from nI_div (m := 24) (by omega) (by decide) (by decide)]
            refine lv_bipush (v := 6) hx hb dL_law_408 (by decide) ?_
            refine lv_irem hx hb dL_law_410 (by decide) ?_
            rw [show ((nI (j / 24)) - (nI (j / 24)) / 6 * 6 : Int32) = nI (j / 24 % 6) from nI_rem (m := 6) (by omega) (by decide) (by decide)]
            refine lv_iload hx hb dL_law_411 (lv_at hl 0 rfl) ?_
            refine lv_sipush (v := 144) hx hb dL_law_413 (by decide) ?_
            refine lv_idiv hx hb dL_law_416 (by decide) ?_
            rw [show ((nI j) / 144 : Int32) = nI (j / 144) from nI_div (m := 144) (by omega) (by decide) (by decide)]
            refine lv_iconst (v := 4) hx hb dL_law_417 (by decide) ?_
            refine lv_irem hx hb dL_law_418 (by decide) ?_
            rw [show ((nI (j / 144)) - (nI (j / 144)) / 4 * 4 : Int32) = nI (j / 144 % 4) from nI_rem (m := 4) (by omega) (by decide) (by decide)]
            rw [← hf4]
            refine g_calll w (g_runSW (As := [.ref (y4.f .ho), .int (nI (j / 24 % 6)), .int (nI (j / 144 % 4))]) (rest := []) S hE w hl (hL_remove l D ar κ (ov κ ar x2 Z G) y4 Z m4 (nI (j / 24 % 6)) (nI (j / 144 % 4)) hk4 hlt) (kW_335 S.2.2.2.2 ⟨Nat.le_of_ble_eq_true rfl, Nat.le_of_ble_eq_true rfl⟩) rfl rfl (Nat.le_of_ble_eq_true rfl) dL_law_419 ⟨(by (try dsimp only [room_1]); omega), (by (try dsimp only [room_1]); omega)⟩) (fun r11 u H locs hp hnz w => ?_)
            obtain ⟨T11, e11, hu11, hk11, sq11⟩ := hp
            obtain ⟨v11, m11⟩ := u
            dsimp only at hu11 w hnz
            subst hu11
            refine lv_aload_n hx hb dL_law_422 rfl (lv_at hl 2 rfl) ?_
            refine lv_iload hx hb dL_law_423 (lv_at hl 0 rfl) ?_
            refine lv_bipush (v := 24) hx hb dL_law_425 (by decide) ?_
            refine lv_idiv hx hb dL_law_427 (by decide) ?_
            rw [show ((nI j) / 24 : Int32) = nI (j / 24) from nI_div (m := 24) (by omega) (by decide) (by decide)]
            refine lv_bipush (v := 6) hx hb dL_law_428 (by decide) ?_
            refine lv_irem hx hb dL_law_430 (by decide) ?_
            rw [show ((nI (j / 24)) - (nI (j / 24)) / 6 * 6 : Int32) = nI (j / 24 % 6) from nI_rem (m := 6) (by omega) (by decide) (by decide)]
            refine lv_iload hx hb dL_law_431 (lv_at hl 0 rfl) ?_
            refine lv_sipush (v := 144) hx hb dL_law_433 (by decide) ?_
            refine lv_idiv hx hb dL_law_436 (by decide) ?_
            rw [show ((nI j) / 144 : Int32) = nI (j / 144) from nI_div (m := 144) (by omega) (by decide) (by decide)]
            refine lv_iconst (v := 4) hx hb dL_law_437 (by decide) ?_
            refine lv_irem hx hb dL_law_438 (by decide) ?_
            rw [show ((nI (j / 144)) - (nI (j / 144)) / 4 * 4 : Int32) = nI (j / 144 % 4) from nI_rem (m := 4) (by omega) (by decide) (by decide)]
            have w := g_eqw w (ov_swap hdj4)
            rw [← hf2]
            refine g_calll w (g_runSW (As := [.ref (x2.f .ho), .int (nI (j / 24 % 6)), .int (nI (j / 144 % 4))]) (rest := [.long r11]) S hE w hl (hL_remove l D ar κ (ov κ ar y4 T11 G) x2 Z m11 (nI (j / 24 % 6)) (nI (j / 144 % 4)) hk2 hlt) (kW_335 S.2.2.2.2 ⟨Nat.le_of_ble_eq_true rfl, Nat.le_of_ble_eq_true rfl⟩) rfl rfl (Nat.le_of_ble_eq_true rfl) dL_law_439 ⟨(by (try dsimp only [room_1]); omega), (by (try dsimp only [room_1]); omega)⟩) (fun r12 u H locs hp hnz w => ?_)
            obtain ⟨T12, e12, hu12, hk12, sq12⟩ := hp
            obtain ⟨v12, m12⟩ := u
            dsimp only at hu12 w hnz
            subst hu12
            have hT12 : T12 = T11 := (Prod.mk.inj (e12.symm.trans e11)).2
            have hr12 : r11 = r12 := (Prod.mk.inj (e12.symm.trans e11)).1.symm
            rw [hT12] at w hk12
            have hLI := li_e (li_remove hLI) e11
            refine W.lcmp hx hb dL_law_442 ?_
            rw [show lg_cmp r11 r12 = 0 from lc_eq hr12]
            refine lv_if_eq (tgt := 448) hx hb dL_law_443 (by decide) (fun _ => ?_) (fun c => absurd (by decide) c)
            have w := g_eqw w (ov_swap (hdj4).s)
            refine W.widen (k := 6000 + 16450 * k + 16440) (n := 220000 + 104200 * k + 104150) (by omega) (by omega) ?_
            exact M y4 x2 T11 G _ _ _ _ hf4 hf2 hk11 hk12 hdj4 (hLI.up (by omega) (by omega)) w hkk (lv_sub hl [1, 2, 3, 4] rfl)
          · refine lv_aload_n hx hb dL_law_349 rfl (lv_at hl 3 rfl) ?_
            rw [← hf4]
            obtain ⟨t9, md9, f9, n9, hI9, hmd9, hB9⟩ := id hLI
            have ht9 := hI9.tb.l
            refine g_calll w (g_runS (As := [.ref (y4.f .ho)]) (rest := []) S hE w hl (hL_reached l D ar κ (ov κ ar x2 Z G) y4 Z m4 hI9 (by omega) hk4 hlt) (k_RL_330 S.2.2.2.2 ⟨Nat.le_of_ble_eq_true rfl, Nat.le_of_ble_eq_true rfl⟩) rfl rfl (Nat.le_of_ble_eq_true rfl) dL_law_350 ⟨(by (try dsimp only [room_1]); omega), (by (try dsimp only [room_1]); omega)⟩) (fun r13 u H locs hp hnz w => ?_)
            obtain ⟨⟨h9, hh9, rfl⟩, hu13⟩ := hp
            obtain ⟨v13, m13⟩ := u
            dsimp only at hu13 w hnz
            subst hu13
            refine lv_lstore (lv' := [(6, .long (lN (cnt h9 4000))), (4, .int (nI j)), (3, .int (nI k)), (2, .ref a2), (1, .ref a1), (0, .ref b)]) hx hb dL_law_353 hl (by decide) rfl (fun ls hl => ?_)
            refine lv_aload_n hx hb dL_law_355 rfl (lv_at hl 4 rfl) ?_
            rw [← hf4]
            refine g_calll w (g_runS (As := [.ref (y4.f .ho)]) (rest := []) S hE w hl (hL_things l D ar κ (ov κ ar x2 Z G) y4 Z m13 hk4) (k_RL_295 S.2.2.2.2 ⟨Nat.le_of_ble_eq_true rfl, Nat.le_of_ble_eq_true rfl⟩) rfl rfl (Nat.le_of_ble_eq_true rfl) dL_law_356 ⟨(by (try dsimp only [room_1]); omega), (by (try dsimp only [room_1]); omega)⟩) (fun r14 u H locs hp hnz w => ?_)
            obtain ⟨rfl, rfl⟩ := hp
            try dsimp only at w
            refine lv_lstore (lv' := [(8, .long (sL_things Z)), (6, .long (lN (cnt h9 4000))), (4, .int (nI j)), (3, .int (nI k)), (2, .ref a2), (1, .ref a1), (0, .ref b)]) hx hb dL_law_359 hl (by decide) rfl (fun ls hl => ?_)
            refine lv_aload_n hx hb dL_law_361 rfl (lv_at hl 5 rfl) ?_
            rw [← hf4]
            refine g_calll w (g_runS (As := [.ref (y4.f .ho)]) (rest := []) S hE w hl (hL_collect l D ar κ (ov κ ar x2 Z G) y4 Z m13 hk4) (k_RL_333 S.2.2.2.2 ⟨Nat.le_of_ble_eq_true rfl, Nat.le_of_ble_eq_true rfl⟩) rfl rfl (Nat.le_of_ble_eq_true rfl) dL_law_362 ⟨(by (try dsimp only [room_1]); omega), (by (try dsimp only [room_1]); omega)⟩) (fun r15 u H locs hp hnz w => ?_)
            obtain ⟨T15, e15, hu15, hk15, sq15⟩ := hp
            subst hu15
            try dsimp only at w
            obtain ⟨hc15, hd15, hl15⟩ := li_col hI9 (by omega) hh9 e15
            refine lv_lload hx hb dL_law_365 (lv_at hl 0 rfl) ?_
            refine lv_lload hx hb dL_law_367 (lv_at hl 1 rfl) ?_
            refine lv_lsub hx hb dL_law_369 ?_
            refine W.lcmp hx hb dL_law_370 ?_
            rw [show lg_cmp r15 ((sL_things Z) - (lN (cnt h9 4000))) = 0 from lc_eq hc15]
            refine lv_if_ne (tgt := 397) hx hb dL_law_371 (by decide) (fun c => absurd (by decide) c) (fun _ => ?_)
            refine lv_aload_n hx hb dL_law_374 rfl (lv_at hl 5 rfl) ?_
            rw [← hf4]
            refine g_calll w (g_runS (As := [.ref (y4.f .ho)]) (rest := []) S hE w hl (hL_things l D ar κ (ov κ ar x2 Z G) y4 T15 m13 hk15) (k_RL_295 S.2.2.2.2 ⟨Nat.le_of_ble_eq_true rfl, Nat.le_of_ble_eq_true rfl⟩) rfl rfl (Nat.le_of_ble_eq_true rfl) dL_law_375 ⟨(by (try dsimp only [room_1]); omega), (by (try dsimp only [room_1]); omega)⟩) (fun r16 u H locs hp hnz w => ?_)
            obtain ⟨rfl, rfl⟩ := hp
            try dsimp only at w
            refine lv_lload hx hb dL_law_378 (lv_at hl 1 rfl) ?_
            refine W.lcmp hx hb dL_law_380 ?_
            rw [show lg_cmp (sL_things T15) (lN (cnt h9 4000)) = 0 from lc_eq hd15]
            refine lv_if_ne (tgt := 397) hx hb dL_law_381 (by decide) (fun c => absurd (by decide) c) (fun _ => ?_)
            refine lv_aload_n hx hb dL_law_384 rfl (lv_at hl 4 rfl) ?_
            have w := g_eqw w (ov_swap hdj4)
            rw [← hf2]
            refine g_calll w (g_runS (As := [.ref (x2.f .ho)]) (rest := []) S hE w hl (hL_collect l D ar κ (ov κ ar y4 T15 G) x2 Z m13 hk2) (k_RL_333 S.2.2.2.2 ⟨Nat.le_of_ble_eq_true rfl, Nat.le_of_ble_eq_true rfl⟩) rfl rfl (Nat.le_of_ble_eq_true rfl) dL_law_385 ⟨(by (try dsimp only [room_1]); omega), (by (try dsimp only [room_1]); omega)⟩) (fun r17 u H locs hp hnz w => ?_)
            obtain ⟨T17, e17, hu17, hk17, sq17⟩ := hp
            subst hu17
            try dsimp only at w
            obtain ⟨hc17, hd17, hl17⟩ := li_col hI9 (by omega) hh9 e17
            have hT17 : T17 = T15 := (Prod.mk.inj (e17.symm.trans e15)).2
            have hr17 : r15 = r17 := (Prod.mk.inj (e17.symm.trans e15)).1.symm
            rw [hT17] at w hk17
            have hLI := hl15 _ _ hmd9 hB9
            refine lv_lload hx hb dL_law_388 (lv_at hl 0 rfl) ?_
            refine lv_lload hx hb dL_law_390 (lv_at hl 1 rfl) ?_
            refine lv_lsub hx hb dL_law_392 ?_
            refine W.lcmp hx hb dL_law_393 ?_
            rw [show lg_cmp r17 ((sL_things Z) - (lN (cnt h9 4000))) = 0 from lc_eq hc17]
            refine lv_if_eq (tgt := 399) hx hb dL_law_394 (by decide) (fun _ => ?_) (fun c => absurd (by decide) c)
            refine lv_goto (tgt := 448) hx hb dL_law_399 (by decide) ?_
            have w := g_eqw w (ov_swap (hdj4).s)
            refine W.widen (k := 6000 + 16450 * k + 16440) (n := 220000 + 104200 * k + 104150) (by omega) (by omega) ?_
            exact M y4 x2 T15 G _ _ _ _ hf4 hf2 hk15 hk17 hdj4 (hLI.up (by omega) (by omega)) w hkk (lv_sub hl [3, 4, 5, 6] rfl)
        · refine lv_aload_n hx hb dL_law_324 rfl (lv_at hl 3 rfl) ?_
          rw [← hf4]
          refine g_calll w (g_runSW (As := [.ref (y4.f .ho)]) (rest := []) S hE w hl (hL_end l D ar κ (ov κ ar x2 Z G) y4 Z m4 hk4 hlt) (kW_328 S.2.2.2.2 ⟨Nat.le_of_ble_eq_true rfl, Nat.le_of_ble_eq_true rfl⟩) rfl rfl (Nat.le_of_ble_eq_true rfl) dL_law_325 ⟨(by (try dsimp only [room_1]); omega), (by (try dsimp only [room_1]); omega)⟩) (fun r18 u H locs hp hnz w => ?_)
          obtain ⟨T18, e18, hu18, hk18, sq18⟩ := hp
          obtain ⟨v18, m18⟩ := u
          dsimp only at hu18 w hnz
          subst hu18
          refine lv_aload_n hx hb dL_law_328 rfl (lv_at hl 2 rfl) ?_
          have w := g_eqw w (ov_swap hdj4)
          rw [← hf2]
          refine g_calll w (g_runSW (As := [.ref (x2.f .ho)]) (rest := [.long r18]) S hE w hl (hL_end l D ar κ (ov κ ar y4 T18 G) x2 Z m18 hk2 hlt) (kW_328 S.2.2.2.2 ⟨Nat.le_of_ble_eq_true rfl, Nat.le_of_ble_eq_true rfl⟩) rfl rfl (Nat.le_of_ble_eq_true rfl) dL_law_329 ⟨(by (try dsimp only [room_1]); omega), (by (try dsimp only [room_1]); omega)⟩) (fun r19 u H locs hp hnz w => ?_)
          obtain ⟨T19, e19, hu19, hk19, sq19⟩ := hp
          obtain ⟨v19, m19⟩ := u
          dsimp only at hu19 w hnz
          subst hu19
          have hT19 : T19 = T18 := (Prod.mk.inj (e19.symm.trans e18)).2
          have hr19 : r18 = r19 := (Prod.mk.inj (e19.symm.trans e18)).1.symm
          rw [hT19] at w hk19
          have hLI := li_e (li_end hLI) e18
          refine W.lcmp hx hb dL_law_332 ?_
          rw [show lg_cmp r18 r19 = 0 from lc_eq hr19]
          refine lv_if_eq (tgt := 448) hx hb dL_law_333 (by decide) (fun _ => ?_) (fun c => absurd (by decide) c)
          have w := g_eqw w (ov_swap (hdj4).s)
          refine W.widen (k := 6000 + 16450 * k + 16440) (n := 220000 + 104200 * k + 104150) (by omega) (by omega) ?_
          exact M y4 x2 T18 G _ _ _ _ hf4 hf2 hk18 hk19 hdj4 (hLI.up (by omega) (by omega)) w hkk (lv_sub hl [1, 2, 3, 4] rfl)
